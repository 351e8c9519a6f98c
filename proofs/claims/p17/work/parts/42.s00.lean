set_option maxRecDepth 100000 in
set_option maxHeartbeats 4000000 in
theorem s_X2_commonPart_L {g : gT} {h0 : mh_T} {P : Int64 → mh_T → Prop} (hG0 : GI h0) (hp : ∀ r : Int64, P r h0) : ∀ n : Nat, (∀ (l0 : Int64) (l2 : Int64) (l4 : Int64) (l6 : Int64) (l8 : Int32), R 0 128 l8 → 1 * gap 128 l8 + 0 < n → ME g uX2_commonPart 9 [.long l0, .retAddr 0, .long l2, .retAddr 0, .long l4, .retAddr 0, .long l6, .retAddr 0, .int l8, .retAddr 0, .retAddr 0] [] h0 (qL P)) := by
  intro n
  induction n with
  | zero =>
    exact (fun _ _ _ _ _ _ hm => absurd hm (Nat.not_lt_zero _))
  | succ n ih =>
    intro l0 l2 l4 l6 l8  fl8     hm
    have ok : Ok [] h0 h0 := Ok_rf hG0
    refine r_X2_commonPart_9 l0 l2 l4 l6 l8  ?_
    refine ⟨fun c_458 => ?_, fun c_458 => ?_⟩
    · have f_459 : R 128 128 128 := ⟨by decide, by decide⟩
      have f_460 : R 128 128 l8 := rf_le_r f_459 fl8 c_458 128 (by decide)
      exact hp _
    · have f_461 : R 128 128 128 := ⟨by decide, by decide⟩
      have f_462 : R 0 127 l8 := rf_lt_l fl8 f_461 (nle c_458) 127 (by decide)
      refine ⟨fun c_463 => ?_, fun c_463 => ?_⟩
      · have f_464 : R (-2147483648) 2147483647 (lg_cmp l6 0) := R_full _
        have f_465 : R 0 0 0 := ⟨by decide, by decide⟩
        have f_466 : R 0 0 (lg_cmp l6 0) := rf_eq f_465 c_463
        exact hp _
      · have f_467 : R (-2147483648) 2147483647 (lg_cmp l6 0) := R_full _
        have f_468 : R 0 0 0 := ⟨by decide, by decide⟩
        refine ⟨(lg_ne c_463), ?_⟩
        intro x4 ex4
        have f_470 : R 1 1 1 := ⟨by decide, by decide⟩
        have f_469 : R 1 128 (l8 + 1) := R_add f_462 f_470 1 128 (by decide)
        have g_471 := gap_inc (N := 128) f_462 (by decide)
        exact ih l0 l2 l6 x4 (l8 + 1)  (R_w f_469 (by decide)) (by omega)
set_option maxRecDepth 100000 in
set_option maxHeartbeats 4000000 in
theorem s_X2_commonPart {g : gT} {h : mh_T} {P : Int64 → mh_T → Prop} (l0 : Int64) (l2 : Int64) (hG : GI h)  (hp : ∀ r : Int64, P r h) : MCl g yX2_commonPart uX2_commonPart [.long l0, .long l2] h P := by
  have ok : Ok [] h h := Ok_rf hG
  have L0 := s_X2_commonPart_L (g := g) hG hp 129
  refine e_X2_commonPart l0 l2  ?_
  have f_472 : R 0 0 0 := ⟨by decide, by decide⟩
  have f_473 : R 0 0 0 := ⟨by decide, by decide⟩
  have g_474 := gap_le (N := 128) f_473 (m := 128) (by decide)
  exact L0 l0 l2 l0 l2 0  (R_w f_472 (by decide)) (by omega)
set_option maxRecDepth 100000 in
set_option maxHeartbeats 4000000 in
theorem s_X2_set {g : gT} {h : mh_T} {P : mh_T → Prop} (l1 : Int64) (l3 : Int64) (hG : GI h)  (hp : ∀ h', Ok [5] h h' → P h') : MCv g yX2_set uX2_set [.ref 5, .long l1, .long l3] h P := by
  have ok : Ok [5] h h := Ok_rf hG
  refine e_X2_set l1 l3  ?_
  refine s_X2_commonPart l1 l3 ok.1 (fun r2 => ?_)
  refine ⟨fun c_21 => ?_, fun c_21 => ?_⟩
  · have f_22 : R (-2147483648) 2147483647 (lg_cmp r2 0) := R_full _
    have f_23 : R 0 0 0 := ⟨by decide, by decide⟩
    refine ⟨(lg_ne c_21), ?_⟩
    refine ⟨fun c_24 => ?_, fun c_24 => ?_⟩
    · have f_25 : R 0 0 0 := ⟨by decide, by decide⟩
      refine ⟨(lg_ne c_24), ?_⟩
      have ok_26 := Ok_wL ok (k := 5) (j := 0) (v := (l1 / r2)) (by decide)
      have ok_27 := Ok_wL ok_26 (k := 5) (j := 1) (v := (l3 / r2)) (by decide)
      exact hp _ ok_27
    · have f_28 : R 0 0 0 := ⟨by decide, by decide⟩
      have f_29 : R 0 0 (lg_cmp r2 0) := rf_eq f_28 c_24
      have ok_30 := Ok_wL ok (k := 5) (j := 0) (v := (l1 / r2)) (by decide)
      have ok_31 := Ok_wL ok_30 (k := 5) (j := 1) (v := l3) (by decide)
      exact hp _ ok_31
  · have f_32 : R (-2147483648) 2147483647 (lg_cmp r2 0) := R_full _
    have f_33 : R 0 0 0 := ⟨by decide, by decide⟩
    have f_34 : R 0 0 (lg_cmp r2 0) := rf_eq f_33 c_21
    refine ⟨fun c_35 => ?_, fun c_35 => ?_⟩
    · have f_36 : R 0 0 0 := ⟨by decide, by decide⟩
      have f_37 : R 1 0 (lg_cmp r2 0) := rf_ne_lo f_34 c_35 (by decide) 1 rfl
      exact (R_abs f_37 (by decide)).elim
    · have f_38 : R 0 0 0 := ⟨by decide, by decide⟩
      have ok_39 := Ok_wL ok (k := 5) (j := 0) (v := l1) (by decide)
      have ok_40 := Ok_wL ok_39 (k := 5) (j := 1) (v := l3) (by decide)
      exact hp _ ok_40
set_option maxRecDepth 100000 in
set_option maxHeartbeats 4000000 in
theorem s_X8_hiddenAnswers {g : gT} {h : mh_T} {P : Int32 → mh_T → Prop}  (hG : GI h)  (hp : ∀ r : Int32, R 1 64 r → P r h) : MCi g yX8_hiddenAnswers uX8_hiddenAnswers [.ref 3] h P := by
  have ok : Ok [] h h := Ok_rf hG
  refine e_X8_hiddenAnswers   ?_
  have f_4 : R 0 6 (mI h 3 1) := GI_rd ok.1 3 _ (by decide)
  have f_3 : R 1 64 (1 <<< ((mI h 3 1) &&& 31)) := R_shl f_4 1 64 0 6 (by decide)
  exact hp _ (R_w f_3 (by decide))
set_option maxRecDepth 100000 in
set_option maxHeartbeats 4000000 in
theorem s_X8_cellOf {g : gT} {h : mh_T} {P : Int32 → mh_T → Prop} (l1 : Int32) (l2 : Int32) (hG : GI h) (fl1 : R 0 7 l1) (hp : ∀ r : Int32, R 0 31 r → P r h) : MCi g yX8_cellOf uX8_cellOf [.ref 3, .int l1, .int l2] h P := by
  have ok : Ok [] h h := Ok_rf hG
  refine e_X8_cellOf l1 l2  ?_
  refine ⟨vin fl1 (by decide), ?_⟩
  intro x2 ex2
  have f_23 : R 1 1 1 := ⟨by decide, by decide⟩
  have f_22 : R 0 1 ((l2 >>> ((mI h 24 l1.toNatClampNeg) &&& 31)) &&& 1) := R_and f_23 (by decide)
  have f_24 : R 0 1 x2 := rf_eq f_22 ex2
  refine ⟨vin fl1 (by decide), ?_⟩
  refine ⟨fun c_25 => ?_, fun c_25 => ?_⟩
  · have f_26 : R (-2) 5 (mI h 25 l1.toNatClampNeg) := GI_rd ok.1 25 _ rfl
    have f_27 : R 0 0 0 := ⟨by decide, by decide⟩
    have f_28 : R 0 5 (mI h 25 l1.toNatClampNeg) := rf_le_r f_27 f_26 c_25 0 (by decide)
    refine ⟨vin fl1 (by decide), ?_⟩
    have f_32 : R 4 4 4 := ⟨by decide, by decide⟩
    have f_31 : R 0 28 (4 * l1) := R_mul f_32 fl1 0 28 (by decide)
    have f_34 : R 2 2 2 := ⟨by decide, by decide⟩
    have f_33 : R 0 2 (2 * x2) := R_mul f_34 f_24 0 2 (by decide)
    have f_30 : R 0 30 ((4 * l1) + (2 * x2)) := R_add f_31 f_33 0 30 (by decide)
    have f_36 : R 1 1 1 := ⟨by decide, by decide⟩
    have f_35 : R 0 1 ((l2 >>> ((mI h 25 l1.toNatClampNeg) &&& 31)) &&& 1) := R_and f_36 (by decide)
    have f_29 : R 0 31 (((4 * l1) + (2 * x2)) + ((l2 >>> ((mI h 25 l1.toNatClampNeg) &&& 31)) &&& 1)) := R_add f_30 f_35 0 31 (by decide)
    exact hp _ (R_w f_29 (by decide))
  · have f_37 : R (-2) 5 (mI h 25 l1.toNatClampNeg) := GI_rd ok.1 25 _ rfl
    have f_38 : R 0 0 0 := ⟨by decide, by decide⟩
    have f_39 : R (-2) (-1) (mI h 25 l1.toNatClampNeg) := rf_lt_l f_37 f_38 (nle c_25) (-1) (by decide)
    have f_42 : R 4 4 4 := ⟨by decide, by decide⟩
    have f_41 : R 0 28 (4 * l1) := R_mul f_42 fl1 0 28 (by decide)
    have f_40 : R 0 29 ((4 * l1) + x2) := R_add f_41 f_24 0 29 (by decide)
    exact hp _ (R_w f_40 (by decide))
set_option maxRecDepth 100000 in
set_option maxHeartbeats 4000000 in
theorem s_X8_missed_L {g : gT} {h0 : mh_T} {P : Int32 → mh_T → Prop} (hG0 : GI h0) (hp : ∀ r : Int32, R 0 255 r → P r h0) : ∀ n : Nat, (∀ (l1 : Int32) (l2 : Int32) (l3 : Int32), R (-2147483648) 2147483647 l1 → R 0 255 l2 → R 0 8 l3 → 1 * gap 8 l3 + 0 < n → ME g uX8_missed 4 [.ref 3, .int l1, .int l2, .int l3] [] h0 (qI P)) := by
  intro n
  induction n with
  | zero =>
    exact (fun _ _ _ _ _ _ hm => absurd hm (Nat.not_lt_zero _))
  | succ n ih =>
    intro l1 l2 l3  fl1 fl2 fl3     hm
    have ok : Ok [] h0 h0 := Ok_rf hG0
    refine r_X8_missed_4 l1 l2 l3  ?_
    refine ⟨fun c_192 => ?_, fun c_192 => ?_⟩
    · have f_193 : R 0 8 (mI h0 3 2) := GI_rd ok.1 3 _ (by decide)
      exact hp _ (R_w fl2 (by decide))
    · have f_194 : R 0 8 (mI h0 3 2) := GI_rd ok.1 3 _ (by decide)
      have f_195 : R 0 7 l3 := rf_lt_l fl3 f_194 (nle c_192) 7 (by decide)
      have f_196 : R 1 8 (mI h0 3 2) := rf_lt_r fl3 f_194 (nle c_192) 1 (by decide)
      refine s_X8_cellOf l3 l1 ok.1 (R_w f_195 (by decide)) (fun r3 f_197 => ?_)
      refine ⟨vin f_197 (by decide), ?_⟩
      refine ⟨fun c_198 => ?_, fun c_198 => ?_⟩
      · have f_199 : R (-2147483648) 2147483647 (mI h0 26 r3.toNatClampNeg) := R_full _
        have f_200 : R 0 0 0 := ⟨by decide, by decide⟩
        have f_202 : R 1 1 1 := ⟨by decide, by decide⟩
        have f_201 : R 1 8 (l3 + 1) := R_add f_195 f_202 1 8 (by decide)
        have g_203 := gap_inc (N := 8) f_195 (by decide)
        exact ih l1 l2 (l3 + 1)  (R_w fl1 (by decide)) (R_w fl2 (by decide)) (R_w f_201 (by decide)) (by omega)
      · have f_204 : R (-2147483648) 2147483647 (mI h0 26 r3.toNatClampNeg) := R_full _
        have f_205 : R 0 0 0 := ⟨by decide, by decide⟩
        have f_206 : R 0 0 (mI h0 26 r3.toNatClampNeg) := rf_eq f_205 c_198
        intro x6 ex6
        have f_208 : R 1 128 (1 <<< (l3 &&& 31)) := R_shl f_195 1 128 0 7 (by decide)
        have f_207 : R 0 255 (l2 ||| (1 <<< (l3 &&& 31))) := R_or fl2 f_208 8 255 (by decide)
        have f_209 : R 0 255 x6 := rf_eq f_207 ex6
        have f_211 : R 1 1 1 := ⟨by decide, by decide⟩
        have f_210 : R 1 8 (l3 + 1) := R_add f_195 f_211 1 8 (by decide)
        have g_212 := gap_inc (N := 8) f_195 (by decide)
        exact ih l1 x6 (l3 + 1)  (R_w fl1 (by decide)) (R_w f_209 (by decide)) (R_w f_210 (by decide)) (by omega)
set_option maxRecDepth 100000 in
set_option maxHeartbeats 4000000 in
theorem s_X8_missed {g : gT} {h : mh_T} {P : Int32 → mh_T → Prop} (l1 : Int32) (hG : GI h)  (hp : ∀ r : Int32, R 0 255 r → P r h) : MCi g yX8_missed uX8_missed [.ref 3, .int l1] h P := by
  have ok : Ok [] h h := Ok_rf hG
  have L0 := s_X8_missed_L (g := g) hG hp 9
  refine e_X8_missed l1  ?_
  have f_213 : R 0 0 0 := ⟨by decide, by decide⟩
  have f_214 : R 0 0 0 := ⟨by decide, by decide⟩
  have f_215 : R 0 0 0 := ⟨by decide, by decide⟩
  have g_216 := gap_le (N := 8) f_215 (m := 8) (by decide)
  exact L0 l1 0 0  (R_w (R_full l1) (by decide)) (R_w f_213 (by decide)) (R_w f_214 (by decide)) (by omega)
set_option maxRecDepth 100000 in
set_option maxHeartbeats 4000000 in
theorem s_X0_nameColumns_L {g : gT} {h0 : mh_T} {P : mh_T → Prop} (hG0 : GI h0) (hp : ∀ h', Ok [6, 30] h0 h' → P h') : ∀ n : Nat, (∀ (l1 : Int32) (h : mh_T), Ok [6, 30] h0 h → R 0 64 l1 → mI h 6 6 ≤ l1 → 1 * gap 64 l1 + 0 < n → ME g uX0_nameColumns 7 [.ref 6, .int l1] [] h (qV P)) := by
  intro n
  induction n with
  | zero =>
    exact (fun _ _ _ _ _ hm => absurd hm (Nat.not_lt_zero _))
  | succ n ih =>
    intro l1 h  ok fl1  rl0   hm
    refine r_X0_nameColumns_7 l1  ?_
    refine s_X8_hiddenAnswers ok.1 (fun r2 f_494 => ?_)
    refine ⟨fun c_495 => ?_, fun c_495 => ?_⟩
    · have f_496 : R 1 64 l1 := rf_le_r f_494 fl1 c_495 1 (by decide)
      exact hp _ ok
    · have f_497 : R 0 63 l1 := rf_lt_l fl1 f_494 (nle c_495) 63 (by decide)
      refine s_X8_missed l1 ok.1 (fun r5 f_498 => ?_)
      refine ⟨fun c_499 => ?_, fun c_499 => ?_⟩
      · have f_500 : R 0 0 0 := ⟨by decide, by decide⟩
        have f_501 : R 1 255 r5 := rf_ne_lo f_498 c_499 (by decide) 1 rfl
        have f_503 : R 1 1 1 := ⟨by decide, by decide⟩
        have f_502 : R 1 64 (l1 + 1) := R_add f_497 f_503 1 64 (by decide)
        have f_504 : R 0 64 (mI h 6 6) := GI_rd ok.1 6 _ (by decide)
        have f_505 : R 0 63 (mI h 6 6) := rf_le_l f_504 f_497 rl0 63 (by decide)
        have g_506 := gap_inc (N := 64) f_497 (by decide)
        exact ih (l1 + 1) h  ok (R_w f_502 (by decide)) (le_inc f_497 rl0 (by decide)) (by omega)
      · have f_507 : R 0 0 0 := ⟨by decide, by decide⟩
        have f_508 : R 0 0 r5 := rf_eq f_507 c_499
        have f_509 : R 0 64 (mI h 6 6) := GI_rd ok.1 6 _ (by decide)
        have f_510 : R 0 63 (mI h 6 6) := rf_le_l f_509 f_497 rl0 63 (by decide)
        refine ⟨vin f_510 (by decide), ?_⟩
        have f_512 : R 1 1 1 := ⟨by decide, by decide⟩
        have f_511 : R 1 64 (l1 + 1) := R_add f_497 f_512 1 64 (by decide)
        have ok_513 := Ok_w ok (k := 30) (j := (mI h 6 6).toNatClampNeg) (v := l1) (lo := (-2147483648)) (hi := 2147483647) (rgc_30 _) (R_w f_497 (by decide)) (by decide) (nt_k (by decide))
        have f_515 : R 0 63 (mI (wI h 30 (mI h 6 6).toNatClampNeg l1) 6 6) := (rd_ne f_510 (by decide))
        have f_516 : R 1 1 1 := ⟨by decide, by decide⟩
        have f_514 : R 1 64 ((mI (wI h 30 (mI h 6 6).toNatClampNeg l1) 6 6) + 1) := R_add f_515 f_516 1 64 (by decide)
        have ok_517 := Ok_w ok_513 (k := 6) (j := 6) (v := ((mI (wI h 30 (mI h 6 6).toNatClampNeg l1) 6 6) + 1)) (lo := 0) (hi := 64) (by decide) (R_w f_514 (by decide)) (by decide) (by decide)
        have f_519 : R 1 1 1 := ⟨by decide, by decide⟩
        have f_518 : R 1 64 ((mI h 6 6) + 1) := R_add f_510 f_519 1 64 (by decide)
        have g_520 := gap_inc (N := 64) f_497 (by decide)
        exact ih (l1 + 1) (wI (wI h 30 (mI h 6 6).toNatClampNeg l1) 6 6 ((mI (wI h 30 (mI h 6 6).toNatClampNeg l1) 6 6) + 1))  ok_517 (R_w f_511 (by decide)) (le_inc2 f_510 f_497 rl0 (by decide)) (by omega)
set_option maxRecDepth 100000 in
set_option maxHeartbeats 4000000 in
theorem s_X0_nameColumns {g : gT} {h : mh_T} {P : mh_T → Prop}  (hG : GI h)  (hp : ∀ h', Ok [6, 30] h h' → P h') : MCv g yX0_nameColumns uX0_nameColumns [.ref 6] h P := by
  have ok : Ok [6, 30] h h := Ok_rf hG
  have L0 := s_X0_nameColumns_L (g := g) hG hp 65
  refine e_X0_nameColumns   ?_
  have f_521 : R 0 0 0 := ⟨by decide, by decide⟩
  have f_522 : R 0 0 0 := ⟨by decide, by decide⟩
  have ok_523 := Ok_w ok (k := 6) (j := 6) (v := 0) (lo := 0) (hi := 64) (by decide) (R_w f_522 (by decide)) (by decide) (by decide)
  have f_524 : R 0 0 0 := ⟨by decide, by decide⟩
  have g_525 := gap_le (N := 64) f_524 (m := 64) (by decide)
  exact L0 0 (wI h 6 6 0)  ok_523 (R_w f_521 (by decide)) (Int32.le_refl _) (by omega)
set_option maxRecDepth 100000 in
set_option maxHeartbeats 4000000 in
theorem s_X0_fillRows_L {g : gT} {h0 : mh_T} {P : mh_T → Prop} (hG0 : GI h0) (hp : ∀ h', Ok [6, 29] h0 h' → P h') : ∀ n : Nat, (∀ (l1 : Int32) (h : mh_T), Ok [6, 29] h0 h → R 0 32 l1 → mI h 6 5 ≤ l1 → 66 * gap 32 l1 + 65 < n → ME g uX0_fillRows 7 [.ref 6, .int l1, .retAddr 0] [] h (qV P)) ∧ (∀ (l1 : Int32) (l2 : Int32) (h : mh_T), Ok [6, 29] h0 h → R 0 31 l1 → R 0 64 l2 → mI h 6 5 ≤ l1 → 1 * gap 64 l2 + 66 * gap 32 l1 + 0 < n → ME g uX0_fillRows 34 [.ref 6, .int l1, .int l2] [] h (qV P)) := by
  intro n
  induction n with
  | zero =>
    exact ⟨(fun _ _ _ _ _ hm => absurd hm (Nat.not_lt_zero _)), (fun _ _ _ _ _ _ _ hm => absurd hm (Nat.not_lt_zero _))⟩
  | succ n ih =>
    refine ⟨?_, ?_⟩
    · intro l1 h  ok fl1  rl0   hm
      refine r_X0_fillRows_7 l1  ?_
      refine ⟨fun c_1204 => ?_, fun c_1204 => ?_⟩
      · have f_1206 : R 4 4 4 := ⟨by decide, by decide⟩
        have f_1207 : R 0 8 (mI h 3 2) := GI_rd ok.1 3 _ (by decide)
        have f_1205 : R 0 32 (4 * (mI h 3 2)) := R_mul f_1206 f_1207 0 32 (by decide)
        exact hp _ ok
      · have f_1209 : R 4 4 4 := ⟨by decide, by decide⟩
        have f_1210 : R 0 8 (mI h 3 2) := GI_rd ok.1 3 _ (by decide)
        have f_1208 : R 0 32 (4 * (mI h 3 2)) := R_mul f_1209 f_1210 0 32 (by decide)
        have f_1211 : R 0 31 l1 := rf_lt_l fl1 f_1208 (nle c_1204) 31 (by decide)
        have f_1212 : R 1 32 (4 * (mI h 3 2)) := rf_lt_r fl1 f_1208 (nle c_1204) 1 (by decide)
        have f_1213 : R 0 32 (mI h 6 5) := GI_rd ok.1 6 _ (by decide)
        refine ⟨vin f_1211 (by decide), ?_⟩
        refine ⟨fun c_1214 => ?_, fun c_1214 => ?_⟩
        · have f_1215 : R (-2147483648) 2147483647 (mI h 26 l1.toNatClampNeg) := R_full _
          have f_1216 : R 0 0 0 := ⟨by decide, by decide⟩
          have f_1217 : R (-2147483648) 0 (mI h 26 l1.toNatClampNeg) := rf_le_l f_1215 f_1216 c_1214 0 (by decide)
          have f_1219 : R 1 1 1 := ⟨by decide, by decide⟩
          have f_1218 : R 1 32 (l1 + 1) := R_add f_1211 f_1219 1 32 (by decide)
          have f_1220 : R 0 31 (mI h 6 5) := rf_le_l f_1213 f_1211 rl0 31 (by decide)
          have g_1221 := gap_inc (N := 32) f_1211 (by decide)
          exact (ih.1) (l1 + 1) h  ok (R_w f_1218 (by decide)) (le_inc f_1211 rl0 (by decide)) (by omega)
        · have f_1222 : R (-2147483648) 2147483647 (mI h 26 l1.toNatClampNeg) := R_full _
          have f_1223 : R 0 0 0 := ⟨by decide, by decide⟩
          have f_1224 : R 1 2147483647 (mI h 26 l1.toNatClampNeg) := rf_lt_r f_1223 f_1222 (nle c_1214) 1 (by decide)
          have f_1225 : R 0 0 0 := ⟨by decide, by decide⟩
          have f_1226 : R 0 0 0 := ⟨by decide, by decide⟩
          have g_1227 := gap_le (N := 64) f_1226 (m := 64) (by decide)
          exact (ih.2) l1 0 h  ok (R_w f_1211 (by decide)) (R_w f_1225 (by decide)) rl0 (by omega)
    · intro l1 l2 h  ok fl1 fl2  rl0   hm
      refine r_X0_fillRows_34 l1 l2  ?_
      refine ⟨fun c_1228 => ?_, fun c_1228 => ?_⟩
      · have f_1229 : R 0 64 (mI h 6 6) := GI_rd ok.1 6 _ (by decide)
        have f_1230 : R 0 32 (mI h 6 5) := GI_rd ok.1 6 _ (by decide)
        have f_1231 : R 0 31 (mI h 6 5) := rf_le_l f_1230 fl1 rl0 31 (by decide)
        refine ⟨vin f_1231 (by decide), ?_⟩
        refine ⟨vin fl1 (by decide), ?_⟩
        refine ⟨vin f_1229 (by decide), ?_⟩
        have f_1232 : R 0 31 (mI (wL h (62 + (mI h 6 5).toNatClampNeg) (mI h 6 6).toNatClampNeg (Int32.toInt64 (mI h 26 l1.toNatClampNeg))) 6 5) := (rd_wL f_1231)
        refine ⟨vin f_1232 (by decide), ?_⟩
        have f_1234 : R 1 1 1 := ⟨by decide, by decide⟩
        have f_1233 : R 1 32 (l1 + 1) := R_add fl1 f_1234 1 32 (by decide)
        have ok_1235 := Ok_wL ok (k := (62 + (mI h 6 5).toNatClampNeg)) (j := (mI h 6 6).toNatClampNeg) (v := (Int32.toInt64 (mI h 26 l1.toNatClampNeg))) (Or.inr (ge_22 (shp_62 _ (ix_lt f_1231 (by decide)))))
        have f_1237 : R 64 64 64 := ⟨by decide, by decide⟩
        have f_1236 : R 64 95 (64 + l1) := R_add f_1237 fl1 64 95 (by decide)
        have ok_1238 := Ok_w ok_1235 (k := 29) (j := (mI (wL h (62 + (mI h 6 5).toNatClampNeg) (mI h 6 6).toNatClampNeg (Int32.toInt64 (mI h 26 l1.toNatClampNeg))) 6 5).toNatClampNeg) (v := (64 + l1)) (lo := (-2147483648)) (hi := 2147483647) (rgc_29 _) (R_w f_1236 (by decide)) (by decide) (nt_k (by decide))
        have f_1240 : R 0 31 (mI (wI (wL h (62 + (mI h 6 5).toNatClampNeg) (mI h 6 6).toNatClampNeg (Int32.toInt64 (mI h 26 l1.toNatClampNeg))) 29 (mI (wL h (62 + (mI h 6 5).toNatClampNeg) (mI h 6 6).toNatClampNeg (Int32.toInt64 (mI h 26 l1.toNatClampNeg))) 6 5).toNatClampNeg (64 + l1)) 6 5) := (rd_ne f_1232 (by decide))
        have f_1241 : R 1 1 1 := ⟨by decide, by decide⟩
        have f_1239 : R 1 32 ((mI (wI (wL h (62 + (mI h 6 5).toNatClampNeg) (mI h 6 6).toNatClampNeg (Int32.toInt64 (mI h 26 l1.toNatClampNeg))) 29 (mI (wL h (62 + (mI h 6 5).toNatClampNeg) (mI h 6 6).toNatClampNeg (Int32.toInt64 (mI h 26 l1.toNatClampNeg))) 6 5).toNatClampNeg (64 + l1)) 6 5) + 1) := R_add f_1240 f_1241 1 32 (by decide)
        have ok_1242 := Ok_w ok_1238 (k := 6) (j := 5) (v := ((mI (wI (wL h (62 + (mI h 6 5).toNatClampNeg) (mI h 6 6).toNatClampNeg (Int32.toInt64 (mI h 26 l1.toNatClampNeg))) 29 (mI (wL h (62 + (mI h 6 5).toNatClampNeg) (mI h 6 6).toNatClampNeg (Int32.toInt64 (mI h 26 l1.toNatClampNeg))) 6 5).toNatClampNeg (64 + l1)) 6 5) + 1)) (lo := 0) (hi := 32) (by decide) (R_w f_1239 (by decide)) (by decide) (by decide)
        have f_1244 : R 1 1 1 := ⟨by decide, by decide⟩
        have f_1243 : R 1 32 ((mI h 6 5) + 1) := R_add f_1231 f_1244 1 32 (by decide)
        have g_1245 := gap_inc (N := 32) fl1 (by decide)
        exact (ih.1) (l1 + 1) (wI (wI (wL h (62 + (mI h 6 5).toNatClampNeg) (mI h 6 6).toNatClampNeg (Int32.toInt64 (mI h 26 l1.toNatClampNeg))) 29 (mI (wL h (62 + (mI h 6 5).toNatClampNeg) (mI h 6 6).toNatClampNeg (Int32.toInt64 (mI h 26 l1.toNatClampNeg))) 6 5).toNatClampNeg (64 + l1)) 6 5 ((mI (wI (wL h (62 + (mI h 6 5).toNatClampNeg) (mI h 6 6).toNatClampNeg (Int32.toInt64 (mI h 26 l1.toNatClampNeg))) 29 (mI (wL h (62 + (mI h 6 5).toNatClampNeg) (mI h 6 6).toNatClampNeg (Int32.toInt64 (mI h 26 l1.toNatClampNeg))) 6 5).toNatClampNeg (64 + l1)) 6 5) + 1))  ok_1242 (R_w f_1233 (by decide)) (le_inc2 f_1231 fl1 rl0 (by decide)) (by omega)
      · have f_1246 : R 0 64 (mI h 6 6) := GI_rd ok.1 6 _ (by decide)
        have f_1247 : R 0 63 l2 := rf_lt_l fl2 f_1246 (nle c_1228) 63 (by decide)
        have f_1248 : R 1 64 (mI h 6 6) := rf_lt_r fl2 f_1246 (nle c_1228) 1 (by decide)
        have f_1249 : R 0 32 (mI h 6 5) := GI_rd ok.1 6 _ (by decide)
        have f_1250 : R 0 31 (mI h 6 5) := rf_le_l f_1249 fl1 rl0 31 (by decide)
        refine ⟨vin f_1250 (by decide), ?_⟩
        refine ⟨vin f_1247 (by decide), ?_⟩
        have f_1251 : R 0 7 (l1 / 4) := R_div fl1 4 0 7 (by decide) (by decide)
        refine s_X8_cellOf (l1 / 4) (mI h 30 l2.toNatClampNeg) ok.1 (R_w f_1251 (by decide)) (fun r9 f_1252 => ?_)
        refine ⟨fun c_1253 => ?_, fun c_1253 => ?_⟩
        · refine ⟨vin f_1247 (by decide), ?_⟩
          have f_1255 : R 1 1 1 := ⟨by decide, by decide⟩
          have f_1254 : R 1 64 (l2 + 1) := R_add f_1247 f_1255 1 64 (by decide)
          have ok_1256 := Ok_wL ok (k := (62 + (mI h 6 5).toNatClampNeg)) (j := l2.toNatClampNeg) (v := 0) (Or.inr (ge_22 (shp_62 _ (ix_lt f_1250 (by decide)))))
          have g_1257 := gap_inc (N := 64) f_1247 (by decide)
          exact (ih.2) l1 (l2 + 1) (wL h (62 + (mI h 6 5).toNatClampNeg) l2.toNatClampNeg 0)  ok_1256 (R_w fl1 (by decide)) (R_w f_1254 (by decide)) rl0 (by omega)
        · refine ⟨vin f_1247 (by decide), ?_⟩
          have f_1259 : R 1 1 1 := ⟨by decide, by decide⟩
          have f_1258 : R 1 64 (l2 + 1) := R_add f_1247 f_1259 1 64 (by decide)
          have ok_1260 := Ok_wL ok (k := (62 + (mI h 6 5).toNatClampNeg)) (j := l2.toNatClampNeg) (v := 1) (Or.inr (ge_22 (shp_62 _ (ix_lt f_1250 (by decide)))))
          have g_1261 := gap_inc (N := 64) f_1247 (by decide)
          exact (ih.2) l1 (l2 + 1) (wL h (62 + (mI h 6 5).toNatClampNeg) l2.toNatClampNeg 1)  ok_1260 (R_w fl1 (by decide)) (R_w f_1258 (by decide)) rl0 (by omega)
set_option maxRecDepth 100000 in
set_option maxHeartbeats 4000000 in
theorem s_X0_fillRows {g : gT} {h : mh_T} {P : mh_T → Prop}  (hG : GI h)  (hp : ∀ h', Ok [6, 29] h h' → P h') : MCv g yX0_fillRows uX0_fillRows [.ref 6] h P := by
  have ok : Ok [6, 29] h h := Ok_rf hG
  have L0 := s_X0_fillRows_L (g := g) hG hp 2178
  refine e_X0_fillRows   ?_
  have f_1262 : R 0 0 0 := ⟨by decide, by decide⟩
  have f_1263 : R 0 0 0 := ⟨by decide, by decide⟩
  have ok_1264 := Ok_w ok (k := 6) (j := 5) (v := 0) (lo := 0) (hi := 32) (by decide) (R_w f_1263 (by decide)) (by decide) (by decide)
  have f_1265 : R 0 0 0 := ⟨by decide, by decide⟩
  have g_1266 := gap_le (N := 32) f_1265 (m := 32) (by decide)
  exact (L0.1) 0 (wI h 6 5 0)  ok_1264 (R_w f_1262 (by decide)) (Int32.le_refl _) (by omega)
set_option maxRecDepth 100000 in
set_option maxHeartbeats 4000000 in
theorem s_X0_entering_L {g : gT} {h0 : mh_T} {P : Int32 → mh_T → Prop} (hG0 : GI h0) (hp : ∀ r : Int32, R (-1) 63 r → P r h0) : ∀ n : Nat, (∀ (l1 : Int32) (l2 : Int32) (l3 : Int32), R 32 33 l1 → R (-1) 63 l2 → R 0 64 l3 → 1 * gap 64 l3 + 0 < n → ME g uX0_entering 4 [.ref 6, .int l1, .int l2, .int l3, .retAddr 0] [] h0 (qI P)) := by
  intro n
  induction n with
  | zero =>
    exact (fun _ _ _ _ _ _ hm => absurd hm (Nat.not_lt_zero _))
  | succ n ih =>
    intro l1 l2 l3  fl1 fl2 fl3     hm
    have ok : Ok [] h0 h0 := Ok_rf hG0
    refine r_X0_entering_4 l1 l2 l3  ?_
    refine ⟨fun c_2181 => ?_, fun c_2181 => ?_⟩
    · have f_2182 : R 0 64 (mI h0 6 6) := GI_rd ok.1 6 _ (by decide)
      exact hp _ (R_w fl2 (by decide))
    · have f_2183 : R 0 64 (mI h0 6 6) := GI_rd ok.1 6 _ (by decide)
      have f_2184 : R 0 63 l3 := rf_lt_l fl3 f_2183 (nle c_2181) 63 (by decide)
      have f_2185 : R 1 64 (mI h0 6 6) := rf_lt_r fl3 f_2183 (nle c_2181) 1 (by decide)
      refine ⟨fun c_2186 => ?_, fun c_2186 => ?_⟩
      · have f_2187 : R 32 32 32 := ⟨by decide, by decide⟩
        have f_2188 : R 32 32 l1 := rf_eq f_2187 c_2186
        refine ⟨vin f_2188 (by decide), ?_⟩
        refine ⟨vin f_2184 (by decide), ?_⟩
        refine ⟨fun c_2189 => ?_, fun c_2189 => ?_⟩
        · have f_2190 : R (-2147483648) 2147483647 (lg_cmp (mL h0 (62 + l1.toNatClampNeg) l3.toNatClampNeg) 0) := R_full _
          have f_2191 : R 0 0 0 := ⟨by decide, by decide⟩
          have f_2192 : R 0 2147483647 (lg_cmp (mL h0 (62 + l1.toNatClampNeg) l3.toNatClampNeg) 0) := rf_le_r f_2191 f_2190 c_2189 0 (by decide)
          have f_2194 : R 1 1 1 := ⟨by decide, by decide⟩
          have f_2193 : R 1 64 (l3 + 1) := R_add f_2184 f_2194 1 64 (by decide)
          have g_2195 := gap_inc (N := 64) f_2184 (by decide)
          exact ih l1 l2 (l3 + 1)  (R_w f_2188 (by decide)) (R_w fl2 (by decide)) (R_w f_2193 (by decide)) (by omega)
        · have f_2196 : R (-2147483648) 2147483647 (lg_cmp (mL h0 (62 + l1.toNatClampNeg) l3.toNatClampNeg) 0) := R_full _
          have f_2197 : R 0 0 0 := ⟨by decide, by decide⟩
          have f_2198 : R (-2147483648) (-1) (lg_cmp (mL h0 (62 + l1.toNatClampNeg) l3.toNatClampNeg) 0) := rf_lt_l f_2196 f_2197 (nle c_2189) (-1) (by decide)
          refine ⟨fun c_2199 => ?_, fun c_2199 => ?_⟩
          · have f_2200 : R 0 0 0 := ⟨by decide, by decide⟩
            have f_2201 : R (-1) (-1) l2 := rf_lt_l fl2 f_2200 c_2199 (-1) (by decide)
            have f_2203 : R 1 1 1 := ⟨by decide, by decide⟩
            have f_2202 : R 1 64 (l3 + 1) := R_add f_2184 f_2203 1 64 (by decide)
            have g_2204 := gap_inc (N := 64) f_2184 (by decide)
            exact ih l1 l3 (l3 + 1)  (R_w f_2188 (by decide)) (R_w f_2184 (by decide)) (R_w f_2202 (by decide)) (by omega)
          · have f_2205 : R 0 0 0 := ⟨by decide, by decide⟩
            have f_2206 : R 0 63 l2 := rf_le_r f_2205 fl2 (nlt c_2199) 0 (by decide)
            refine ⟨vin f_2184 (by decide), ?_⟩
            have f_2207 : R 0 0 0 := ⟨by decide, by decide⟩
            refine ⟨vin f_2206 (by decide), ?_⟩
            refine ⟨fun c_2208 => ?_, fun c_2208 => ?_⟩
            · have f_2209 : R (-2147483648) 2147483647 (mI h0 30 l3.toNatClampNeg) := R_full _
              have f_2210 : R (-2147483648) 2147483647 (mI h0 30 l2.toNatClampNeg) := R_full _
              have f_2212 : R 1 1 1 := ⟨by decide, by decide⟩
              have f_2211 : R 1 64 (l3 + 1) := R_add f_2184 f_2212 1 64 (by decide)
              have g_2213 := gap_inc (N := 64) f_2184 (by decide)
              exact ih l1 l2 (l3 + 1)  (R_w f_2188 (by decide)) (R_w f_2206 (by decide)) (R_w f_2211 (by decide)) (by omega)
            · have f_2214 : R (-2147483648) 2147483647 (mI h0 30 l3.toNatClampNeg) := R_full _
              have f_2215 : R (-2147483648) 2147483647 (mI h0 30 l2.toNatClampNeg) := R_full _
              have f_2216 : R (-2147483648) 2147483646 (mI h0 30 l3.toNatClampNeg) := rf_lt_l f_2214 f_2215 (nle c_2208) 2147483646 (by decide)
              have f_2217 : R (-2147483647) 2147483647 (mI h0 30 l2.toNatClampNeg) := rf_lt_r f_2214 f_2215 (nle c_2208) (-2147483647) (by decide)
              have f_2219 : R 1 1 1 := ⟨by decide, by decide⟩
              have f_2218 : R 1 64 (l3 + 1) := R_add f_2184 f_2219 1 64 (by decide)
              have g_2220 := gap_inc (N := 64) f_2184 (by decide)
              exact ih l1 l3 (l3 + 1)  (R_w f_2188 (by decide)) (R_w f_2184 (by decide)) (R_w f_2218 (by decide)) (by omega)
      · have f_2221 : R 32 32 32 := ⟨by decide, by decide⟩
        have f_2222 : R 33 33 l1 := rf_ne_lo fl1 c_2186 (by decide) 33 rfl
        refine ⟨vin f_2184 (by decide), ?_⟩
        refine ⟨fun c_2223 => ?_, fun c_2223 => ?_⟩
        · have f_2224 : R (-2147483648) 2147483647 (lg_cmp (mL h0 (62 + (Int32.toNatClampNeg 32)) l3.toNatClampNeg) 0) := R_full _
          have f_2225 : R 0 0 0 := ⟨by decide, by decide⟩
          have f_2227 : R 1 1 1 := ⟨by decide, by decide⟩
          have f_2226 : R 1 64 (l3 + 1) := R_add f_2184 f_2227 1 64 (by decide)
          have g_2228 := gap_inc (N := 64) f_2184 (by decide)
          exact ih l1 l2 (l3 + 1)  (R_w f_2222 (by decide)) (R_w fl2 (by decide)) (R_w f_2226 (by decide)) (by omega)
        · have f_2229 : R (-2147483648) 2147483647 (lg_cmp (mL h0 (62 + (Int32.toNatClampNeg 32)) l3.toNatClampNeg) 0) := R_full _
          have f_2230 : R 0 0 0 := ⟨by decide, by decide⟩
          have f_2231 : R 0 0 (lg_cmp (mL h0 (62 + (Int32.toNatClampNeg 32)) l3.toNatClampNeg) 0) := rf_eq f_2230 c_2223
          refine ⟨vin f_2222 (by decide), ?_⟩
          refine ⟨vin f_2184 (by decide), ?_⟩
          refine ⟨fun c_2232 => ?_, fun c_2232 => ?_⟩
          · have f_2233 : R (-2147483648) 2147483647 (lg_cmp (mL h0 (62 + l1.toNatClampNeg) l3.toNatClampNeg) 0) := R_full _
            have f_2234 : R 0 0 0 := ⟨by decide, by decide⟩
            have f_2235 : R 0 2147483647 (lg_cmp (mL h0 (62 + l1.toNatClampNeg) l3.toNatClampNeg) 0) := rf_le_r f_2234 f_2233 c_2232 0 (by decide)
            have f_2237 : R 1 1 1 := ⟨by decide, by decide⟩
            have f_2236 : R 1 64 (l3 + 1) := R_add f_2184 f_2237 1 64 (by decide)
            have g_2238 := gap_inc (N := 64) f_2184 (by decide)
            exact ih l1 l2 (l3 + 1)  (R_w f_2222 (by decide)) (R_w fl2 (by decide)) (R_w f_2236 (by decide)) (by omega)
          · have f_2239 : R (-2147483648) 2147483647 (lg_cmp (mL h0 (62 + l1.toNatClampNeg) l3.toNatClampNeg) 0) := R_full _
            have f_2240 : R 0 0 0 := ⟨by decide, by decide⟩
            have f_2241 : R (-2147483648) (-1) (lg_cmp (mL h0 (62 + l1.toNatClampNeg) l3.toNatClampNeg) 0) := rf_lt_l f_2239 f_2240 (nle c_2232) (-1) (by decide)
            refine ⟨fun c_2242 => ?_, fun c_2242 => ?_⟩
            · have f_2243 : R 0 0 0 := ⟨by decide, by decide⟩
              have f_2244 : R (-1) (-1) l2 := rf_lt_l fl2 f_2243 c_2242 (-1) (by decide)
              have f_2246 : R 1 1 1 := ⟨by decide, by decide⟩
              have f_2245 : R 1 64 (l3 + 1) := R_add f_2184 f_2246 1 64 (by decide)
              have g_2247 := gap_inc (N := 64) f_2184 (by decide)
              exact ih l1 l3 (l3 + 1)  (R_w f_2222 (by decide)) (R_w f_2184 (by decide)) (R_w f_2245 (by decide)) (by omega)
            · have f_2248 : R 0 0 0 := ⟨by decide, by decide⟩
              have f_2249 : R 0 63 l2 := rf_le_r f_2248 fl2 (nlt c_2242) 0 (by decide)
              refine ⟨vin f_2184 (by decide), ?_⟩
              have f_2250 : R 0 0 0 := ⟨by decide, by decide⟩
              refine ⟨vin f_2249 (by decide), ?_⟩
              refine ⟨fun c_2251 => ?_, fun c_2251 => ?_⟩
              · have f_2252 : R (-2147483648) 2147483647 (mI h0 30 l3.toNatClampNeg) := R_full _
                have f_2253 : R (-2147483648) 2147483647 (mI h0 30 l2.toNatClampNeg) := R_full _
                have f_2255 : R 1 1 1 := ⟨by decide, by decide⟩
                have f_2254 : R 1 64 (l3 + 1) := R_add f_2184 f_2255 1 64 (by decide)
                have g_2256 := gap_inc (N := 64) f_2184 (by decide)
                exact ih l1 l2 (l3 + 1)  (R_w f_2222 (by decide)) (R_w f_2249 (by decide)) (R_w f_2254 (by decide)) (by omega)
              · have f_2257 : R (-2147483648) 2147483647 (mI h0 30 l3.toNatClampNeg) := R_full _
                have f_2258 : R (-2147483648) 2147483647 (mI h0 30 l2.toNatClampNeg) := R_full _
                have f_2259 : R (-2147483648) 2147483646 (mI h0 30 l3.toNatClampNeg) := rf_lt_l f_2257 f_2258 (nle c_2251) 2147483646 (by decide)
                have f_2260 : R (-2147483647) 2147483647 (mI h0 30 l2.toNatClampNeg) := rf_lt_r f_2257 f_2258 (nle c_2251) (-2147483647) (by decide)
                have f_2262 : R 1 1 1 := ⟨by decide, by decide⟩
                have f_2261 : R 1 64 (l3 + 1) := R_add f_2184 f_2262 1 64 (by decide)
                have g_2263 := gap_inc (N := 64) f_2184 (by decide)
                exact ih l1 l3 (l3 + 1)  (R_w f_2222 (by decide)) (R_w f_2184 (by decide)) (R_w f_2261 (by decide)) (by omega)
set_option maxRecDepth 100000 in
set_option maxHeartbeats 4000000 in
theorem s_X0_entering {g : gT} {h : mh_T} {P : Int32 → mh_T → Prop} (l1 : Int32) (hG : GI h) (fl1 : R 32 33 l1) (hp : ∀ r : Int32, R (-1) 63 r → P r h) : MCi g yX0_entering uX0_entering [.ref 6, .int l1] h P := by
  have ok : Ok [] h h := Ok_rf hG
  have L0 := s_X0_entering_L (g := g) hG hp 65
  refine e_X0_entering l1  ?_
  have f_2264 : R (-1) (-1) (-1) := ⟨by decide, by decide⟩
  have f_2265 : R 0 0 0 := ⟨by decide, by decide⟩
  have f_2266 : R 0 0 0 := ⟨by decide, by decide⟩
  have g_2267 := gap_le (N := 64) f_2266 (m := 64) (by decide)
  exact L0 l1 (-1) 0  (R_w fl1 (by decide)) (R_w f_2264 (by decide)) (R_w f_2265 (by decide)) (by omega)
set_option maxRecDepth 100000 in
set_option maxHeartbeats 4000000 in
theorem s_X0_comesFirst {g : gT} {h : mh_T} {P : Int32 → mh_T → Prop} (l1 : Int32) (l2 : Int32) (l3 : Int32) (hG : GI h) (fl1 : R 0 31 l1) (fl2 : R 0 31 l2) (fl3 : R 0 63 l3) (hp : ∀ r : Int32, R 0 1 r → P r h) : MCi g yX0_comesFirst uX0_comesFirst [.ref 6, .int l1, .int l2, .int l3] h P := by
  have ok : Ok [] h h := Ok_rf hG
  refine e_X0_comesFirst l1 l2 l3  ?_
  refine ⟨vin fl1 (by decide), ?_⟩
  have f_25 : R 0 64 (mI h 6 6) := GI_rd ok.1 6 _ (by decide)
  refine ⟨vin f_25 (by decide), ?_⟩
  refine ⟨vin fl2 (by decide), ?_⟩
  refine ⟨vin fl3 (by decide), ?_⟩
  intro x5 ex5
  refine ⟨vin fl2 (by decide), ?_⟩
  refine ⟨vin f_25 (by decide), ?_⟩
  refine ⟨vin fl1 (by decide), ?_⟩
  refine ⟨vin fl3 (by decide), ?_⟩
  intro x10 ex10
  refine ⟨fun c_26 => ?_, fun c_26 => ?_⟩
  · have f_27 : R (-2147483648) 2147483647 (lg_cmp x5 x10) := R_full _
    have f_28 : R 0 0 0 := ⟨by decide, by decide⟩
    have f_29 : R (-2147483648) (-1) (lg_cmp x5 x10) := rf_lt_l f_27 f_28 c_26 (-1) (by decide)
    have f_30 : R 1 1 1 := ⟨by decide, by decide⟩
    exact hp _ (R_w f_30 (by decide))
  · have f_31 : R (-2147483648) 2147483647 (lg_cmp x5 x10) := R_full _
    have f_32 : R 0 0 0 := ⟨by decide, by decide⟩
    have f_33 : R 0 2147483647 (lg_cmp x5 x10) := rf_le_r f_32 f_31 (nlt c_26) 0 (by decide)
    refine ⟨fun c_34 => ?_, fun c_34 => ?_⟩
    · have f_35 : R 0 0 0 := ⟨by decide, by decide⟩
      have f_36 : R 1 2147483647 (lg_cmp x5 x10) := rf_ne_lo f_33 c_34 (by decide) 1 rfl
      have f_37 : R 0 0 0 := ⟨by decide, by decide⟩
      exact hp _ (R_w f_37 (by decide))
    · have f_38 : R 0 0 0 := ⟨by decide, by decide⟩
      have f_39 : R 0 0 (lg_cmp x5 x10) := rf_eq f_38 c_34
      refine ⟨vin fl1 (by decide), ?_⟩
      refine ⟨vin fl2 (by decide), ?_⟩
      refine ⟨fun c_40 => ?_, fun c_40 => ?_⟩
      · have f_41 : R (-2147483648) 2147483647 (mI h 29 l1.toNatClampNeg) := R_full _
        have f_42 : R (-2147483648) 2147483647 (mI h 29 l2.toNatClampNeg) := R_full _
        have f_43 : R 0 0 0 := ⟨by decide, by decide⟩
        exact hp _ (R_w f_43 (by decide))
      · have f_44 : R (-2147483648) 2147483647 (mI h 29 l1.toNatClampNeg) := R_full _
        have f_45 : R (-2147483648) 2147483647 (mI h 29 l2.toNatClampNeg) := R_full _
        have f_46 : R (-2147483648) 2147483646 (mI h 29 l1.toNatClampNeg) := rf_lt_l f_44 f_45 (nle c_40) 2147483646 (by decide)
        have f_47 : R (-2147483647) 2147483647 (mI h 29 l2.toNatClampNeg) := rf_lt_r f_44 f_45 (nle c_40) (-2147483647) (by decide)
        have f_48 : R 1 1 1 := ⟨by decide, by decide⟩
        exact hp _ (R_w f_48 (by decide))
set_option maxRecDepth 100000 in
set_option maxHeartbeats 4000000 in
theorem s_X0_leaving_L {g : gT} {h0 : mh_T} {P : Int32 → mh_T → Prop} (hG0 : GI h0) (hp : ∀ r : Int32, R (-1) 31 r → P r h0) : ∀ n : Nat, (∀ (l1 : Int32) (l2 : Int32) (l3 : Int32), R 0 63 l1 → R (-1) 31 l2 → R 0 32 l3 → 1 * gap 32 l3 + 0 < n → ME g uX0_leaving 4 [.ref 6, .int l1, .int l2, .int l3] [] h0 (qI P)) := by
  intro n
  induction n with
  | zero =>
    exact (fun _ _ _ _ _ _ hm => absurd hm (Nat.not_lt_zero _))
  | succ n ih =>
    intro l1 l2 l3  fl1 fl2 fl3     hm
    have ok : Ok [] h0 h0 := Ok_rf hG0
    refine r_X0_leaving_4 l1 l2 l3  ?_
    refine ⟨fun c_751 => ?_, fun c_751 => ?_⟩
    · have f_752 : R 0 32 (mI h0 6 5) := GI_rd ok.1 6 _ (by decide)
      exact hp _ (R_w fl2 (by decide))
    · have f_753 : R 0 32 (mI h0 6 5) := GI_rd ok.1 6 _ (by decide)
      have f_754 : R 0 31 l3 := rf_lt_l fl3 f_753 (nle c_751) 31 (by decide)
      have f_755 : R 1 32 (mI h0 6 5) := rf_lt_r fl3 f_753 (nle c_751) 1 (by decide)
      refine ⟨vin f_754 (by decide), ?_⟩
      refine ⟨vin fl1 (by decide), ?_⟩
      refine ⟨fun c_756 => ?_, fun c_756 => ?_⟩
      · have f_757 : R (-2147483648) 2147483647 (lg_cmp (mL h0 (62 + l3.toNatClampNeg) l1.toNatClampNeg) 0) := R_full _
        have f_758 : R 0 0 0 := ⟨by decide, by decide⟩
        have f_759 : R (-2147483648) 0 (lg_cmp (mL h0 (62 + l3.toNatClampNeg) l1.toNatClampNeg) 0) := rf_le_l f_757 f_758 c_756 0 (by decide)
        have f_761 : R 1 1 1 := ⟨by decide, by decide⟩
        have f_760 : R 1 32 (l3 + 1) := R_add f_754 f_761 1 32 (by decide)
        have g_762 := gap_inc (N := 32) f_754 (by decide)
        exact ih l1 l2 (l3 + 1)  (R_w fl1 (by decide)) (R_w fl2 (by decide)) (R_w f_760 (by decide)) (by omega)
      · have f_763 : R (-2147483648) 2147483647 (lg_cmp (mL h0 (62 + l3.toNatClampNeg) l1.toNatClampNeg) 0) := R_full _
        have f_764 : R 0 0 0 := ⟨by decide, by decide⟩
        have f_765 : R 1 2147483647 (lg_cmp (mL h0 (62 + l3.toNatClampNeg) l1.toNatClampNeg) 0) := rf_lt_r f_764 f_763 (nle c_756) 1 (by decide)
        refine ⟨fun c_766 => ?_, fun c_766 => ?_⟩
        · have f_767 : R 0 0 0 := ⟨by decide, by decide⟩
          have f_768 : R (-1) (-1) l2 := rf_lt_l fl2 f_767 c_766 (-1) (by decide)
          have f_770 : R 1 1 1 := ⟨by decide, by decide⟩
          have f_769 : R 1 32 (l3 + 1) := R_add f_754 f_770 1 32 (by decide)
          have g_771 := gap_inc (N := 32) f_754 (by decide)
          exact ih l1 l3 (l3 + 1)  (R_w fl1 (by decide)) (R_w f_754 (by decide)) (R_w f_769 (by decide)) (by omega)
        · have f_772 : R 0 0 0 := ⟨by decide, by decide⟩
          have f_773 : R 0 31 l2 := rf_le_r f_772 fl2 (nlt c_766) 0 (by decide)
          refine s_X0_comesFirst l3 l2 l1 ok.1 (R_w f_754 (by decide)) (R_w f_773 (by decide)) (R_w fl1 (by decide)) (fun r7 f_774 => ?_)
          refine ⟨fun c_775 => ?_, fun c_775 => ?_⟩
          · have f_776 : R 0 0 0 := ⟨by decide, by decide⟩
            have f_777 : R 0 0 r7 := rf_eq f_776 c_775
            have f_779 : R 1 1 1 := ⟨by decide, by decide⟩
            have f_778 : R 1 32 (l3 + 1) := R_add f_754 f_779 1 32 (by decide)
            have g_780 := gap_inc (N := 32) f_754 (by decide)
            exact ih l1 l2 (l3 + 1)  (R_w fl1 (by decide)) (R_w f_773 (by decide)) (R_w f_778 (by decide)) (by omega)
          · have f_781 : R 0 0 0 := ⟨by decide, by decide⟩
            have f_782 : R 1 1 r7 := rf_ne_lo f_774 c_775 (by decide) 1 rfl
            have f_784 : R 1 1 1 := ⟨by decide, by decide⟩
            have f_783 : R 1 32 (l3 + 1) := R_add f_754 f_784 1 32 (by decide)
            have g_785 := gap_inc (N := 32) f_754 (by decide)
            exact ih l1 l3 (l3 + 1)  (R_w fl1 (by decide)) (R_w f_754 (by decide)) (R_w f_783 (by decide)) (by omega)
set_option maxRecDepth 100000 in
set_option maxHeartbeats 4000000 in
theorem s_X0_leaving {g : gT} {h : mh_T} {P : Int32 → mh_T → Prop} (l1 : Int32) (hG : GI h) (fl1 : R 0 63 l1) (hp : ∀ r : Int32, R (-1) 31 r → P r h) : MCi g yX0_leaving uX0_leaving [.ref 6, .int l1] h P := by
  have ok : Ok [] h h := Ok_rf hG
  have L0 := s_X0_leaving_L (g := g) hG hp 33
  refine e_X0_leaving l1  ?_
  have f_786 : R (-1) (-1) (-1) := ⟨by decide, by decide⟩
  have f_787 : R 0 0 0 := ⟨by decide, by decide⟩
  have f_788 : R 0 0 0 := ⟨by decide, by decide⟩
  have g_789 := gap_le (N := 32) f_788 (m := 32) (by decide)
  exact L0 l1 (-1) 0  (R_w fl1 (by decide)) (R_w f_786 (by decide)) (R_w f_787 (by decide)) (by omega)
set_option maxRecDepth 100000 in
set_option maxHeartbeats 4000000 in
theorem s_X0_clearFrom_L {g : gT} {h0 : mh_T} {P : mh_T → Prop} (hG0 : GI h0) (hp : ∀ h', Ok [] h0 h' → P h') : ∀ n : Nat, (∀ (l1 : Int32) (l2 : Int32) (l3 : Int32) (l4 : Nat) (l5 : Nat) (l6 : Int64) (l8 : Int64) (l10 : Int32) (h : mh_T), shp l4 = (22, 65, []) → shp l5 = (22, 65, []) → Ok [] h0 h → R 0 33 l1 → R 0 31 l2 → R 0 63 l3 → R 0 65 l10 → ¬ mL h 6 7 = 0 → 1 * gap 65 l10 + 0 < n → ME g uX0_clearFrom 49 [.ref 6, .int l1, .int l2, .int l3, .ref l4, .ref l5, .long l6, .retAddr 0, .long l8, .retAddr 0, .int l10] [] h (qV P)) := by
  intro n
  induction n with
  | zero =>
    exact (fun _ _ _ _ _ _ _ _ _ _ _ _ _ _ _ _ _ hm => absurd hm (Nat.not_lt_zero _))
  | succ n ih =>
    intro l1 l2 l3 l4 l5 l6 l8 l10 h sl4 sl5 ok fl1 fl2 fl3 fl10   nz0  hm
    refine r_X0_clearFrom_49 l1 l2 l3 l4 l5 l6 l8 l10 sl4 sl5 ?_
    refine ⟨fun c_792 => ?_, fun c_792 => ?_⟩
    · have f_793 : R 0 64 (mI h 6 6) := GI_rd ok.1 6 _ (by decide)
      have f_794 : R 1 65 l10 := rf_lt_r f_793 fl10 c_792 1 (by decide)
      refine ⟨vin fl3 (by decide), ?_⟩
      have ok_795 := Ok_wL ok (k := l4) (j := l3.toNatClampNeg) (v := (-l8)) (Or.inr (ge_22 sl4))
      exact hp _ ok_795
    · have f_796 : R 0 64 (mI h 6 6) := GI_rd ok.1 6 _ (by decide)
      have f_797 : R 0 64 l10 := rf_le_l fl10 f_796 (nlt c_792) 64 (by decide)
      refine ⟨fun c_798 => ?_, fun c_798 => ?_⟩
      · have f_799 : R 0 63 l10 := rf_eq fl3 c_798
        have f_801 : R 1 1 1 := ⟨by decide, by decide⟩
        have f_800 : R 1 64 (l10 + 1) := R_add f_799 f_801 1 64 (by decide)
        have g_802 := gap_inc (N := 65) f_799 (by decide)
        exact ih l1 l2 l3 l4 l5 l6 l8 (l10 + 1) h sl4 sl5 ok (R_w fl1 (by decide)) (R_w fl2 (by decide)) (R_w fl3 (by decide)) (R_w f_800 (by decide)) nz0 (by omega)
      · refine ⟨vin f_797 (by decide), ?_⟩
        refine ⟨vin f_797 (by decide), ?_⟩
        refine ⟨nz0, ?_⟩
        refine ⟨vin f_797 (by decide), ?_⟩
        have f_804 : R 1 1 1 := ⟨by decide, by decide⟩
        have f_803 : R 1 65 (l10 + 1) := R_add f_797 f_804 1 65 (by decide)
        have ok_805 := Ok_wL ok (k := l4) (j := l10.toNatClampNeg) (v := ((((mL h l4 l10.toNatClampNeg) * l6) - (l8 * (mL h l5 l10.toNatClampNeg))) / (mL h 6 7))) (Or.inr (ge_22 sl4))
        have g_806 := gap_inc (N := 65) f_797 (by decide)
        exact ih l1 l2 l3 l4 l5 l6 l8 (l10 + 1) (wL h l4 l10.toNatClampNeg ((((mL h l4 l10.toNatClampNeg) * l6) - (l8 * (mL h l5 l10.toNatClampNeg))) / (mL h 6 7))) sl4 sl5 ok_805 (R_w fl1 (by decide)) (R_w fl2 (by decide)) (R_w fl3 (by decide)) (R_w f_803 (by decide)) (nz_row nz0 (by decide) (ge_22 sl4)) (by omega)
set_option maxRecDepth 100000 in
set_option maxHeartbeats 4000000 in
theorem s_X0_clearFrom {g : gT} {h : mh_T} {P : mh_T → Prop} (l1 : Int32) (l2 : Int32) (l3 : Int32) (hG : GI h) (fl1 : R 0 33 l1) (fl2 : R 0 31 l2) (fl3 : R 0 63 l3) (nz0 : ¬ mL h 6 7 = 0) (hp : ∀ h', Ok [] h h' → P h') : MCv g yX0_clearFrom uX0_clearFrom [.ref 6, .int l1, .int l2, .int l3] h P := by
  have ok : Ok [] h h := Ok_rf hG
  have L0 := s_X0_clearFrom_L (g := g) hG hp 66
  refine e_X0_clearFrom l1 l2 l3  ?_
  refine ⟨vin fl1 (by decide), ?_⟩
  refine ⟨vin fl2 (by decide), ?_⟩
  refine ⟨vin fl3 (by decide), ?_⟩
  intro x4 ex4
  refine ⟨vin fl3 (by decide), ?_⟩
  intro x6 ex6
  refine ⟨fun c_807 => ?_, fun c_807 => ?_⟩
  · have f_808 : R (-2147483648) 2147483647 (lg_cmp x6 0) := R_full _
    have f_809 : R 0 0 0 := ⟨by decide, by decide⟩
    have f_810 : R 0 0 0 := ⟨by decide, by decide⟩
    have f_811 : R 0 0 0 := ⟨by decide, by decide⟩
    have g_812 := gap_le (N := 65) f_811 (m := 65) (by decide)
    exact L0 l1 l2 l3 (62 + l1.toNatClampNeg) (62 + l2.toNatClampNeg) x4 x6 0 h (shp_62 _ (ix_lt fl1 (by decide))) (shp_62 _ (ix_lt fl2 (by decide))) ok (R_w fl1 (by decide)) (R_w fl2 (by decide)) (R_w fl3 (by decide)) (R_w f_810 (by decide)) nz0 (by omega)
  · have f_813 : R (-2147483648) 2147483647 (lg_cmp x6 0) := R_full _
    have f_814 : R 0 0 0 := ⟨by decide, by decide⟩
    have f_815 : R 0 0 (lg_cmp x6 0) := rf_eq f_814 c_807
    refine ⟨fun c_816 => ?_, fun c_816 => ?_⟩
    · have f_817 : R (-2147483648) 2147483647 (lg_cmp x4 (mL h 6 7)) := R_full _
      have f_818 : R 0 0 0 := ⟨by decide, by decide⟩
      have f_819 : R 0 0 0 := ⟨by decide, by decide⟩
      have f_820 : R 0 0 0 := ⟨by decide, by decide⟩
      have g_821 := gap_le (N := 65) f_820 (m := 65) (by decide)
      exact L0 l1 l2 l3 (62 + l1.toNatClampNeg) (62 + l2.toNatClampNeg) x4 x6 0 h (shp_62 _ (ix_lt fl1 (by decide))) (shp_62 _ (ix_lt fl2 (by decide))) ok (R_w fl1 (by decide)) (R_w fl2 (by decide)) (R_w fl3 (by decide)) (R_w f_819 (by decide)) nz0 (by omega)
    · have f_822 : R (-2147483648) 2147483647 (lg_cmp x4 (mL h 6 7)) := R_full _
      have f_823 : R 0 0 0 := ⟨by decide, by decide⟩
      have f_824 : R 0 0 (lg_cmp x4 (mL h 6 7)) := rf_eq f_823 c_816
      exact hp _ ok
set_option maxRecDepth 100000 in
set_option maxHeartbeats 4000000 in
theorem s_X0_pivot_L {g : gT} {h0 : mh_T} {P : mh_T → Prop} (hG0 : GI h0) (hp : ∀ h', Ok [6, 29, 30] h0 h' → P h') : ∀ n : Nat, (∀ (l1 : Int32) (l2 : Int32) (l3 : Int32) (l4 : Int64) (l6 : Int32) (h : mh_T), Ok [6, 29, 30] h0 h → R 0 31 l1 → R 0 63 l2 → R (-2147483648) 2147483647 l3 → R 0 32 l6 → ¬ mL h 6 7 = 0 → 1 * gap 32 l6 + 0 < n → ME g uX0_pivot 30 [.ref 6, .int l1, .int l2, .int l3, .long l4, .retAddr 0, .int l6] [] h (qV P)) := by
  intro n
  induction n with
  | zero =>
    exact (fun _ _ _ _ _ _ _ _ _ _ _ _ hm => absurd hm (Nat.not_lt_zero _))
  | succ n ih =>
    intro l1 l2 l3 l4 l6 h  ok fl1 fl2 fl3 fl6   nz0  hm
    refine r_X0_pivot_30 l1 l2 l3 l4 l6  ?_
    refine ⟨fun c_1484 => ?_, fun c_1484 => ?_⟩
    · have f_1485 : R 0 32 (mI h 6 5) := GI_rd ok.1 6 _ (by decide)
      have f_1486 : R 32 32 32 := ⟨by decide, by decide⟩
      refine s_X0_clearFrom 32 l1 l2 ok.1 (R_w f_1486 (by decide)) (R_w fl1 (by decide)) (R_w fl2 (by decide)) nz0 (fun h2 ko_1487 => ?_)
      have ok_1488 := Ok_tr ok ko_1487 (by decide)
      refine ⟨fun c_1489 => ?_, fun c_1489 => ?_⟩
      · have f_1490 : R 33 33 33 := ⟨by decide, by decide⟩
        refine ⟨vin fl1 (by decide), ?_⟩
        refine ⟨vin fl2 (by decide), ?_⟩
        refine ⟨vin fl1 (by decide), ?_⟩
        intro x7 ex7
        have f_1494 : R (-2147483648) 2147483647 (mI h 29 l1.toNatClampNeg) := R_full _
        have f_1493 : R (-2147483648) 2147483647 (mI h2 29 l1.toNatClampNeg) := Ok_rd ko_1487 (by decide) f_1494
        have f_1492 : R (-2147483648) 2147483647 (mI (wL h2 (62 + l1.toNatClampNeg) l2.toNatClampNeg (mL h2 6 7)) 29 l1.toNatClampNeg) := (rd_wL f_1493)
        have f_1491 : R (-2147483648) 2147483647 (mI (wL (wL h2 (62 + l1.toNatClampNeg) l2.toNatClampNeg (mL h2 6 7)) 6 7 l4) 29 l1.toNatClampNeg) := (rd_wL f_1492)
        have f_1495 : R (-2147483648) 2147483647 x7 := rf_eq f_1491 ex7
        refine ⟨vin fl2 (by decide), ?_⟩
        refine ⟨vin fl1 (by decide), ?_⟩
        refine ⟨vin fl2 (by decide), ?_⟩
        have ok_1496 := Ok_wL ok_1488 (k := (62 + l1.toNatClampNeg)) (j := l2.toNatClampNeg) (v := (mL h2 6 7)) (Or.inr (ge_22 (shp_62 _ (ix_lt fl1 (by decide)))))
        have ok_1497 := Ok_wL ok_1496 (k := 6) (j := 7) (v := l4) (by decide)
        have f_1501 : R (-2147483648) 2147483647 (mI h 30 l2.toNatClampNeg) := R_full _
        have f_1500 : R (-2147483648) 2147483647 (mI h2 30 l2.toNatClampNeg) := Ok_rd ko_1487 (by decide) f_1501
        have f_1499 : R (-2147483648) 2147483647 (mI (wL h2 (62 + l1.toNatClampNeg) l2.toNatClampNeg (mL h2 6 7)) 30 l2.toNatClampNeg) := (rd_wL f_1500)
        have f_1498 : R (-2147483648) 2147483647 (mI (wL (wL h2 (62 + l1.toNatClampNeg) l2.toNatClampNeg (mL h2 6 7)) 6 7 l4) 30 l2.toNatClampNeg) := (rd_wL f_1499)
        have ok_1502 := Ok_w ok_1497 (k := 29) (j := l1.toNatClampNeg) (v := (mI (wL (wL h2 (62 + l1.toNatClampNeg) l2.toNatClampNeg (mL h2 6 7)) 6 7 l4) 30 l2.toNatClampNeg)) (lo := (-2147483648)) (hi := 2147483647) (rgc_29 _) f_1498 (by decide) (nt_k (by decide))
        have ok_1503 := Ok_w ok_1502 (k := 30) (j := l2.toNatClampNeg) (v := x7) (lo := (-2147483648)) (hi := 2147483647) (rgc_30 _) f_1495 (by decide) (nt_k (by decide))
        exact hp _ ok_1503
      · have f_1504 : R 33 33 33 := ⟨by decide, by decide⟩
        have f_1505 : R 33 33 l3 := rf_eq f_1504 c_1489
        have f_1506 : R 33 33 33 := ⟨by decide, by decide⟩
        refine s_X0_clearFrom 33 l1 l2 ok_1488.1 (R_w f_1506 (by decide)) (R_w fl1 (by decide)) (R_w fl2 (by decide)) (nz_fr ko_1487 (by decide) nz0) (fun h11 ko_1507 => ?_)
        have ok_1508 := Ok_tr ok_1488 ko_1507 (by decide)
        refine ⟨vin fl1 (by decide), ?_⟩
        refine ⟨vin fl2 (by decide), ?_⟩
        refine ⟨vin fl1 (by decide), ?_⟩
        intro x15 ex15
        have f_1513 : R (-2147483648) 2147483647 (mI h 29 l1.toNatClampNeg) := R_full _
        have f_1512 : R (-2147483648) 2147483647 (mI h2 29 l1.toNatClampNeg) := Ok_rd ko_1487 (by decide) f_1513
        have f_1511 : R (-2147483648) 2147483647 (mI h11 29 l1.toNatClampNeg) := Ok_rd ko_1507 (by decide) f_1512
        have f_1510 : R (-2147483648) 2147483647 (mI (wL h11 (62 + l1.toNatClampNeg) l2.toNatClampNeg (mL h11 6 7)) 29 l1.toNatClampNeg) := (rd_wL f_1511)
        have f_1509 : R (-2147483648) 2147483647 (mI (wL (wL h11 (62 + l1.toNatClampNeg) l2.toNatClampNeg (mL h11 6 7)) 6 7 l4) 29 l1.toNatClampNeg) := (rd_wL f_1510)
        have f_1514 : R (-2147483648) 2147483647 x15 := rf_eq f_1509 ex15
        refine ⟨vin fl2 (by decide), ?_⟩
        refine ⟨vin fl1 (by decide), ?_⟩
        refine ⟨vin fl2 (by decide), ?_⟩
        have ok_1515 := Ok_wL ok_1508 (k := (62 + l1.toNatClampNeg)) (j := l2.toNatClampNeg) (v := (mL h11 6 7)) (Or.inr (ge_22 (shp_62 _ (ix_lt fl1 (by decide)))))
        have ok_1516 := Ok_wL ok_1515 (k := 6) (j := 7) (v := l4) (by decide)
        have f_1521 : R (-2147483648) 2147483647 (mI h 30 l2.toNatClampNeg) := R_full _
        have f_1520 : R (-2147483648) 2147483647 (mI h2 30 l2.toNatClampNeg) := Ok_rd ko_1487 (by decide) f_1521
        have f_1519 : R (-2147483648) 2147483647 (mI h11 30 l2.toNatClampNeg) := Ok_rd ko_1507 (by decide) f_1520
        have f_1518 : R (-2147483648) 2147483647 (mI (wL h11 (62 + l1.toNatClampNeg) l2.toNatClampNeg (mL h11 6 7)) 30 l2.toNatClampNeg) := (rd_wL f_1519)
        have f_1517 : R (-2147483648) 2147483647 (mI (wL (wL h11 (62 + l1.toNatClampNeg) l2.toNatClampNeg (mL h11 6 7)) 6 7 l4) 30 l2.toNatClampNeg) := (rd_wL f_1518)
        have ok_1522 := Ok_w ok_1516 (k := 29) (j := l1.toNatClampNeg) (v := (mI (wL (wL h11 (62 + l1.toNatClampNeg) l2.toNatClampNeg (mL h11 6 7)) 6 7 l4) 30 l2.toNatClampNeg)) (lo := (-2147483648)) (hi := 2147483647) (rgc_29 _) f_1517 (by decide) (nt_k (by decide))
        have ok_1523 := Ok_w ok_1522 (k := 30) (j := l2.toNatClampNeg) (v := x15) (lo := (-2147483648)) (hi := 2147483647) (rgc_30 _) f_1514 (by decide) (nt_k (by decide))
        exact hp _ ok_1523
    · have f_1524 : R 0 32 (mI h 6 5) := GI_rd ok.1 6 _ (by decide)
      have f_1525 : R 0 31 l6 := rf_lt_l fl6 f_1524 (nle c_1484) 31 (by decide)
      have f_1526 : R 1 32 (mI h 6 5) := rf_lt_r fl6 f_1524 (nle c_1484) 1 (by decide)
      refine ⟨fun c_1527 => ?_, fun c_1527 => ?_⟩
      · have f_1529 : R 1 1 1 := ⟨by decide, by decide⟩
        have f_1528 : R 1 32 (l6 + 1) := R_add f_1525 f_1529 1 32 (by decide)
        have g_1530 := gap_inc (N := 32) f_1525 (by decide)
        exact ih l1 l2 l3 l4 (l6 + 1) h  ok (R_w fl1 (by decide)) (R_w fl2 (by decide)) (R_w fl3 (by decide)) (R_w f_1528 (by decide)) nz0 (by omega)
      · refine s_X0_clearFrom l6 l1 l2 ok.1 (R_w f_1525 (by decide)) (R_w fl1 (by decide)) (R_w fl2 (by decide)) nz0 (fun h20 ko_1531 => ?_)
        have ok_1532 := Ok_tr ok ko_1531 (by decide)
        have f_1534 : R 1 1 1 := ⟨by decide, by decide⟩
        have f_1533 : R 1 32 (l6 + 1) := R_add f_1525 f_1534 1 32 (by decide)
        have g_1535 := gap_inc (N := 32) f_1525 (by decide)
        exact ih l1 l2 l3 l4 (l6 + 1) h20  ok_1532 (R_w fl1 (by decide)) (R_w fl2 (by decide)) (R_w fl3 (by decide)) (R_w f_1533 (by decide)) (nz_fr ko_1531 (by decide) nz0) (by omega)
set_option maxRecDepth 100000 in
set_option maxHeartbeats 4000000 in
theorem s_X0_pivot {g : gT} {h : mh_T} {P : mh_T → Prop} (l1 : Int32) (l2 : Int32) (l3 : Int32) (hG : GI h) (fl1 : R 0 31 l1) (fl2 : R 0 63 l2) (hp : ∀ h', Ok [6, 29, 30] h h' → P h') : MCv g yX0_pivot uX0_pivot [.ref 6, .int l1, .int l2, .int l3] h P := by
  have ok : Ok [6, 29, 30] h h := Ok_rf hG
  have L0 := s_X0_pivot_L (g := g) hG hp 33
  refine e_X0_pivot l1 l2 l3  ?_
  refine ⟨vin fl1 (by decide), ?_⟩
  refine ⟨vin fl2 (by decide), ?_⟩
  intro x3 ex3
  refine ⟨fun c_1536 => ?_, fun c_1536 => ?_⟩
  · have f_1537 : R (-2147483648) 2147483647 (lg_cmp x3 0) := R_full _
    have f_1538 : R 0 0 0 := ⟨by decide, by decide⟩
    have f_1539 : R 0 0 (lg_cmp x3 0) := rf_eq f_1538 c_1536
    exact hp _ ok
  · have f_1540 : R (-2147483648) 2147483647 (lg_cmp x3 0) := R_full _
    have f_1541 : R 0 0 0 := ⟨by decide, by decide⟩
    refine ⟨fun c_1542 => ?_, fun c_1542 => ?_⟩
    · have f_1543 : R (-2147483648) 2147483647 (lg_cmp (mL h 6 7) 0) := R_full _
      have f_1544 : R 0 0 0 := ⟨by decide, by decide⟩
      have f_1545 : R 0 0 0 := ⟨by decide, by decide⟩
      have f_1546 : R 0 0 0 := ⟨by decide, by decide⟩
      have g_1547 := gap_le (N := 32) f_1546 (m := 32) (by decide)
      exact L0 l1 l2 l3 x3 0 h  ok (R_w fl1 (by decide)) (R_w fl2 (by decide)) (R_w (R_full l3) (by decide)) (R_w f_1545 (by decide)) (lg_ne c_1542) (by omega)
    · have f_1548 : R (-2147483648) 2147483647 (lg_cmp (mL h 6 7) 0) := R_full _
      have f_1549 : R 0 0 0 := ⟨by decide, by decide⟩
      have f_1550 : R 0 0 (lg_cmp (mL h 6 7) 0) := rf_eq f_1549 c_1542
      exact hp _ ok
set_option maxRecDepth 100000 in
set_option maxHeartbeats 4000000 in
theorem s_X0_climb_L {g : gT} {h0 : mh_T} {P : mh_T → Prop} (hG0 : GI h0) (hp : ∀ h', Ok [6, 29, 30] h0 h' → P h') : ∀ n : Nat, (∀ (l1 : Int32) (l2 : Int32) (h : mh_T), Ok [6, 29, 30] h0 h → R 32 33 l1 → R 0 2147483647 l2 → 1 * gap 1000000 l2 + 0 < n → ME g uX0_climb 2 [.ref 6, .int l1, .int l2, .retAddr 0, .retAddr 0] [] h (qV P)) := by
  intro n
  induction n with
  | zero =>
    exact (fun _ _ _ _ _ _ hm => absurd hm (Nat.not_lt_zero _))
  | succ n ih =>
    intro l1 l2 h  ok fl1 fl2     hm
    refine r_X0_climb_2 l1 l2  ?_
    refine ⟨fun c_1137 => ?_, fun c_1137 => ?_⟩
    · have f_1138 : R 1000000 1000000 1000000 := ⟨by decide, by decide⟩
      have f_1139 : R 1000000 2147483647 l2 := rf_le_r f_1138 fl2 c_1137 1000000 (by decide)
      exact hp _ ok
    · have f_1140 : R 1000000 1000000 1000000 := ⟨by decide, by decide⟩
      have f_1141 : R 0 999999 l2 := rf_lt_l fl2 f_1140 (nle c_1137) 999999 (by decide)
      refine s_X0_entering l1 ok.1 (R_w fl1 (by decide)) (fun r3 f_1142 => ?_)
      refine ⟨fun c_1143 => ?_, fun c_1143 => ?_⟩
      · have f_1144 : R 0 0 0 := ⟨by decide, by decide⟩
        have f_1145 : R 0 63 r3 := rf_le_r f_1144 f_1142 c_1143 0 (by decide)
        refine s_X0_leaving r3 ok.1 (R_w f_1145 (by decide)) (fun r6 f_1146 => ?_)
        refine ⟨fun c_1147 => ?_, fun c_1147 => ?_⟩
        · have f_1148 : R 0 0 0 := ⟨by decide, by decide⟩
          have f_1149 : R 0 31 r6 := rf_le_r f_1148 f_1146 c_1147 0 (by decide)
          refine s_X0_pivot r6 r3 l1 ok.1 (R_w f_1149 (by decide)) (R_w f_1145 (by decide)) (fun h8 ko_1150 => ?_)
          have ok_1151 := Ok_tr ok ko_1150 (by decide)
          have f_1153 : R 1 1 1 := ⟨by decide, by decide⟩
          have f_1152 : R 1 1000000 (l2 + 1) := R_add f_1141 f_1153 1 1000000 (by decide)
          have g_1154 := gap_inc (N := 1000000) f_1141 (by decide)
          exact ih l1 (l2 + 1) h8  ok_1151 (R_w fl1 (by decide)) (R_w f_1152 (by decide)) (by omega)
        · have f_1155 : R 0 0 0 := ⟨by decide, by decide⟩
          have f_1156 : R (-1) (-1) r6 := rf_lt_l f_1146 f_1155 (nle c_1147) (-1) (by decide)
          exact hp _ ok
      · have f_1157 : R 0 0 0 := ⟨by decide, by decide⟩
        have f_1158 : R (-1) (-1) r3 := rf_lt_l f_1142 f_1157 (nle c_1143) (-1) (by decide)
        exact hp _ ok
set_option maxRecDepth 100000 in
set_option maxHeartbeats 4000000 in
theorem s_X0_climb {g : gT} {h : mh_T} {P : mh_T → Prop} (l1 : Int32) (hG : GI h) (fl1 : R 32 33 l1) (hp : ∀ h', Ok [6, 29, 30] h h' → P h') : MCv g yX0_climb uX0_climb [.ref 6, .int l1] h P := by
  have ok : Ok [6, 29, 30] h h := Ok_rf hG
  have L0 := s_X0_climb_L (g := g) hG hp 1000001
  refine e_X0_climb l1  ?_
  have f_1159 : R 0 0 0 := ⟨by decide, by decide⟩
  have f_1160 : R 0 0 0 := ⟨by decide, by decide⟩
  have g_1161 := gap_le (N := 1000000) f_1160 (m := 1000000) (by decide)
  exact L0 l1 0 h  ok (R_w fl1 (by decide)) (R_w f_1159 (by decide)) (by omega)
set_option maxRecDepth 100000 in
set_option maxHeartbeats 4000000 in
theorem s_X0_solve_L {g : gT} {h0 : mh_T} {P : mh_T → Prop} (hG0 : GI h0) (hp : ∀ h', Ok [6, 29, 30] h0 h' → P h') : ∀ n : Nat, (∀ (l1 : Int32) (h : mh_T), Ok [6, 29, 30] h0 h → R 0 64 l1 → 1 * gap 64 l1 + 0 < n → ME g uX0_solve 36 [.ref 6, .int l1] [] h (qV P)) := by
  intro n
  induction n with
  | zero =>
    exact (fun _ _ _ _ hm => absurd hm (Nat.not_lt_zero _))
  | succ n ih =>
    intro l1 h  ok fl1     hm
    refine r_X0_solve_36 l1  ?_
    refine ⟨fun c_679 => ?_, fun c_679 => ?_⟩
    · have f_680 : R 0 64 (mI h 6 6) := GI_rd ok.1 6 _ (by decide)
      refine ⟨vin f_680 (by decide), ?_⟩
      have ok_681 := Ok_wL ok (k := (62 + (Int32.toNatClampNeg 32))) (j := (mI h 6 6).toNatClampNeg) (v := 0) (Or.inr (ge_22 (shp_62 _ (by decide))))
      have ok_682 := Ok_wL ok_681 (k := 6) (j := 7) (v := 1) (by decide)
      have f_683 : R 32 32 32 := ⟨by decide, by decide⟩
      refine s_X0_climb 32 ok_682.1 (R_w f_683 (by decide)) (fun h3 ko_684 => ?_)
      have ok_685 := Ok_tr ok_682 ko_684 (by decide)
      exact hp _ ok_685
    · have f_686 : R 0 64 (mI h 6 6) := GI_rd ok.1 6 _ (by decide)
      have f_687 : R 0 63 l1 := rf_lt_l fl1 f_686 (nle c_679) 63 (by decide)
      have f_688 : R 1 64 (mI h 6 6) := rf_lt_r fl1 f_686 (nle c_679) 1 (by decide)
      refine ⟨vin f_687 (by decide), ?_⟩
      have f_690 : R 1 1 1 := ⟨by decide, by decide⟩
      have f_689 : R 1 64 (l1 + 1) := R_add f_687 f_690 1 64 (by decide)
      have ok_691 := Ok_wL ok (k := (62 + (Int32.toNatClampNeg 32))) (j := l1.toNatClampNeg) (v := (-1)) (Or.inr (ge_22 (shp_62 _ (by decide))))
      have g_692 := gap_inc (N := 64) f_687 (by decide)
      exact ih (l1 + 1) (wL h (62 + (Int32.toNatClampNeg 32)) l1.toNatClampNeg (-1))  ok_691 (R_w f_689 (by decide)) (by omega)
set_option maxRecDepth 100000 in
set_option maxHeartbeats 4000000 in
theorem s_X0_solve {g : gT} {h : mh_T} {P : mh_T → Prop}  (hG : GI h)  (hp : ∀ h', Ok [6, 29, 30] h h' → P h') : MCv g yX0_solve uX0_solve [.ref 6] h P := by
  have ok : Ok [6, 29, 30] h h := Ok_rf hG
  have L0 := s_X0_solve_L (g := g) hG hp 65
  refine e_X0_solve   ?_
  refine ⟨fun c_693 => ?_, fun c_693 => ?_⟩
  · have f_694 : R (-2147483648) 2147483647 (mI h 6 8) := R_full _
    have f_695 : R (-2147483648) 2147483647 (mI h 3 3) := R_full _
    have ok_696 := Ok_w ok (k := 6) (j := 8) (v := (mI h 3 3)) (lo := (-2147483648)) (hi := 2147483647) (by decide) f_695 (by decide) (by decide)
    refine s_X0_nameColumns ok_696.1 (fun h2 ko_697 => ?_)
    have ok_698 := Ok_tr ok_696 ko_697 (by decide)
    refine s_X0_fillRows ok_698.1 (fun h3 ko_699 => ?_)
    have ok_700 := Ok_tr ok_698 ko_699 (by decide)
    have f_701 : R 0 0 0 := ⟨by decide, by decide⟩
    have f_702 : R 0 0 0 := ⟨by decide, by decide⟩
    have g_703 := gap_le (N := 64) f_702 (m := 64) (by decide)
    exact L0 0 h3  ok_700 (R_w f_701 (by decide)) (by omega)
  · have f_704 : R (-2147483648) 2147483647 (mI h 6 8) := R_full _
    have f_705 : R (-2147483648) 2147483647 (mI h 3 3) := R_full _
    exact hp _ ok
set_option maxRecDepth 100000 in
set_option maxHeartbeats 4000000 in
theorem s_X0_findShare {g : gT} {h : mh_T} {P : mh_T → Prop}  (hG : GI h)  (hp : ∀ h', Ok [5, 6, 29, 30] h h' → P h') : MCv g yX0_findShare uX0_findShare [.ref 6] h P := by
  have ok : Ok [5, 6, 29, 30] h h := Ok_rf hG
  refine e_X0_findShare   ?_
  refine ⟨fun c_15 => ?_, fun c_15 => ?_⟩
  · have f_16 : R 0 8 (mI h 3 2) := GI_rd ok.1 3 _ (by decide)
    have f_17 : R 0 0 0 := ⟨by decide, by decide⟩
    have f_18 : R 1 8 (mI h 3 2) := rf_ne_lo f_16 c_15 (by decide) 1 rfl
    refine s_X0_solve ok.1 (fun h2 ko_19 => ?_)
    have ok_20 := Ok_tr ok ko_19 (by decide)
    have f_21 : R 0 64 (mI h2 6 6) := GI_rd ok_20.1 6 _ (by decide)
    refine ⟨vin f_21 (by decide), ?_⟩
    refine s_X2_set (mL h2 (62 + (Int32.toNatClampNeg 32)) (mI h2 6 6).toNatClampNeg) ((mL h2 6 7) * (Int32.toInt64 (mI h2 3 0))) ok_20.1 (fun h4 ko_22 => ?_)
    have ok_23 := Ok_tr ok_20 ko_22 (by decide)
    exact hp _ ok_23
  · have f_24 : R 0 8 (mI h 3 2) := GI_rd ok.1 3 _ (by decide)
    have f_25 : R 0 0 0 := ⟨by decide, by decide⟩
    have f_26 : R 0 0 (mI h 3 2) := rf_eq f_25 c_15
    refine s_X2_set 1 1 ok.1 (fun h5 ko_27 => ?_)
    have ok_28 := Ok_tr ok ko_27 (by decide)
    exact hp _ ok_28
set_option maxRecDepth 100000 in
set_option maxHeartbeats 4000000 in
theorem s_X0_isMixed {g : gT} {h : mh_T} {P : Int32 → mh_T → Prop}  (hG : GI h)  (hp : ∀ (r : Int32) h', Ok [6, 29, 30] h h' → R 0 1 r → P r h') : MCi g yX0_isMixed uX0_isMixed [.ref 6] h P := by
  have ok : Ok [6, 29, 30] h h := Ok_rf hG
  refine e_X0_isMixed   ?_
  refine ⟨fun c_20 => ?_, fun c_20 => ?_⟩
  · have f_21 : R 0 8 (mI h 3 2) := GI_rd ok.1 3 _ (by decide)
    have f_22 : R 0 0 0 := ⟨by decide, by decide⟩
    have f_23 : R 1 8 (mI h 3 2) := rf_ne_lo f_21 c_20 (by decide) 1 rfl
    refine s_X0_solve ok.1 (fun h2 ko_24 => ?_)
    have ok_25 := Ok_tr ok ko_24 (by decide)
    have f_26 : R 0 64 (mI h2 6 6) := GI_rd ok_25.1 6 _ (by decide)
    refine ⟨vin f_26 (by decide), ?_⟩
    refine ⟨fun c_27 => ?_, fun c_27 => ?_⟩
    · have f_28 : R (-2147483648) 2147483647 (lg_cmp (mL h2 (62 + (Int32.toNatClampNeg 32)) (mI h2 6 6).toNatClampNeg) ((mL h2 6 7) * (Int32.toInt64 (mI h2 3 0)))) := R_full _
      have f_29 : R 0 0 0 := ⟨by decide, by decide⟩
      have f_30 : R 0 0 0 := ⟨by decide, by decide⟩
      exact hp _ _ ok_25 (R_w f_30 (by decide))
    · have f_31 : R (-2147483648) 2147483647 (lg_cmp (mL h2 (62 + (Int32.toNatClampNeg 32)) (mI h2 6 6).toNatClampNeg) ((mL h2 6 7) * (Int32.toInt64 (mI h2 3 0)))) := R_full _
      have f_32 : R 0 0 0 := ⟨by decide, by decide⟩
      have f_33 : R 0 0 (lg_cmp (mL h2 (62 + (Int32.toNatClampNeg 32)) (mI h2 6 6).toNatClampNeg) ((mL h2 6 7) * (Int32.toInt64 (mI h2 3 0)))) := rf_eq f_32 c_27
      have f_34 : R 1 1 1 := ⟨by decide, by decide⟩
      exact hp _ _ ok_25 (R_w f_34 (by decide))
  · have f_35 : R 0 8 (mI h 3 2) := GI_rd ok.1 3 _ (by decide)
    have f_36 : R 0 0 0 := ⟨by decide, by decide⟩
    have f_37 : R 0 0 (mI h 3 2) := rf_eq f_36 c_20
    have f_38 : R 1 1 1 := ⟨by decide, by decide⟩
    exact hp _ _ ok (R_w f_38 (by decide))
set_option maxRecDepth 100000 in
set_option maxHeartbeats 4000000 in
theorem s_X0_isMeant {g : gT} {h : mh_T} {P : Int32 → mh_T → Prop} (l0 : Int32) (l1 : Int32) (l2 : Int32) (hG : GI h)  (hp : ∀ r : Int32, R 0 1 r → P r h) : MCi g yX0_isMeant uX0_isMeant [.int l0, .int l1, .int l2] h P := by
  have ok : Ok [] h h := Ok_rf hG
  refine e_X0_isMeant l0 l1 l2  ?_
  refine ⟨fun c_12 => ?_, fun c_12 => ?_⟩
  · have f_13 : R 64 64 64 := ⟨by decide, by decide⟩
    have f_14 : R 64 2147483647 l0 := rf_le_r f_13 (R_full l0) c_12 64 (by decide)
    have f_15 : R 0 0 0 := ⟨by decide, by decide⟩
    exact hp _ (R_w f_15 (by decide))
  · have f_16 : R 64 64 64 := ⟨by decide, by decide⟩
    have f_17 : R (-2147483648) 63 l0 := rf_lt_l (R_full l0) f_16 (nle c_12) 63 (by decide)
    refine ⟨fun c_18 => ?_, fun c_18 => ?_⟩
    · have f_19 : R (-2147483648) 2147483647 (l0 &&& l1) := R_full _
      have f_20 : R 0 0 0 := ⟨by decide, by decide⟩
      exact hp _ (R_w f_20 (by decide))
    · have f_21 : R (-2147483648) 2147483647 (l0 &&& l1) := R_full _
      have f_22 : R 1 1 1 := ⟨by decide, by decide⟩
      exact hp _ (R_w f_22 (by decide))
set_option maxRecDepth 100000 in
set_option maxHeartbeats 4000000 in
theorem s_X0_aim_L {g : gT} {h0 : mh_T} {P : mh_T → Prop} (hG0 : GI h0) (hp : ∀ h', Ok [] h0 h' → P h') : ∀ n : Nat, (∀ (l1 : Int32) (l2 : Int32) (l3 : Int32) (l4 : Int32) (h : mh_T), Ok [] h0 h → R (-2147483648) 2147483647 l1 → R (-2147483648) 2147483647 l2 → R (-2147483648) 2147483647 l3 → R 0 65 l4 → 34 * gap 65 l4 + 33 < n → ME g uX0_aim 3 [.ref 6, .int l1, .int l2, .int l3, .int l4, .retAddr 0, .retAddr 0, .retAddr 0] [] h (qV P)) ∧ (∀ (l1 : Int32) (l2 : Int32) (l3 : Int32) (l4 : Int32) (l5 : Int64) (l7 : Int32) (h : mh_T), Ok [] h0 h → R (-2147483648) 2147483647 l1 → R (-2147483648) 2147483647 l2 → R (-2147483648) 2147483647 l3 → R 0 64 l4 → R 0 32 l7 → 1 * gap 32 l7 + 34 * gap 65 l4 + 0 < n → ME g uX0_aim 18 [.ref 6, .int l1, .int l2, .int l3, .int l4, .long l5, .retAddr 0, .int l7] [] h (qV P)) := by
  intro n
  induction n with
  | zero =>
    exact ⟨(fun _ _ _ _ _ _ _ _ _ _ hm => absurd hm (Nat.not_lt_zero _)), (fun _ _ _ _ _ _ _ _ _ _ _ _ _ hm => absurd hm (Nat.not_lt_zero _))⟩
  | succ n ih =>
    refine ⟨?_, ?_⟩
    · intro l1 l2 l3 l4 h  ok fl1 fl2 fl3 fl4     hm
      refine r_X0_aim_3 l1 l2 l3 l4  ?_
      refine ⟨fun c_2269 => ?_, fun c_2269 => ?_⟩
      · have f_2270 : R 0 64 (mI h 6 6) := GI_rd ok.1 6 _ (by decide)
        have f_2271 : R 1 65 l4 := rf_lt_r f_2270 fl4 c_2269 1 (by decide)
        exact hp _ ok
      · have f_2272 : R 0 64 (mI h 6 6) := GI_rd ok.1 6 _ (by decide)
        have f_2273 : R 0 64 l4 := rf_le_l fl4 f_2272 (nlt c_2269) 64 (by decide)
        have f_2274 : R 0 0 0 := ⟨by decide, by decide⟩
        have f_2275 : R 0 0 0 := ⟨by decide, by decide⟩
        have g_2276 := gap_le (N := 32) f_2275 (m := 32) (by decide)
        exact (ih.2) l1 l2 l3 l4 0 0 h  ok (R_w fl1 (by decide)) (R_w fl2 (by decide)) (R_w fl3 (by decide)) (R_w f_2273 (by decide)) (R_w f_2274 (by decide)) (by omega)
    · intro l1 l2 l3 l4 l5 l7 h  ok fl1 fl2 fl3 fl4 fl7     hm
      refine r_X0_aim_18 l1 l2 l3 l4 l5 l7  ?_
      refine ⟨fun c_2277 => ?_, fun c_2277 => ?_⟩
      · have f_2278 : R 0 32 (mI h 6 5) := GI_rd ok.1 6 _ (by decide)
        refine ⟨fun c_2279 => ?_, fun c_2279 => ?_⟩
        · have f_2280 : R 0 64 (mI h 6 6) := GI_rd ok.1 6 _ (by decide)
          refine ⟨vin fl4 (by decide), ?_⟩
          have f_2282 : R 1 1 1 := ⟨by decide, by decide⟩
          have f_2281 : R 1 65 (l4 + 1) := R_add fl4 f_2282 1 65 (by decide)
          have ok_2283 := Ok_wL ok (k := (62 + (Int32.toNatClampNeg 33))) (j := l4.toNatClampNeg) (v := ((Int32.toInt64 l3) * l5)) (Or.inr (ge_22 (shp_62 _ (by decide))))
          have g_2284 := gap_inc (N := 65) fl4 (by decide)
          exact (ih.1) l1 l2 l3 (l4 + 1) (wL h (62 + (Int32.toNatClampNeg 33)) l4.toNatClampNeg ((Int32.toInt64 l3) * l5))  ok_2283 (R_w fl1 (by decide)) (R_w fl2 (by decide)) (R_w fl3 (by decide)) (R_w f_2281 (by decide)) (by omega)
        · have f_2285 : R 0 64 (mI h 6 6) := GI_rd ok.1 6 _ (by decide)
          have f_2286 : R 0 63 l4 := rf_lt_l fl4 f_2285 (nle c_2279) 63 (by decide)
          have f_2287 : R 1 64 (mI h 6 6) := rf_lt_r fl4 f_2285 (nle c_2279) 1 (by decide)
          refine ⟨vin f_2286 (by decide), ?_⟩
          refine s_X0_isMeant (mI h 30 l4.toNatClampNeg) l1 l2 ok.1 (fun r6 f_2288 => ?_)
          refine ⟨fun c_2289 => ?_, fun c_2289 => ?_⟩
          · have f_2290 : R 0 0 0 := ⟨by decide, by decide⟩
            have f_2291 : R 0 0 r6 := rf_eq f_2290 c_2289
            refine ⟨vin f_2286 (by decide), ?_⟩
            have f_2293 : R 1 1 1 := ⟨by decide, by decide⟩
            have f_2292 : R 1 64 (l4 + 1) := R_add f_2286 f_2293 1 64 (by decide)
            have ok_2294 := Ok_wL ok (k := (62 + (Int32.toNatClampNeg 33))) (j := l4.toNatClampNeg) (v := ((Int32.toInt64 l3) * l5)) (Or.inr (ge_22 (shp_62 _ (by decide))))
            have g_2295 := gap_inc (N := 65) f_2286 (by decide)
            exact (ih.1) l1 l2 l3 (l4 + 1) (wL h (62 + (Int32.toNatClampNeg 33)) l4.toNatClampNeg ((Int32.toInt64 l3) * l5))  ok_2294 (R_w fl1 (by decide)) (R_w fl2 (by decide)) (R_w fl3 (by decide)) (R_w f_2292 (by decide)) (by omega)
          · have f_2296 : R 0 0 0 := ⟨by decide, by decide⟩
            have f_2297 : R 1 1 r6 := rf_ne_lo f_2288 c_2289 (by decide) 1 rfl
            intro x9 ex9
            refine ⟨vin f_2286 (by decide), ?_⟩
            have f_2299 : R 1 1 1 := ⟨by decide, by decide⟩
            have f_2298 : R 1 64 (l4 + 1) := R_add f_2286 f_2299 1 64 (by decide)
            have ok_2300 := Ok_wL ok (k := (62 + (Int32.toNatClampNeg 33))) (j := l4.toNatClampNeg) (v := ((Int32.toInt64 l3) * x9)) (Or.inr (ge_22 (shp_62 _ (by decide))))
            have g_2301 := gap_inc (N := 65) f_2286 (by decide)
            exact (ih.1) l1 l2 l3 (l4 + 1) (wL h (62 + (Int32.toNatClampNeg 33)) l4.toNatClampNeg ((Int32.toInt64 l3) * x9))  ok_2300 (R_w fl1 (by decide)) (R_w fl2 (by decide)) (R_w fl3 (by decide)) (R_w f_2298 (by decide)) (by omega)
      · have f_2302 : R 0 32 (mI h 6 5) := GI_rd ok.1 6 _ (by decide)
        have f_2303 : R 0 31 l7 := rf_lt_l fl7 f_2302 (nle c_2277) 31 (by decide)
        have f_2304 : R 1 32 (mI h 6 5) := rf_lt_r fl7 f_2302 (nle c_2277) 1 (by decide)
        refine ⟨vin f_2303 (by decide), ?_⟩
        refine s_X0_isMeant (mI h 29 l7.toNatClampNeg) l1 l2 ok.1 (fun r13 f_2305 => ?_)
        refine ⟨fun c_2306 => ?_, fun c_2306 => ?_⟩
        · have f_2307 : R 0 0 0 := ⟨by decide, by decide⟩
          have f_2308 : R 0 0 r13 := rf_eq f_2307 c_2306
          have f_2310 : R 1 1 1 := ⟨by decide, by decide⟩
          have f_2309 : R 1 32 (l7 + 1) := R_add f_2303 f_2310 1 32 (by decide)
          have g_2311 := gap_inc (N := 32) f_2303 (by decide)
          exact (ih.2) l1 l2 l3 l4 l5 (l7 + 1) h  ok (R_w fl1 (by decide)) (R_w fl2 (by decide)) (R_w fl3 (by decide)) (R_w fl4 (by decide)) (R_w f_2309 (by decide)) (by omega)
        · have f_2312 : R 0 0 0 := ⟨by decide, by decide⟩
          have f_2313 : R 1 1 r13 := rf_ne_lo f_2305 c_2306 (by decide) 1 rfl
          refine ⟨vin f_2303 (by decide), ?_⟩
          refine ⟨vin fl4 (by decide), ?_⟩
          intro x17 ex17
          have f_2315 : R 1 1 1 := ⟨by decide, by decide⟩
          have f_2314 : R 1 32 (l7 + 1) := R_add f_2303 f_2315 1 32 (by decide)
          have g_2316 := gap_inc (N := 32) f_2303 (by decide)
          exact (ih.2) l1 l2 l3 l4 x17 (l7 + 1) h  ok (R_w fl1 (by decide)) (R_w fl2 (by decide)) (R_w fl3 (by decide)) (R_w fl4 (by decide)) (R_w f_2314 (by decide)) (by omega)
set_option maxRecDepth 100000 in
set_option maxHeartbeats 4000000 in
theorem s_X0_aim {g : gT} {h : mh_T} {P : mh_T → Prop} (l1 : Int32) (l2 : Int32) (l3 : Int32) (hG : GI h)  (hp : ∀ h', Ok [] h h' → P h') : MCv g yX0_aim uX0_aim [.ref 6, .int l1, .int l2, .int l3] h P := by
  have ok : Ok [] h h := Ok_rf hG
  have L0 := s_X0_aim_L (g := g) hG hp 2244
  refine e_X0_aim l1 l2 l3  ?_
  have f_2317 : R 0 0 0 := ⟨by decide, by decide⟩
  have f_2318 : R 0 0 0 := ⟨by decide, by decide⟩
  have g_2319 := gap_le (N := 65) f_2318 (m := 65) (by decide)
  exact (L0.1) l1 l2 l3 0 h  ok (R_w (R_full l1) (by decide)) (R_w (R_full l2) (by decide)) (R_w (R_full l3) (by decide)) (R_w f_2317 (by decide)) (by omega)
set_option maxRecDepth 100000 in
set_option maxHeartbeats 4000000 in
theorem s_X0_findTogether {g : gT} {h : mh_T} {P : mh_T → Prop} (l1 : Int32) (l2 : Int32) (l3 : Int32) (hG : GI h)  (hp : ∀ h', Ok [5, 6, 29, 30] h h' → P h') : MCv g yX0_findTogether uX0_findTogether [.ref 6, .int l1, .int l2, .int l3] h P := by
  have ok : Ok [5, 6, 29, 30] h h := Ok_rf hG
  refine e_X0_findTogether l1 l2 l3  ?_
  refine ⟨fun c_38 => ?_, fun c_38 => ?_⟩
  · have f_39 : R 0 8 (mI h 3 2) := GI_rd ok.1 3 _ (by decide)
    have f_40 : R 0 0 0 := ⟨by decide, by decide⟩
    have f_41 : R 1 8 (mI h 3 2) := rf_ne_lo f_39 c_38 (by decide) 1 rfl
    refine s_X0_solve ok.1 (fun h2 ko_42 => ?_)
    have ok_43 := Ok_tr ok ko_42 (by decide)
    refine ⟨fun c_44 => ?_, fun c_44 => ?_⟩
    · have f_45 : R 0 0 0 := ⟨by decide, by decide⟩
      have f_46 : R 0 0 l3 := rf_eq f_45 c_44
      refine s_X0_aim l1 l2 (-1) ok_43.1 (fun h4 ko_47 => ?_)
      have ok_48 := Ok_tr ok_43 ko_47 (by decide)
      have f_49 : R 33 33 33 := ⟨by decide, by decide⟩
      refine s_X0_climb 33 ok_48.1 (R_w f_49 (by decide)) (fun h5 ko_50 => ?_)
      have ok_51 := Ok_tr ok_48 ko_50 (by decide)
      have f_52 : R 0 64 (mI h5 6 6) := GI_rd ok_51.1 6 _ (by decide)
      refine ⟨vin f_52 (by decide), ?_⟩
      refine s_X2_set ((Int32.toInt64 (-1)) * (mL h5 (62 + (Int32.toNatClampNeg 33)) (mI h5 6 6).toNatClampNeg)) ((mL h5 6 7) * (Int32.toInt64 (mI h5 3 0))) ok_51.1 (fun h7 ko_53 => ?_)
      have ok_54 := Ok_tr ok_51 ko_53 (by decide)
      exact hp _ ok_54
    · have f_55 : R 0 0 0 := ⟨by decide, by decide⟩
      refine s_X0_aim l1 l2 1 ok_43.1 (fun h8 ko_56 => ?_)
      have ok_57 := Ok_tr ok_43 ko_56 (by decide)
      have f_58 : R 33 33 33 := ⟨by decide, by decide⟩
      refine s_X0_climb 33 ok_57.1 (R_w f_58 (by decide)) (fun h9 ko_59 => ?_)
      have ok_60 := Ok_tr ok_57 ko_59 (by decide)
      have f_61 : R 0 64 (mI h9 6 6) := GI_rd ok_60.1 6 _ (by decide)
      refine ⟨vin f_61 (by decide), ?_⟩
      refine s_X2_set ((Int32.toInt64 1) * (mL h9 (62 + (Int32.toNatClampNeg 33)) (mI h9 6 6).toNatClampNeg)) ((mL h9 6 7) * (Int32.toInt64 (mI h9 3 0))) ok_60.1 (fun h11 ko_62 => ?_)
      have ok_63 := Ok_tr ok_60 ko_62 (by decide)
      exact hp _ ok_63
  · have f_64 : R 0 8 (mI h 3 2) := GI_rd ok.1 3 _ (by decide)
    have f_65 : R 0 0 0 := ⟨by decide, by decide⟩
    have f_66 : R 0 0 (mI h 3 2) := rf_eq f_65 c_38
    refine ⟨fun c_67 => ?_, fun c_67 => ?_⟩
    · have f_68 : R 0 0 0 := ⟨by decide, by decide⟩
      have f_69 : R 0 0 l3 := rf_eq f_68 c_67
      refine s_X2_set 0 1 ok.1 (fun h13 ko_70 => ?_)
      have ok_71 := Ok_tr ok ko_70 (by decide)
      exact hp _ ok_71
    · have f_72 : R 0 0 0 := ⟨by decide, by decide⟩
      refine s_X2_set 1 1 ok.1 (fun h14 ko_73 => ?_)
      have ok_74 := Ok_tr ok ko_73 (by decide)
      exact hp _ ok_74
set_option maxRecDepth 100000 in
set_option maxHeartbeats 4000000 in
theorem s_X2_part {g : gT} {h : mh_T} {P : Int32 → mh_T → Prop} (l1 : Int32) (hG : GI h)  (hp : ∀ r : Int32, P r h) : MCi g yX2_part uX2_part [.ref 5, .int l1] h P := by
  have ok : Ok [] h h := Ok_rf hG
  refine e_X2_part l1  ?_
  refine ⟨fun c_7 => ?_, fun c_7 => ?_⟩
  · have f_8 : R 0 0 0 := ⟨by decide, by decide⟩
    have f_9 : R 0 0 l1 := rf_eq f_8 c_7
    have f_10 : R (-2147483648) 2147483647 (Int64.toInt32 (mL h 5 0)) := R_full _
    exact hp _ 
  · have f_11 : R 0 0 0 := ⟨by decide, by decide⟩
    have f_12 : R (-2147483648) 2147483647 (Int64.toInt32 (mL h 5 1)) := R_full _
    exact hp _ 
set_option maxRecDepth 100000 in
set_option maxHeartbeats 4000000 in
theorem s_X3_findCornersOf_L {g : gT} {h0 : mh_T} {P : mh_T → Prop} (hG0 : GI h0) (hp : ∀ h', Ok [8, 33] h0 h' → P h') : ∀ n : Nat, (∀ (l1 : Int32) (l2 : Int32) (l3 : Int32) (l4 : Int32) (h : mh_T), Ok [8, 33] h0 h → R 0 17 l1 → R 0 17 l2 → R (-2147483648) 2147483647 l3 → R 1 18 l4 → 18 * gap 18 l4 + 17 < n → ME g uX3_findCornersOf 19 [.ref 8, .int l1, .int l2, .int l3, .int l4, .retAddr 0, .retAddr 0] [] h (qV P)) ∧ (∀ (l1 : Int32) (l2 : Int32) (l3 : Int32) (l4 : Int32) (l5 : Int32) (l6 : Int32) (h : mh_T), Ok [8, 33] h0 h → R 0 17 l1 → R 0 17 l2 → R (-2147483648) 2147483647 l3 → R 1 17 l4 → R (-2147483648) 2147483647 l5 → R 2 18 l6 → 1 * gap 18 l6 + 18 * gap 18 l4 + 0 < n → ME g uX3_findCornersOf 58 [.ref 8, .int l1, .int l2, .int l3, .int l4, .int l5, .int l6] [] h (qV P)) := by
  intro n
  induction n with
  | zero =>
    exact ⟨(fun _ _ _ _ _ _ _ _ _ _ hm => absurd hm (Nat.not_lt_zero _)), (fun _ _ _ _ _ _ _ _ _ _ _ _ _ _ hm => absurd hm (Nat.not_lt_zero _))⟩
  | succ n ih =>
    refine ⟨?_, ?_⟩
    · intro l1 l2 l3 l4 h  ok fl1 fl2 fl3 fl4     hm
      refine r_X3_findCornersOf_19 l1 l2 l3 l4  ?_
      refine ⟨fun c_100 => ?_, fun c_100 => ?_⟩
      · have f_101 : R 0 18 (mI h 8 0) := GI_rd ok.1 8 _ (by decide)
        exact hp _ ok
      · have f_102 : R 0 18 (mI h 8 0) := GI_rd ok.1 8 _ (by decide)
        have f_103 : R 1 17 l4 := rf_lt_l fl4 f_102 (nle c_100) 17 (by decide)
        have f_104 : R 2 18 (mI h 8 0) := rf_lt_r fl4 f_102 (nle c_100) 2 (by decide)
        refine ⟨fun c_105 => ?_, fun c_105 => ?_⟩
        · have f_107 : R 1 1 1 := ⟨by decide, by decide⟩
          have f_106 : R 0 1 ((l3 >>> (l4 &&& 31)) &&& 1) := R_and f_107 (by decide)
          have f_108 : R 0 0 0 := ⟨by decide, by decide⟩
          have f_109 : R 0 0 ((l3 >>> (l4 &&& 31)) &&& 1) := rf_eq f_108 c_105
          intro x3 ex3
          have f_111 : R 1 1 1 := ⟨by decide, by decide⟩
          have f_110 : R 2 18 (l4 + 1) := R_add f_103 f_111 2 18 (by decide)
          have f_112 : R 2 18 x3 := rf_eq f_110 ex3
          have f_113 : R 0 0 0 := ⟨by decide, by decide⟩
          have g_114 := gap_le (N := 18) f_112 (m := 16) (by decide)
          exact (ih.2) l1 l2 l3 l4 0 x3 h  ok (R_w fl1 (by decide)) (R_w fl2 (by decide)) (R_w fl3 (by decide)) (R_w f_103 (by decide)) (R_w f_113 (by decide)) (R_w f_112 (by decide)) (by omega)
        · have f_116 : R 1 1 1 := ⟨by decide, by decide⟩
          have f_115 : R 0 1 ((l3 >>> (l4 &&& 31)) &&& 1) := R_and f_116 (by decide)
          have f_117 : R 0 0 0 := ⟨by decide, by decide⟩
          have f_118 : R 1 1 ((l3 >>> (l4 &&& 31)) &&& 1) := rf_ne_lo f_115 c_105 (by decide) 1 rfl
          refine ⟨vin f_103 (by decide), ?_⟩
          intro x5 ex5
          have f_120 : R (-2147483648) 2147483647 (mI h 32 l4.toNatClampNeg) := R_full _
          have f_119 : R (-2147483648) 2147483647 (l3 &&& (mI h 32 l4.toNatClampNeg)) := R_full _
          have f_121 : R (-2147483648) 2147483647 x5 := rf_eq f_119 ex5
          intro x6 ex6
          have f_123 : R 1 1 1 := ⟨by decide, by decide⟩
          have f_122 : R 2 18 (l4 + 1) := R_add f_103 f_123 2 18 (by decide)
          have f_124 : R 2 18 x6 := rf_eq f_122 ex6
          have g_125 := gap_le (N := 18) f_124 (m := 16) (by decide)
          exact (ih.2) l1 l2 l3 l4 x5 x6 h  ok (R_w fl1 (by decide)) (R_w fl2 (by decide)) (R_w fl3 (by decide)) (R_w f_103 (by decide)) (R_w f_121 (by decide)) (R_w f_124 (by decide)) (by omega)
    · intro l1 l2 l3 l4 l5 l6 h  ok fl1 fl2 fl3 fl4 fl5 fl6     hm
      refine r_X3_findCornersOf_58 l1 l2 l3 l4 l5 l6  ?_
      refine ⟨fun c_126 => ?_, fun c_126 => ?_⟩
      · have f_127 : R 0 18 (mI h 8 0) := GI_rd ok.1 8 _ (by decide)
        have f_129 : R 1 1 1 := ⟨by decide, by decide⟩
        have f_128 : R 2 18 (l4 + 1) := R_add fl4 f_129 2 18 (by decide)
        have g_130 := gap_inc (N := 18) fl4 (by decide)
        exact (ih.1) l1 l2 l3 (l4 + 1) h  ok (R_w fl1 (by decide)) (R_w fl2 (by decide)) (R_w fl3 (by decide)) (R_w f_128 (by decide)) (by omega)
      · have f_131 : R 0 18 (mI h 8 0) := GI_rd ok.1 8 _ (by decide)
        have f_132 : R 2 17 l6 := rf_lt_l fl6 f_131 (nle c_126) 17 (by decide)
        have f_133 : R 3 18 (mI h 8 0) := rf_lt_r fl6 f_131 (nle c_126) 3 (by decide)
        refine ⟨fun c_134 => ?_, fun c_134 => ?_⟩
        · have f_136 : R 1 1 1 := ⟨by decide, by decide⟩
          have f_135 : R 0 1 ((l5 >>> (l6 &&& 31)) &&& 1) := R_and f_136 (by decide)
          have f_137 : R 0 0 0 := ⟨by decide, by decide⟩
          have f_138 : R 0 0 ((l5 >>> (l6 &&& 31)) &&& 1) := rf_eq f_137 c_134
          have f_140 : R 1 1 1 := ⟨by decide, by decide⟩
          have f_139 : R 3 18 (l6 + 1) := R_add f_132 f_140 3 18 (by decide)
          have g_141 := gap_inc (N := 18) f_132 (by decide)
          exact (ih.2) l1 l2 l3 l4 l5 (l6 + 1) h  ok (R_w fl1 (by decide)) (R_w fl2 (by decide)) (R_w fl3 (by decide)) (R_w fl4 (by decide)) (R_w fl5 (by decide)) (R_w f_139 (by decide)) (by omega)
        · have f_143 : R 1 1 1 := ⟨by decide, by decide⟩
          have f_142 : R 0 1 ((l5 >>> (l6 &&& 31)) &&& 1) := R_and f_143 (by decide)
          have f_144 : R 0 0 0 := ⟨by decide, by decide⟩
          have f_145 : R 1 1 ((l5 >>> (l6 &&& 31)) &&& 1) := rf_ne_lo f_142 c_134 (by decide) 1 rfl
          refine ⟨fun c_146 => ?_, fun c_146 => ?_⟩
          · have f_147 : R 0 400 (mI h 8 1) := GI_rd ok.1 8 _ (by decide)
            have f_148 : R 400 400 400 := ⟨by decide, by decide⟩
            have f_149 : R 400 400 (mI h 8 1) := rf_le_r f_148 f_147 c_146 400 (by decide)
            have f_151 : R 1 1 1 := ⟨by decide, by decide⟩
            have f_150 : R 3 18 (l6 + 1) := R_add f_132 f_151 3 18 (by decide)
            have g_152 := gap_inc (N := 18) f_132 (by decide)
            exact (ih.2) l1 l2 l3 l4 l5 (l6 + 1) h  ok (R_w fl1 (by decide)) (R_w fl2 (by decide)) (R_w fl3 (by decide)) (R_w fl4 (by decide)) (R_w fl5 (by decide)) (R_w f_150 (by decide)) (by omega)
          · have f_153 : R 0 400 (mI h 8 1) := GI_rd ok.1 8 _ (by decide)
            have f_154 : R 400 400 400 := ⟨by decide, by decide⟩
            have f_155 : R 0 399 (mI h 8 1) := rf_lt_l f_153 f_154 (nle c_146) 399 (by decide)
            have f_156 : R 400 400 400 := ⟨by decide, by decide⟩
            refine ⟨vin f_155 (by decide), ?_⟩
            have f_158 : R 1 1 1 := ⟨by decide, by decide⟩
            have f_157 : R 3 18 (l6 + 1) := R_add f_132 f_158 3 18 (by decide)
            have f_162 : R 1 131072 (1 <<< (l1 &&& 31)) := R_shl fl1 1 131072 0 17 (by decide)
            have f_163 : R 1 131072 (1 <<< (l2 &&& 31)) := R_shl fl2 1 131072 0 17 (by decide)
            have f_161 : R 0 262143 ((1 <<< (l1 &&& 31)) ||| (1 <<< (l2 &&& 31))) := R_or f_162 f_163 18 262143 (by decide)
            have f_164 : R 2 131072 (1 <<< (l4 &&& 31)) := R_shl fl4 2 131072 1 17 (by decide)
            have f_160 : R 0 262143 (((1 <<< (l1 &&& 31)) ||| (1 <<< (l2 &&& 31))) ||| (1 <<< (l4 &&& 31))) := R_or f_161 f_164 18 262143 (by decide)
            have f_165 : R 4 131072 (1 <<< (l6 &&& 31)) := R_shl f_132 4 131072 2 17 (by decide)
            have f_159 : R 0 262143 ((((1 <<< (l1 &&& 31)) ||| (1 <<< (l2 &&& 31))) ||| (1 <<< (l4 &&& 31))) ||| (1 <<< (l6 &&& 31))) := R_or f_160 f_165 18 262143 (by decide)
            have ok_166 := Ok_w ok (k := 33) (j := (mI h 8 1).toNatClampNeg) (v := ((((1 <<< (l1 &&& 31)) ||| (1 <<< (l2 &&& 31))) ||| (1 <<< (l4 &&& 31))) ||| (1 <<< (l6 &&& 31)))) (lo := 0) (hi := 262143) rfl f_159 (by decide) (nt_k (by decide))
            have f_169 : R 400 400 400 := ⟨by decide, by decide⟩
            have f_168 : R 0 399 (mI (wI h 33 (mI h 8 1).toNatClampNeg ((((1 <<< (l1 &&& 31)) ||| (1 <<< (l2 &&& 31))) ||| (1 <<< (l4 &&& 31))) ||| (1 <<< (l6 &&& 31)))) 8 1) := (rd_ne f_155 (by decide))
            have f_170 : R 1 1 1 := ⟨by decide, by decide⟩
            have f_167 : R 1 400 ((mI (wI h 33 (mI h 8 1).toNatClampNeg ((((1 <<< (l1 &&& 31)) ||| (1 <<< (l2 &&& 31))) ||| (1 <<< (l4 &&& 31))) ||| (1 <<< (l6 &&& 31)))) 8 1) + 1) := R_add f_168 f_170 1 400 (by decide)
            have ok_171 := Ok_w ok_166 (k := 8) (j := 1) (v := ((mI (wI h 33 (mI h 8 1).toNatClampNeg ((((1 <<< (l1 &&& 31)) ||| (1 <<< (l2 &&& 31))) ||| (1 <<< (l4 &&& 31))) ||| (1 <<< (l6 &&& 31)))) 8 1) + 1)) (lo := 0) (hi := 400) (by decide) (R_w f_167 (by decide)) (by decide) (by decide)
            have g_172 := gap_inc (N := 18) f_132 (by decide)
            exact (ih.2) l1 l2 l3 l4 l5 (l6 + 1) (wI (wI h 33 (mI h 8 1).toNatClampNeg ((((1 <<< (l1 &&& 31)) ||| (1 <<< (l2 &&& 31))) ||| (1 <<< (l4 &&& 31))) ||| (1 <<< (l6 &&& 31)))) 8 1 ((mI (wI h 33 (mI h 8 1).toNatClampNeg ((((1 <<< (l1 &&& 31)) ||| (1 <<< (l2 &&& 31))) ||| (1 <<< (l4 &&& 31))) ||| (1 <<< (l6 &&& 31)))) 8 1) + 1))  ok_171 (R_w fl1 (by decide)) (R_w fl2 (by decide)) (R_w fl3 (by decide)) (R_w fl4 (by decide)) (R_w fl5 (by decide)) (R_w f_157 (by decide)) (by omega)
set_option maxRecDepth 100000 in
set_option maxHeartbeats 4000000 in
theorem s_X3_findCornersOf {g : gT} {h : mh_T} {P : mh_T → Prop} (l1 : Int32) (l2 : Int32) (hG : GI h) (fl1 : R 0 17 l1) (fl2 : R 0 17 l2) (hp : ∀ h', Ok [8, 33] h h' → P h') : MCv g yX3_findCornersOf uX3_findCornersOf [.ref 8, .int l1, .int l2] h P := by
  have ok : Ok [8, 33] h h := Ok_rf hG
  have L0 := s_X3_findCornersOf_L (g := g) hG hp 324
  refine e_X3_findCornersOf l1 l2  ?_
  refine ⟨vin fl1 (by decide), ?_⟩
  refine ⟨vin fl2 (by decide), ?_⟩
  intro x3 ex3
  have f_174 : R (-2147483648) 2147483647 (mI h 32 l2.toNatClampNeg) := R_full _
  have f_175 : R (-2147483648) 2147483647 (mI h 32 l1.toNatClampNeg) := R_full _
  have f_173 : R (-2147483648) 2147483647 ((mI h 32 l1.toNatClampNeg) &&& (mI h 32 l2.toNatClampNeg)) := R_full _
  have f_176 : R (-2147483648) 2147483647 x3 := rf_eq f_173 ex3
  intro x4 ex4
  have f_178 : R 1 1 1 := ⟨by decide, by decide⟩
  have f_177 : R 1 18 (l2 + 1) := R_add fl2 f_178 1 18 (by decide)
  have f_179 : R 1 18 x4 := rf_eq f_177 ex4
  have g_180 := gap_le (N := 18) f_179 (m := 17) (by decide)
  exact (L0.1) l1 l2 x3 x4 h  ok (R_w fl1 (by decide)) (R_w fl2 (by decide)) (R_w f_176 (by decide)) (R_w f_179 (by decide)) (by omega)
set_option maxRecDepth 100000 in
set_option maxHeartbeats 4000000 in
theorem s_X3_findCorners_L {g : gT} {h0 : mh_T} {P : mh_T → Prop} (hG0 : GI h0) (hp : ∀ h', Ok [8, 33] h0 h' → P h') : ∀ n : Nat, (∀ (l1 : Int32) (h : mh_T), Ok [8, 33] h0 h → R 0 18 l1 → 19 * gap 18 l1 + 18 < n → ME g uX3_findCorners 7 [.ref 8, .int l1, .retAddr 0] [] h (qV P)) ∧ (∀ (l1 : Int32) (l2 : Int32) (h : mh_T), Ok [8, 33] h0 h → R 0 17 l1 → R 1 18 l2 → 1 * gap 18 l2 + 19 * gap 18 l1 + 0 < n → ME g uX3_findCorners 19 [.ref 8, .int l1, .int l2] [] h (qV P)) := by
  intro n
  induction n with
  | zero =>
    exact ⟨(fun _ _ _ _ hm => absurd hm (Nat.not_lt_zero _)), (fun _ _ _ _ _ _ hm => absurd hm (Nat.not_lt_zero _))⟩
  | succ n ih =>
    refine ⟨?_, ?_⟩
    · intro l1 h  ok fl1     hm
      refine r_X3_findCorners_7 l1  ?_
      refine ⟨fun c_879 => ?_, fun c_879 => ?_⟩
      · have f_880 : R 0 18 (mI h 8 0) := GI_rd ok.1 8 _ (by decide)
        exact hp _ ok
      · have f_881 : R 0 18 (mI h 8 0) := GI_rd ok.1 8 _ (by decide)
        have f_882 : R 0 17 l1 := rf_lt_l fl1 f_881 (nle c_879) 17 (by decide)
        have f_883 : R 1 18 (mI h 8 0) := rf_lt_r fl1 f_881 (nle c_879) 1 (by decide)
        intro x2 ex2
        have f_885 : R 1 1 1 := ⟨by decide, by decide⟩
        have f_884 : R 1 18 (l1 + 1) := R_add f_882 f_885 1 18 (by decide)
        have f_886 : R 1 18 x2 := rf_eq f_884 ex2
        have g_887 := gap_le (N := 18) f_886 (m := 17) (by decide)
        exact (ih.2) l1 x2 h  ok (R_w f_882 (by decide)) (R_w f_886 (by decide)) (by omega)
    · intro l1 l2 h  ok fl1 fl2     hm
      refine r_X3_findCorners_19 l1 l2  ?_
      refine ⟨fun c_888 => ?_, fun c_888 => ?_⟩
      · have f_889 : R 0 18 (mI h 8 0) := GI_rd ok.1 8 _ (by decide)
        have f_891 : R 1 1 1 := ⟨by decide, by decide⟩
        have f_890 : R 1 18 (l1 + 1) := R_add fl1 f_891 1 18 (by decide)
        have g_892 := gap_inc (N := 18) fl1 (by decide)
        exact (ih.1) (l1 + 1) h  ok (R_w f_890 (by decide)) (by omega)
      · have f_893 : R 0 18 (mI h 8 0) := GI_rd ok.1 8 _ (by decide)
        have f_894 : R 1 17 l2 := rf_lt_l fl2 f_893 (nle c_888) 17 (by decide)
        have f_895 : R 2 18 (mI h 8 0) := rf_lt_r fl2 f_893 (nle c_888) 2 (by decide)
        refine ⟨vin fl1 (by decide), ?_⟩
        refine ⟨fun c_896 => ?_, fun c_896 => ?_⟩
        · have f_898 : R 1 1 1 := ⟨by decide, by decide⟩
          have f_897 : R 0 1 (((mI h 32 l1.toNatClampNeg) >>> (l2 &&& 31)) &&& 1) := R_and f_898 (by decide)
          have f_899 : R 0 0 0 := ⟨by decide, by decide⟩
          have f_900 : R 0 0 (((mI h 32 l1.toNatClampNeg) >>> (l2 &&& 31)) &&& 1) := rf_eq f_899 c_896
          have f_902 : R 1 1 1 := ⟨by decide, by decide⟩
          have f_901 : R 2 18 (l2 + 1) := R_add f_894 f_902 2 18 (by decide)
          have g_903 := gap_inc (N := 18) f_894 (by decide)
          exact (ih.2) l1 (l2 + 1) h  ok (R_w fl1 (by decide)) (R_w f_901 (by decide)) (by omega)
        · have f_905 : R 1 1 1 := ⟨by decide, by decide⟩
          have f_904 : R 0 1 (((mI h 32 l1.toNatClampNeg) >>> (l2 &&& 31)) &&& 1) := R_and f_905 (by decide)
          have f_906 : R 0 0 0 := ⟨by decide, by decide⟩
          have f_907 : R 1 1 (((mI h 32 l1.toNatClampNeg) >>> (l2 &&& 31)) &&& 1) := rf_ne_lo f_904 c_896 (by decide) 1 rfl
          refine s_X3_findCornersOf l1 l2 ok.1 (R_w fl1 (by decide)) (R_w f_894 (by decide)) (fun h4 ko_908 => ?_)
          have ok_909 := Ok_tr ok ko_908 (by decide)
          have f_911 : R 1 1 1 := ⟨by decide, by decide⟩
          have f_910 : R 2 18 (l2 + 1) := R_add f_894 f_911 2 18 (by decide)
          have g_912 := gap_inc (N := 18) f_894 (by decide)
          exact (ih.2) l1 (l2 + 1) h4  ok_909 (R_w fl1 (by decide)) (R_w f_910 (by decide)) (by omega)
set_option maxRecDepth 100000 in
set_option maxHeartbeats 4000000 in
theorem s_X3_findCorners {g : gT} {h : mh_T} {P : mh_T → Prop}  (hG : GI h)  (hp : ∀ h', Ok [8, 33] h h' → P h') : MCv g yX3_findCorners uX3_findCorners [.ref 8] h P := by
  have ok : Ok [8, 33] h h := Ok_rf hG
  have L0 := s_X3_findCorners_L (g := g) hG hp 361
  refine e_X3_findCorners   ?_
  have f_913 : R 0 0 0 := ⟨by decide, by decide⟩
  have f_914 : R 0 0 0 := ⟨by decide, by decide⟩
  have ok_915 := Ok_w ok (k := 8) (j := 1) (v := 0) (lo := 0) (hi := 400) (by decide) (R_w f_914 (by decide)) (by decide) (by decide)
  have f_916 : R 0 0 0 := ⟨by decide, by decide⟩
  have g_917 := gap_le (N := 18) f_916 (m := 18) (by decide)
  exact (L0.1) 0 (wI h 8 1 0)  ok_915 (R_w f_913 (by decide)) (by omega)
set_option maxRecDepth 100000 in
set_option maxHeartbeats 4000000 in
theorem s_X3_hasRay {g : gT} {h : mh_T} {P : Int32 → mh_T → Prop} (l1 : Int32) (hG : GI h)  (hp : ∀ r : Int32, R 0 1 r → (¬ r = 0 → R 0 17 l1) → P r h) : MCi g yX3_hasRay uX3_hasRay [.ref 8, .int l1] h P := by
  have ok : Ok [] h h := Ok_rf hG
  refine e_X3_hasRay l1  ?_
  refine ⟨fun c_16 => ?_, fun c_16 => ?_⟩
  · have f_17 : R 0 0 0 := ⟨by decide, by decide⟩
    have f_18 : R (-2147483648) (-1) l1 := rf_lt_l (R_full l1) f_17 c_16 (-1) (by decide)
    have f_19 : R 0 0 0 := ⟨by decide, by decide⟩
    exact hp _ (R_w f_19 (by decide)) (fun z => absurd rfl z)
  · have f_20 : R 0 0 0 := ⟨by decide, by decide⟩
    have f_21 : R 0 2147483647 l1 := rf_le_r f_20 (R_full l1) (nlt c_16) 0 (by decide)
    refine ⟨fun c_22 => ?_, fun c_22 => ?_⟩
    · have f_23 : R 0 18 (mI h 8 0) := GI_rd ok.1 8 _ (by decide)
      have f_24 : R 0 0 0 := ⟨by decide, by decide⟩
      exact hp _ (R_w f_24 (by decide)) (fun z => absurd rfl z)
    · have f_25 : R 0 18 (mI h 8 0) := GI_rd ok.1 8 _ (by decide)
      have f_26 : R 0 17 l1 := rf_lt_l f_21 f_25 (nle c_22) 17 (by decide)
      have f_27 : R 1 18 (mI h 8 0) := rf_lt_r f_21 f_25 (nle c_22) 1 (by decide)
      have f_28 : R 1 1 1 := ⟨by decide, by decide⟩
      have f_29 : R 1 1 1 := ⟨by decide, by decide⟩
      have f_30 : R 0 0 0 := ⟨by decide, by decide⟩
      exact hp _ (R_w f_28 (by decide)) (fun _ => R_w f_26 (by decide))
set_option maxRecDepth 100000 in
set_option maxHeartbeats 4000000 in
theorem s_J6_bitCount_0f7a4 {g : gT} {h : mh_T} {P : Int32 → mh_T → Prop} (l0 : Int32) (hG : GI h)  (hp : ∀ r : Int32, R 0 63 r → P r h) : MCi g yJ6_bitCount_0f7a4 uJ6_bitCount_0f7a4 [.int l0] h P := by
  have ok : Ok [] h h := Ok_rf hG
  refine e_J6_bitCount_0f7a4 l0  ?_
  intro x1 ex1
  have f_24 : R 1431655765 1431655765 1431655765 := ⟨by decide, by decide⟩
  have f_23 : R 0 1431655765 (((l0.toUInt32 >>> (Int32.toUInt32 1 &&& Int32.toUInt32 31)).toInt32) &&& 1431655765) := R_and f_24 (by decide)
  have f_22 : R (-2147483648) 2147483647 (l0 - (((l0.toUInt32 >>> (Int32.toUInt32 1 &&& Int32.toUInt32 31)).toInt32) &&& 1431655765)) := R_full _
  have f_25 : R (-2147483648) 2147483647 x1 := rf_eq f_22 ex1
  intro x2 ex2
  have f_28 : R 858993459 858993459 858993459 := ⟨by decide, by decide⟩
  have f_27 : R 0 858993459 (x1 &&& 858993459) := R_and f_28 (by decide)
  have f_30 : R 858993459 858993459 858993459 := ⟨by decide, by decide⟩
  have f_29 : R 0 858993459 (((x1.toUInt32 >>> (Int32.toUInt32 2 &&& Int32.toUInt32 31)).toInt32) &&& 858993459) := R_and f_30 (by decide)
  have f_26 : R 0 1717986918 ((x1 &&& 858993459) + (((x1.toUInt32 >>> (Int32.toUInt32 2 &&& Int32.toUInt32 31)).toInt32) &&& 858993459)) := R_add f_27 f_29 0 1717986918 (by decide)
  have f_31 : R 0 1717986918 x2 := rf_eq f_26 ex2
  intro x3 ex3
  have f_33 : R 252645135 252645135 252645135 := ⟨by decide, by decide⟩
  have f_32 : R 0 252645135 ((x2 + ((x2.toUInt32 >>> (Int32.toUInt32 4 &&& Int32.toUInt32 31)).toInt32)) &&& 252645135) := R_and f_33 (by decide)
  have f_34 : R 0 252645135 x3 := rf_eq f_32 ex3
  intro x4 ex4
  have f_36 : R (-2147483648) 2147483647 ((x3.toUInt32 >>> (Int32.toUInt32 8 &&& Int32.toUInt32 31)).toInt32) := R_full _
  have f_35 : R (-2147483648) 2147483647 (x3 + ((x3.toUInt32 >>> (Int32.toUInt32 8 &&& Int32.toUInt32 31)).toInt32)) := R_full _
  have f_37 : R (-2147483648) 2147483647 x4 := rf_eq f_35 ex4
  intro x5 ex5
  have f_39 : R (-2147483648) 2147483647 ((x4.toUInt32 >>> (Int32.toUInt32 16 &&& Int32.toUInt32 31)).toInt32) := R_full _
  have f_38 : R (-2147483648) 2147483647 (x4 + ((x4.toUInt32 >>> (Int32.toUInt32 16 &&& Int32.toUInt32 31)).toInt32)) := R_full _
  have f_40 : R (-2147483648) 2147483647 x5 := rf_eq f_38 ex5
  have f_42 : R 63 63 63 := ⟨by decide, by decide⟩
  have f_41 : R 0 63 (x5 &&& 63) := R_and f_42 (by decide)
  exact hp _ (R_w f_41 (by decide))
set_option maxRecDepth 100000 in
set_option maxHeartbeats 4000000 in
theorem s_X3_mostMet_L {g : gT} {h0 : mh_T} {P : Int32 → mh_T → Prop} (hG0 : GI h0) (hp : ∀ r : Int32, R (-1) 17 r → P r h0) : ∀ n : Nat, (∀ (l1 : Int32) (l2 : Int32) (l3 : Int32) (l4 : Int32), R (-2147483648) 2147483647 l1 → R (-1) 17 l2 → R 0 63 l3 → R 0 18 l4 → 1 * gap 18 l4 + 0 < n → ME g uX3_mostMet 7 [.ref 8, .int l1, .int l2, .int l3, .int l4] [] h0 (qI P)) := by
  intro n
  induction n with
  | zero =>
    exact (fun _ _ _ _ _ _ _ _ hm => absurd hm (Nat.not_lt_zero _))
  | succ n ih =>
    intro l1 l2 l3 l4  fl1 fl2 fl3 fl4     hm
    have ok : Ok [] h0 h0 := Ok_rf hG0
    refine r_X3_mostMet_7 l1 l2 l3 l4  ?_
    refine ⟨fun c_424 => ?_, fun c_424 => ?_⟩
    · have f_425 : R 0 18 (mI h0 8 0) := GI_rd ok.1 8 _ (by decide)
      exact hp _ (R_w fl2 (by decide))
    · have f_426 : R 0 18 (mI h0 8 0) := GI_rd ok.1 8 _ (by decide)
      have f_427 : R 0 17 l4 := rf_lt_l fl4 f_426 (nle c_424) 17 (by decide)
      have f_428 : R 1 18 (mI h0 8 0) := rf_lt_r fl4 f_426 (nle c_424) 1 (by decide)
      refine ⟨fun c_429 => ?_, fun c_429 => ?_⟩
      · have f_431 : R 1 1 1 := ⟨by decide, by decide⟩
        have f_430 : R 0 1 ((l1 >>> (l4 &&& 31)) &&& 1) := R_and f_431 (by decide)
        have f_432 : R 0 0 0 := ⟨by decide, by decide⟩
        have f_433 : R 0 0 ((l1 >>> (l4 &&& 31)) &&& 1) := rf_eq f_432 c_429
        have f_435 : R 1 1 1 := ⟨by decide, by decide⟩
        have f_434 : R 1 18 (l4 + 1) := R_add f_427 f_435 1 18 (by decide)
        have g_436 := gap_inc (N := 18) f_427 (by decide)
        exact ih l1 l2 l3 (l4 + 1)  (R_w fl1 (by decide)) (R_w fl2 (by decide)) (R_w fl3 (by decide)) (R_w f_434 (by decide)) (by omega)
      · have f_438 : R 1 1 1 := ⟨by decide, by decide⟩
        have f_437 : R 0 1 ((l1 >>> (l4 &&& 31)) &&& 1) := R_and f_438 (by decide)
        have f_439 : R 0 0 0 := ⟨by decide, by decide⟩
        have f_440 : R 1 1 ((l1 >>> (l4 &&& 31)) &&& 1) := rf_ne_lo f_437 c_429 (by decide) 1 rfl
        refine ⟨vin f_427 (by decide), ?_⟩
        refine s_J6_bitCount_0f7a4 (l1 &&& (mI h0 32 l4.toNatClampNeg)) ok.1 (fun r5 f_441 => ?_)
        refine ⟨fun c_442 => ?_, fun c_442 => ?_⟩
        · have f_444 : R 1 1 1 := ⟨by decide, by decide⟩
          have f_443 : R 1 18 (l4 + 1) := R_add f_427 f_444 1 18 (by decide)
          have g_445 := gap_inc (N := 18) f_427 (by decide)
          exact ih l1 l2 l3 (l4 + 1)  (R_w fl1 (by decide)) (R_w fl2 (by decide)) (R_w fl3 (by decide)) (R_w f_443 (by decide)) (by omega)
        · have f_446 : R 0 62 l3 := rf_lt_l fl3 f_441 (nle c_442) 62 (by decide)
          have f_447 : R 1 63 r5 := rf_lt_r fl3 f_441 (nle c_442) 1 (by decide)
          refine ⟨vin f_427 (by decide), ?_⟩
          refine s_J6_bitCount_0f7a4 (l1 &&& (mI h0 32 l4.toNatClampNeg)) ok.1 (fun r9 f_448 => ?_)
          have f_450 : R 1 1 1 := ⟨by decide, by decide⟩
          have f_449 : R 1 18 (l4 + 1) := R_add f_427 f_450 1 18 (by decide)
          have g_451 := gap_inc (N := 18) f_427 (by decide)
          exact ih l1 l4 r9 (l4 + 1)  (R_w fl1 (by decide)) (R_w f_427 (by decide)) (R_w f_448 (by decide)) (R_w f_449 (by decide)) (by omega)
set_option maxRecDepth 100000 in
set_option maxHeartbeats 4000000 in
theorem s_X3_mostMet {g : gT} {h : mh_T} {P : Int32 → mh_T → Prop} (l1 : Int32) (hG : GI h)  (hp : ∀ r : Int32, R (-1) 17 r → P r h) : MCi g yX3_mostMet uX3_mostMet [.ref 8, .int l1] h P := by
  have ok : Ok [] h h := Ok_rf hG
  have L0 := s_X3_mostMet_L (g := g) hG hp 19
  refine e_X3_mostMet l1  ?_
  have f_452 : R (-1) (-1) (-1) := ⟨by decide, by decide⟩
  have f_453 : R 0 0 0 := ⟨by decide, by decide⟩
  have f_454 : R 0 0 0 := ⟨by decide, by decide⟩
  have f_455 : R 0 0 0 := ⟨by decide, by decide⟩
  have g_456 := gap_le (N := 18) f_455 (m := 18) (by decide)
  exact L0 l1 (-1) 0 0  (R_w (R_full l1) (by decide)) (R_w f_452 (by decide)) (R_w f_453 (by decide)) (R_w f_454 (by decide)) (by omega)
set_option maxRecDepth 100000 in
set_option maxHeartbeats 4000000 in
theorem s_X10_bitAt_L {g : gT} {h0 : mh_T} {P : Int32 → mh_T → Prop} (hG0 : GI h0) (hp : ∀ r : Int32, R (-1) 31 r → P r h0) : ∀ n : Nat, (∀ (l0 : Int32) (l1 : Int32) (l2 : Int32) (l3 : Int32), R (-2147483648) 2147483647 l0 → R (-2147483648) 2147483647 l1 → R (-2147483648) 2147483647 l2 → R 0 32 l3 → 1 * gap 32 l3 + 0 < n → ME g uX10_bitAt 4 [.int l0, .int l1, .int l2, .int l3] [] h0 (qI P)) := by
  intro n
  induction n with
  | zero =>
    exact (fun _ _ _ _ _ _ _ _ hm => absurd hm (Nat.not_lt_zero _))
  | succ n ih =>
    intro l0 l1 l2 l3  fl0 fl1 fl2 fl3     hm
    have ok : Ok [] h0 h0 := Ok_rf hG0
    refine r_X10_bitAt_4 l0 l1 l2 l3  ?_
    refine ⟨fun c_1333 => ?_, fun c_1333 => ?_⟩
    · have f_1334 : R 32 32 32 := ⟨by decide, by decide⟩
      have f_1335 : R 32 32 l3 := rf_le_r f_1334 fl3 c_1333 32 (by decide)
      have f_1336 : R (-1) (-1) (-1) := ⟨by decide, by decide⟩
      exact hp _ (R_w f_1336 (by decide))
    · have f_1337 : R 32 32 32 := ⟨by decide, by decide⟩
      have f_1338 : R 0 31 l3 := rf_lt_l fl3 f_1337 (nle c_1333) 31 (by decide)
      refine ⟨fun c_1339 => ?_, fun c_1339 => ?_⟩
      · have f_1341 : R 1 1 1 := ⟨by decide, by decide⟩
        have f_1340 : R 0 1 (((l0.toUInt32 >>> (l3.toUInt32 &&& Int32.toUInt32 31)).toInt32) &&& 1) := R_and f_1341 (by decide)
        have f_1342 : R 0 0 0 := ⟨by decide, by decide⟩
        have f_1343 : R 0 0 (((l0.toUInt32 >>> (l3.toUInt32 &&& Int32.toUInt32 31)).toInt32) &&& 1) := rf_eq f_1342 c_1339
        have f_1345 : R 1 1 1 := ⟨by decide, by decide⟩
        have f_1344 : R 1 32 (l3 + 1) := R_add f_1338 f_1345 1 32 (by decide)
        have g_1346 := gap_inc (N := 32) f_1338 (by decide)
        exact ih l0 l1 l2 (l3 + 1)  (R_w fl0 (by decide)) (R_w fl1 (by decide)) (R_w fl2 (by decide)) (R_w f_1344 (by decide)) (by omega)
      · have f_1348 : R 1 1 1 := ⟨by decide, by decide⟩
        have f_1347 : R 0 1 (((l0.toUInt32 >>> (l3.toUInt32 &&& Int32.toUInt32 31)).toInt32) &&& 1) := R_and f_1348 (by decide)
        have f_1349 : R 0 0 0 := ⟨by decide, by decide⟩
        have f_1350 : R 1 1 (((l0.toUInt32 >>> (l3.toUInt32 &&& Int32.toUInt32 31)).toInt32) &&& 1) := rf_ne_lo f_1347 c_1339 (by decide) 1 rfl
        refine ⟨fun c_1351 => ?_, fun c_1351 => ?_⟩
        · have f_1353 : R 1 1 1 := ⟨by decide, by decide⟩
          have f_1352 : R (-2147483648) 2147483647 (l2 + 1) := R_full _
          have f_1355 : R 1 1 1 := ⟨by decide, by decide⟩
          have f_1354 : R 1 32 (l3 + 1) := R_add f_1338 f_1355 1 32 (by decide)
          have g_1356 := gap_inc (N := 32) f_1338 (by decide)
          exact ih l0 l1 (l2 + 1) (l3 + 1)  (R_w fl0 (by decide)) (R_w fl1 (by decide)) (R_w f_1352 (by decide)) (R_w f_1354 (by decide)) (by omega)
        · exact hp _ (R_w f_1338 (by decide))
set_option maxRecDepth 100000 in
set_option maxHeartbeats 4000000 in
theorem s_X10_bitAt {g : gT} {h : mh_T} {P : Int32 → mh_T → Prop} (l0 : Int32) (l1 : Int32) (hG : GI h)  (hp : ∀ r : Int32, R (-1) 31 r → P r h) : MCi g yX10_bitAt uX10_bitAt [.int l0, .int l1] h P := by
  have ok : Ok [] h h := Ok_rf hG
  have L0 := s_X10_bitAt_L (g := g) hG hp 33
  refine e_X10_bitAt l0 l1  ?_
  have f_1357 : R 0 0 0 := ⟨by decide, by decide⟩
  have f_1358 : R 0 0 0 := ⟨by decide, by decide⟩
  have f_1359 : R 0 0 0 := ⟨by decide, by decide⟩
  have g_1360 := gap_le (N := 32) f_1359 (m := 32) (by decide)
  exact L0 l0 l1 0 0  (R_w (R_full l0) (by decide)) (R_w (R_full l1) (by decide)) (R_w f_1357 (by decide)) (R_w f_1358 (by decide)) (by omega)
theorem bc0 {g : gT} {h : mh_T} {P : Int32 → mh_T → Prop} (l0 : Int32) (hp : ∀ r : Int32, (l0 = 0 → r = 0) → P r h) : MCi g yJ6_bitCount_0f7a4 uJ6_bitCount_0f7a4 [.int l0] h P := by
  refine e_J6_bitCount_0f7a4 l0 ?_
  intro x1 e1 x2 e2 x3 e3 x4 e4 x5 e5
  refine hp _ (fun z => ?_)
  subst z
  have e1 : x1 = 0 := e1.trans (by decide)
  subst e1
  have e2 : x2 = 0 := e2.trans (by decide)
  subst e2
  have e3 : x3 = 0 := e3.trans (by decide)
  subst e3
  have e4 : x4 = 0 := e4.trans (by decide)
  subst e4
  have e5 : x5 = 0 := e5.trans (by decide)
  subst e5
  decide
theorem us31 : ∀ p, p < 32 → (((nI p).toUInt32 &&& Int32.toUInt32 31).toBitVec % 32).toNat = p := by decide
theorem ba_bit {n p : Nat} (hn : n < 2 ^ 32) (hp : p < 32) : (((nI n).toUInt32 >>> ((nI p).toUInt32 &&& Int32.toUInt32 31)).toInt32 &&& 1) = nI (n / 2 ^ p % 2) := by
  rw [pk_ushrN hn (nI p) p (us31 p hp)]
  exact pk_andN (n := n / 2 ^ p) (Nat.lt_of_le_of_lt (Nat.div_le_self _ _) hn) 1 (by decide)
set_option maxRecDepth 100000 in
/-- bitAt(x, 0): the first bit that is set, of a number below 2 to the 18 -/
theorem s_bitAt0_L {g : gT} {h : mh_T} {P : Int32 → mh_T → Prop} (n : Nat) (h0 : n ≠ 0) (h18 : n < 2 ^ 18) (hp : ∀ p : Nat, p < 18 → n / 2 ^ p % 2 = 1 → (∀ j, j < p → n / 2 ^ j % 2 = 0) → P (nI p) h) : ∀ (m p : Nat), p + m = 18 → (∀ j, j < p → n / 2 ^ j % 2 = 0) → n % 2 ^ p = 0 → ME g uX10_bitAt 4 [.int (nI n), .int 0, .int 0, .int (nI p)] [] h (qI P) := by
  intro m
  induction m with
  | zero =>
    intro p hm hj hz
    have : p = 18 := by omega
    subst this
    rw [Nat.mod_eq_of_lt h18] at hz
    exact absurd hz h0
  | succ m ih =>
    intro p hm hj hz
    have hp32 : p < 32 := by omega
    refine r_X10_bitAt_4 (nI n) 0 0 (nI p) ⟨fun c => ?_, fun c => ?_⟩
    · exact absurd c (by show ¬ nI 32 ≤ nI p; rw [nI_leI (by decide) (by omega)]; omega)
    · rw [ba_bit (by omega) hp32]
      rcases Nat.mod_two_eq_zero_or_one (n / 2 ^ p) with e | e
      · rw [e]
        refine ⟨fun _ => ?_, fun z => absurd rfl z⟩
        have := ih (p + 1) (by omega) (fun j hj' => by
          rcases Nat.lt_or_ge j p with q | q
          · exact hj j q
          · have : j = p := by omega
            subst this
            exact e) (by
          rw [Nat.pow_succ, Nat.mod_mul, hz, e]
          simp)
        rw [nI_1]
        exact this
      · rw [e]
        refine ⟨fun z => absurd z (by decide), fun _ => ⟨fun z => absurd rfl z, fun _ => hp p (by omega) e hj⟩⟩
theorem s_bitAt0 {g : gT} {h : mh_T} {P : Int32 → mh_T → Prop} (x : Int32) (h0 : ¬ x = 0) (hx : R 0 262143 x) (hp : ∀ r : Int32, R 0 17 r → P r h) : MCi g yX10_bitAt uX10_bitAt [.int x, .int 0] h P := by
  have z0 : (0 : Int32).toInt = 0 := by decide
  obtain ⟨n, hn, rfl⟩ := nI_of (x := x) (fun q => by have := lt_ti q; have := hx.1; omega)
  have h2 := hx.2
  rw [nI_toInt hn] at h2
  refine e_X10_bitAt (nI n) 0 ?_
  refine s_bitAt0_L n (fun z => h0 (by rw [z]; rfl)) (by omega) (fun p hp18 _ _ => hp _ ?_) 18 0 (by omega) (fun j hj => absurd hj (by omega)) (Nat.mod_one n)
  unfold R
  rw [nI_toInt (by omega)]
  omega
set_option maxRecDepth 100000 in
set_option maxHeartbeats 4000000 in
theorem s_X3_colour_M {g : gT} : ∀ (m : Nat) (K : Nat) (l1 l2 l3 : Int32) (h : mh_T) (P : mh_T → Prop), m + 3 ≤ K → m ≤ 19 → l3.toInt = 19 - m → GI h → (∀ h', Ok [8] h h' → P h') → MCv g yX3_colour (uX3_colour K) [.ref 8, .int l1, .int l2, .int l3] h P := by
  intro m
  induction m with
  | zero =>
    intro K l1 l2 l3 h P hK _ e3 hG hp
    obtain ⟨K, rfl⟩ : ∃ q, K = q + 1 := ⟨K - 1, by omega⟩
    refine e_X3_colour l1 l2 l3 ⟨fun c => ?_, fun c => hp h (Ok_rf hG)⟩
    have := le_ti c
    rw [show (18 : Int32).toInt = 18 from by decide] at this
    omega
  | succ m ih =>
    intro K l1 l2 l3 h P hK hm e3 hG hp
    obtain ⟨K, rfl⟩ : ∃ q, K = q + 1 := ⟨K - 1, by omega⟩
    have f3 : R 0 19 l3 := ⟨by omega, by omega⟩
    have f1 : R 1 1 1 := ⟨by decide, by decide⟩
    have e31 := ti_inc f3 (by decide)
    have L : ∀ (n : Nat) (l4 l5 : Int32), R (-1) 17 l4 → R 0 400 l5 → gap 400 l5 < n → ME g (uX3_colour (K + 1)) 17 [.ref 8, .int l1, .int l2, .int l3, .int l4, .int l5, .retAddr 0, .retAddr 0, .retAddr 0] [] h (qV P) := by
      intro n
      induction n with
      | zero => intro l4 l5 _ _ hn; exact absurd hn (Nat.not_lt_zero _)
      | succ n ihn =>
        intro l4 l5 f4 f5 hn
        have fc : R 0 400 (mI h 8 1) := GI_rd hG 8 1 (by decide)
        have z0 : R 0 0 0 := ⟨by decide, by decide⟩
        refine r_X3_colour_17 l1 l2 l3 l4 l5 ⟨fun c => ⟨fun c2 => ?_, fun c2 => ?_⟩, fun c => ?_⟩
        · have g4 : R 0 17 l4 := rf_le_r z0 f4 c2 0 (by decide)
          refine ⟨vin g4 (by decide), ?_⟩
          refine ih K _ _ _ _ _ (by omega) (by omega) (by omega) hG (fun h4 k4 => ?_)
          refine ih K _ _ _ _ _ (by omega) (by omega) (by omega) k4.1 (fun h5 k5 => ?_)
          exact hp _ (Ok_tr k4 k5 (by decide))
        · refine ⟨by omega, ?_⟩
          refine s_J6_bitCount_0f7a4 _ hG (fun r8 f8 => ⟨by omega, ?_⟩)
          have o1 := Ok_w (ms := [8]) (Ok_rf hG) (k := 8) (j := 10) (v := (mI h 8 10) + (1 <<< (r8 &&& 31))) (lo := -2147483648) (hi := 2147483647) (by decide) (R_full _) (by decide) (by decide)
          refine s_J6_bitCount_0f7a4 _ o1.1 (fun r11 f11 => ?_)
          exact hp _ (Ok_w o1 (k := 8) (j := 11) (lo := -2147483648) (hi := 2147483647) (by decide) (R_full _) (by decide) (by decide))
        · have g5 : R 0 399 l5 := rf_lt_l f5 fc (nle c) 399 (by decide)
          have := gap_inc (N := 400) g5 (by decide)
          have nx : ME g (uX3_colour (K + 1)) 17 [.ref 8, .int l1, .int l2, .int l3, .int l4, .int (l5 + 1), .retAddr 0, .retAddr 0, .retAddr 0] [] h (qV P) := ihn l4 (l5 + 1) f4 (R_add g5 f1 0 400 (by decide)) (by omega)
          refine ⟨vin g5 (by decide), fun x13 e13 => ⟨fun _ => nx, fun _ => ⟨fun _ => nx, fun _ => ⟨by omega, ?_⟩⟩⟩⟩
          have fx : R 0 262143 x13 := rf_eq (GI_rd hG 33 l5.toNatClampNeg rfl) e13
          refine bc0 _ (fun r18 hr18 => ⟨fun c3 => ⟨fun _ => nx, fun c4 => ?_⟩, fun _ => hp h (Ok_rf hG)⟩)
          intro x21 e21
          have hne : ¬ x21 = 0 := fun z => by
            have := hr18 (by rw [← e21]; exact z)
            rw [c4] at this
            cases this
          have f21 : R 0 262143 x21 := rf_eq (R_andl fx (by decide)) e21
          refine ⟨by omega, ?_⟩
          refine s_bitAt0 x21 hne f21 (fun r24 f24 => ⟨vin f24 (by decide), ?_⟩)
          exact ih K _ _ _ _ _ (by omega) (by omega) (by omega) hG (fun h26 k26 => hp _ k26)
    refine e_X3_colour l1 l2 l3 ⟨fun c => ⟨by omega, ?_⟩, fun c => hp h (Ok_rf hG)⟩
    refine s_X3_mostMet l1 hG (fun r4 f4 => ?_)
    have z0 : R 0 0 0 := ⟨by decide, by decide⟩
    exact L 401 r4 0 f4 (R_w z0 (by decide)) (by decide)
theorem s_X3_colour {g : gT} {h : mh_T} {P : mh_T → Prop} (l1 l2 l3 : Int32) (hG : GI h) (fl3 : R 0 0 l3) (hp : ∀ h', Ok [8] h h' → P h') : MCv g yX3_colour (uX3_colour 30) [.ref 8, .int l1, .int l2, .int l3] h P := by
  exact s_X3_colour_M 19 30 l1 l2 l3 h P (by decide) (by decide) (by have := fl3.1; have := fl3.2; omega) hG hp
set_option maxRecDepth 100000 in
set_option maxHeartbeats 4000000 in
theorem s_X3_countColours {g : gT} {h : mh_T} {P : Int32 → mh_T → Prop} (l1 : Int32) (hG : GI h)  (hp : ∀ (r : Int32) h', Ok [8] h h' → P r h') : MCi g yX3_countColours uX3_countColours [.ref 8, .int l1] h P := by
  have ok : Ok [8] h h := Ok_rf hG
  refine e_X3_countColours l1  ?_
  have ok_10 := Ok_w ok (k := 8) (j := 9) (v := l1) (lo := (-2147483648)) (hi := 2147483647) (by decide) (R_full l1) (by decide) (by decide)
  have f_11 : R 0 0 0 := ⟨by decide, by decide⟩
  have ok_12 := Ok_w ok_10 (k := 8) (j := 10) (v := 0) (lo := (-2147483648)) (hi := 2147483647) (by decide) (R_w f_11 (by decide)) (by decide) (by decide)
  have f_13 : R 0 0 0 := ⟨by decide, by decide⟩
  have ok_14 := Ok_w ok_12 (k := 8) (j := 11) (v := 0) (lo := (-2147483648)) (hi := 2147483647) (by decide) (R_w f_13 (by decide)) (by decide) (by decide)
  have f_15 : R 0 0 0 := ⟨by decide, by decide⟩
  refine s_X3_colour l1 0 0 ok_14.1 (R_w f_15 (by decide)) (fun h1 ko_16 => ?_)
  have ok_17 := Ok_tr ok_14 ko_16 (by decide)
  have f_18 : R (-2147483648) 2147483647 (mI h1 8 10) := R_full _
  exact hp _ _ ok_17 
set_option maxRecDepth 100000 in
set_option maxHeartbeats 4000000 in
theorem s_X3_work_L {g : gT} {h0 : mh_T} {P : mh_T → Prop} (hG0 : GI h0) (hp : ∀ h', Ok [8] h0 h' → P h') : ∀ n : Nat, (∀ (l1 : Int32) (l2 : Int32) (h : mh_T), Ok [8] h0 h → R 0 262143 l1 → R 0 18 l2 → 1 * gap 18 l2 + 0 < n → ME g uX3_work 51 [.ref 8, .int l1, .int l2] [] h (qV P)) := by
  intro n
  induction n with
  | zero =>
    exact (fun _ _ _ _ _ _ hm => absurd hm (Nat.not_lt_zero _))
  | succ n ih =>
    intro l1 l2 h  ok fl1 fl2     hm
    refine r_X3_work_51 l1 l2  ?_
    refine ⟨fun c_994 => ?_, fun c_994 => ?_⟩
    · have f_995 : R (-2147483648) 2147483647 (mI h 8 2) := R_full _
      have f_996 : R 0 0 0 := ⟨by decide, by decide⟩
      exact hp _ ok
    · have f_997 : R (-2147483648) 2147483647 (mI h 8 2) := R_full _
      have f_998 : R 0 0 0 := ⟨by decide, by decide⟩
      have f_999 : R 0 0 (mI h 8 2) := rf_eq f_998 c_994
      refine ⟨fun c_1000 => ?_, fun c_1000 => ?_⟩
      · have f_1001 : R 0 18 (mI h 8 0) := GI_rd ok.1 8 _ (by decide)
        exact hp _ ok
      · have f_1002 : R 0 18 (mI h 8 0) := GI_rd ok.1 8 _ (by decide)
        have f_1003 : R 0 17 l2 := rf_lt_l fl2 f_1002 (nle c_1000) 17 (by decide)
        have f_1004 : R 1 18 (mI h 8 0) := rf_lt_r fl2 f_1002 (nle c_1000) 1 (by decide)
        refine s_X3_countColours (l1 &&& ((1 <<< (l2 &&& 31)) ^^^ (-1))) ok.1 (fun r4 h3 ko_1005 => ?_)
        have ok_1006 := Ok_tr ok ko_1005 (by decide)
        refine ⟨fun c_1007 => ?_, fun c_1007 => ?_⟩
        · have f_1008 : R (-2147483648) 2147483647 r4 := R_full _
          have f_1009 : R 0 0 0 := ⟨by decide, by decide⟩
          refine s_X3_countColours ((mI h3 8 5) &&& ((1 <<< (l2 &&& 31)) ^^^ (-1))) ok_1006.1 (fun r7 h6 ko_1010 => ?_)
          have ok_1011 := Ok_tr ok_1006 ko_1010 (by decide)
          refine ⟨fun c_1012 => ?_, fun c_1012 => ?_⟩
          · have f_1013 : R (-2147483648) 2147483647 r7 := R_full _
            have f_1014 : R 0 0 0 := ⟨by decide, by decide⟩
            have f_1016 : R 1 1 1 := ⟨by decide, by decide⟩
            have f_1015 : R 1 18 (l2 + 1) := R_add f_1003 f_1016 1 18 (by decide)
            have g_1017 := gap_inc (N := 18) f_1003 (by decide)
            exact ih l1 (l2 + 1) h6  ok_1011 (R_w fl1 (by decide)) (R_w f_1015 (by decide)) (by omega)
          · have f_1018 : R (-2147483648) 2147483647 r7 := R_full _
            have f_1019 : R 0 0 0 := ⟨by decide, by decide⟩
            have f_1020 : R 0 0 r7 := rf_eq f_1019 c_1012
            have f_1022 : R 1 1 1 := ⟨by decide, by decide⟩
            have f_1021 : R 1 18 (l2 + 1) := R_add f_1003 f_1022 1 18 (by decide)
            have f_1025 : R 1 131072 (1 <<< (l2 &&& 31)) := R_shl f_1003 1 131072 0 17 (by decide)
            have f_1026 : R (-1) (-1) (-1) := ⟨by decide, by decide⟩
            have f_1024 : R (-2147483648) 2147483647 ((1 <<< (l2 &&& 31)) ^^^ (-1)) := R_full _
            have f_1027 : R (-2147483648) 2147483647 (mI h6 8 5) := R_full _
            have f_1023 : R (-2147483648) 2147483647 ((mI h6 8 5) &&& ((1 <<< (l2 &&& 31)) ^^^ (-1))) := R_full _
            have ok_1028 := Ok_w ok_1011 (k := 8) (j := 5) (v := ((mI h6 8 5) &&& ((1 <<< (l2 &&& 31)) ^^^ (-1)))) (lo := (-2147483648)) (hi := 2147483647) (by decide) f_1023 (by decide) (by decide)
            have g_1029 := gap_inc (N := 18) f_1003 (by decide)
            exact ih l1 (l2 + 1) (wI h6 8 5 ((mI h6 8 5) &&& ((1 <<< (l2 &&& 31)) ^^^ (-1))))  ok_1028 (R_w fl1 (by decide)) (R_w f_1021 (by decide)) (by omega)
        · have f_1030 : R (-2147483648) 2147483647 r4 := R_full _
          have f_1031 : R 0 0 0 := ⟨by decide, by decide⟩
          have f_1032 : R 0 0 r4 := rf_eq f_1031 c_1007
          have f_1034 : R (-2147483648) 2147483647 (mI h3 8 4) := R_full _
          have f_1035 : R 1 131072 (1 <<< (l2 &&& 31)) := R_shl f_1003 1 131072 0 17 (by decide)
          have f_1033 : R (-2147483648) 2147483647 ((mI h3 8 4) ||| (1 <<< (l2 &&& 31))) := R_full _
          have ok_1036 := Ok_w ok_1006 (k := 8) (j := 4) (v := ((mI h3 8 4) ||| (1 <<< (l2 &&& 31)))) (lo := (-2147483648)) (hi := 2147483647) (by decide) f_1033 (by decide) (by decide)
          refine s_X3_countColours ((mI (wI h3 8 4 ((mI h3 8 4) ||| (1 <<< (l2 &&& 31)))) 8 5) &&& ((1 <<< (l2 &&& 31)) ^^^ (-1))) ok_1036.1 (fun r10 h9 ko_1037 => ?_)
          have ok_1038 := Ok_tr ok_1036 ko_1037 (by decide)
          refine ⟨fun c_1039 => ?_, fun c_1039 => ?_⟩
          · have f_1040 : R (-2147483648) 2147483647 r10 := R_full _
            have f_1041 : R 0 0 0 := ⟨by decide, by decide⟩
            have f_1043 : R 1 1 1 := ⟨by decide, by decide⟩
            have f_1042 : R 1 18 (l2 + 1) := R_add f_1003 f_1043 1 18 (by decide)
            have g_1044 := gap_inc (N := 18) f_1003 (by decide)
            exact ih l1 (l2 + 1) h9  ok_1038 (R_w fl1 (by decide)) (R_w f_1042 (by decide)) (by omega)
          · have f_1045 : R (-2147483648) 2147483647 r10 := R_full _
            have f_1046 : R 0 0 0 := ⟨by decide, by decide⟩
            have f_1047 : R 0 0 r10 := rf_eq f_1046 c_1039
            have f_1049 : R 1 1 1 := ⟨by decide, by decide⟩
            have f_1048 : R 1 18 (l2 + 1) := R_add f_1003 f_1049 1 18 (by decide)
            have f_1052 : R (-1) (-1) (-1) := ⟨by decide, by decide⟩
            have f_1051 : R (-2147483648) 2147483647 ((1 <<< (l2 &&& 31)) ^^^ (-1)) := R_full _
            have f_1053 : R (-2147483648) 2147483647 (mI h9 8 5) := R_full _
            have f_1050 : R (-2147483648) 2147483647 ((mI h9 8 5) &&& ((1 <<< (l2 &&& 31)) ^^^ (-1))) := R_full _
            have ok_1054 := Ok_w ok_1038 (k := 8) (j := 5) (v := ((mI h9 8 5) &&& ((1 <<< (l2 &&& 31)) ^^^ (-1)))) (lo := (-2147483648)) (hi := 2147483647) (by decide) f_1050 (by decide) (by decide)
            have g_1055 := gap_inc (N := 18) f_1003 (by decide)
            exact ih l1 (l2 + 1) (wI h9 8 5 ((mI h9 8 5) &&& ((1 <<< (l2 &&& 31)) ^^^ (-1))))  ok_1054 (R_w fl1 (by decide)) (R_w f_1048 (by decide)) (by omega)
set_option maxRecDepth 100000 in
set_option maxHeartbeats 4000000 in
theorem s_X3_work {g : gT} {h : mh_T} {P : mh_T → Prop}  (hG : GI h)  (hp : ∀ h', Ok [8] h h' → P h') : MCv g yX3_work uX3_work [.ref 8] h P := by
  have ok : Ok [8] h h := Ok_rf hG
  have L0 := s_X3_work_L (g := g) hG hp 19
  refine e_X3_work   ?_
  refine ⟨fun c_1056 => ?_, fun c_1056 => ?_⟩
  · have f_1057 : R 0 1 (mI h 8 8) := GI_rd ok.1 8 _ (by decide)
    have f_1058 : R 0 0 0 := ⟨by decide, by decide⟩
    have f_1059 : R 0 0 (mI h 8 8) := rf_eq f_1058 c_1056
    intro x2 ex2
    have f_1063 : R 0 18 (mI h 8 0) := GI_rd ok.1 8 _ (by decide)
    have f_1062 : R 0 18 (mI (wI h 8 8 1) 8 0) := (rd_nj f_1063 (by decide))
    have f_1061 : R 1 262144 (1 <<< ((mI (wI h 8 8 1) 8 0) &&& 31)) := R_shl f_1062 1 262144 0 18 (by decide)
    have f_1064 : R 1 1 1 := ⟨by decide, by decide⟩
    have f_1060 : R 0 262143 ((1 <<< ((mI (wI h 8 8 1) 8 0) &&& 31)) - 1) := R_sub f_1061 f_1064 0 262143 (by decide)
    have f_1065 : R 0 262143 x2 := rf_eq f_1060 ex2
    have f_1066 : R 1 1 1 := ⟨by decide, by decide⟩
    have ok_1067 := Ok_w ok (k := 8) (j := 8) (v := 1) (lo := 0) (hi := 1) (by decide) (R_w f_1066 (by decide)) (by decide) (by decide)
    refine s_X3_countColours x2 ok_1067.1 (fun r4 h3 ko_1068 => ?_)
    have ok_1069 := Ok_tr ok_1067 ko_1068 (by decide)
    have f_1070 : R 0 0 0 := ⟨by decide, by decide⟩
    have f_1071 : R (-2147483648) 2147483647 r4 := R_full _
    have ok_1072 := Ok_w ok_1069 (k := 8) (j := 2) (v := r4) (lo := (-2147483648)) (hi := 2147483647) (by decide) f_1071 (by decide) (by decide)
    have f_1074 : R (-2147483648) 2147483647 (mI h3 8 11) := R_full _
    have f_1073 : R (-2147483648) 2147483647 (mI (wI h3 8 2 r4) 8 11) := (rd_nj f_1074 (by decide))
    have ok_1075 := Ok_w ok_1072 (k := 8) (j := 3) (v := (mI (wI h3 8 2 r4) 8 11)) (lo := (-2147483648)) (hi := 2147483647) (by decide) f_1073 (by decide) (by decide)
    have f_1076 : R 0 0 0 := ⟨by decide, by decide⟩
    have ok_1077 := Ok_w ok_1075 (k := 8) (j := 4) (v := 0) (lo := (-2147483648)) (hi := 2147483647) (by decide) (R_w f_1076 (by decide)) (by decide) (by decide)
    have ok_1078 := Ok_w ok_1077 (k := 8) (j := 5) (v := x2) (lo := (-2147483648)) (hi := 2147483647) (by decide) (R_w f_1065 (by decide)) (by decide) (by decide)
    have f_1079 : R 0 0 0 := ⟨by decide, by decide⟩
    have g_1080 := gap_le (N := 18) f_1079 (m := 18) (by decide)
    exact L0 x2 0 (wI (wI (wI (wI h3 8 2 r4) 8 3 (mI (wI h3 8 2 r4) 8 11)) 8 4 0) 8 5 x2)  ok_1078 (R_w f_1065 (by decide)) (R_w f_1070 (by decide)) (by omega)
  · have f_1081 : R 0 1 (mI h 8 8) := GI_rd ok.1 8 _ (by decide)
    have f_1082 : R 0 0 0 := ⟨by decide, by decide⟩
    have f_1083 : R 1 1 (mI h 8 8) := rf_ne_lo f_1081 c_1056 (by decide) 1 rfl
    exact hp _ ok
set_option maxRecDepth 100000 in
set_option maxHeartbeats 4000000 in
theorem s_X5_holds {g : gT} {h : mh_T} {P : Int32 → mh_T → Prop} (l1 : Int32) (hG : GI h)  (hp : ∀ r : Int32, R 0 1 r → P r h) : MCi g yX5_holds uX5_holds [.ref 7, .int l1] h P := by
  have ok : Ok [] h h := Ok_rf hG
  refine e_X5_holds l1  ?_
  refine ⟨fun c_25 => ?_, fun c_25 => ?_⟩
  · have f_26 : R 0 0 0 := ⟨by decide, by decide⟩
    have f_27 : R (-2147483648) (-1) l1 := rf_lt_l (R_full l1) f_26 c_25 (-1) (by decide)
    have f_28 : R 0 0 0 := ⟨by decide, by decide⟩
    exact hp _ (R_w f_28 (by decide))
  · have f_29 : R 0 0 0 := ⟨by decide, by decide⟩
    have f_30 : R 0 2147483647 l1 := rf_le_r f_29 (R_full l1) (nlt c_25) 0 (by decide)
    refine ⟨fun c_31 => ?_, fun c_31 => ?_⟩
    · have f_33 : R 0 8 (mI h 7 1) := GI_rd ok.1 7 _ (by decide)
      have f_32 : R 1 256 (1 <<< ((mI h 7 1) &&& 31)) := R_shl f_33 1 256 0 8 (by decide)
      have f_34 : R 1 2147483647 l1 := rf_le_r f_32 f_30 c_31 1 (by decide)
      have f_35 : R 0 0 0 := ⟨by decide, by decide⟩
      exact hp _ (R_w f_35 (by decide))
    · have f_37 : R 0 8 (mI h 7 1) := GI_rd ok.1 7 _ (by decide)
      have f_36 : R 1 256 (1 <<< ((mI h 7 1) &&& 31)) := R_shl f_37 1 256 0 8 (by decide)
      have f_38 : R 0 255 l1 := rf_lt_l f_30 f_36 (nle c_31) 255 (by decide)
      have f_39 : R 0 0 0 := ⟨by decide, by decide⟩
      refine ⟨vin f_38 (by decide), ?_⟩
      refine ⟨fun c_40 => ?_, fun c_40 => ?_⟩
      · have f_41 : R 0 1 (mI h 31 l1.toNatClampNeg) := GI_rd ok.1 31 _ rfl
        have f_42 : R 0 0 0 := ⟨by decide, by decide⟩
        have f_43 : R 0 0 (mI h 31 l1.toNatClampNeg) := rf_eq f_42 c_40
        have f_44 : R 0 0 0 := ⟨by decide, by decide⟩
        exact hp _ (R_w f_44 (by decide))
      · have f_45 : R 0 1 (mI h 31 l1.toNatClampNeg) := GI_rd ok.1 31 _ rfl
        have f_46 : R 0 0 0 := ⟨by decide, by decide⟩
        have f_47 : R 1 1 (mI h 31 l1.toNatClampNeg) := rf_ne_lo f_45 c_40 (by decide) 1 rfl
        have f_48 : R 1 1 1 := ⟨by decide, by decide⟩
        exact hp _ (R_w f_48 (by decide))
set_option maxRecDepth 100000 in
set_option maxHeartbeats 4000000 in
theorem s_X5_valueOf {g : gT} {h : mh_T} {P : Int32 → mh_T → Prop} (l1 : Int32) (hG : GI h)  (hp : ∀ r : Int32, R (-2) 1 r → P r h) : MCi g yX5_valueOf uX5_valueOf [.ref 7, .int l1] h P := by
  have ok : Ok [] h h := Ok_rf hG
  refine e_X5_valueOf l1  ?_
  refine ⟨fun c_32 => ?_, fun c_32 => ?_⟩
  · have f_34 : R 1 1 1 := ⟨by decide, by decide⟩
    have f_33 : R 0 1 (((mI h 7 3) >>> (l1 &&& 31)) &&& 1) := R_and f_34 (by decide)
    have f_35 : R 0 0 0 := ⟨by decide, by decide⟩
    have f_36 : R 0 0 (((mI h 7 3) >>> (l1 &&& 31)) &&& 1) := rf_eq f_35 c_32
    refine ⟨fun c_37 => ?_, fun c_37 => ?_⟩
    · have f_39 : R 1 1 1 := ⟨by decide, by decide⟩
      have f_38 : R 0 1 (((mI h 7 4) >>> (l1 &&& 31)) &&& 1) := R_and f_39 (by decide)
      have f_40 : R 0 0 0 := ⟨by decide, by decide⟩
      have f_41 : R 0 0 (((mI h 7 4) >>> (l1 &&& 31)) &&& 1) := rf_eq f_40 c_37
      have f_42 : R 0 0 0 := ⟨by decide, by decide⟩
      exact hp _ (R_w f_42 (by decide))
    · have f_44 : R 1 1 1 := ⟨by decide, by decide⟩
      have f_43 : R 0 1 (((mI h 7 4) >>> (l1 &&& 31)) &&& 1) := R_and f_44 (by decide)
      have f_45 : R 0 0 0 := ⟨by decide, by decide⟩
      have f_46 : R 1 1 (((mI h 7 4) >>> (l1 &&& 31)) &&& 1) := rf_ne_lo f_43 c_37 (by decide) 1 rfl
      have f_47 : R 0 0 0 := ⟨by decide, by decide⟩
      exact hp _ (R_w f_47 (by decide))
  · have f_49 : R 1 1 1 := ⟨by decide, by decide⟩
    have f_48 : R 0 1 (((mI h 7 3) >>> (l1 &&& 31)) &&& 1) := R_and f_49 (by decide)
    have f_50 : R 0 0 0 := ⟨by decide, by decide⟩
    have f_51 : R 1 1 (((mI h 7 3) >>> (l1 &&& 31)) &&& 1) := rf_ne_lo f_48 c_32 (by decide) 1 rfl
    refine ⟨fun c_52 => ?_, fun c_52 => ?_⟩
    · have f_54 : R 1 1 1 := ⟨by decide, by decide⟩
      have f_53 : R 0 1 (((mI h 7 4) >>> (l1 &&& 31)) &&& 1) := R_and f_54 (by decide)
      have f_55 : R 0 0 0 := ⟨by decide, by decide⟩
      have f_56 : R 0 0 (((mI h 7 4) >>> (l1 &&& 31)) &&& 1) := rf_eq f_55 c_52
      have f_57 : R 1 1 1 := ⟨by decide, by decide⟩
      exact hp _ (R_w f_57 (by decide))
    · have f_59 : R 1 1 1 := ⟨by decide, by decide⟩
      have f_58 : R 0 1 (((mI h 7 4) >>> (l1 &&& 31)) &&& 1) := R_and f_59 (by decide)
      have f_60 : R 0 0 0 := ⟨by decide, by decide⟩
      have f_61 : R 1 1 (((mI h 7 4) >>> (l1 &&& 31)) &&& 1) := rf_ne_lo f_58 c_52 (by decide) 1 rfl
      have f_62 : R (-2) (-2) (-2) := ⟨by decide, by decide⟩
      exact hp _ (R_w f_62 (by decide))
set_option maxRecDepth 100000 in
set_option maxHeartbeats 4000000 in
theorem s_X5_leastBroken_L {g : gT} {h0 : mh_T} {P : Int32 → mh_T → Prop} (hG0 : GI h0) (hp : ∀ r : Int32, R (-2) 255 r → P r h0) : ∀ n : Nat, (∀ (l1 : Int32) (l2 : Int32), R (-2) 255 l1 → R 0 256 l2 → 1 * gap 256 l2 + 0 < n → ME g uX5_leastBroken 5 [.ref 7, .int l1, .int l2] [] h0 (qI P)) := by
  intro n
  induction n with
  | zero =>
    exact (fun _ _ _ _ hm => absurd hm (Nat.not_lt_zero _))
  | succ n ih =>
    intro l1 l2  fl1 fl2     hm
    have ok : Ok [] h0 h0 := Ok_rf hG0
    refine r_X5_leastBroken_5 l1 l2  ?_
    refine ⟨fun c_1284 => ?_, fun c_1284 => ?_⟩
    · have f_1286 : R 0 8 (mI h0 7 1) := GI_rd ok.1 7 _ (by decide)
      have f_1285 : R 1 256 (1 <<< ((mI h0 7 1) &&& 31)) := R_shl f_1286 1 256 0 8 (by decide)
      have f_1287 : R 1 256 l2 := rf_le_r f_1285 fl2 c_1284 1 (by decide)
      exact hp _ (R_w fl1 (by decide))
    · have f_1289 : R 0 8 (mI h0 7 1) := GI_rd ok.1 7 _ (by decide)
      have f_1288 : R 1 256 (1 <<< ((mI h0 7 1) &&& 31)) := R_shl f_1289 1 256 0 8 (by decide)
      have f_1290 : R 0 255 l2 := rf_lt_l fl2 f_1288 (nle c_1284) 255 (by decide)
      refine ⟨vin f_1290 (by decide), ?_⟩
      refine ⟨fun c_1291 => ?_, fun c_1291 => ?_⟩
      · have f_1292 : R 0 1 (mI h0 31 l2.toNatClampNeg) := GI_rd ok.1 31 _ rfl
        have f_1293 : R 0 0 0 := ⟨by decide, by decide⟩
        have f_1294 : R 1 1 (mI h0 31 l2.toNatClampNeg) := rf_ne_lo f_1292 c_1291 (by decide) 1 rfl
        have f_1296 : R 1 1 1 := ⟨by decide, by decide⟩
        have f_1295 : R 1 256 (l2 + 1) := R_add f_1290 f_1296 1 256 (by decide)
        have g_1297 := gap_inc (N := 256) f_1290 (by decide)
        exact ih l1 (l2 + 1)  (R_w fl1 (by decide)) (R_w f_1295 (by decide)) (by omega)
      · have f_1298 : R 0 1 (mI h0 31 l2.toNatClampNeg) := GI_rd ok.1 31 _ rfl
        have f_1299 : R 0 0 0 := ⟨by decide, by decide⟩
        have f_1300 : R 0 0 (mI h0 31 l2.toNatClampNeg) := rf_eq f_1299 c_1291
        refine ⟨fun c_1301 => ?_, fun c_1301 => ?_⟩
        · have f_1302 : R 0 0 0 := ⟨by decide, by decide⟩
          have f_1303 : R (-2) (-1) l1 := rf_lt_l fl1 f_1302 c_1301 (-1) (by decide)
          have f_1305 : R 1 1 1 := ⟨by decide, by decide⟩
          have f_1304 : R 1 256 (l2 + 1) := R_add f_1290 f_1305 1 256 (by decide)
          have g_1306 := gap_inc (N := 256) f_1290 (by decide)
          exact ih l2 (l2 + 1)  (R_w f_1290 (by decide)) (R_w f_1304 (by decide)) (by omega)
        · have f_1307 : R 0 0 0 := ⟨by decide, by decide⟩
          have f_1308 : R 0 255 l1 := rf_le_r f_1307 fl1 (nlt c_1301) 0 (by decide)
          refine s_J6_bitCount_0f7a4 l2 ok.1 (fun r6 f_1309 => ?_)
          refine s_J6_bitCount_0f7a4 l1 ok.1 (fun r8 f_1310 => ?_)
          refine ⟨fun c_1311 => ?_, fun c_1311 => ?_⟩
          · have f_1313 : R 1 1 1 := ⟨by decide, by decide⟩
            have f_1312 : R 1 256 (l2 + 1) := R_add f_1290 f_1313 1 256 (by decide)
            have g_1314 := gap_inc (N := 256) f_1290 (by decide)
            exact ih l1 (l2 + 1)  (R_w f_1308 (by decide)) (R_w f_1312 (by decide)) (by omega)
          · have f_1315 : R 0 62 r6 := rf_lt_l f_1309 f_1310 (nle c_1311) 62 (by decide)
            have f_1316 : R 1 63 r8 := rf_lt_r f_1309 f_1310 (nle c_1311) 1 (by decide)
            have f_1318 : R 1 1 1 := ⟨by decide, by decide⟩
            have f_1317 : R 1 256 (l2 + 1) := R_add f_1290 f_1318 1 256 (by decide)
            have g_1319 := gap_inc (N := 256) f_1290 (by decide)
            exact ih l2 (l2 + 1)  (R_w f_1290 (by decide)) (R_w f_1317 (by decide)) (by omega)
set_option maxRecDepth 100000 in
set_option maxHeartbeats 4000000 in
theorem s_X5_leastBroken {g : gT} {h : mh_T} {P : Int32 → mh_T → Prop}  (hG : GI h)  (hp : ∀ r : Int32, R (-2) 255 r → P r h) : MCi g yX5_leastBroken uX5_leastBroken [.ref 7] h P := by
  have ok : Ok [] h h := Ok_rf hG
  have L0 := s_X5_leastBroken_L (g := g) hG hp 257
  refine e_X5_leastBroken   ?_
  have f_1320 : R (-2) (-2) (-2) := ⟨by decide, by decide⟩
  have f_1321 : R 0 0 0 := ⟨by decide, by decide⟩
  have f_1322 : R 0 0 0 := ⟨by decide, by decide⟩
  have g_1323 := gap_le (N := 256) f_1322 (m := 256) (by decide)
  exact L0 (-2) 0  (R_w f_1320 (by decide)) (R_w f_1321 (by decide)) (by omega)
set_option maxRecDepth 100000 in
set_option maxHeartbeats 4000000 in
theorem s_X5_mostHeld_L {g : gT} {h0 : mh_T} {P : Int32 → mh_T → Prop} (hG0 : GI h0) (hp : ∀ r : Int32, R 0 63 r → P r h0) : ∀ n : Nat, (∀ (l1 : Int32) (l2 : Int32), R 0 63 l1 → R 0 256 l2 → 1 * gap 256 l2 + 0 < n → ME g uX5_mostHeld 4 [.ref 7, .int l1, .int l2] [] h0 (qI P)) := by
  intro n
  induction n with
  | zero =>
    exact (fun _ _ _ _ hm => absurd hm (Nat.not_lt_zero _))
  | succ n ih =>
    intro l1 l2  fl1 fl2     hm
    have ok : Ok [] h0 h0 := Ok_rf hG0
    refine r_X5_mostHeld_4 l1 l2  ?_
    refine ⟨fun c_876 => ?_, fun c_876 => ?_⟩
    · have f_878 : R 0 8 (mI h0 7 1) := GI_rd ok.1 7 _ (by decide)
      have f_877 : R 1 256 (1 <<< ((mI h0 7 1) &&& 31)) := R_shl f_878 1 256 0 8 (by decide)
      have f_879 : R 1 256 l2 := rf_le_r f_877 fl2 c_876 1 (by decide)
      exact hp _ (R_w fl1 (by decide))
    · have f_881 : R 0 8 (mI h0 7 1) := GI_rd ok.1 7 _ (by decide)
      have f_880 : R 1 256 (1 <<< ((mI h0 7 1) &&& 31)) := R_shl f_881 1 256 0 8 (by decide)
      have f_882 : R 0 255 l2 := rf_lt_l fl2 f_880 (nle c_876) 255 (by decide)
      refine ⟨vin f_882 (by decide), ?_⟩
      refine ⟨fun c_883 => ?_, fun c_883 => ?_⟩
      · have f_884 : R 0 1 (mI h0 31 l2.toNatClampNeg) := GI_rd ok.1 31 _ rfl
        have f_885 : R 0 0 0 := ⟨by decide, by decide⟩
        have f_886 : R 0 0 (mI h0 31 l2.toNatClampNeg) := rf_eq f_885 c_883
        have f_888 : R 1 1 1 := ⟨by decide, by decide⟩
        have f_887 : R 1 256 (l2 + 1) := R_add f_882 f_888 1 256 (by decide)
        have g_889 := gap_inc (N := 256) f_882 (by decide)
        exact ih l1 (l2 + 1)  (R_w fl1 (by decide)) (R_w f_887 (by decide)) (by omega)
      · have f_890 : R 0 1 (mI h0 31 l2.toNatClampNeg) := GI_rd ok.1 31 _ rfl
        have f_891 : R 0 0 0 := ⟨by decide, by decide⟩
        have f_892 : R 1 1 (mI h0 31 l2.toNatClampNeg) := rf_ne_lo f_890 c_883 (by decide) 1 rfl
        refine s_J6_bitCount_0f7a4 l2 ok.1 (fun r5 f_893 => ?_)
        intro x6 ex6
        have f_894 : R 0 63 (if l1 < r5 then r5 else l1) := R_ite (R_w f_893 (by decide)) (R_w fl1 (by decide))
        have f_895 : R 0 63 x6 := rf_eq f_894 ex6
        have f_897 : R 1 1 1 := ⟨by decide, by decide⟩
        have f_896 : R 1 256 (l2 + 1) := R_add f_882 f_897 1 256 (by decide)
        have g_898 := gap_inc (N := 256) f_882 (by decide)
        exact ih x6 (l2 + 1)  (R_w f_895 (by decide)) (R_w f_896 (by decide)) (by omega)
set_option maxRecDepth 100000 in
set_option maxHeartbeats 4000000 in
theorem s_X5_mostHeld {g : gT} {h : mh_T} {P : Int32 → mh_T → Prop}  (hG : GI h)  (hp : ∀ r : Int32, R 0 63 r → P r h) : MCi g yX5_mostHeld uX5_mostHeld [.ref 7] h P := by
  have ok : Ok [] h h := Ok_rf hG
  have L0 := s_X5_mostHeld_L (g := g) hG hp 257
  refine e_X5_mostHeld   ?_
  have f_899 : R 0 0 0 := ⟨by decide, by decide⟩
  have f_900 : R 0 0 0 := ⟨by decide, by decide⟩
  have f_901 : R 0 0 0 := ⟨by decide, by decide⟩
  have g_902 := gap_le (N := 256) f_901 (m := 256) (by decide)
  exact L0 0 0  (R_w f_899 (by decide)) (R_w f_900 (by decide)) (by omega)
theorem js_len : ∀ l, l < nJS → ((Int32.ofNat (lenJS.getD l 0)) >>> ((0 : Int32) &&& 31)) = Int32.ofNat (lenJS.getD l 0) ∧ 2 ≤ lenJS.getD l 0 ∧ lenJS.getD l 0 ≤ 5 := by decide
theorem s_J0_length {g : gT} {h : mh_T} {P : Int32 → mh_T → Prop} (l0 : Nat) (sl0 : l0 < nJS) (hp : ∀ r : Int32, r.toInt = lenJS.getD l0 0 → R 2 5 r → P r h) : MCi g yJ0_length_8abf5 uJ0_length_8abf5 [.ref (1000 + l0)] h P := by
  refine e_J0_length_8abf5 l0 sl0 ?_
  refine e_J0_coder_7d493 l0 sl0 ⟨rfl, ?_⟩
  obtain ⟨e, h1, h2⟩ := js_len l0 sl0
  rw [e]
  have t : (Int32.ofNat (lenJS.getD l0 0)).toInt = lenJS.getD l0 0 := by
    have : ∀ n, n ≤ 5 → (Int32.ofNat n).toInt = n := by decide
    exact this _ h2
  exact hp _ t ⟨by omega, by omega⟩
/-- the byte at a place of a word -/
def chJS (l i : Nat) : Int32 := (Int32.toUInt32 (((bytJS.getD l []).getD i 0) &&& 255) % 65536).toInt32
theorem ch_narrow : ∀ l, l < nJS → ∀ i, i < 5 → i < lenJS.getD l 0 → narrow .char (.int (chJS l i)) = .int (chJS l i) := by
  intro l hl i hi hh
  have hl : l = 0 ∨ l = 1 ∨ l = 2 ∨ l = 3 ∨ l = 4 ∨ l = 5 ∨ l = 6 ∨ l = 7 ∨ l = 8 ∨ l = 9 ∨ l = 10 ∨ l = 11 := by
    have : l < 12 := hl
    omega
  have hi : i = 0 ∨ i = 1 ∨ i = 2 ∨ i = 3 ∨ i = 4 := by omega
  rcases hl with e | e | e | e | e | e | e | e | e | e | e | e <;> subst e <;> rcases hi with e | e | e | e | e <;> subst e <;> first | rfl | exact absurd hh (by decide)
theorem s_J0_charAt {g : gT} {h : mh_T} {P : Int32 → mh_T → Prop} (l0 : Nat) (l1 : Int32) (sl0 : l0 < nJS) (f1 : 0 ≤ l1.toInt ∧ l1.toInt < lenJS.getD l0 0) (hp : P (chJS l0 l1.toNatClampNeg) h) : MCi g yJ0_charAt_5068e uJ0_charAt_5068e [.ref (1000 + l0), .int l1] h P := by
  obtain ⟨e, h1, h2⟩ := js_len l0 sl0
  have hi : l1.toNatClampNeg < lenJS.getD l0 0 := by
    show l1.toInt.toNat < _
    omega
  have t : (Int32.ofNat (lenJS.getD l0 0)).toInt = lenJS.getD l0 0 := by
    have : ∀ n, n ≤ 5 → (Int32.ofNat n).toInt = n := by decide
    exact this _ h2
  have z0 : (0 : Int32).toInt = 0 := by decide
  have nw := ch_narrow l0 sl0 _ (by omega) hi
  refine e_J0_charAt_5068e l0 l1 sl0 ?_
  refine e_J0_isLatin1_aae02 l0 sl0 ⟨fun z => absurd z (by decide), fun _ => ?_⟩
  refine e_J1_charAt_3b067 l0 l1 sl0 ?_
  refine e_J0_checkIndex_df160 _ _ ?_
  refine e_J3_checkIndex_8e157 _ _ ⟨fun c => ?_, fun c => ⟨fun c => ⟨vp_in_iff.mpr f1, nw, nw, hp⟩, fun c => ?_⟩⟩
  · have := lt_ti c
    omega
  · have := le_ti (nlt c)
    omega
set_option maxRecDepth 100000 in
set_option maxHeartbeats 4000000 in
theorem s_X8_hasSet {g : gT} {h : mh_T} {P : Int32 → mh_T → Prop} (l1 : Int32) (hG : GI h)  (hp : ∀ r : Int32, R 0 1 r → (¬ r = 0 → R 0 7 l1 ∧ R 1 8 (mI h 3 2)) → P r h) : MCi g yX8_hasSet uX8_hasSet [.ref 3, .int l1] h P := by
  have ok : Ok [] h h := Ok_rf hG
  refine e_X8_hasSet l1  ?_
  refine ⟨fun c_16 => ?_, fun c_16 => ?_⟩
  · have f_17 : R 0 0 0 := ⟨by decide, by decide⟩
    have f_18 : R (-2147483648) (-1) l1 := rf_lt_l (R_full l1) f_17 c_16 (-1) (by decide)
    have f_19 : R 0 0 0 := ⟨by decide, by decide⟩
    exact hp _ (R_w f_19 (by decide)) (fun z => absurd rfl z)
  · have f_20 : R 0 0 0 := ⟨by decide, by decide⟩
    have f_21 : R 0 2147483647 l1 := rf_le_r f_20 (R_full l1) (nlt c_16) 0 (by decide)
    refine ⟨fun c_22 => ?_, fun c_22 => ?_⟩
    · have f_23 : R 0 8 (mI h 3 2) := GI_rd ok.1 3 _ (by decide)
      have f_24 : R 0 0 0 := ⟨by decide, by decide⟩
      exact hp _ (R_w f_24 (by decide)) (fun z => absurd rfl z)
    · have f_25 : R 0 8 (mI h 3 2) := GI_rd ok.1 3 _ (by decide)
      have f_26 : R 0 7 l1 := rf_lt_l f_21 f_25 (nle c_22) 7 (by decide)
      have f_27 : R 1 8 (mI h 3 2) := rf_lt_r f_21 f_25 (nle c_22) 1 (by decide)
      have f_28 : R 1 1 1 := ⟨by decide, by decide⟩
      have f_29 : R 1 1 1 := ⟨by decide, by decide⟩
      have f_30 : R 0 0 0 := ⟨by decide, by decide⟩
      exact hp _ (R_w f_28 (by decide)) (fun _ => ⟨R_w f_26 (by decide), R_w f_27 (by decide)⟩)
set_option maxRecDepth 100000 in
set_option maxHeartbeats 4000000 in
theorem s_X8_hasPair {g : gT} {h : mh_T} {P : Int32 → mh_T → Prop} (l1 : Int32) (hG : GI h)  (hp : ∀ r : Int32, R 0 1 r → (¬ r = 0 → R 0 7 l1) → P r h) : MCi g yX8_hasPair uX8_hasPair [.ref 3, .int l1] h P := by
  have ok : Ok [] h h := Ok_rf hG
  refine e_X8_hasPair l1  ?_
  refine s_X8_hasSet l1 ok.1 (fun r2 f_22 im_21 => ?_)
  refine ⟨fun c_23 => ?_, fun c_23 => ?_⟩
  · have f_24 : R 0 0 0 := ⟨by decide, by decide⟩
    have f_25 : R 0 0 r2 := rf_eq f_24 c_23
    have f_26 : R 0 0 0 := ⟨by decide, by decide⟩
    exact hp _ (R_w f_26 (by decide)) (fun z => absurd rfl z)
  · have f_27 : R 0 0 0 := ⟨by decide, by decide⟩
    have f_28 := (im_21 c_23).1
    have f_29 := (im_21 c_23).2
    have f_30 : R 1 1 r2 := rf_ne_lo f_22 c_23 (by decide) 1 rfl
    refine ⟨vin f_28 (by decide), ?_⟩
    refine ⟨fun c_31 => ?_, fun c_31 => ?_⟩
    · have f_32 : R (-2) 5 (mI h 25 l1.toNatClampNeg) := GI_rd ok.1 25 _ rfl
      have f_33 : R 0 0 0 := ⟨by decide, by decide⟩
      have f_34 : R (-2) (-1) (mI h 25 l1.toNatClampNeg) := rf_lt_l f_32 f_33 c_31 (-1) (by decide)
      have f_35 : R 0 0 0 := ⟨by decide, by decide⟩
      exact hp _ (R_w f_35 (by decide)) (fun z => absurd rfl z)
    · have f_36 : R (-2) 5 (mI h 25 l1.toNatClampNeg) := GI_rd ok.1 25 _ rfl
      have f_37 : R 0 0 0 := ⟨by decide, by decide⟩
      have f_38 : R 0 5 (mI h 25 l1.toNatClampNeg) := rf_le_r f_37 f_36 (nlt c_31) 0 (by decide)
      have f_39 : R 1 1 1 := ⟨by decide, by decide⟩
      have f_40 : R 1 1 1 := ⟨by decide, by decide⟩
      exact hp _ (R_w f_39 (by decide)) (fun _ => R_w f_28 (by decide))
set_option maxRecDepth 100000 in
set_option maxHeartbeats 4000000 in
theorem s_X7_looksOf {g : gT} {h : mh_T} {P : Int32 → mh_T → Prop} (l1 : Int32) (hG : GI h) (fl1 : R 0 7 l1) (hp : ∀ r : Int32, P r h) : MCi g yX7_looksOf uX7_looksOf [.ref 4, .int l1] h P := by
  have ok : Ok [] h h := Ok_rf hG
  refine e_X7_looksOf l1  ?_
  refine ⟨vin fl1 (by decide), ?_⟩
  refine ⟨vin fl1 (by decide), ?_⟩
  have f_8 : R 0 5 (mI h 24 l1.toNatClampNeg) := GI_rd ok.1 24 _ rfl
  have f_7 : R 1 32 (1 <<< ((mI h 24 l1.toNatClampNeg) &&& 31)) := R_shl f_8 1 32 0 5 (by decide)
  have f_10 : R (-2) 5 (mI h 25 l1.toNatClampNeg) := GI_rd ok.1 25 _ rfl
  have f_9 : R (-2147483648) 2147483647 (1 <<< ((mI h 25 l1.toNatClampNeg) &&& 31)) := R_full _
  have f_6 : R (-2147483648) 2147483647 ((1 <<< ((mI h 24 l1.toNatClampNeg) &&& 31)) ||| (1 <<< ((mI h 25 l1.toNatClampNeg) &&& 31))) := R_full _
  exact hp _ 
set_option maxRecDepth 100000 in
set_option maxHeartbeats 4000000 in
theorem s_X7_hangsTogether_L {g : gT} {h0 : mh_T} {P : Int32 → mh_T → Prop} (hG0 : GI h0) (hp : ∀ r : Int32, R 0 1 r → P r h0) : ∀ n : Nat, (∀ (l1 : Int32) (l2 : Int32) (l3 : Int32) (l4 : Int32), R (-2147483648) 2147483647 l1 → R (-2147483648) 2147483647 l2 → R (-2147483648) 2147483647 l3 → R 0 8 l4 → 10 * gap 8 l4 + 9 < n → ME g uX7_hangsTogether 8 [.ref 4, .int l1, .int l2, .int l3, .int l4, .retAddr 0] [] h0 (qI P)) ∧ (∀ (l1 : Int32) (l2 : Int32) (l3 : Int32) (l4 : Int32) (l5 : Int32), R (-2147483648) 2147483647 l1 → R (-2147483648) 2147483647 l2 → R (-2147483648) 2147483647 l3 → R 0 7 l4 → R 0 8 l5 → 1 * gap 8 l5 + 10 * gap 8 l4 + 0 < n → ME g uX7_hangsTogether 18 [.ref 4, .int l1, .int l2, .int l3, .int l4, .int l5] [] h0 (qI P)) := by
  intro n
  induction n with
  | zero =>
    exact ⟨(fun _ _ _ _ _ _ _ _ hm => absurd hm (Nat.not_lt_zero _)), (fun _ _ _ _ _ _ _ _ _ _ hm => absurd hm (Nat.not_lt_zero _))⟩
  | succ n ih =>
    refine ⟨?_, ?_⟩
    · intro l1 l2 l3 l4  fl1 fl2 fl3 fl4     hm
      have ok : Ok [] h0 h0 := Ok_rf hG0
      refine r_X7_hangsTogether_8 l1 l2 l3 l4  ?_
      refine ⟨fun c_690 => ?_, fun c_690 => ?_⟩
      · have f_691 : R 8 8 8 := ⟨by decide, by decide⟩
        have f_692 : R 8 8 l4 := rf_le_r f_691 fl4 c_690 8 (by decide)
        refine ⟨fun c_693 => ?_, fun c_693 => ?_⟩
        · have f_694 : R 0 0 0 := ⟨by decide, by decide⟩
          exact hp _ (R_w f_694 (by decide))
        · have f_695 : R 1 1 1 := ⟨by decide, by decide⟩
          exact hp _ (R_w f_695 (by decide))
      · have f_696 : R 8 8 8 := ⟨by decide, by decide⟩
        have f_697 : R 0 7 l4 := rf_lt_l fl4 f_696 (nle c_690) 7 (by decide)
        have f_698 : R 0 0 0 := ⟨by decide, by decide⟩
        have f_699 : R 0 0 0 := ⟨by decide, by decide⟩
        have g_700 := gap_le (N := 8) f_699 (m := 8) (by decide)
        exact (ih.2) l1 l2 l3 l4 0  (R_w fl1 (by decide)) (R_w fl2 (by decide)) (R_w fl3 (by decide)) (R_w f_697 (by decide)) (R_w f_698 (by decide)) (by omega)
    · intro l1 l2 l3 l4 l5  fl1 fl2 fl3 fl4 fl5     hm
      have ok : Ok [] h0 h0 := Ok_rf hG0
      refine r_X7_hangsTogether_18 l1 l2 l3 l4 l5  ?_
      refine ⟨fun c_701 => ?_, fun c_701 => ?_⟩
      · have f_702 : R 0 8 (mI h0 3 2) := GI_rd ok.1 3 _ (by decide)
        have f_704 : R 1 1 1 := ⟨by decide, by decide⟩
        have f_703 : R 1 8 (l4 + 1) := R_add fl4 f_704 1 8 (by decide)
        have g_705 := gap_inc (N := 8) fl4 (by decide)
        exact (ih.1) l1 l2 l3 (l4 + 1)  (R_w fl1 (by decide)) (R_w fl2 (by decide)) (R_w fl3 (by decide)) (R_w f_703 (by decide)) (by omega)
      · have f_706 : R 0 8 (mI h0 3 2) := GI_rd ok.1 3 _ (by decide)
        have f_707 : R 0 7 l5 := rf_lt_l fl5 f_706 (nle c_701) 7 (by decide)
        have f_708 : R 1 8 (mI h0 3 2) := rf_lt_r fl5 f_706 (nle c_701) 1 (by decide)
        refine ⟨fun c_709 => ?_, fun c_709 => ?_⟩
        · have f_711 : R 1 1 1 := ⟨by decide, by decide⟩
          have f_710 : R 0 1 ((l1 >>> (l5 &&& 31)) &&& 1) := R_and f_711 (by decide)
          have f_712 : R 0 0 0 := ⟨by decide, by decide⟩
          have f_713 : R 0 0 ((l1 >>> (l5 &&& 31)) &&& 1) := rf_eq f_712 c_709
          have f_715 : R 1 1 1 := ⟨by decide, by decide⟩
          have f_714 : R 1 8 (l5 + 1) := R_add f_707 f_715 1 8 (by decide)
          have g_716 := gap_inc (N := 8) f_707 (by decide)
          exact (ih.2) l1 l2 l3 l4 (l5 + 1)  (R_w fl1 (by decide)) (R_w fl2 (by decide)) (R_w fl3 (by decide)) (R_w fl4 (by decide)) (R_w f_714 (by decide)) (by omega)
        · have f_718 : R 1 1 1 := ⟨by decide, by decide⟩
          have f_717 : R 0 1 ((l1 >>> (l5 &&& 31)) &&& 1) := R_and f_718 (by decide)
          have f_719 : R 0 0 0 := ⟨by decide, by decide⟩
          have f_720 : R 1 1 ((l1 >>> (l5 &&& 31)) &&& 1) := rf_ne_lo f_717 c_709 (by decide) 1 rfl
          refine s_X7_looksOf l5 ok.1 (R_w f_707 (by decide)) (fun r4 => ?_)
          refine ⟨fun c_721 => ?_, fun c_721 => ?_⟩
          · have f_723 : R (-2147483648) 2147483647 r4 := R_full _
            have f_722 : R (-2147483648) 2147483647 (r4 &&& l3) := R_full _
            have f_724 : R 0 0 0 := ⟨by decide, by decide⟩
            have f_725 : R 0 0 (r4 &&& l3) := rf_eq f_724 c_721
            have f_727 : R 1 1 1 := ⟨by decide, by decide⟩
            have f_726 : R 1 8 (l5 + 1) := R_add f_707 f_727 1 8 (by decide)
            have g_728 := gap_inc (N := 8) f_707 (by decide)
            exact (ih.2) l1 l2 l3 l4 (l5 + 1)  (R_w fl1 (by decide)) (R_w fl2 (by decide)) (R_w fl3 (by decide)) (R_w fl4 (by decide)) (R_w f_726 (by decide)) (by omega)
          · have f_730 : R (-2147483648) 2147483647 r4 := R_full _
            have f_729 : R (-2147483648) 2147483647 (r4 &&& l3) := R_full _
            have f_731 : R 0 0 0 := ⟨by decide, by decide⟩
            refine s_X7_looksOf l5 ok.1 (R_w f_707 (by decide)) (fun r7 => ?_)
            intro x8 ex8
            have f_733 : R (-2147483648) 2147483647 r7 := R_full _
            have f_732 : R (-2147483648) 2147483647 (l3 ||| r7) := R_full _
            have f_734 : R (-2147483648) 2147483647 x8 := rf_eq f_732 ex8
            have f_736 : R 1 1 1 := ⟨by decide, by decide⟩
            have f_735 : R 1 8 (l5 + 1) := R_add f_707 f_736 1 8 (by decide)
            have g_737 := gap_inc (N := 8) f_707 (by decide)
            exact (ih.2) l1 l2 x8 l4 (l5 + 1)  (R_w fl1 (by decide)) (R_w fl2 (by decide)) (R_w f_734 (by decide)) (R_w fl4 (by decide)) (R_w f_735 (by decide)) (by omega)
set_option maxRecDepth 100000 in
set_option maxHeartbeats 4000000 in
theorem s_X7_hangsTogether {g : gT} {h : mh_T} {P : Int32 → mh_T → Prop} (l1 : Int32) (l2 : Int32) (hG : GI h)  (hp : ∀ r : Int32, R 0 1 r → P r h) : MCi g yX7_hangsTogether uX7_hangsTogether [.ref 4, .int l1, .int l2] h P := by
  have ok : Ok [] h h := Ok_rf hG
  have L0 := s_X7_hangsTogether_L (g := g) hG hp 90
  refine e_X7_hangsTogether l1 l2  ?_
  intro x1 ex1
  have f_739 : R (-2147483648) 2147483647 (-l2) := R_full _
  have f_738 : R (-2147483648) 2147483647 (l2 &&& (-l2)) := R_full _
  have f_740 : R (-2147483648) 2147483647 x1 := rf_eq f_738 ex1
  have f_741 : R 0 0 0 := ⟨by decide, by decide⟩
  have f_742 : R 0 0 0 := ⟨by decide, by decide⟩
  have g_743 := gap_le (N := 8) f_742 (m := 8) (by decide)
  exact (L0.1) l1 l2 x1 0  (R_w (R_full l1) (by decide)) (R_w (R_full l2) (by decide)) (R_w f_740 (by decide)) (R_w f_741 (by decide)) (by omega)
set_option maxRecDepth 100000 in
set_option maxHeartbeats 4000000 in
theorem s_X7_isRing_L {g : gT} {h0 : mh_T} {P : Int32 → mh_T → Prop} (hG0 : GI h0) (hp : ∀ r : Int32, R 0 1 r → P r h0) : ∀ n : Nat, (∀ (l1 : Int32) (l2 : Int32) (l3 : Int32) (l4 : Int32) (l5 : Int32), R 0 255 l1 → R (-2147483648) 2147483647 l2 → R (-2147483648) 2147483647 l3 → R (-2147483648) 2147483647 l4 → R 0 8 l5 → 1 * gap 8 l5 + 0 < n → ME g uX7_isRing 37 [.ref 4, .int l1, .int l2, .int l3, .int l4, .int l5, .retAddr 0] [] h0 (qI P)) := by
  intro n
  induction n with
  | zero =>
    exact (fun _ _ _ _ _ _ _ _ _ _ hm => absurd hm (Nat.not_lt_zero _))
  | succ n ih =>
    intro l1 l2 l3 l4 l5  fl1 fl2 fl3 fl4 fl5     hm
    have ok : Ok [] h0 h0 := Ok_rf hG0
    refine r_X7_isRing_37 l1 l2 l3 l4 l5  ?_
    refine ⟨fun c_708 => ?_, fun c_708 => ?_⟩
    · have f_709 : R 0 8 (mI h0 3 2) := GI_rd ok.1 3 _ (by decide)
      refine ⟨fun c_710 => ?_, fun c_710 => ?_⟩
      · have f_711 : R 0 0 0 := ⟨by decide, by decide⟩
        have f_712 : R 0 0 0 := ⟨by decide, by decide⟩
        exact hp _ (R_w f_712 (by decide))
      · have f_713 : R 0 0 0 := ⟨by decide, by decide⟩
        have f_714 : R 0 0 l4 := rf_eq f_713 c_710
        refine ⟨fun c_715 => ?_, fun c_715 => ?_⟩
        · have f_716 : R 0 0 0 := ⟨by decide, by decide⟩
          exact hp _ (R_w f_716 (by decide))
        · refine s_X7_hangsTogether l1 l2 ok.1 (fun r5 f_717 => ?_)
          refine ⟨fun c_718 => ?_, fun c_718 => ?_⟩
          · have f_719 : R 0 0 0 := ⟨by decide, by decide⟩
            have f_720 : R 0 0 r5 := rf_eq f_719 c_718
            have f_721 : R 0 0 0 := ⟨by decide, by decide⟩
            exact hp _ (R_w f_721 (by decide))
          · have f_722 : R 0 0 0 := ⟨by decide, by decide⟩
            have f_723 : R 1 1 r5 := rf_ne_lo f_717 c_718 (by decide) 1 rfl
            have f_724 : R 1 1 1 := ⟨by decide, by decide⟩
            exact hp _ (R_w f_724 (by decide))
    · have f_725 : R 0 8 (mI h0 3 2) := GI_rd ok.1 3 _ (by decide)
      have f_726 : R 0 7 l5 := rf_lt_l fl5 f_725 (nle c_708) 7 (by decide)
      have f_727 : R 1 8 (mI h0 3 2) := rf_lt_r fl5 f_725 (nle c_708) 1 (by decide)
      refine ⟨fun c_728 => ?_, fun c_728 => ?_⟩
      · have f_730 : R 1 1 1 := ⟨by decide, by decide⟩
        have f_729 : R 0 1 ((l1 >>> (l5 &&& 31)) &&& 1) := R_and f_730 (by decide)
        have f_731 : R 0 0 0 := ⟨by decide, by decide⟩
        have f_732 : R 0 0 ((l1 >>> (l5 &&& 31)) &&& 1) := rf_eq f_731 c_728
        have f_734 : R 1 1 1 := ⟨by decide, by decide⟩
        have f_733 : R 1 8 (l5 + 1) := R_add f_726 f_734 1 8 (by decide)
        have g_735 := gap_inc (N := 8) f_726 (by decide)
        exact ih l1 l2 l3 l4 (l5 + 1)  (R_w fl1 (by decide)) (R_w fl2 (by decide)) (R_w fl3 (by decide)) (R_w fl4 (by decide)) (R_w f_733 (by decide)) (by omega)
      · have f_737 : R 1 1 1 := ⟨by decide, by decide⟩
        have f_736 : R 0 1 ((l1 >>> (l5 &&& 31)) &&& 1) := R_and f_737 (by decide)
        have f_738 : R 0 0 0 := ⟨by decide, by decide⟩
        have f_739 : R 1 1 ((l1 >>> (l5 &&& 31)) &&& 1) := rf_ne_lo f_736 c_728 (by decide) 1 rfl
        refine s_X8_hasPair l5 ok.1 (fun r9 f_741 im_740 => ?_)
        refine ⟨fun c_742 => ?_, fun c_742 => ?_⟩
        · have f_743 : R 0 0 0 := ⟨by decide, by decide⟩
          have f_744 := (im_740 c_742)
          have f_745 : R 1 1 r9 := rf_ne_lo f_741 c_742 (by decide) 1 rfl
          refine s_X7_looksOf l5 ok.1 (R_w f_726 (by decide)) (fun r12 => ?_)
          intro x13 ex13
          have f_748 : R (-2147483648) 2147483647 r12 := R_full _
          have f_747 : R (-2147483648) 2147483647 (l3 &&& r12) := R_full _
          have f_746 : R (-2147483648) 2147483647 (l4 ||| (l3 &&& r12)) := R_full _
          have f_749 : R (-2147483648) 2147483647 x13 := rf_eq f_746 ex13
          intro x14 ex14
          have f_751 : R (-2147483648) 2147483647 (l2 &&& r12) := R_full _
          have f_750 : R (-2147483648) 2147483647 (l3 ||| (l2 &&& r12)) := R_full _
          have f_752 : R (-2147483648) 2147483647 x14 := rf_eq f_750 ex14
          intro x15 ex15
          have f_753 : R (-2147483648) 2147483647 (l2 ||| r12) := R_full _
          have f_754 : R (-2147483648) 2147483647 x15 := rf_eq f_753 ex15
          have f_756 : R 1 1 1 := ⟨by decide, by decide⟩
          have f_755 : R 1 8 (l5 + 1) := R_add f_726 f_756 1 8 (by decide)
          have g_757 := gap_inc (N := 8) f_726 (by decide)
          exact ih l1 x15 x14 x13 (l5 + 1)  (R_w fl1 (by decide)) (R_w f_754 (by decide)) (R_w f_752 (by decide)) (R_w f_749 (by decide)) (R_w f_755 (by decide)) (by omega)
        · have f_758 : R 0 0 0 := ⟨by decide, by decide⟩
          have f_759 : R 0 0 r9 := rf_eq f_758 c_742
          have f_760 : R 0 0 0 := ⟨by decide, by decide⟩
          exact hp _ (R_w f_760 (by decide))
set_option maxRecDepth 100000 in
set_option maxHeartbeats 4000000 in
theorem s_X7_isRing {g : gT} {h : mh_T} {P : Int32 → mh_T → Prop} (l1 : Int32) (hG : GI h)  (hp : ∀ r : Int32, R 0 1 r → P r h) : MCi g yX7_isRing uX7_isRing [.ref 4, .int l1] h P := by
  have ok : Ok [] h h := Ok_rf hG
  have L0 := s_X7_isRing_L (g := g) hG hp 9
  refine e_X7_isRing l1  ?_
  refine ⟨fun c_761 => ?_, fun c_761 => ?_⟩
  · have f_762 : R 0 0 0 := ⟨by decide, by decide⟩
    have f_763 : R (-2147483648) (-1) l1 := rf_lt_l (R_full l1) f_762 c_761 (-1) (by decide)
    have f_764 : R 0 0 0 := ⟨by decide, by decide⟩
    exact hp _ (R_w f_764 (by decide))
  · have f_765 : R 0 0 0 := ⟨by decide, by decide⟩
    have f_766 : R 0 2147483647 l1 := rf_le_r f_765 (R_full l1) (nlt c_761) 0 (by decide)
    refine ⟨fun c_767 => ?_, fun c_767 => ?_⟩
    · have f_769 : R 0 8 (mI h 3 2) := GI_rd ok.1 3 _ (by decide)
      have f_768 : R 1 256 (1 <<< ((mI h 3 2) &&& 31)) := R_shl f_769 1 256 0 8 (by decide)
      have f_770 : R 1 2147483647 l1 := rf_le_r f_768 f_766 c_767 1 (by decide)
      have f_771 : R 0 0 0 := ⟨by decide, by decide⟩
      exact hp _ (R_w f_771 (by decide))
    · have f_773 : R 0 8 (mI h 3 2) := GI_rd ok.1 3 _ (by decide)
      have f_772 : R 1 256 (1 <<< ((mI h 3 2) &&& 31)) := R_shl f_773 1 256 0 8 (by decide)
      have f_774 : R 0 255 l1 := rf_lt_l f_766 f_772 (nle c_767) 255 (by decide)
      refine s_J6_bitCount_0f7a4 l1 ok.1 (fun r4 f_775 => ?_)
      refine ⟨fun c_776 => ?_, fun c_776 => ?_⟩
      · have f_777 : R 3 3 3 := ⟨by decide, by decide⟩
        have f_778 : R 3 63 r4 := rf_le_r f_777 f_775 c_776 3 (by decide)
        have f_779 : R 0 0 0 := ⟨by decide, by decide⟩
        have f_780 : R 0 0 0 := ⟨by decide, by decide⟩
        have f_781 : R 0 0 0 := ⟨by decide, by decide⟩
        have f_782 : R 0 0 0 := ⟨by decide, by decide⟩
        have f_783 : R 0 0 0 := ⟨by decide, by decide⟩
        have g_784 := gap_le (N := 8) f_783 (m := 8) (by decide)
        exact L0 l1 0 0 0 0  (R_w f_774 (by decide)) (R_w f_779 (by decide)) (R_w f_780 (by decide)) (R_w f_781 (by decide)) (R_w f_782 (by decide)) (by omega)
      · have f_785 : R 3 3 3 := ⟨by decide, by decide⟩
        have f_786 : R 0 2 r4 := rf_lt_l f_775 f_785 (nle c_776) 2 (by decide)
        have f_787 : R 0 0 0 := ⟨by decide, by decide⟩
        exact hp _ (R_w f_787 (by decide))
set_option maxRecDepth 100000 in
set_option maxHeartbeats 4000000 in
theorem s_X7_number_L {g : gT} {h0 : mh_T} {P : Int32 → mh_T → Prop} (hG0 : GI h0) (hp : ∀ r : Int32, P r h0) : ∀ n : Nat, (∀ (l1 : Int32) (l2 : Int32), R (-2147483648) 2147483647 l1 → R 0 256 l2 → 1 * gap 256 l2 + 0 < n → ME g uX7_number 4 [.ref 4, .int l1, .int l2] [] h0 (qI P)) := by
  intro n
  induction n with
  | zero =>
    exact (fun _ _ _ _ hm => absurd hm (Nat.not_lt_zero _))
  | succ n ih =>
    intro l1 l2  fl1 fl2     hm
    have ok : Ok [] h0 h0 := Ok_rf hG0
    refine r_X7_number_4 l1 l2  ?_
    refine ⟨fun c_1157 => ?_, fun c_1157 => ?_⟩
    · have f_1159 : R 0 8 (mI h0 3 2) := GI_rd ok.1 3 _ (by decide)
      have f_1158 : R 1 256 (1 <<< ((mI h0 3 2) &&& 31)) := R_shl f_1159 1 256 0 8 (by decide)
      have f_1160 : R 1 256 l2 := rf_le_r f_1158 fl2 c_1157 1 (by decide)
      exact hp _ 
    · have f_1162 : R 0 8 (mI h0 3 2) := GI_rd ok.1 3 _ (by decide)
      have f_1161 : R 1 256 (1 <<< ((mI h0 3 2) &&& 31)) := R_shl f_1162 1 256 0 8 (by decide)
      have f_1163 : R 0 255 l2 := rf_lt_l fl2 f_1161 (nle c_1157) 255 (by decide)
      refine s_X7_isRing l2 ok.1 (fun r3 f_1164 => ?_)
      refine ⟨fun c_1165 => ?_, fun c_1165 => ?_⟩
      · have f_1166 : R 0 0 0 := ⟨by decide, by decide⟩
        have f_1167 : R 0 0 r3 := rf_eq f_1166 c_1165
        have f_1169 : R 1 1 1 := ⟨by decide, by decide⟩
        have f_1168 : R 1 256 (l2 + 1) := R_add f_1163 f_1169 1 256 (by decide)
        have g_1170 := gap_inc (N := 256) f_1163 (by decide)
        exact ih l1 (l2 + 1)  (R_w fl1 (by decide)) (R_w f_1168 (by decide)) (by omega)
      · have f_1171 : R 0 0 0 := ⟨by decide, by decide⟩
        have f_1172 : R 1 1 r3 := rf_ne_lo f_1164 c_1165 (by decide) 1 rfl
        have f_1174 : R 1 1 1 := ⟨by decide, by decide⟩
        have f_1173 : R (-2147483648) 2147483647 (l1 + 1) := R_full _
        have f_1176 : R 1 1 1 := ⟨by decide, by decide⟩
        have f_1175 : R 1 256 (l2 + 1) := R_add f_1163 f_1176 1 256 (by decide)
        have g_1177 := gap_inc (N := 256) f_1163 (by decide)
        exact ih (l1 + 1) (l2 + 1)  (R_w f_1173 (by decide)) (R_w f_1175 (by decide)) (by omega)
set_option maxRecDepth 100000 in
set_option maxHeartbeats 4000000 in
theorem s_X7_number {g : gT} {h : mh_T} {P : Int32 → mh_T → Prop}  (hG : GI h)  (hp : ∀ r : Int32, P r h) : MCi g yX7_number uX7_number [.ref 4] h P := by
  have ok : Ok [] h h := Ok_rf hG
  have L0 := s_X7_number_L (g := g) hG hp 257
  refine e_X7_number   ?_
  have f_1178 : R 0 0 0 := ⟨by decide, by decide⟩
  have f_1179 : R 0 0 0 := ⟨by decide, by decide⟩
  have f_1180 : R 0 0 0 := ⟨by decide, by decide⟩
  have g_1181 := gap_le (N := 256) f_1180 (m := 256) (by decide)
  exact L0 0 0  (R_w f_1178 (by decide)) (R_w f_1179 (by decide)) (by omega)
set_option maxRecDepth 100000 in
set_option maxHeartbeats 4000000 in
theorem s_X7_ringAt_L {g : gT} {h0 : mh_T} {P : Int32 → mh_T → Prop} (hG0 : GI h0) (hp : ∀ r : Int32, R (-1) 255 r → P r h0) : ∀ n : Nat, (∀ (l1 : Int32) (l2 : Int32) (l3 : Int32), R (-2147483648) 2147483647 l1 → R (-2147483648) 2147483647 l2 → R 0 256 l3 → 1 * gap 256 l3 + 0 < n → ME g uX7_ringAt 4 [.ref 4, .int l1, .int l2, .int l3] [] h0 (qI P)) := by
  intro n
  induction n with
  | zero =>
    exact (fun _ _ _ _ _ _ hm => absurd hm (Nat.not_lt_zero _))
  | succ n ih =>
    intro l1 l2 l3  fl1 fl2 fl3     hm
    have ok : Ok [] h0 h0 := Ok_rf hG0
    refine r_X7_ringAt_4 l1 l2 l3  ?_
    refine ⟨fun c_1320 => ?_, fun c_1320 => ?_⟩
    · have f_1322 : R 0 8 (mI h0 3 2) := GI_rd ok.1 3 _ (by decide)
      have f_1321 : R 1 256 (1 <<< ((mI h0 3 2) &&& 31)) := R_shl f_1322 1 256 0 8 (by decide)
      have f_1323 : R 1 256 l3 := rf_le_r f_1321 fl3 c_1320 1 (by decide)
      have f_1324 : R (-1) (-1) (-1) := ⟨by decide, by decide⟩
      exact hp _ (R_w f_1324 (by decide))
    · have f_1326 : R 0 8 (mI h0 3 2) := GI_rd ok.1 3 _ (by decide)
      have f_1325 : R 1 256 (1 <<< ((mI h0 3 2) &&& 31)) := R_shl f_1326 1 256 0 8 (by decide)
      have f_1327 : R 0 255 l3 := rf_lt_l fl3 f_1325 (nle c_1320) 255 (by decide)
      refine s_X7_isRing l3 ok.1 (fun r3 f_1328 => ?_)
      refine ⟨fun c_1329 => ?_, fun c_1329 => ?_⟩
      · have f_1330 : R 0 0 0 := ⟨by decide, by decide⟩
        have f_1331 : R 0 0 r3 := rf_eq f_1330 c_1329
        have f_1333 : R 1 1 1 := ⟨by decide, by decide⟩
        have f_1332 : R 1 256 (l3 + 1) := R_add f_1327 f_1333 1 256 (by decide)
        have g_1334 := gap_inc (N := 256) f_1327 (by decide)
        exact ih l1 l2 (l3 + 1)  (R_w fl1 (by decide)) (R_w fl2 (by decide)) (R_w f_1332 (by decide)) (by omega)
      · have f_1335 : R 0 0 0 := ⟨by decide, by decide⟩
        have f_1336 : R 1 1 r3 := rf_ne_lo f_1328 c_1329 (by decide) 1 rfl
        refine ⟨fun c_1337 => ?_, fun c_1337 => ?_⟩
        · have f_1339 : R 1 1 1 := ⟨by decide, by decide⟩
          have f_1338 : R (-2147483648) 2147483647 (l2 + 1) := R_full _
          have f_1341 : R 1 1 1 := ⟨by decide, by decide⟩
          have f_1340 : R 1 256 (l3 + 1) := R_add f_1327 f_1341 1 256 (by decide)
          have g_1342 := gap_inc (N := 256) f_1327 (by decide)
          exact ih l1 (l2 + 1) (l3 + 1)  (R_w fl1 (by decide)) (R_w f_1338 (by decide)) (R_w f_1340 (by decide)) (by omega)
        · exact hp _ (R_w f_1327 (by decide))
set_option maxRecDepth 100000 in
set_option maxHeartbeats 4000000 in
theorem s_X7_ringAt {g : gT} {h : mh_T} {P : Int32 → mh_T → Prop} (l1 : Int32) (hG : GI h)  (hp : ∀ r : Int32, R (-1) 255 r → P r h) : MCi g yX7_ringAt uX7_ringAt [.ref 4, .int l1] h P := by
  have ok : Ok [] h h := Ok_rf hG
  have L0 := s_X7_ringAt_L (g := g) hG hp 257
  refine e_X7_ringAt l1  ?_
  have f_1343 : R 0 0 0 := ⟨by decide, by decide⟩
  have f_1344 : R 0 0 0 := ⟨by decide, by decide⟩
  have f_1345 : R 0 0 0 := ⟨by decide, by decide⟩
  have g_1346 := gap_le (N := 256) f_1345 (m := 256) (by decide)
  exact L0 l1 0 0  (R_w (R_full l1) (by decide)) (R_w f_1343 (by decide)) (R_w f_1344 (by decide)) (by omega)
set_option maxRecDepth 100000 in
set_option maxHeartbeats 4000000 in
theorem s_X8_alike {g : gT} {h : mh_T} {P : Int32 → mh_T → Prop} (l1 : Int32) (hG : GI h) (fl1 : R 0 7 l1) (hp : ∀ r : Int32, P r h) : MCi g yX8_alike uX8_alike [.ref 3, .int l1] h P := by
  have ok : Ok [] h h := Ok_rf hG
  refine e_X8_alike l1  ?_
  intro x1 ex1
  have f_18 : R 4 4 4 := ⟨by decide, by decide⟩
  have f_17 : R 0 28 (4 * l1) := R_mul f_18 fl1 0 28 (by decide)
  have f_19 : R 0 28 x1 := rf_eq f_17 ex1
  refine ⟨vin f_19 (by decide), ?_⟩
  have f_21 : R 3 3 3 := ⟨by decide, by decide⟩
  have f_20 : R 3 31 (x1 + 3) := R_add f_19 f_21 3 31 (by decide)
  refine ⟨vin f_20 (by decide), ?_⟩
  have f_23 : R 1 1 1 := ⟨by decide, by decide⟩
  have f_22 : R 1 29 (x1 + 1) := R_add f_19 f_23 1 29 (by decide)
  refine ⟨vin f_22 (by decide), ?_⟩
  have f_25 : R 2 2 2 := ⟨by decide, by decide⟩
  have f_24 : R 2 30 (x1 + 2) := R_add f_19 f_25 2 30 (by decide)
  refine ⟨vin f_24 (by decide), ?_⟩
  have f_29 : R (-2147483648) 2147483647 (mI h 26 x1.toNatClampNeg) := R_full _
  have f_30 : R (-2147483648) 2147483647 (mI h 26 (x1 + 3).toNatClampNeg) := R_full _
  have f_28 : R (-2147483648) 2147483647 ((mI h 26 x1.toNatClampNeg) + (mI h 26 (x1 + 3).toNatClampNeg)) := R_full _
  have f_31 : R (-2147483648) 2147483647 (mI h 26 (x1 + 1).toNatClampNeg) := R_full _
  have f_27 : R (-2147483648) 2147483647 (((mI h 26 x1.toNatClampNeg) + (mI h 26 (x1 + 3).toNatClampNeg)) - (mI h 26 (x1 + 1).toNatClampNeg)) := R_full _
  have f_32 : R (-2147483648) 2147483647 (mI h 26 (x1 + 2).toNatClampNeg) := R_full _
  have f_26 : R (-2147483648) 2147483647 ((((mI h 26 x1.toNatClampNeg) + (mI h 26 (x1 + 3).toNatClampNeg)) - (mI h 26 (x1 + 1).toNatClampNeg)) - (mI h 26 (x1 + 2).toNatClampNeg)) := R_full _
  exact hp _ 
set_option maxRecDepth 100000 in
set_option maxHeartbeats 4000000 in
theorem s_X7_surplus_L {g : gT} {h0 : mh_T} {P : Int32 → mh_T → Prop} (hG0 : GI h0) (hp : ∀ r : Int32, P r h0) : ∀ n : Nat, (∀ (l1 : Int32) (l2 : Int32) (l3 : Int32) (l4 : Int32) (l5 : Int32), R (-2147483648) 2147483647 l1 → R (-2147483648) 2147483647 l2 → R (-2147483648) 2147483647 l3 → R (-2147483648) 2147483647 l4 → R 0 8 l5 → 1 * gap 8 l5 + 0 < n → ME g uX7_surplus 11 [.ref 4, .int l1, .int l2, .int l3, .int l4, .int l5, .retAddr 0] [] h0 (qI P)) := by
  intro n
  induction n with
  | zero =>
    exact (fun _ _ _ _ _ _ _ _ _ _ hm => absurd hm (Nat.not_lt_zero _))
  | succ n ih =>
    intro l1 l2 l3 l4 l5  fl1 fl2 fl3 fl4 fl5     hm
    have ok : Ok [] h0 h0 := Ok_rf hG0
    refine r_X7_surplus_11 l1 l2 l3 l4 l5  ?_
    refine ⟨fun c_3580 => ?_, fun c_3580 => ?_⟩
    · have f_3581 : R 0 8 (mI h0 3 2) := GI_rd ok.1 3 _ (by decide)
      refine ⟨fun c_3582 => ?_, fun c_3582 => ?_⟩
      · have f_3583 : R (-2147483648) 2147483647 (l4 - l4 / 2 * 2) := R_full _
        have f_3584 : R 1 1 1 := ⟨by decide, by decide⟩
        intro x3 ex3
        have f_3587 : R 2 2 2 := ⟨by decide, by decide⟩
        have f_3586 : R (-2147483648) 2147483647 (2 * l3) := R_full _
        have f_3585 : R (-2147483648) 2147483647 (l2 - (2 * l3)) := R_full _
        have f_3588 : R (-2147483648) 2147483647 x3 := rf_eq f_3585 ex3
        refine s_J6_bitCount_0f7a4 l1 ok.1 (fun r5 f_3589 => ?_)
        have f_3592 : R 0 60 (mI h0 3 0) := GI_rd ok.1 3 _ (by decide)
        have f_3594 : R 2 2 2 := ⟨by decide, by decide⟩
        have f_3593 : R (-2) 61 (r5 - 2) := R_sub f_3589 f_3594 (-2) 61 (by decide)
        have f_3591 : R (-2147483648) 2147483647 ((mI h0 3 0) * (r5 - 2)) := R_full _
        have f_3590 : R (-2147483648) 2147483647 (x3 - ((mI h0 3 0) * (r5 - 2))) := R_full _
        exact hp _ 
      · have f_3595 : R (-2147483648) 2147483647 (l4 - l4 / 2 * 2) := R_full _
        have f_3596 : R 1 1 1 := ⟨by decide, by decide⟩
        have f_3597 : R 1 1 (l4 - l4 / 2 * 2) := rf_eq f_3596 c_3582
        refine s_J6_bitCount_0f7a4 l1 ok.1 (fun r7 f_3598 => ?_)
        have f_3601 : R 0 60 (mI h0 3 0) := GI_rd ok.1 3 _ (by decide)
        have f_3603 : R 2 2 2 := ⟨by decide, by decide⟩
        have f_3602 : R (-2) 61 (r7 - 2) := R_sub f_3598 f_3603 (-2) 61 (by decide)
        have f_3600 : R (-2147483648) 2147483647 ((mI h0 3 0) * (r7 - 2)) := R_full _
        have f_3599 : R (-2147483648) 2147483647 (l2 - ((mI h0 3 0) * (r7 - 2))) := R_full _
        exact hp _ 
    · have f_3604 : R 0 8 (mI h0 3 2) := GI_rd ok.1 3 _ (by decide)
      have f_3605 : R 0 7 l5 := rf_lt_l fl5 f_3604 (nle c_3580) 7 (by decide)
      have f_3606 : R 1 8 (mI h0 3 2) := rf_lt_r fl5 f_3604 (nle c_3580) 1 (by decide)
      refine ⟨fun c_3607 => ?_, fun c_3607 => ?_⟩
      · have f_3609 : R 1 1 1 := ⟨by decide, by decide⟩
        have f_3608 : R 0 1 ((l1 >>> (l5 &&& 31)) &&& 1) := R_and f_3609 (by decide)
        have f_3610 : R 0 0 0 := ⟨by decide, by decide⟩
        have f_3611 : R 0 0 ((l1 >>> (l5 &&& 31)) &&& 1) := rf_eq f_3610 c_3607
        have f_3613 : R 1 1 1 := ⟨by decide, by decide⟩
        have f_3612 : R 1 8 (l5 + 1) := R_add f_3605 f_3613 1 8 (by decide)
        have g_3614 := gap_inc (N := 8) f_3605 (by decide)
        exact ih l1 l2 l3 l4 (l5 + 1)  (R_w fl1 (by decide)) (R_w fl2 (by decide)) (R_w fl3 (by decide)) (R_w fl4 (by decide)) (R_w f_3612 (by decide)) (by omega)
      · have f_3616 : R 1 1 1 := ⟨by decide, by decide⟩
        have f_3615 : R 0 1 ((l1 >>> (l5 &&& 31)) &&& 1) := R_and f_3616 (by decide)
        have f_3617 : R 0 0 0 := ⟨by decide, by decide⟩
        have f_3618 : R 1 1 ((l1 >>> (l5 &&& 31)) &&& 1) := rf_ne_lo f_3615 c_3607 (by decide) 1 rfl
        refine s_X8_alike l5 ok.1 (R_w f_3605 (by decide)) (fun r10 => ?_)
        intro x11 ex11
        have f_3621 : R (-2147483648) 2147483647 r10 := R_full _
        have f_3623 : R 0 0 0 := ⟨by decide, by decide⟩
        have f_3622 : R (-2147483648) 2147483647 (0 - r10) := R_full _
        have f_3620 : R (-2147483648) 2147483647 (if 0 ≤ r10 then r10 else 0 - r10) := R_ite (R_w f_3621 (by decide)) (R_w f_3622 (by decide))
        have f_3619 : R (-2147483648) 2147483647 (l2 + (if 0 ≤ r10 then r10 else 0 - r10)) := R_full _
        have f_3624 : R (-2147483648) 2147483647 x11 := rf_eq f_3619 ex11
        intro x12 ex12
        have f_3625 : R (-2147483648) 2147483647 (if (if 0 ≤ r10 then r10 else 0 - r10) < l3 then (if 0 ≤ r10 then r10 else 0 - r10) else l3) := R_ite (R_w f_3620 (by decide)) (R_w fl3 (by decide))
        have f_3626 : R (-2147483648) 2147483647 x12 := rf_eq f_3625 ex12
        refine ⟨fun c_3627 => ?_, fun c_3627 => ?_⟩
        · have f_3628 : R 0 0 0 := ⟨by decide, by decide⟩
          have f_3629 : R 0 2147483647 r10 := rf_le_r f_3628 f_3621 c_3627 0 (by decide)
          intro x14 ex14
          have f_3631 : R 0 0 0 := ⟨by decide, by decide⟩
          have f_3630 : R (-2147483648) 2147483647 (l4 + 0) := R_add fl4 f_3631 (-2147483648) 2147483647 (by decide)
          have f_3632 : R (-2147483648) 2147483647 x14 := rf_eq f_3630 ex14
          have f_3634 : R 1 1 1 := ⟨by decide, by decide⟩
          have f_3633 : R 1 8 (l5 + 1) := R_add f_3605 f_3634 1 8 (by decide)
          have g_3635 := gap_inc (N := 8) f_3605 (by decide)
          exact ih l1 x11 x12 x14 (l5 + 1)  (R_w fl1 (by decide)) (R_w f_3624 (by decide)) (R_w f_3626 (by decide)) (R_w f_3632 (by decide)) (R_w f_3633 (by decide)) (by omega)
        · have f_3636 : R 0 0 0 := ⟨by decide, by decide⟩
          have f_3637 : R (-2147483648) (-1) r10 := rf_lt_l f_3621 f_3636 (nle c_3627) (-1) (by decide)
          intro x15 ex15
          have f_3639 : R 1 1 1 := ⟨by decide, by decide⟩
          have f_3638 : R (-2147483648) 2147483647 (l4 + 1) := R_full _
          have f_3640 : R (-2147483648) 2147483647 x15 := rf_eq f_3638 ex15
          have f_3642 : R 1 1 1 := ⟨by decide, by decide⟩
          have f_3641 : R 1 8 (l5 + 1) := R_add f_3605 f_3642 1 8 (by decide)
          have g_3643 := gap_inc (N := 8) f_3605 (by decide)
          exact ih l1 x11 x12 x15 (l5 + 1)  (R_w fl1 (by decide)) (R_w f_3624 (by decide)) (R_w f_3626 (by decide)) (R_w f_3640 (by decide)) (R_w f_3641 (by decide)) (by omega)
set_option maxRecDepth 100000 in
set_option maxHeartbeats 4000000 in
theorem s_X7_surplus {g : gT} {h : mh_T} {P : Int32 → mh_T → Prop} (l1 : Int32) (hG : GI h)  (hp : ∀ r : Int32, P r h) : MCi g yX7_surplus uX7_surplus [.ref 4, .int l1] h P := by
  have ok : Ok [] h h := Ok_rf hG
  have L0 := s_X7_surplus_L (g := g) hG hp 9
  refine e_X7_surplus l1  ?_
  have f_3644 : R 0 0 0 := ⟨by decide, by decide⟩
  have f_3645 : R 60 60 60 := ⟨by decide, by decide⟩
  have f_3646 : R 0 0 0 := ⟨by decide, by decide⟩
  have f_3647 : R 0 0 0 := ⟨by decide, by decide⟩
  have f_3648 : R 0 0 0 := ⟨by decide, by decide⟩
  have g_3649 := gap_le (N := 8) f_3648 (m := 8) (by decide)
  exact L0 l1 0 60 0 0  (R_w (R_full l1) (by decide)) (R_w f_3644 (by decide)) (R_w f_3645 (by decide)) (R_w f_3646 (by decide)) (R_w f_3647 (by decide)) (by omega)
set_option maxRecDepth 100000 in
set_option maxHeartbeats 4000000 in
theorem s_X8_hasLook {g : gT} {h : mh_T} {P : Int32 → mh_T → Prop} (l1 : Int32) (hG : GI h)  (hp : ∀ r : Int32, R 0 1 r → (¬ r = 0 → R 0 5 l1) → P r h) : MCi g yX8_hasLook uX8_hasLook [.ref 3, .int l1] h P := by
  have ok : Ok [] h h := Ok_rf hG
  refine e_X8_hasLook l1  ?_
  refine ⟨fun c_16 => ?_, fun c_16 => ?_⟩
  · have f_17 : R 0 0 0 := ⟨by decide, by decide⟩
    have f_18 : R (-2147483648) (-1) l1 := rf_lt_l (R_full l1) f_17 c_16 (-1) (by decide)
    have f_19 : R 0 0 0 := ⟨by decide, by decide⟩
    exact hp _ (R_w f_19 (by decide)) (fun z => absurd rfl z)
  · have f_20 : R 0 0 0 := ⟨by decide, by decide⟩
    have f_21 : R 0 2147483647 l1 := rf_le_r f_20 (R_full l1) (nlt c_16) 0 (by decide)
    refine ⟨fun c_22 => ?_, fun c_22 => ?_⟩
    · have f_23 : R 0 6 (mI h 3 1) := GI_rd ok.1 3 _ (by decide)
      have f_24 : R 0 0 0 := ⟨by decide, by decide⟩
      exact hp _ (R_w f_24 (by decide)) (fun z => absurd rfl z)
    · have f_25 : R 0 6 (mI h 3 1) := GI_rd ok.1 3 _ (by decide)
      have f_26 : R 0 5 l1 := rf_lt_l f_21 f_25 (nle c_22) 5 (by decide)
      have f_27 : R 1 6 (mI h 3 1) := rf_lt_r f_21 f_25 (nle c_22) 1 (by decide)
      have f_28 : R 1 1 1 := ⟨by decide, by decide⟩
      have f_29 : R 1 1 1 := ⟨by decide, by decide⟩
      have f_30 : R 0 0 0 := ⟨by decide, by decide⟩
      exact hp _ (R_w f_28 (by decide)) (fun _ => R_w f_26 (by decide))
set_option maxRecDepth 100000 in
set_option maxHeartbeats 4000000 in
theorem s_X8_outcomes {g : gT} {h : mh_T} {P : Int32 → mh_T → Prop} (l1 : Int32) (hG : GI h) (fl1 : R 0 7 l1) (hp : ∀ r : Int32, R 2 4 r → P r h) : MCi g yX8_outcomes uX8_outcomes [.ref 3, .int l1] h P := by
  have ok : Ok [] h h := Ok_rf hG
  refine e_X8_outcomes l1  ?_
  refine ⟨vin fl1 (by decide), ?_⟩
  refine ⟨fun c_10 => ?_, fun c_10 => ?_⟩
  · have f_11 : R (-2) 5 (mI h 25 l1.toNatClampNeg) := GI_rd ok.1 25 _ rfl
    have f_12 : R 0 0 0 := ⟨by decide, by decide⟩
    have f_13 : R 0 5 (mI h 25 l1.toNatClampNeg) := rf_le_r f_12 f_11 c_10 0 (by decide)
    have f_14 : R 4 4 4 := ⟨by decide, by decide⟩
    exact hp _ (R_w f_14 (by decide))
  · have f_15 : R (-2) 5 (mI h 25 l1.toNatClampNeg) := GI_rd ok.1 25 _ rfl
    have f_16 : R 0 0 0 := ⟨by decide, by decide⟩
    have f_17 : R (-2) (-1) (mI h 25 l1.toNatClampNeg) := rf_lt_l f_15 f_16 (nle c_10) (-1) (by decide)
    have f_18 : R 2 2 2 := ⟨by decide, by decide⟩
    exact hp _ (R_w f_18 (by decide))
set_option maxRecDepth 100000 in
set_option maxHeartbeats 4000000 in
theorem s_X8_hasOutcome {g : gT} {h : mh_T} {P : Int32 → mh_T → Prop} (l1 : Int32) (l2 : Int32) (hG : GI h)  (hp : ∀ r : Int32, R 0 1 r → (¬ r = 0 → R 0 7 l1 ∧ R 0 3 l2) → P r h) : MCi g yX8_hasOutcome uX8_hasOutcome [.ref 3, .int l1, .int l2] h P := by
  have ok : Ok [] h h := Ok_rf hG
  refine e_X8_hasOutcome l1 l2  ?_
  refine s_X8_hasSet l1 ok.1 (fun r2 f_26 im_25 => ?_)
  refine ⟨fun c_27 => ?_, fun c_27 => ?_⟩
  · have f_28 : R 0 0 0 := ⟨by decide, by decide⟩
    have f_29 : R 0 0 r2 := rf_eq f_28 c_27
    have f_30 : R 0 0 0 := ⟨by decide, by decide⟩
    exact hp _ (R_w f_30 (by decide)) (fun z => absurd rfl z)
  · have f_31 : R 0 0 0 := ⟨by decide, by decide⟩
    have f_32 := (im_25 c_27).1
    have f_33 := (im_25 c_27).2
    have f_34 : R 1 1 r2 := rf_ne_lo f_26 c_27 (by decide) 1 rfl
    refine ⟨fun c_35 => ?_, fun c_35 => ?_⟩
    · have f_36 : R 0 0 0 := ⟨by decide, by decide⟩
      have f_37 : R (-2147483648) (-1) l2 := rf_lt_l (R_full l2) f_36 c_35 (-1) (by decide)
      have f_38 : R 0 0 0 := ⟨by decide, by decide⟩
      exact hp _ (R_w f_38 (by decide)) (fun z => absurd rfl z)
    · have f_39 : R 0 0 0 := ⟨by decide, by decide⟩
      have f_40 : R 0 2147483647 l2 := rf_le_r f_39 (R_full l2) (nlt c_35) 0 (by decide)
      refine s_X8_outcomes l1 ok.1 (R_w f_32 (by decide)) (fun r6 f_41 => ?_)
      refine ⟨fun c_42 => ?_, fun c_42 => ?_⟩
      · have f_43 : R 2 2147483647 l2 := rf_le_r f_41 f_40 c_42 2 (by decide)
        have f_44 : R 0 0 0 := ⟨by decide, by decide⟩
        exact hp _ (R_w f_44 (by decide)) (fun z => absurd rfl z)
      · have f_45 : R 0 3 l2 := rf_lt_l f_40 f_41 (nle c_42) 3 (by decide)
        have f_46 : R 1 1 1 := ⟨by decide, by decide⟩
        have f_47 : R 1 1 1 := ⟨by decide, by decide⟩
        have f_48 : R 0 0 0 := ⟨by decide, by decide⟩
        exact hp _ (R_w f_46 (by decide)) (fun _ => ⟨R_w f_32 (by decide), R_w f_45 (by decide)⟩)
set_option maxRecDepth 100000 in
set_option maxHeartbeats 4000000 in
theorem s_X8_fitting_L {g : gT} {h0 : mh_T} {P : Int32 → mh_T → Prop} (hG0 : GI h0) (hp : ∀ r : Int32, P r h0) : ∀ n : Nat, (∀ (l1 : Int32) (l2 : Int32), R (-2147483648) 2147483647 l1 → R 0 64 l2 → 1 * gap 64 l2 + 0 < n → ME g uX8_fitting 4 [.ref 3, .int l1, .int l2] [] h0 (qI P)) := by
  intro n
  induction n with
  | zero =>
    exact (fun _ _ _ _ hm => absurd hm (Nat.not_lt_zero _))
  | succ n ih =>
    intro l1 l2  fl1 fl2     hm
    have ok : Ok [] h0 h0 := Ok_rf hG0
    refine r_X8_fitting_4 l1 l2  ?_
    refine s_X8_hiddenAnswers ok.1 (fun r2 f_992 => ?_)
    refine ⟨fun c_993 => ?_, fun c_993 => ?_⟩
    · have f_994 : R 1 64 l2 := rf_le_r f_992 fl2 c_993 1 (by decide)
      exact hp _ 
    · have f_995 : R 0 63 l2 := rf_lt_l fl2 f_992 (nle c_993) 63 (by decide)
      refine s_X8_missed l2 ok.1 (fun r5 f_996 => ?_)
      refine ⟨fun c_997 => ?_, fun c_997 => ?_⟩
      · have f_998 : R 0 0 0 := ⟨by decide, by decide⟩
        have f_999 : R 1 255 r5 := rf_ne_lo f_996 c_997 (by decide) 1 rfl
        have f_1001 : R 1 1 1 := ⟨by decide, by decide⟩
        have f_1000 : R 1 64 (l2 + 1) := R_add f_995 f_1001 1 64 (by decide)
        have g_1002 := gap_inc (N := 64) f_995 (by decide)
        exact ih l1 (l2 + 1)  (R_w fl1 (by decide)) (R_w f_1000 (by decide)) (by omega)
      · have f_1003 : R 0 0 0 := ⟨by decide, by decide⟩
        have f_1004 : R 0 0 r5 := rf_eq f_1003 c_997
        have f_1006 : R 1 1 1 := ⟨by decide, by decide⟩
        have f_1005 : R (-2147483648) 2147483647 (l1 + 1) := R_full _
        have f_1008 : R 1 1 1 := ⟨by decide, by decide⟩
        have f_1007 : R 1 64 (l2 + 1) := R_add f_995 f_1008 1 64 (by decide)
        have g_1009 := gap_inc (N := 64) f_995 (by decide)
        exact ih (l1 + 1) (l2 + 1)  (R_w f_1005 (by decide)) (R_w f_1007 (by decide)) (by omega)
set_option maxRecDepth 100000 in
set_option maxHeartbeats 4000000 in
theorem s_X8_fitting {g : gT} {h : mh_T} {P : Int32 → mh_T → Prop}  (hG : GI h)  (hp : ∀ r : Int32, P r h) : MCi g yX8_fitting uX8_fitting [.ref 3] h P := by
  have ok : Ok [] h h := Ok_rf hG
  have L0 := s_X8_fitting_L (g := g) hG hp 65
  refine e_X8_fitting   ?_
  have f_1010 : R 0 0 0 := ⟨by decide, by decide⟩
  have f_1011 : R 0 0 0 := ⟨by decide, by decide⟩
  have f_1012 : R 0 0 0 := ⟨by decide, by decide⟩
  have g_1013 := gap_le (N := 64) f_1012 (m := 64) (by decide)
  exact L0 0 0  (R_w f_1010 (by decide)) (R_w f_1011 (by decide)) (by omega)
set_option maxRecDepth 100000 in
set_option maxHeartbeats 4000000 in
theorem s_X8_fittingAt_L {g : gT} {h0 : mh_T} {P : Int32 → mh_T → Prop} (hG0 : GI h0) (hp : ∀ r : Int32, R (-1) 63 r → P r h0) : ∀ n : Nat, (∀ (l1 : Int32) (l2 : Int32) (l3 : Int32), R (-2147483648) 2147483647 l1 → R (-2147483648) 2147483647 l2 → R 0 64 l3 → 1 * gap 64 l3 + 0 < n → ME g uX8_fittingAt 4 [.ref 3, .int l1, .int l2, .int l3] [] h0 (qI P)) := by
  intro n
  induction n with
  | zero =>
    exact (fun _ _ _ _ _ _ hm => absurd hm (Nat.not_lt_zero _))
  | succ n ih =>
    intro l1 l2 l3  fl1 fl2 fl3     hm
    have ok : Ok [] h0 h0 := Ok_rf hG0
    refine r_X8_fittingAt_4 l1 l2 l3  ?_
    refine s_X8_hiddenAnswers ok.1 (fun r2 f_1155 => ?_)
    refine ⟨fun c_1156 => ?_, fun c_1156 => ?_⟩
    · have f_1157 : R 1 64 l3 := rf_le_r f_1155 fl3 c_1156 1 (by decide)
      have f_1158 : R (-1) (-1) (-1) := ⟨by decide, by decide⟩
      exact hp _ (R_w f_1158 (by decide))
    · have f_1159 : R 0 63 l3 := rf_lt_l fl3 f_1155 (nle c_1156) 63 (by decide)
      refine s_X8_missed l3 ok.1 (fun r5 f_1160 => ?_)
      refine ⟨fun c_1161 => ?_, fun c_1161 => ?_⟩
      · have f_1162 : R 0 0 0 := ⟨by decide, by decide⟩
        have f_1163 : R 1 255 r5 := rf_ne_lo f_1160 c_1161 (by decide) 1 rfl
        have f_1165 : R 1 1 1 := ⟨by decide, by decide⟩
        have f_1164 : R 1 64 (l3 + 1) := R_add f_1159 f_1165 1 64 (by decide)
        have g_1166 := gap_inc (N := 64) f_1159 (by decide)
        exact ih l1 l2 (l3 + 1)  (R_w fl1 (by decide)) (R_w fl2 (by decide)) (R_w f_1164 (by decide)) (by omega)
      · have f_1167 : R 0 0 0 := ⟨by decide, by decide⟩
        have f_1168 : R 0 0 r5 := rf_eq f_1167 c_1161
        refine ⟨fun c_1169 => ?_, fun c_1169 => ?_⟩
        · have f_1171 : R 1 1 1 := ⟨by decide, by decide⟩
          have f_1170 : R (-2147483648) 2147483647 (l2 + 1) := R_full _
          have f_1173 : R 1 1 1 := ⟨by decide, by decide⟩
          have f_1172 : R 1 64 (l3 + 1) := R_add f_1159 f_1173 1 64 (by decide)
          have g_1174 := gap_inc (N := 64) f_1159 (by decide)
          exact ih l1 (l2 + 1) (l3 + 1)  (R_w fl1 (by decide)) (R_w f_1170 (by decide)) (R_w f_1172 (by decide)) (by omega)
        · exact hp _ (R_w f_1159 (by decide))
set_option maxRecDepth 100000 in
set_option maxHeartbeats 4000000 in
theorem s_X8_fittingAt {g : gT} {h : mh_T} {P : Int32 → mh_T → Prop} (l1 : Int32) (hG : GI h)  (hp : ∀ r : Int32, R (-1) 63 r → P r h) : MCi g yX8_fittingAt uX8_fittingAt [.ref 3, .int l1] h P := by
  have ok : Ok [] h h := Ok_rf hG
  have L0 := s_X8_fittingAt_L (g := g) hG hp 65
  refine e_X8_fittingAt l1  ?_
  have f_1175 : R 0 0 0 := ⟨by decide, by decide⟩
  have f_1176 : R 0 0 0 := ⟨by decide, by decide⟩
  have f_1177 : R 0 0 0 := ⟨by decide, by decide⟩
  have g_1178 := gap_le (N := 64) f_1177 (m := 64) (by decide)
  exact L0 l1 0 0  (R_w (R_full l1) (by decide)) (R_w f_1175 (by decide)) (R_w f_1176 (by decide)) (by omega)
set_option maxRecDepth 100000 in
set_option maxHeartbeats 4000000 in
theorem s_X8_possible_L {g : gT} {h0 : mh_T} {P : Int32 → mh_T → Prop} (hG0 : GI h0) (hp : ∀ r : Int32, P r h0) : ∀ n : Nat, (∀ (l1 : Int32) (l2 : Int32), R (-2147483648) 2147483647 l1 → R 0 32 l2 → 1 * gap 32 l2 + 0 < n → ME g uX8_possible 4 [.ref 3, .int l1, .int l2] [] h0 (qI P)) := by
  intro n
  induction n with
  | zero =>
    exact (fun _ _ _ _ hm => absurd hm (Nat.not_lt_zero _))
  | succ n ih =>
    intro l1 l2  fl1 fl2     hm
    have ok : Ok [] h0 h0 := Ok_rf hG0
    refine r_X8_possible_4 l1 l2  ?_
    refine ⟨fun c_578 => ?_, fun c_578 => ?_⟩
    · have f_580 : R 4 4 4 := ⟨by decide, by decide⟩
      have f_581 : R 0 8 (mI h0 3 2) := GI_rd ok.1 3 _ (by decide)
      have f_579 : R 0 32 (4 * (mI h0 3 2)) := R_mul f_580 f_581 0 32 (by decide)
      exact hp _ 
    · have f_583 : R 4 4 4 := ⟨by decide, by decide⟩
      have f_584 : R 0 8 (mI h0 3 2) := GI_rd ok.1 3 _ (by decide)
      have f_582 : R 0 32 (4 * (mI h0 3 2)) := R_mul f_583 f_584 0 32 (by decide)
      have f_585 : R 0 31 l2 := rf_lt_l fl2 f_582 (nle c_578) 31 (by decide)
      have f_586 : R 1 32 (4 * (mI h0 3 2)) := rf_lt_r fl2 f_582 (nle c_578) 1 (by decide)
      refine ⟨vin f_585 (by decide), ?_⟩
      refine ⟨fun c_587 => ?_, fun c_587 => ?_⟩
      · have f_588 : R (-2147483648) 2147483647 (mI h0 26 l2.toNatClampNeg) := R_full _
        have f_589 : R 0 0 0 := ⟨by decide, by decide⟩
        have f_590 : R (-2147483648) 0 (mI h0 26 l2.toNatClampNeg) := rf_le_l f_588 f_589 c_587 0 (by decide)
        have f_592 : R 1 1 1 := ⟨by decide, by decide⟩
        have f_591 : R 1 32 (l2 + 1) := R_add f_585 f_592 1 32 (by decide)
        have g_593 := gap_inc (N := 32) f_585 (by decide)
        exact ih l1 (l2 + 1)  (R_w fl1 (by decide)) (R_w f_591 (by decide)) (by omega)
      · have f_594 : R (-2147483648) 2147483647 (mI h0 26 l2.toNatClampNeg) := R_full _
        have f_595 : R 0 0 0 := ⟨by decide, by decide⟩
        have f_596 : R 1 2147483647 (mI h0 26 l2.toNatClampNeg) := rf_lt_r f_595 f_594 (nle c_587) 1 (by decide)
        intro x4 ex4
        have f_598 : R (-2147483648) 2147483647 (1 <<< (l2 &&& 31)) := R_full _
        have f_597 : R (-2147483648) 2147483647 (l1 ||| (1 <<< (l2 &&& 31))) := R_full _
        have f_599 : R (-2147483648) 2147483647 x4 := rf_eq f_597 ex4
        have f_601 : R 1 1 1 := ⟨by decide, by decide⟩
        have f_600 : R 1 32 (l2 + 1) := R_add f_585 f_601 1 32 (by decide)
        have g_602 := gap_inc (N := 32) f_585 (by decide)
        exact ih x4 (l2 + 1)  (R_w f_599 (by decide)) (R_w f_600 (by decide)) (by omega)
set_option maxRecDepth 100000 in
set_option maxHeartbeats 4000000 in
theorem s_X8_possible {g : gT} {h : mh_T} {P : Int32 → mh_T → Prop}  (hG : GI h)  (hp : ∀ r : Int32, P r h) : MCi g yX8_possible uX8_possible [.ref 3] h P := by
  have ok : Ok [] h h := Ok_rf hG
  have L0 := s_X8_possible_L (g := g) hG hp 33
  refine e_X8_possible   ?_
  have f_603 : R 0 0 0 := ⟨by decide, by decide⟩
  have f_604 : R 0 0 0 := ⟨by decide, by decide⟩
  have f_605 : R 0 0 0 := ⟨by decide, by decide⟩
  have g_606 := gap_le (N := 32) f_605 (m := 32) (by decide)
  exact L0 0 0  (R_w f_603 (by decide)) (R_w f_604 (by decide)) (by omega)
set_option maxRecDepth 100000 in
set_option maxHeartbeats 4000000 in
theorem s_X8_extending_L {g : gT} {h0 : mh_T} {P : Int32 → mh_T → Prop} (hG0 : GI h0) (hp : ∀ r : Int32, P r h0) : ∀ n : Nat, (∀ (l1 : Int32) (l2 : Int32), R (-2147483648) 2147483647 l1 → R 0 64 l2 → 10 * gap 64 l2 + 9 < n → ME g uX8_extending 4 [.ref 3, .int l1, .int l2, .retAddr 0, .retAddr 0] [] h0 (qI P)) ∧ (∀ (l1 : Int32) (l2 : Int32) (l3 : Int32) (l4 : Int32), R (-2147483648) 2147483647 l1 → R 0 63 l2 → R 0 255 l3 → R 0 8 l4 → 1 * gap 8 l4 + 10 * gap 64 l2 + 0 < n → ME g uX8_extending 21 [.ref 3, .int l1, .int l2, .int l3, .int l4] [] h0 (qI P)) := by
  intro n
  induction n with
  | zero =>
    exact ⟨(fun _ _ _ _ hm => absurd hm (Nat.not_lt_zero _)), (fun _ _ _ _ _ _ _ _ hm => absurd hm (Nat.not_lt_zero _))⟩
  | succ n ih =>
    refine ⟨?_, ?_⟩
    · intro l1 l2  fl1 fl2     hm
      have ok : Ok [] h0 h0 := Ok_rf hG0
      refine r_X8_extending_4 l1 l2  ?_
      refine s_X8_hiddenAnswers ok.1 (fun r2 f_2025 => ?_)
      refine ⟨fun c_2026 => ?_, fun c_2026 => ?_⟩
      · have f_2027 : R 1 64 l2 := rf_le_r f_2025 fl2 c_2026 1 (by decide)
        exact hp _ 
      · have f_2028 : R 0 63 l2 := rf_lt_l fl2 f_2025 (nle c_2026) 63 (by decide)
        refine s_X8_missed l2 ok.1 (fun r5 f_2029 => ?_)
        have f_2030 : R 0 0 0 := ⟨by decide, by decide⟩
        have f_2031 : R 0 0 0 := ⟨by decide, by decide⟩
        have g_2032 := gap_le (N := 8) f_2031 (m := 8) (by decide)
        exact (ih.2) l1 l2 r5 0  (R_w fl1 (by decide)) (R_w f_2028 (by decide)) (R_w f_2029 (by decide)) (R_w f_2030 (by decide)) (by omega)
    · intro l1 l2 l3 l4  fl1 fl2 fl3 fl4     hm
      have ok : Ok [] h0 h0 := Ok_rf hG0
      refine r_X8_extending_21 l1 l2 l3 l4  ?_
      refine ⟨fun c_2033 => ?_, fun c_2033 => ?_⟩
      · have f_2034 : R 0 8 (mI h0 3 2) := GI_rd ok.1 3 _ (by decide)
        have f_2036 : R 1 1 1 := ⟨by decide, by decide⟩
        have f_2035 : R 1 64 (l2 + 1) := R_add fl2 f_2036 1 64 (by decide)
        have g_2037 := gap_inc (N := 64) fl2 (by decide)
        exact (ih.1) l1 (l2 + 1)  (R_w fl1 (by decide)) (R_w f_2035 (by decide)) (by omega)
      · have f_2038 : R 0 8 (mI h0 3 2) := GI_rd ok.1 3 _ (by decide)
        have f_2039 : R 0 7 l4 := rf_lt_l fl4 f_2038 (nle c_2033) 7 (by decide)
        have f_2040 : R 1 8 (mI h0 3 2) := rf_lt_r fl4 f_2038 (nle c_2033) 1 (by decide)
        refine ⟨fun c_2041 => ?_, fun c_2041 => ?_⟩
        · have f_2044 : R 1 128 (1 <<< (l4 &&& 31)) := R_shl f_2039 1 128 0 7 (by decide)
          have f_2045 : R (-1) (-1) (-1) := ⟨by decide, by decide⟩
          have f_2043 : R (-2147483648) 2147483647 ((1 <<< (l4 &&& 31)) ^^^ (-1)) := R_full _
          have f_2042 : R 0 255 (l3 &&& ((1 <<< (l4 &&& 31)) ^^^ (-1))) := R_andl fl3 (by decide)
          have f_2046 : R 0 0 0 := ⟨by decide, by decide⟩
          have f_2047 : R 1 255 (l3 &&& ((1 <<< (l4 &&& 31)) ^^^ (-1))) := rf_ne_lo f_2042 c_2041 (by decide) 1 rfl
          have f_2049 : R 1 1 1 := ⟨by decide, by decide⟩
          have f_2048 : R 1 8 (l4 + 1) := R_add f_2039 f_2049 1 8 (by decide)
          have g_2050 := gap_inc (N := 8) f_2039 (by decide)
          exact (ih.2) l1 l2 l3 (l4 + 1)  (R_w fl1 (by decide)) (R_w fl2 (by decide)) (R_w fl3 (by decide)) (R_w f_2048 (by decide)) (by omega)
        · have f_2053 : R 1 128 (1 <<< (l4 &&& 31)) := R_shl f_2039 1 128 0 7 (by decide)
          have f_2054 : R (-1) (-1) (-1) := ⟨by decide, by decide⟩
          have f_2052 : R (-2147483648) 2147483647 ((1 <<< (l4 &&& 31)) ^^^ (-1)) := R_full _
          have f_2051 : R 0 255 (l3 &&& ((1 <<< (l4 &&& 31)) ^^^ (-1))) := R_andl fl3 (by decide)
          have f_2055 : R 0 0 0 := ⟨by decide, by decide⟩
          have f_2056 : R 0 0 (l3 &&& ((1 <<< (l4 &&& 31)) ^^^ (-1))) := rf_eq f_2055 c_2041
          refine s_X8_cellOf l4 l2 ok.1 (R_w f_2039 (by decide)) (fun r4 f_2057 => ?_)
          intro x5 ex5
          have f_2059 : R (-2147483648) 2147483647 (1 <<< (r4 &&& 31)) := R_full _
          have f_2058 : R (-2147483648) 2147483647 (l1 ||| (1 <<< (r4 &&& 31))) := R_full _
          have f_2060 : R (-2147483648) 2147483647 x5 := rf_eq f_2058 ex5
          have f_2062 : R 1 1 1 := ⟨by decide, by decide⟩
          have f_2061 : R 1 8 (l4 + 1) := R_add f_2039 f_2062 1 8 (by decide)
          have g_2063 := gap_inc (N := 8) f_2039 (by decide)
          exact (ih.2) x5 l2 l3 (l4 + 1)  (R_w f_2060 (by decide)) (R_w fl2 (by decide)) (R_w fl3 (by decide)) (R_w f_2061 (by decide)) (by omega)
set_option maxRecDepth 100000 in
set_option maxHeartbeats 4000000 in
theorem s_X8_extending {g : gT} {h : mh_T} {P : Int32 → mh_T → Prop}  (hG : GI h)  (hp : ∀ r : Int32, P r h) : MCi g yX8_extending uX8_extending [.ref 3] h P := by
  have ok : Ok [] h h := Ok_rf hG
  have L0 := s_X8_extending_L (g := g) hG hp 650
  refine e_X8_extending   ?_
  have f_2064 : R 0 0 0 := ⟨by decide, by decide⟩
  have f_2065 : R 0 0 0 := ⟨by decide, by decide⟩
  have f_2066 : R 0 0 0 := ⟨by decide, by decide⟩
  have g_2067 := gap_le (N := 64) f_2066 (m := 64) (by decide)
  exact (L0.1) 0 0  (R_w f_2064 (by decide)) (R_w f_2065 (by decide)) (by omega)
set_option maxRecDepth 100000 in
set_option maxHeartbeats 4000000 in
theorem s_X8_onesOf {g : gT} {h : mh_T} {P : Int32 → mh_T → Prop} (l1 : Int32) (l2 : Int32) (hG : GI h) (fl1 : R 0 7 l1) (hp : ∀ r : Int32, P r h) : MCi g yX8_onesOf uX8_onesOf [.ref 3, .int l1, .int l2] h P := by
  have ok : Ok [] h h := Ok_rf hG
  refine e_X8_onesOf l1 l2  ?_
  intro x1 ex1
  have f_41 : R 4 4 4 := ⟨by decide, by decide⟩
  have f_40 : R 0 28 (4 * l1) := R_mul f_41 fl1 0 28 (by decide)
  have f_42 : R 0 28 x1 := rf_eq f_40 ex1
  refine ⟨vin fl1 (by decide), ?_⟩
  refine ⟨fun c_43 => ?_, fun c_43 => ?_⟩
  · have f_44 : R (-2) 5 (mI h 25 l1.toNatClampNeg) := GI_rd ok.1 25 _ rfl
    have f_45 : R 0 0 0 := ⟨by decide, by decide⟩
    have f_46 : R 0 5 (mI h 25 l1.toNatClampNeg) := rf_le_r f_45 f_44 c_43 0 (by decide)
    refine ⟨vin fl1 (by decide), ?_⟩
    refine ⟨fun c_47 => ?_, fun c_47 => ?_⟩
    · have f_48 : R 0 5 (mI h 24 l1.toNatClampNeg) := GI_rd ok.1 24 _ rfl
      refine ⟨vin fl1 (by decide), ?_⟩
      refine ⟨fun c_49 => ?_, fun c_49 => ?_⟩
      · have f_50 : R (-1) (-1) (-1) := ⟨by decide, by decide⟩
        exact hp _ 
      · have f_51 : R 0 5 l2 := rf_eq' f_46 c_49
        have f_53 : R 1 1 1 := ⟨by decide, by decide⟩
        have f_52 : R 1 29 (x1 + 1) := R_add f_42 f_53 1 29 (by decide)
        refine ⟨vin f_52 (by decide), ?_⟩
        have f_55 : R 3 3 3 := ⟨by decide, by decide⟩
        have f_54 : R 3 31 (x1 + 3) := R_add f_42 f_55 3 31 (by decide)
        refine ⟨vin f_54 (by decide), ?_⟩
        have f_57 : R (-2147483648) 2147483647 (mI h 26 (x1 + 1).toNatClampNeg) := R_full _
        have f_58 : R (-2147483648) 2147483647 (mI h 26 (x1 + 3).toNatClampNeg) := R_full _
        have f_56 : R (-2147483648) 2147483647 ((mI h 26 (x1 + 1).toNatClampNeg) + (mI h 26 (x1 + 3).toNatClampNeg)) := R_full _
        exact hp _ 
    · have f_59 : R 0 5 (mI h 24 l1.toNatClampNeg) := GI_rd ok.1 24 _ rfl
      have f_60 : R 0 5 l2 := rf_eq' f_59 c_47
      have f_62 : R 2 2 2 := ⟨by decide, by decide⟩
      have f_61 : R 2 30 (x1 + 2) := R_add f_42 f_62 2 30 (by decide)
      refine ⟨vin f_61 (by decide), ?_⟩
      have f_64 : R 3 3 3 := ⟨by decide, by decide⟩
      have f_63 : R 3 31 (x1 + 3) := R_add f_42 f_64 3 31 (by decide)
      refine ⟨vin f_63 (by decide), ?_⟩
      have f_66 : R (-2147483648) 2147483647 (mI h 26 (x1 + 2).toNatClampNeg) := R_full _
      have f_67 : R (-2147483648) 2147483647 (mI h 26 (x1 + 3).toNatClampNeg) := R_full _
      have f_65 : R (-2147483648) 2147483647 ((mI h 26 (x1 + 2).toNatClampNeg) + (mI h 26 (x1 + 3).toNatClampNeg)) := R_full _
      exact hp _ 
  · have f_68 : R (-2) 5 (mI h 25 l1.toNatClampNeg) := GI_rd ok.1 25 _ rfl
    have f_69 : R 0 0 0 := ⟨by decide, by decide⟩
    have f_70 : R (-2) (-1) (mI h 25 l1.toNatClampNeg) := rf_lt_l f_68 f_69 (nle c_43) (-1) (by decide)
    refine ⟨vin fl1 (by decide), ?_⟩
    refine ⟨fun c_71 => ?_, fun c_71 => ?_⟩
    · have f_72 : R 0 5 (mI h 24 l1.toNatClampNeg) := GI_rd ok.1 24 _ rfl
      have f_73 : R (-1) (-1) (-1) := ⟨by decide, by decide⟩
      exact hp _ 
    · have f_74 : R 0 5 (mI h 24 l1.toNatClampNeg) := GI_rd ok.1 24 _ rfl
      have f_75 : R 0 5 l2 := rf_eq' f_74 c_71
      have f_77 : R 1 1 1 := ⟨by decide, by decide⟩
      have f_76 : R 1 29 (x1 + 1) := R_add f_42 f_77 1 29 (by decide)
      refine ⟨vin f_76 (by decide), ?_⟩
      have f_78 : R (-2147483648) 2147483647 (mI h 26 (x1 + 1).toNatClampNeg) := R_full _
      exact hp _ 
set_option maxRecDepth 100000 in
set_option maxHeartbeats 4000000 in
theorem s_X8_firstDisturbed_L {g : gT} {h0 : mh_T} {P : Int32 → mh_T → Prop} (hG0 : GI h0) (hp : ∀ r : Int32, R (-2) 5 r → P r h0) : ∀ n : Nat, (∀ (l1 : Int32), R 0 6 l1 → 10 * gap 6 l1 + 9 < n → ME g uX8_firstDisturbed 2 [.ref 3, .int l1, .retAddr 0, .retAddr 0, .retAddr 0] [] h0 (qI P)) ∧ (∀ (l1 : Int32) (l2 : Int32) (l3 : Int32), R 0 5 l1 → R (-1) 2147483647 l2 → R 0 8 l3 → 1 * gap 8 l3 + 10 * gap 6 l1 + 0 < n → ME g uX8_firstDisturbed 14 [.ref 3, .int l1, .int l2, .int l3, .retAddr 0] [] h0 (qI P)) := by
  intro n
  induction n with
  | zero =>
    exact ⟨(fun _ _ hm => absurd hm (Nat.not_lt_zero _)), (fun _ _ _ _ _ _ hm => absurd hm (Nat.not_lt_zero _))⟩
  | succ n ih =>
    refine ⟨?_, ?_⟩
    · intro l1  fl1     hm
      have ok : Ok [] h0 h0 := Ok_rf hG0
      refine r_X8_firstDisturbed_2 l1  ?_
      refine ⟨fun c_567 => ?_, fun c_567 => ?_⟩
      · have f_568 : R 0 6 (mI h0 3 1) := GI_rd ok.1 3 _ (by decide)
        have f_569 : R (-2) (-2) (-2) := ⟨by decide, by decide⟩
        exact hp _ (R_w f_569 (by decide))
      · have f_570 : R 0 6 (mI h0 3 1) := GI_rd ok.1 3 _ (by decide)
        have f_571 : R 0 5 l1 := rf_lt_l fl1 f_570 (nle c_567) 5 (by decide)
        have f_572 : R 1 6 (mI h0 3 1) := rf_lt_r fl1 f_570 (nle c_567) 1 (by decide)
        have f_573 : R (-1) (-1) (-1) := ⟨by decide, by decide⟩
        have f_574 : R 0 0 0 := ⟨by decide, by decide⟩
        have f_575 : R 0 0 0 := ⟨by decide, by decide⟩
        have g_576 := gap_le (N := 8) f_575 (m := 8) (by decide)
        exact (ih.2) l1 (-1) 0  (R_w f_571 (by decide)) (R_w f_573 (by decide)) (R_w f_574 (by decide)) (by omega)
    · intro l1 l2 l3  fl1 fl2 fl3     hm
      have ok : Ok [] h0 h0 := Ok_rf hG0
      refine r_X8_firstDisturbed_14 l1 l2 l3  ?_
      refine ⟨fun c_577 => ?_, fun c_577 => ?_⟩
      · have f_578 : R 0 8 (mI h0 3 2) := GI_rd ok.1 3 _ (by decide)
        have f_580 : R 1 1 1 := ⟨by decide, by decide⟩
        have f_579 : R 1 6 (l1 + 1) := R_add fl1 f_580 1 6 (by decide)
        have g_581 := gap_inc (N := 6) fl1 (by decide)
        exact (ih.1) (l1 + 1)  (R_w f_579 (by decide)) (by omega)
      · have f_582 : R 0 8 (mI h0 3 2) := GI_rd ok.1 3 _ (by decide)
        have f_583 : R 0 7 l3 := rf_lt_l fl3 f_582 (nle c_577) 7 (by decide)
        have f_584 : R 1 8 (mI h0 3 2) := rf_lt_r fl3 f_582 (nle c_577) 1 (by decide)
        refine s_X8_onesOf l3 l1 ok.1 (R_w f_583 (by decide)) (fun r3 => ?_)
        refine ⟨fun c_585 => ?_, fun c_585 => ?_⟩
        · have f_586 : R (-2147483648) 2147483647 r3 := R_full _
          have f_587 : R 0 0 0 := ⟨by decide, by decide⟩
          have f_588 : R (-2147483648) (-1) r3 := rf_lt_l f_586 f_587 c_585 (-1) (by decide)
          refine ⟨fun c_589 => ?_, fun c_589 => ?_⟩
          · have f_590 : R 0 0 0 := ⟨by decide, by decide⟩
            have f_592 : R 1 1 1 := ⟨by decide, by decide⟩
            have f_591 : R 1 8 (l3 + 1) := R_add f_583 f_592 1 8 (by decide)
            have g_593 := gap_inc (N := 8) f_583 (by decide)
            exact (ih.2) l1 l2 (l3 + 1)  (R_w fl1 (by decide)) (R_w fl2 (by decide)) (R_w f_591 (by decide)) (by omega)
          · have f_594 : R 0 0 0 := ⟨by decide, by decide⟩
            have f_595 := rf_le_l f_594 f_588 (nlt c_589) (-1) (by decide)
            exact (R_abs f_595 (by decide)).elim
        · have f_596 : R (-2147483648) 2147483647 r3 := R_full _
          have f_597 : R 0 0 0 := ⟨by decide, by decide⟩
          have f_598 : R 0 2147483647 r3 := rf_le_r f_597 f_596 (nlt c_585) 0 (by decide)
          refine ⟨fun c_599 => ?_, fun c_599 => ?_⟩
          · have f_600 : R 0 0 0 := ⟨by decide, by decide⟩
            have f_601 : R (-1) (-1) l2 := rf_lt_l fl2 f_600 c_599 (-1) (by decide)
            refine ⟨fun c_602 => ?_, fun c_602 => ?_⟩
            · have f_603 : R 0 0 0 := ⟨by decide, by decide⟩
              have f_604 : R 0 (-1) r3 := rf_lt_l f_598 f_603 c_602 (-1) (by decide)
              exact (R_abs f_604 (by decide)).elim
            · have f_605 : R 0 0 0 := ⟨by decide, by decide⟩
              have f_607 : R 1 1 1 := ⟨by decide, by decide⟩
              have f_606 : R 1 8 (l3 + 1) := R_add f_583 f_607 1 8 (by decide)
              have g_608 := gap_inc (N := 8) f_583 (by decide)
              exact (ih.2) l1 r3 (l3 + 1)  (R_w fl1 (by decide)) (R_w f_598 (by decide)) (R_w f_606 (by decide)) (by omega)
          · have f_609 : R 0 0 0 := ⟨by decide, by decide⟩
            have f_610 : R 0 2147483647 l2 := rf_le_r f_609 fl2 (nlt c_599) 0 (by decide)
            refine ⟨fun c_611 => ?_, fun c_611 => ?_⟩
            · refine ⟨fun c_612 => ?_, fun c_612 => ?_⟩
              · have f_613 : R 0 0 0 := ⟨by decide, by decide⟩
                have f_614 : R 0 (-1) r3 := rf_lt_l f_598 f_613 c_612 (-1) (by decide)
                exact (R_abs f_614 (by decide)).elim
              · have f_615 : R 0 0 0 := ⟨by decide, by decide⟩
                have f_617 : R 1 1 1 := ⟨by decide, by decide⟩
                have f_616 : R 1 8 (l3 + 1) := R_add f_583 f_617 1 8 (by decide)
                have g_618 := gap_inc (N := 8) f_583 (by decide)
                exact (ih.2) l1 r3 (l3 + 1)  (R_w fl1 (by decide)) (R_w f_598 (by decide)) (R_w f_616 (by decide)) (by omega)
            · exact hp _ (R_w fl1 (by decide))
set_option maxRecDepth 100000 in
set_option maxHeartbeats 4000000 in
theorem s_X8_firstDisturbed {g : gT} {h : mh_T} {P : Int32 → mh_T → Prop}  (hG : GI h)  (hp : ∀ r : Int32, R (-2) 5 r → P r h) : MCi g yX8_firstDisturbed uX8_firstDisturbed [.ref 3] h P := by
  have ok : Ok [] h h := Ok_rf hG
  have L0 := s_X8_firstDisturbed_L (g := g) hG hp 70
  refine e_X8_firstDisturbed   ?_
  have f_619 : R 0 0 0 := ⟨by decide, by decide⟩
  have f_620 : R 0 0 0 := ⟨by decide, by decide⟩
  have g_621 := gap_le (N := 6) f_620 (m := 6) (by decide)
  exact (L0.1) 0  (R_w f_619 (by decide)) (by omega)
set_option maxRecDepth 100000 in
set_option maxHeartbeats 4000000 in
theorem s_X8_winnings_L {g : gT} {h0 : mh_T} {P : Int32 → mh_T → Prop} (hG0 : GI h0) (hp : ∀ r : Int32, P r h0) : ∀ n : Nat, (∀ (l1 : Int32) (l2 : Int32), R (-2147483648) 2147483647 l1 → R 0 32 l2 → 1 * gap 32 l2 + 0 < n → ME g uX8_winnings 4 [.ref 3, .int l1, .int l2] [] h0 (qI P)) := by
  intro n
  induction n with
  | zero =>
    exact (fun _ _ _ _ hm => absurd hm (Nat.not_lt_zero _))
  | succ n ih =>
    intro l1 l2  fl1 fl2     hm
    have ok : Ok [] h0 h0 := Ok_rf hG0
    refine r_X8_winnings_4 l1 l2  ?_
    refine ⟨fun c_417 => ?_, fun c_417 => ?_⟩
    · have f_419 : R 4 4 4 := ⟨by decide, by decide⟩
      have f_420 : R 0 8 (mI h0 3 2) := GI_rd ok.1 3 _ (by decide)
      have f_418 : R 0 32 (4 * (mI h0 3 2)) := R_mul f_419 f_420 0 32 (by decide)
      exact hp _ 
    · have f_422 : R 4 4 4 := ⟨by decide, by decide⟩
      have f_423 : R 0 8 (mI h0 3 2) := GI_rd ok.1 3 _ (by decide)
      have f_421 : R 0 32 (4 * (mI h0 3 2)) := R_mul f_422 f_423 0 32 (by decide)
      have f_424 : R 0 31 l2 := rf_lt_l fl2 f_421 (nle c_417) 31 (by decide)
      have f_425 : R 1 32 (4 * (mI h0 3 2)) := rf_lt_r fl2 f_421 (nle c_417) 1 (by decide)
      refine ⟨vin f_424 (by decide), ?_⟩
      refine ⟨vin f_424 (by decide), ?_⟩
      intro x4 ex4
      have f_428 : R (-2147483648) 2147483647 (mI h0 27 l2.toNatClampNeg) := R_full _
      have f_429 : R (-2147483648) 2147483647 (mI h0 26 l2.toNatClampNeg) := R_full _
      have f_427 : R (-2147483648) 2147483647 ((mI h0 27 l2.toNatClampNeg) * (mI h0 26 l2.toNatClampNeg)) := R_full _
      have f_426 : R (-2147483648) 2147483647 (l1 + ((mI h0 27 l2.toNatClampNeg) * (mI h0 26 l2.toNatClampNeg))) := R_full _
      have f_430 : R (-2147483648) 2147483647 x4 := rf_eq f_426 ex4
      have f_432 : R 1 1 1 := ⟨by decide, by decide⟩
      have f_431 : R 1 32 (l2 + 1) := R_add f_424 f_432 1 32 (by decide)
      have g_433 := gap_inc (N := 32) f_424 (by decide)
      exact ih x4 (l2 + 1)  (R_w f_430 (by decide)) (R_w f_431 (by decide)) (by omega)
set_option maxRecDepth 100000 in
set_option maxHeartbeats 4000000 in
theorem s_X8_winnings {g : gT} {h : mh_T} {P : Int32 → mh_T → Prop}  (hG : GI h)  (hp : ∀ r : Int32, P r h) : MCi g yX8_winnings uX8_winnings [.ref 3] h P := by
  have ok : Ok [] h h := Ok_rf hG
  have L0 := s_X8_winnings_L (g := g) hG hp 33
  refine e_X8_winnings   ?_
  have f_434 : R 0 0 0 := ⟨by decide, by decide⟩
  have f_435 : R 0 0 0 := ⟨by decide, by decide⟩
  have f_436 : R 0 0 0 := ⟨by decide, by decide⟩
  have g_437 := gap_le (N := 32) f_436 (m := 32) (by decide)
  exact L0 0 0  (R_w f_434 (by decide)) (R_w f_435 (by decide)) (by omega)
set_option maxRecDepth 100000 in
set_option maxHeartbeats 4000000 in
theorem s_X8_pay_L {g : gT} {h0 : mh_T} {P : Int32 → mh_T → Prop} (hG0 : GI h0) (hp : ∀ r : Int32, P r h0) : ∀ n : Nat, (∀ (l1 : Int32) (l2 : Int32) (l3 : Int32), R (-2147483648) 2147483647 l1 → R (-2147483648) 2147483647 l2 → R 0 8 l3 → 1 * gap 8 l3 + 0 < n → ME g uX8_pay 4 [.ref 3, .int l1, .int l2, .int l3] [] h0 (qI P)) := by
  intro n
  induction n with
  | zero =>
    exact (fun _ _ _ _ _ _ hm => absurd hm (Nat.not_lt_zero _))
  | succ n ih =>
    intro l1 l2 l3  fl1 fl2 fl3     hm
    have ok : Ok [] h0 h0 := Ok_rf hG0
    refine r_X8_pay_4 l1 l2 l3  ?_
    refine ⟨fun c_120 => ?_, fun c_120 => ?_⟩
    · have f_121 : R 0 8 (mI h0 3 2) := GI_rd ok.1 3 _ (by decide)
      exact hp _ 
    · have f_122 : R 0 8 (mI h0 3 2) := GI_rd ok.1 3 _ (by decide)
      have f_123 : R 0 7 l3 := rf_lt_l fl3 f_122 (nle c_120) 7 (by decide)
      have f_124 : R 1 8 (mI h0 3 2) := rf_lt_r fl3 f_122 (nle c_120) 1 (by decide)
      refine s_X8_cellOf l3 l1 ok.1 (R_w f_123 (by decide)) (fun r3 f_125 => ?_)
      refine ⟨vin f_125 (by decide), ?_⟩
      intro x5 ex5
      have f_127 : R (-2147483648) 2147483647 (mI h0 27 r3.toNatClampNeg) := R_full _
      have f_126 : R (-2147483648) 2147483647 (l2 + (mI h0 27 r3.toNatClampNeg)) := R_full _
      have f_128 : R (-2147483648) 2147483647 x5 := rf_eq f_126 ex5
      have f_130 : R 1 1 1 := ⟨by decide, by decide⟩
      have f_129 : R 1 8 (l3 + 1) := R_add f_123 f_130 1 8 (by decide)
      have g_131 := gap_inc (N := 8) f_123 (by decide)
      exact ih l1 x5 (l3 + 1)  (R_w fl1 (by decide)) (R_w f_128 (by decide)) (R_w f_129 (by decide)) (by omega)
set_option maxRecDepth 100000 in
set_option maxHeartbeats 4000000 in
theorem s_X8_pay {g : gT} {h : mh_T} {P : Int32 → mh_T → Prop} (l1 : Int32) (hG : GI h)  (hp : ∀ r : Int32, P r h) : MCi g yX8_pay uX8_pay [.ref 3, .int l1] h P := by
  have ok : Ok [] h h := Ok_rf hG
  have L0 := s_X8_pay_L (g := g) hG hp 9
  refine e_X8_pay l1  ?_
  have f_132 : R 0 0 0 := ⟨by decide, by decide⟩
  have f_133 : R 0 0 0 := ⟨by decide, by decide⟩
  have f_134 : R 0 0 0 := ⟨by decide, by decide⟩
  have g_135 := gap_le (N := 8) f_134 (m := 8) (by decide)
  exact L0 l1 0 0  (R_w (R_full l1) (by decide)) (R_w f_132 (by decide)) (R_w f_133 (by decide)) (by omega)
set_option maxRecDepth 100000 in
set_option maxHeartbeats 4000000 in
theorem s_X8_leastPaid_L {g : gT} {h0 : mh_T} {P : Int32 → mh_T → Prop} (hG0 : GI h0) (hp : ∀ r : Int32, R 0 63 r → P r h0) : ∀ n : Nat, (∀ (l1 : Int32) (l2 : Int32), R 0 63 l1 → R 1 64 l2 → 1 * gap 64 l2 + 0 < n → ME g uX8_leastPaid 4 [.ref 3, .int l1, .int l2] [] h0 (qI P)) := by
  intro n
  induction n with
  | zero =>
    exact (fun _ _ _ _ hm => absurd hm (Nat.not_lt_zero _))
  | succ n ih =>
    intro l1 l2  fl1 fl2     hm
    have ok : Ok [] h0 h0 := Ok_rf hG0
    refine r_X8_leastPaid_4 l1 l2  ?_
    refine s_X8_hiddenAnswers ok.1 (fun r2 f_479 => ?_)
    refine ⟨fun c_480 => ?_, fun c_480 => ?_⟩
    · exact hp _ (R_w fl1 (by decide))
    · have f_481 : R 1 63 l2 := rf_lt_l fl2 f_479 (nle c_480) 63 (by decide)
      have f_482 : R 2 64 r2 := rf_lt_r fl2 f_479 (nle c_480) 2 (by decide)
      refine s_X8_pay l2 ok.1 (fun r5 => ?_)
      refine s_X8_pay l1 ok.1 (fun r7 => ?_)
      refine ⟨fun c_483 => ?_, fun c_483 => ?_⟩
      · have f_484 : R (-2147483648) 2147483647 r5 := R_full _
        have f_485 : R (-2147483648) 2147483647 r7 := R_full _
        have f_487 : R 1 1 1 := ⟨by decide, by decide⟩
        have f_486 : R 2 64 (l2 + 1) := R_add f_481 f_487 2 64 (by decide)
        have g_488 := gap_inc (N := 64) f_481 (by decide)
        exact ih l1 (l2 + 1)  (R_w fl1 (by decide)) (R_w f_486 (by decide)) (by omega)
      · have f_489 : R (-2147483648) 2147483647 r5 := R_full _
        have f_490 : R (-2147483648) 2147483647 r7 := R_full _
        have f_491 : R (-2147483648) 2147483646 r5 := rf_lt_l f_489 f_490 (nle c_483) 2147483646 (by decide)
        have f_492 : R (-2147483647) 2147483647 r7 := rf_lt_r f_489 f_490 (nle c_483) (-2147483647) (by decide)
        have f_494 : R 1 1 1 := ⟨by decide, by decide⟩
        have f_493 : R 2 64 (l2 + 1) := R_add f_481 f_494 2 64 (by decide)
        have g_495 := gap_inc (N := 64) f_481 (by decide)
        exact ih l2 (l2 + 1)  (R_w f_481 (by decide)) (R_w f_493 (by decide)) (by omega)
set_option maxRecDepth 100000 in
set_option maxHeartbeats 4000000 in
theorem s_X8_leastPaid {g : gT} {h : mh_T} {P : Int32 → mh_T → Prop}  (hG : GI h)  (hp : ∀ r : Int32, R 0 63 r → P r h) : MCi g yX8_leastPaid uX8_leastPaid [.ref 3] h P := by
  have ok : Ok [] h h := Ok_rf hG
  have L0 := s_X8_leastPaid_L (g := g) hG hp 64
  refine e_X8_leastPaid   ?_
  have f_496 : R 0 0 0 := ⟨by decide, by decide⟩
  have f_497 : R 1 1 1 := ⟨by decide, by decide⟩
  have f_498 : R 1 1 1 := ⟨by decide, by decide⟩
  have g_499 := gap_le (N := 64) f_498 (m := 63) (by decide)
  exact L0 0 1  (R_w f_496 (by decide)) (R_w f_497 (by decide)) (by omega)
set_option maxRecDepth 100000 in
set_option maxHeartbeats 4000000 in
theorem s_X9_open_L {g : gT} {h0 : mh_T} {P : mh_T → Prop} (hp : ∀ h', Ok [9, 34, 35, 36] h0 h' → P h') : ∀ n : Nat, (∀ (l2 : Int32) (h : mh_T), Ok [9, 34, 35, 36] h0 h → R 0 4 l2 → (mI h 9 2).toInt ≤ 6 * l2.toInt → 8 * gap 4 l2 + 7 < n → ME g uX9_open 20 [.ref 9, .ref 2, .int l2, .retAddr 0, .retAddr 0] [] h (qV P)) ∧ (∀ (l2 l3 l4 : Int32) (h : mh_T), Ok [9, 34, 35, 36] h0 h → R 0 3 l2 → R 0 6 l3 → R 0 6 l4 → (mI h 9 2).toInt ≤ 6 * l2.toInt + l4.toInt → 8 * gap 4 l2 + gap 6 l4 < n → ME g uX9_open 38 [.ref 9, .ref 2, .int l2, .int l3, .int l4] [] h (qV P)) := by
  intro n
  induction n with
  | zero => exact ⟨fun _ _ _ _ _ hm => absurd hm (Nat.not_lt_zero _), fun _ _ _ _ _ _ _ _ _ hm => absurd hm (Nat.not_lt_zero _)⟩
  | succ n ih =>
    have f1 : R 1 1 1 := ⟨by decide, by decide⟩
    refine ⟨?_, ?_⟩
    · intro l2 h ok f2 hr hm
      have fr : R 0 4 (mI h 9 0) := GI_rd ok.1 9 0 (by decide)
      refine r_X9_open_20 l2 ⟨fun c => hp _ ok, fun c => ?_⟩
      have g2 : R 0 3 l2 := rf_lt_l f2 fr (nle c) 3 (by decide)
      refine ⟨vin g2 (by decide), ?_⟩
      intro x3 e3
      have f3 : R 0 6 x3 := rf_eq (GI_rd ok.1 21 l2.toNatClampNeg rfl) e3
      have f4 : R 0 0 0 := ⟨by decide, by decide⟩
      have := gap_le (N := 6) f4 (m := 6) (by decide)
      have z : (0 : Int32).toInt = 0 := by decide
      exact ih.2 l2 x3 0 h ok g2 f3 (R_w f4 (by decide)) (by omega) (by omega)
    · intro l2 l3 l4 h ok f2 f3 f4 hr hm
      refine r_X9_open_38 l2 l3 l4 ⟨fun c => ?_, fun c => ?_⟩
      · have e2 := ti_inc f2 (by decide)
        have := gap_inc (N := 4) f2 (by decide)
        have := f4.2
        exact ih.1 (l2 + 1) h ok (R_add f2 f1 0 4 (by decide)) (by omega) (by omega)
      · have g4 : R 0 5 l4 := rf_lt_l f4 f3 (nle c) 5 (by decide)
        have fs0 : R 0 24 (mI h 9 2) := GI_rd ok.1 9 2 (by decide)
        have fs : R 0 23 (mI h 9 2) := ⟨fs0.1, by have := f2.2; have := g4.2; omega⟩
        have f6 : R 6 6 6 := ⟨by decide, by decide⟩
        have fi : R 0 23 ((6 * l2) + l4) := R_add (R_mul f6 f2 0 18 (by decide)) g4 0 23 (by decide)
        have fa : R 0 5 (mI h 22 ((6 * l2) + l4).toNatClampNeg) := GI_rd ok.1 22 _ rfl
        have fb : R 0 1 (mI h 23 ((6 * l2) + l4).toNatClampNeg) := GI_rd ok.1 23 _ rfl
        have e4 := ti_inc g4 (by decide)
        have es := ti_inc fs (by decide)
        have := gap_inc (N := 6) g4 (by decide)
        have o1 := Ok_w ok (k := 34) (j := (mI h 9 2).toNatClampNeg) (v := mI h 22 ((6 * l2) + l4).toNatClampNeg) (lo := 0) (hi := 5) rfl fa (by decide) (nt_k (by decide))
        have o2 := Ok_w o1 (k := 35) (j := (mI h 9 2).toNatClampNeg) (v := mI h 23 ((6 * l2) + l4).toNatClampNeg) (lo := 0) (hi := 1) rfl fb (by decide) (nt_k (by decide))
        refine ⟨vin fi (by decide), vin fs (by decide), vin fi (by decide), vin (x := mI h 9 2) fs (by decide), fun c2 => ⟨vin (x := mI h 9 2) fs (by decide), ?_⟩, fun c2 => ⟨vin (x := mI h 9 2) fs (by decide), ?_⟩⟩
        · have o3 := Ok_w o2 (k := 36) (j := (mI h 9 2).toNatClampNeg) (v := 0) (lo := 0) (hi := 1) rfl ⟨by decide, by decide⟩ (by decide) (nt_k (by decide))
          have o4 := Ok_w o3 (k := 9) (j := 2) (v := mI h 9 2 + 1) (lo := 0) (hi := 24) (by decide) (R_add fs f1 0 24 (by decide)) (by decide) (by decide)
          refine ih.2 l2 l3 (l4 + 1) _ o4 f2 f3 (R_add g4 f1 0 6 (by decide)) ?_ (by omega)
          show (mI h 9 2 + 1).toInt ≤ _
          omega
        · have o3 := Ok_w o2 (k := 36) (j := (mI h 9 2).toNatClampNeg) (v := 1) (lo := 0) (hi := 1) rfl ⟨by decide, by decide⟩ (by decide) (nt_k (by decide))
          have o4 := Ok_w o3 (k := 9) (j := 2) (v := mI h 9 2 + 1) (lo := 0) (hi := 24) (by decide) (R_add fs f1 0 24 (by decide)) (by decide) (by decide)
          refine ih.2 l2 l3 (l4 + 1) _ o4 f2 f3 (R_add g4 f1 0 6 (by decide)) ?_ (by omega)
          show (mI h 9 2 + 1).toInt ≤ _
          omega
set_option maxRecDepth 100000 in
theorem s_X9_open {g : gT} {h : mh_T} {P : mh_T → Prop} (hG : GI h) (hp : ∀ h', Ok [9, 34, 35, 36] h h' → P h') : MCv g yX9_open uX9_open [.ref 9, .ref 2] h P := by
  have ok : Ok [9, 34, 35, 36] h h := Ok_rf hG
  have f0 : R 0 0 0 := ⟨by decide, by decide⟩
  have o1 := Ok_w ok (k := 9) (j := 0) (v := mI h 2 6) (lo := 0) (hi := 4) (by decide) (GI_rd hG 2 6 (by decide)) (by decide) (by decide)
  have o2 := Ok_w o1 (k := 9) (j := 2) (v := 0) (lo := 0) (hi := 24) (by decide) (R_w f0 (by decide)) (by decide) (by decide)
  have o3 := Ok_w o2 (k := 9) (j := 3) (v := 0) (lo := 0) (hi := 1) (by decide) (R_w f0 (by decide)) (by decide) (by decide)
  refine e_X9_open ?_
  have := gap_le (N := 4) f0 (m := 4) (by decide)
  exact (s_X9_open_L hp 40).1 0 _ o3 (R_w f0 (by decide)) (by show (0 : Int32).toInt ≤ _; decide) (by omega)
/-- where a pair has an answer it has a state to go to -/
def TI (h : mh_T) : Prop := ∀ p, p < 18 → 0 ≤ (mI h 37 p).toInt → 0 ≤ (mI h 38 p).toInt
theorem tn_lt {x : Int32} {n : Nat} {lo hi : Int} (f : R lo hi x) (h : hi < (n : Int) ∧ 0 < n) : x.toNatClampNeg < n := ix_lt f h
set_option maxRecDepth 100000 in
set_option maxHeartbeats 8000000 in
theorem s_X9_tell_M {g : gT} : ∀ (m : Nat) (K : Nat) (l1 l2 l3 l4 : Int32) (h : mh_T) (P : Int32 → mh_T → Prop), 2 * m + 1 ≤ K → R 0 24 l1 → 24 - l1.toInt ≤ m → R 0 2 l2 → GI h → TI h → (∀ r h', Ok [37, 38, 39] h h' → TI h' → P r h') → MCi g yX9_tell (uX9_tell K) [.ref 9, .int l1, .int l2, .int l3, .int l4] h P := by
  intro m
  induction m with
  | zero =>
    intro K l1 l2 l3 l4 h P hK f1 hm f2 hG hT hp
    obtain ⟨K, rfl⟩ : ∃ q, K = q + 1 := ⟨K - 1, by omega⟩
    have fs : R 0 24 (mI h 9 2) := GI_rd hG 9 2 (by decide)
    refine e_X9_tell l1 l2 l3 l4 ⟨fun c => ?_, fun c => hp _ _ (Ok_rf hG) hT⟩
    have := lt_ti c
    have := fs.2
    omega
  | succ m ih =>
    intro K l1 l2 l3 l4 h P hK f1 hm f2 hG hT hp
    obtain ⟨K, rfl⟩ : ∃ q, K = q + 1 := ⟨K - 1, by omega⟩
    obtain ⟨K, rfl⟩ : ∃ q, K = q + 1 := ⟨K - 1, by omega⟩
    have c1 : R 1 1 1 := ⟨by decide, by decide⟩
    -- tellOn
    have on : ∀ (a1 a2 a3 a4 : Int32) (k : mh_T) (Q : Int32 → mh_T → Prop), R 0 23 a1 → 24 - a1.toInt ≤ m + 1 → R 0 17 a2 → 0 ≤ (mI k 38 a2.toNatClampNeg).toInt → GI k → TI k → (∀ r h', Ok [37, 38, 39] k h' → TI h' → Q r h') → MCi g yX9_tellOn (uX9_tellOn (K + 1)) [.ref 9, .int a1, .int a2, .int a3, .int a4] k Q := by
      intro a1 a2 a3 a4 k Q g1 gm g2 g3 kG kT hq
      have e1 := ti_inc g1 (by decide)
      have fg : R (-2) 2 (mI k 38 a2.toNatClampNeg) := GI_rd kG 38 _ rfl
      have z0 : R 0 0 0 := ⟨by decide, by decide⟩
      refine e_X9_tellOn a1 a2 a3 a4 ⟨vin g1 (by decide), fun _ => ⟨vin g2 (by decide), ?_⟩, fun _ => ?_⟩
      · exact ih K _ _ _ _ k _ (by omega) (R_add g1 c1 0 24 (by decide)) (by omega) ⟨g3, fg.2⟩ kG kT hq
      · exact ih K _ _ _ _ k _ (by omega) (R_add g1 c1 0 24 (by decide)) (by omega) (R_w z0 (by decide)) kG kT hq
    have fs : R 0 24 (mI h 9 2) := GI_rd hG 9 2 (by decide)
    refine e_X9_tell l1 l2 l3 l4 ⟨fun c => ?_, fun c => hp _ _ (Ok_rf hG) hT⟩
    have g1 : R 0 23 l1 := rf_lt_l f1 fs c 23 (by decide)
    have gm : 24 - l1.toInt ≤ m + 1 := by omega
    refine ⟨vin g1 (by decide), fun x3 e3 => ?_⟩
    have f6 : R 6 6 6 := ⟨by decide, by decide⟩
    have fl : R 0 5 (mI h 34 l1.toNatClampNeg) := GI_rd hG 34 _ rfl
    have f3 : R 0 17 x3 := rf_eq (R_add (R_mul f6 f2 0 12 (by decide)) fl 0 17 (by decide)) e3
    have ft : R 0 1 (mI h 35 l1.toNatClampNeg) := GI_rd hG 35 _ rfl
    have z0 : (0 : Int32).toInt = 0 := by decide
    refine ⟨vin f3 (by decide), fun c2 => ⟨vin g1 (by decide), vin f3 (by decide), vin f3 (by decide), fun x9 e9 => ?_⟩, fun c2 => ⟨vin f3 (by decide), vin g1 (by decide), fun c3 => ?_, fun c3 => ⟨vin f3 (by decide), hp _ _ (Ok_rf hG) hT⟩⟩⟩
    · -- the loop
      have o1 := Ok_w (ms := [37, 38, 39]) (Ok_rf hG) (k := 37) (j := x3.toNatClampNeg) (v := mI h 35 l1.toNatClampNeg) (lo := -2) (hi := 1) rfl (R_w ft (by decide)) (by decide) (nt_k (by decide))
      have o2 := Ok_w o1 (k := 39) (j := x3.toNatClampNeg) (v := l3) (lo := -2147483648) (hi := 2147483647) rfl (R_full _) (by decide) (nt_k (by decide))
      have fst : R 0 3 (mI h 9 1) := GI_rd hG 9 1 (by decide)
      have f9 : x9.toInt ≤ 2 := by
        have fm : R (-1) 2 (mI h 9 1 - 1) := R_sub fst c1 (-1) 2 (by decide)
        have e9' : x9 = if l4 + 1 < mI h 9 1 - 1 then l4 + 1 else mI h 9 1 - 1 := e9
        rw [e9']
        split
        · rename_i q
          have := lt_ti q
          have := fm.2
          omega
        · exact fm.2
      have L : ∀ (n : Nat) (l6 l7 l9 : Int32) (k : mh_T), Ok [37, 38, 39] h k → (∀ p, p < 18 → p ≠ x3.toNatClampNeg → 0 ≤ (mI k 37 p).toInt → 0 ≤ (mI k 38 p).toInt) → R 0 3 l9 → gap 3 l9 < n → ME g (uX9_tell (K + 1 + 1)) 115 [.ref 9, .int l1, .int l2, .int l3, .int l4, .int x3, .int l6, .int l7, .int x9, .int l9, .retAddr 0] [] k (qI P) := by
        intro n
        induction n with
        | zero => intro l6 l7 l9 k _ _ _ hn; exact absurd hn (Nat.not_lt_zero _)
        | succ n ihn =>
          intro l6 l7 l9 k kO kT g9 hn
          have fin : ∀ r, P r (wI (wI k 37 x3.toNatClampNeg (-2)) 38 x3.toNatClampNeg (-2)) := by
            intro r
            have q1 := Ok_w kO (k := 37) (j := x3.toNatClampNeg) (v := -2) (lo := -2) (hi := 1) rfl ⟨by decide, by decide⟩ (by decide) (nt_k (by decide))
            have q2 := Ok_w q1 (k := 38) (j := x3.toNatClampNeg) (v := -2) (lo := -2) (hi := 2) rfl ⟨by decide, by decide⟩ (by decide) (nt_k (by decide))
            refine hp _ _ q2 (fun p hp18 => ?_)
            rw [mI_wI, mI_wI, mI_wI, mI_wI]
            by_cases hpx : p = x3.toNatClampNeg
            · subst hpx
              simp
            · simp [hpx]
              exact kT p hp18 hpx
          refine r_X9_tell_115 l1 l2 l3 l4 x3 l6 l7 x9 l9 ⟨fun _ => ⟨vin f3 (by decide), vin f3 (by decide), fin _⟩, fun _ => ⟨fun _ => ⟨vin f3 (by decide), vin f3 (by decide), fin _⟩, fun c4 => ⟨vin f3 (by decide), ?_⟩⟩⟩
          have c4 := le_ti (nlt c4)
          have g9' : R 0 2 l9 := ⟨g9.1, by omega⟩
          have q1 := Ok_w kO (k := 38) (j := x3.toNatClampNeg) (v := l9) (lo := -2) (hi := 2) rfl (R_w g9' (by decide)) (by decide) (nt_k (by decide))
          have := gap_inc (N := 3) g9' (by decide)
          refine on l1 x3 l3 _ _ _ g1 gm f3 ?_ q1.1 ?_ (fun r9 h8 k8 t8 => ?_)
          · rw [mI_wI, if_pos ⟨rfl, rfl⟩]
            exact g9.1
          · intro p hp18
            rw [mI_wI, mI_wI]
            by_cases hpx : p = x3.toNatClampNeg
            · subst hpx
              simp
              intro _
              exact g9.1
            · simp [hpx]
              exact kT p hp18 hpx
          · have k9 := Ok_tr q1 k8 (by decide)
            refine ⟨fun _ => ⟨fun _ => ?_, fun _ x14 _ => ?_⟩, fun _ => hp _ _ k9 t8⟩
            · exact ihn _ _ _ _ k9 (fun p hp18 _ => t8 p hp18) (R_add g9' c1 0 3 (by decide)) (by omega)
            · exact ihn _ _ _ _ k9 (fun p hp18 _ => t8 p hp18) (R_add g9' c1 0 3 (by decide)) (by omega)
      have z1 : R 0 0 0 := ⟨by decide, by decide⟩
      refine L 4 0 1 0 _ o2 ?_ (R_w z1 (by decide)) (by decide)
      intro p hp18 hpx
      show 0 ≤ (mI (wI (wI h 37 x3.toNatClampNeg _) 39 _ _) 37 p).toInt → 0 ≤ (mI (wI (wI h 37 _ _) 39 _ _) 38 p).toInt
      rw [mI_wI, mI_wI, mI_wI, mI_wI]
      simp [hpx]
      exact hT p hp18
    · refine on l1 x3 l3 l4 h _ g1 gm f3 ?_ hG hT hp
      refine hT _ (tn_lt f3 (by decide)) ?_
      have := le_ti (nlt c2)
      omega
theorem s_X9_tell {g : gT} {h : mh_T} {P : Int32 → mh_T → Prop} (hG : GI h) (hT : TI h) (hp : ∀ r h', Ok [37, 38, 39] h h' → P r h') : MCi g yX9_tell (uX9_tell 70) [.ref 9, .int 0, .int 0, .int 0, .int 0] h P :=
  s_X9_tell_M 24 70 0 0 0 0 h P (by decide) ⟨by decide, by decide⟩ (by decide) ⟨by decide, by decide⟩ hG hT (fun r h' k _ => hp r h' k)
set_option maxRecDepth 100000 in
theorem s_X9_work_L {g : gT} {h0 : mh_T} {P : mh_T → Prop} (hp : ∀ h', Ok [9, 37, 38, 39] h0 h' → P h') : ∀ n : Nat, (∀ (l1 : Int32) (h : mh_T), Ok [9, 37, 38, 39] h0 h → R 1 4 l1 → 20 * gap 4 l1 + 19 < n → ME g uX9_work 15 [.ref 9, .int l1, .retAddr 0] [] h (qV P)) ∧ (∀ (l1 l2 : Int32) (h : mh_T), Ok [9, 37, 38, 39] h0 h → R 1 3 l1 → R 0 18 l2 → (∀ p, p < l2.toNatClampNeg → (mI h 37 p).toInt < 0) → 20 * gap 4 l1 + gap 18 l2 < n → ME g uX9_work 27 [.ref 9, .int l1, .int l2] [] h (qV P)) := by
  intro n
  induction n with
  | zero => exact ⟨fun _ _ _ _ hm => absurd hm (Nat.not_lt_zero _), fun _ _ _ _ _ _ _ hm => absurd hm (Nat.not_lt_zero _)⟩
  | succ n ih =>
    have c1 : R 1 1 1 := ⟨by decide, by decide⟩
    have c3 : R 3 3 3 := ⟨by decide, by decide⟩
    have c18 : R 18 18 18 := ⟨by decide, by decide⟩
    have z0 : R 0 0 0 := ⟨by decide, by decide⟩
    refine ⟨?_, ?_⟩
    · intro l1 h ok f1 hm
      refine r_X9_work_15 l1 ⟨fun c => ?_, fun c => ?_⟩
      · exact hp _ (Ok_w ok (k := 9) (j := 1) (v := 0) (lo := 0) (hi := 3) (by decide) (R_w z0 (by decide)) (by decide) (by decide))
      · have g1 : R 1 3 l1 := rf_le_l f1 c3 (nlt c) 3 (by decide)
        have := gap_le (N := 18) z0 (m := 18) (by decide)
        refine ih.2 l1 0 _ (Ok_w ok (k := 9) (j := 1) (v := l1) (lo := 0) (hi := 3) (by decide) (R_w g1 (by decide)) (by decide) (by decide)) g1 (R_w z0 (by decide)) (fun p hp0 => ?_) (by omega)
        exact absurd hp0 (by decide +revert)
    · intro l1 l2 h ok f1 f2 hneg hm
      have gi := gap_inc (N := 4) f1 (by decide)
      refine r_X9_work_27 l1 l2 ⟨fun c => ?_, fun c => ?_⟩
      · have g2 := le_ti c
        have e18 : (18 : Int32).toInt = 18 := by decide
        refine s_X9_tell ok.1 (fun p hp18 hpos => ?_) (fun r3 h2 k2 => ?_)
        · have : p < l2.toNatClampNeg := by
            show p < l2.toInt.toNat
            omega
          have := hneg p this
          omega
        · have k3 := Ok_tr ok k2 (by decide)
          exact ⟨fun _ => ih.1 (l1 + 1) h2 k3 (R_add f1 c1 1 4 (by decide)) (by omega), fun _ => hp _ k3⟩
      · have g2 : R 0 17 l2 := rf_lt_l f2 c18 (nle c) 17 (by decide)
        have gj := gap_inc (N := 18) g2 (by decide)
        have o1 := Ok_w ok (k := 37) (j := l2.toNatClampNeg) (v := -2) (lo := -2) (hi := 1) rfl ⟨by decide, by decide⟩ (by decide) (nt_k (by decide))
        have o2 := Ok_w o1 (k := 38) (j := l2.toNatClampNeg) (v := -2) (lo := -2) (hi := 2) rfl ⟨by decide, by decide⟩ (by decide) (nt_k (by decide))
        refine ⟨vin g2 (by decide), vin g2 (by decide), ih.2 l1 (l2 + 1) _ o2 f1 (R_add g2 c1 0 18 (by decide)) (fun p hp => ?_) (by omega)⟩
        have e2 := ti_inc g2 (by decide)
        have hp : p < (l2 + 1).toInt.toNat := hp
        show (mI (wI (wI h 37 l2.toNatClampNeg (-2)) 38 l2.toNatClampNeg (-2)) 37 p).toInt < 0
        rw [mI_wI, mI_wI]
        by_cases hpx : p = l2.toNatClampNeg
        · subst hpx
          simp
        · simp [hpx]
          refine hneg p ?_
          have hpx : p ≠ l2.toInt.toNat := hpx
          show p < l2.toInt.toNat
          have := g2.1
          omega
set_option maxRecDepth 100000 in
theorem s_X9_work {g : gT} {h : mh_T} {P : mh_T → Prop} (hG : GI h) (hp : ∀ h', Ok [9, 37, 38, 39] h h' → P h') : MCv g yX9_work uX9_work [.ref 9] h P := by
  have c1 : R 1 1 1 := ⟨by decide, by decide⟩
  have o1 := Ok_w (ms := [9, 37, 38, 39]) (Ok_rf hG) (k := 9) (j := 3) (v := 1) (lo := 0) (hi := 1) (by decide) (R_w c1 (by decide)) (by decide) (by decide)
  have := gap_le (N := 4) c1 (m := 3) (by decide)
  exact e_X9_work ⟨fun _ => (s_X9_work_L hp 100).1 1 _ o1 (R_w c1 (by decide)) (by omega), fun _ => hp _ (Ok_rf hG)⟩
set_option maxRecDepth 100000 in
set_option maxHeartbeats 4000000 in
theorem s_X9_entry {g : gT} {h : mh_T} {P : Int32 → mh_T → Prop} (l1 : Int32) (l2 : Int32) (l3 : Int32) (hG : GI h) (fl1 : R 0 2 l1) (fl2 : R 0 5 l2) (hp : ∀ r : Int32, R (-2) 2 r → P r h) : MCi g yX9_entry uX9_entry [.ref 9, .int l1, .int l2, .int l3] h P := by
  have ok : Ok [] h h := Ok_rf hG
  refine e_X9_entry l1 l2 l3  ?_
  intro x1 ex1
  have f_13 : R 6 6 6 := ⟨by decide, by decide⟩
  have f_12 : R 0 12 (6 * l1) := R_mul f_13 fl1 0 12 (by decide)
  have f_11 : R 0 17 ((6 * l1) + l2) := R_add f_12 fl2 0 17 (by decide)
  have f_14 : R 0 17 x1 := rf_eq f_11 ex1
  refine ⟨fun c_15 => ?_, fun c_15 => ?_⟩
  · have f_16 : R 0 0 0 := ⟨by decide, by decide⟩
    have f_17 : R 0 0 l3 := rf_eq f_16 c_15
    refine ⟨vin f_14 (by decide), ?_⟩
    have f_18 : R (-2) 1 (mI h 37 x1.toNatClampNeg) := GI_rd ok.1 37 _ rfl
    exact hp _ (R_w f_18 (by decide))
  · have f_19 : R 0 0 0 := ⟨by decide, by decide⟩
    refine ⟨vin f_14 (by decide), ?_⟩
    have f_20 : R (-2) 2 (mI h 38 x1.toNatClampNeg) := GI_rd ok.1 38 _ rfl
    exact hp _ (R_w f_20 (by decide))
set_option maxRecDepth 100000 in
set_option maxHeartbeats 4000000 in
theorem s_X10_refused {g : gT} {h : mh_T} {P : Int32 → mh_T → Prop} (l1 : Int32) (hG : GI h)  (hp : ∀ (r : Int32) h', Ok [0] h h' → R (-1) (-1) r → (¬ l1 = 4 → ¬ mI h' 0 11 = 4) → P r h') : MCi g yX10_refused uX10_refused [.ref 0, .int l1] h P := by
  have ok : Ok [0] h h := Ok_rf hG
  refine e_X10_refused l1  ?_
  have ok_3 := Ok_w ok (k := 0) (j := 11) (v := l1) (lo := (-2147483648)) (hi := 2147483647) (by decide) (R_full l1) (by decide) (by decide)
  have f_4 : R (-1) (-1) (-1) := ⟨by decide, by decide⟩
  exact hp _ _ ok_3 (R_w f_4 (by decide)) (fun z => by rw [mI_wI, if_pos ⟨rfl, rfl⟩]; exact z)
set_option maxRecDepth 100000 in
set_option maxHeartbeats 4000000 in
theorem s_X10_told {g : gT} {h : mh_T} {P : Int32 → mh_T → Prop} (l1 : Int32) (hG : GI h)  (hp : ∀ (r : Int32) h', Ok [0] h h' → ¬ mI h' 0 11 = 4 → P r h') : MCi g yX10_told uX10_told [.ref 0, .int l1] h P := by
  have ok : Ok [0] h h := Ok_rf hG
  refine e_X10_told l1  ?_
  have f_3 : R 0 0 0 := ⟨by decide, by decide⟩
  have ok_4 := Ok_w ok (k := 0) (j := 11) (v := 0) (lo := (-2147483648)) (hi := 2147483647) (by decide) (R_w f_3 (by decide)) (by decide) (by decide)
  exact hp _ _ ok_4 (by first | exact tq | exact tq (by decide) | (rw [mI_wI, if_pos ⟨rfl, rfl⟩]; decide)) 
theorem Fr_tr {ms : List Nat} {h h1 h2 : mh_T} (a : Fr ms h h1) (b : Fr ms h1 h2) : Fr ms h h2 := fun k hk hm => ⟨(b k hk hm).1.trans (a k hk hm).1, (b k hk hm).2.1.trans (a k hk hm).2.1, (b k hk hm).2.2.trans (a k hk hm).2.2⟩
set_option maxRecDepth 100000 in
set_option maxHeartbeats 4000000 in
theorem s_X10_fault {g : gT} {h : mh_T} {P : Int32 → mh_T → Prop}  (hG : GI h)  (hp : ∀ r : Int32, P r h) : MCi g yX10_fault uX10_fault [.ref 0] h P := by
  have ok : Ok [] h h := Ok_rf hG
  refine e_X10_fault   ?_
  have f_2 : R (-2147483648) 2147483647 (mI h 0 12) := R_full _
  exact hp _ 
set_option maxRecDepth 100000 in
set_option maxHeartbeats 4000000 in
theorem s_X10_where {g : gT} {h : mh_T} {P : Int32 → mh_T → Prop}  (hG : GI h)  (hp : ∀ r : Int32, P r h) : MCi g yX10_where uX10_where [.ref 0] h P := by
  have ok : Ok [] h h := Ok_rf hG
  refine e_X10_where   ?_
  refine ⟨fun c_9 => ?_, fun c_9 => ?_⟩
  · have f_10 : R (-2147483648) 2147483647 (mI h 0 11) := R_full _
    have f_11 : R 4 4 4 := ⟨by decide, by decide⟩
    have f_12 : R (-1) (-1) (-1) := ⟨by decide, by decide⟩
    exact hp _ 
  · have f_13 : R (-2147483648) 2147483647 (mI h 0 11) := R_full _
    have f_14 : R 4 4 4 := ⟨by decide, by decide⟩
    have f_15 : R 4 4 (mI h 0 11) := rf_eq f_14 c_9
    have f_16 : R (-2147483648) 2147483647 (mI h 0 13) := R_full _
    exact hp _ 
set_option maxRecDepth 100000 in
set_option maxHeartbeats 4000000 in
theorem s_X10_noBook {g : gT} {h : mh_T} {P : Int32 → mh_T → Prop}  (hG : GI h)  (hp : ∀ r : Int32, R 0 1 r → P r h) : MCi g yX10_noBook uX10_noBook [.ref 0] h P := by
  have ok : Ok [] h h := Ok_rf hG
  refine e_X10_noBook   ?_
  refine ⟨fun c_10 => ?_, fun c_10 => ?_⟩
  · have f_11 : R 0 60 (mI h 3 0) := GI_rd ok.1 3 _ (by decide)
    have f_12 : R 0 0 0 := ⟨by decide, by decide⟩
    have f_13 : R 1 60 (mI h 3 0) := rf_ne_lo f_11 c_10 (by decide) 1 rfl
    have f_14 : R 0 0 0 := ⟨by decide, by decide⟩
    exact hp _ (R_w f_14 (by decide))
  · have f_15 : R 0 60 (mI h 3 0) := GI_rd ok.1 3 _ (by decide)
    have f_16 : R 0 0 0 := ⟨by decide, by decide⟩
    have f_17 : R 0 0 (mI h 3 0) := rf_eq f_16 c_10
    have f_18 : R 1 1 1 := ⟨by decide, by decide⟩
    exact hp _ (R_w f_18 (by decide))
set_option maxRecDepth 100000 in
set_option maxHeartbeats 4000000 in
theorem s_X10_share {g : gT} {h : mh_T} {P : Int32 → mh_T → Prop} (l1 : Int32) (hG : GI h)  (hp : ∀ (r : Int32) h', Ok [0, 5, 6, 29, 30] h h' → ¬ mI h' 0 11 = 4 → P r h') : MCi g yX10_share uX10_share [.ref 0, .int l1] h P := by
  have ok : Ok [0, 5, 6, 29, 30] h h := Ok_rf hG
  refine e_X10_share l1  ?_
  refine s_X10_noBook ok.1 (fun r2 f_15 => ?_)
  refine ⟨fun c_16 => ?_, fun c_16 => ?_⟩
  · have f_17 : R 0 0 0 := ⟨by decide, by decide⟩
    have f_18 : R 0 0 r2 := rf_eq f_17 c_16
    refine s_X0_findShare ok.1 (fun h4 ko_19 => ?_)
    have ok_20 := Ok_tr ok ko_19 (by decide)
    refine s_X2_part l1 ok_20.1 (fun r6 => ?_)
    refine s_X10_told r6 ok_20.1 (fun r8 h7 ko_21 tq => ?_)
    have ok_22 := Ok_tr ok_20 ko_21 (by decide)
    have f_23 : R (-2147483648) 2147483647 r8 := R_full _
    exact hp _ _ ok_22 (by first | exact tq | exact tq (by decide) | (rw [mI_wI, if_pos ⟨rfl, rfl⟩]; decide)) 
  · have f_24 : R 0 0 0 := ⟨by decide, by decide⟩
    have f_25 : R 1 1 r2 := rf_ne_lo f_15 c_16 (by decide) 1 rfl
    refine s_X10_refused 1 ok.1 (fun r10 h9 ko_26 f_28 tq => ?_)
    have ok_27 := Ok_tr ok ko_26 (by decide)
    exact hp _ _ ok_27 (by first | exact tq | exact tq (by decide) | (rw [mI_wI, if_pos ⟨rfl, rfl⟩]; decide)) 
set_option maxRecDepth 100000 in
set_option maxHeartbeats 4000000 in
theorem s_X10_isBit {g : gT} {h : mh_T} {P : Int32 → mh_T → Prop} (l0 : Int32) (hG : GI h)  (hp : ∀ r : Int32, R 0 1 r → P r h) : MCi g yX10_isBit uX10_isBit [.int l0] h P := by
  have ok : Ok [] h h := Ok_rf hG
  refine e_X10_isBit l0  ?_
  refine ⟨fun c_12 => ?_, fun c_12 => ?_⟩
  · have f_13 : R 0 0 0 := ⟨by decide, by decide⟩
    have f_14 : R 0 0 l0 := rf_eq f_13 c_12
    have f_15 : R 1 1 1 := ⟨by decide, by decide⟩
    exact hp _ (R_w f_15 (by decide))
  · have f_16 : R 0 0 0 := ⟨by decide, by decide⟩
    refine ⟨fun c_17 => ?_, fun c_17 => ?_⟩
    · have f_18 : R 1 1 1 := ⟨by decide, by decide⟩
      have f_19 : R 0 0 0 := ⟨by decide, by decide⟩
      exact hp _ (R_w f_19 (by decide))
    · have f_20 : R 1 1 1 := ⟨by decide, by decide⟩
      have f_21 : R 1 1 l0 := rf_eq f_20 c_17
      have f_22 : R 1 1 1 := ⟨by decide, by decide⟩
      exact hp _ (R_w f_22 (by decide))
set_option maxRecDepth 100000 in
set_option maxHeartbeats 4000000 in
theorem s_X10_together {g : gT} {h : mh_T} {P : Int32 → mh_T → Prop} (l1 : Int32) (l2 : Int32) (l3 : Int32) (l4 : Int32) (l5 : Int32) (l6 : Int32) (hG : GI h)  (hp : ∀ (r : Int32) h', Ok [0, 5, 6, 29, 30] h h' → ¬ mI h' 0 11 = 4 → P r h') : MCi g yX10_together uX10_together [.ref 0, .int l1, .int l2, .int l3, .int l4, .int l5, .int l6] h P := by
  have ok : Ok [0, 5, 6, 29, 30] h h := Ok_rf hG
  refine e_X10_together l1 l2 l3 l4 l5 l6  ?_
  refine s_X8_hasLook l1 ok.1 (fun r2 f_62 im_61 => ?_)
  refine ⟨fun c_63 => ?_, fun c_63 => ?_⟩
  · have f_64 : R 0 0 0 := ⟨by decide, by decide⟩
    have f_65 : R 0 0 r2 := rf_eq f_64 c_63
    refine s_X10_refused 1 ok.1 (fun r5 h4 ko_66 f_68 tq => ?_)
    have ok_67 := Ok_tr ok ko_66 (by decide)
    exact hp _ _ ok_67 (by first | exact tq | exact tq (by decide) | (rw [mI_wI, if_pos ⟨rfl, rfl⟩]; decide)) 
  · have f_69 : R 0 0 0 := ⟨by decide, by decide⟩
    have f_70 := (im_61 c_63)
    have f_71 : R 1 1 r2 := rf_ne_lo f_62 c_63 (by decide) 1 rfl
    refine s_X8_hasLook l3 ok.1 (fun r7 f_73 im_72 => ?_)
    refine ⟨fun c_74 => ?_, fun c_74 => ?_⟩
    · have f_75 : R 0 0 0 := ⟨by decide, by decide⟩
      have f_76 : R 0 0 r7 := rf_eq f_75 c_74
      refine s_X10_refused 1 ok.1 (fun r10 h9 ko_77 f_79 tq => ?_)
      have ok_78 := Ok_tr ok ko_77 (by decide)
      exact hp _ _ ok_78 (by first | exact tq | exact tq (by decide) | (rw [mI_wI, if_pos ⟨rfl, rfl⟩]; decide)) 
    · have f_80 : R 0 0 0 := ⟨by decide, by decide⟩
      have f_81 := (im_72 c_74)
      have f_82 : R 1 1 r7 := rf_ne_lo f_73 c_74 (by decide) 1 rfl
      refine ⟨fun c_83 => ?_, fun c_83 => ?_⟩
      · refine s_X10_refused 1 ok.1 (fun r13 h12 ko_84 f_86 tq => ?_)
        have ok_85 := Ok_tr ok ko_84 (by decide)
        exact hp _ _ ok_85 (by first | exact tq | exact tq (by decide) | (rw [mI_wI, if_pos ⟨rfl, rfl⟩]; decide)) 
      · refine s_X10_isBit l2 ok.1 (fun r15 f_87 => ?_)
        refine ⟨fun c_88 => ?_, fun c_88 => ?_⟩
        · have f_89 : R 0 0 0 := ⟨by decide, by decide⟩
          have f_90 : R 0 0 r15 := rf_eq f_89 c_88
          refine s_X10_refused 1 ok.1 (fun r18 h17 ko_91 f_93 tq => ?_)
          have ok_92 := Ok_tr ok ko_91 (by decide)
          exact hp _ _ ok_92 (by first | exact tq | exact tq (by decide) | (rw [mI_wI, if_pos ⟨rfl, rfl⟩]; decide)) 
        · have f_94 : R 0 0 0 := ⟨by decide, by decide⟩
          have f_95 : R 1 1 r15 := rf_ne_lo f_87 c_88 (by decide) 1 rfl
          refine s_X10_isBit l4 ok.1 (fun r20 f_96 => ?_)
          refine ⟨fun c_97 => ?_, fun c_97 => ?_⟩
          · have f_98 : R 0 0 0 := ⟨by decide, by decide⟩
            have f_99 : R 1 1 r20 := rf_ne_lo f_96 c_97 (by decide) 1 rfl
            refine s_X0_isMixed ok.1 (fun r23 h22 ko_100 f_102 => ?_)
            have ok_101 := Ok_tr ok ko_100 (by decide)
            refine ⟨fun c_103 => ?_, fun c_103 => ?_⟩
            · have f_104 : R 0 0 0 := ⟨by decide, by decide⟩
              have f_105 : R 1 1 r23 := rf_ne_lo f_102 c_103 (by decide) 1 rfl
              refine s_X0_findTogether ((1 <<< (l1 &&& 31)) ||| (1 <<< (l3 &&& 31))) ((l2 <<< (l1 &&& 31)) ||| (l4 <<< (l3 &&& 31))) l5 ok_101.1 (fun h25 ko_106 => ?_)
              have ok_107 := Ok_tr ok_101 ko_106 (by decide)
              refine s_X2_part l6 ok_107.1 (fun r27 => ?_)
              refine s_X10_told r27 ok_107.1 (fun r29 h28 ko_108 tq => ?_)
              have ok_109 := Ok_tr ok_107 ko_108 (by decide)
              have f_110 : R (-2147483648) 2147483647 r29 := R_full _
              exact hp _ _ ok_109 (by first | exact tq | exact tq (by decide) | (rw [mI_wI, if_pos ⟨rfl, rfl⟩]; decide)) 
            · have f_111 : R 0 0 0 := ⟨by decide, by decide⟩
              have f_112 : R 0 0 r23 := rf_eq f_111 c_103
              refine s_X10_refused 6 ok_101.1 (fun r31 h30 ko_113 f_115 tq => ?_)
              have ok_114 := Ok_tr ok_101 ko_113 (by decide)
              exact hp _ _ ok_114 (by first | exact tq | exact tq (by decide) | (rw [mI_wI, if_pos ⟨rfl, rfl⟩]; decide)) 
          · have f_116 : R 0 0 0 := ⟨by decide, by decide⟩
            have f_117 : R 0 0 r20 := rf_eq f_116 c_97
            refine s_X10_refused 1 ok.1 (fun r33 h32 ko_118 f_120 tq => ?_)
            have ok_119 := Ok_tr ok ko_118 (by decide)
            exact hp _ _ ok_119 (by first | exact tq | exact tq (by decide) | (rw [mI_wI, if_pos ⟨rfl, rfl⟩]; decide)) 
set_option maxRecDepth 100000 in
set_option maxHeartbeats 4000000 in
theorem s_X10_extend {g : gT} {h : mh_T} {P : Int32 → mh_T → Prop} (l1 : Int32) (l2 : Int32) (hG : GI h)  (hp : ∀ (r : Int32) h', Ok [0] h h' → ¬ mI h' 0 11 = 4 → P r h') : MCi g yX10_extend uX10_extend [.ref 0, .int l1, .int l2] h P := by
  have ok : Ok [0] h h := Ok_rf hG
  refine e_X10_extend l1 l2  ?_
  refine s_X8_hasOutcome l1 l2 ok.1 (fun r2 f_17 im_16 => ?_)
  refine ⟨fun c_18 => ?_, fun c_18 => ?_⟩
  · have f_19 : R 0 0 0 := ⟨by decide, by decide⟩
    have f_20 := (im_16 c_18).1
    have f_21 := (im_16 c_18).2
    have f_22 : R 1 1 r2 := rf_ne_lo f_17 c_18 (by decide) 1 rfl
    refine s_X8_extending ok.1 (fun r5 => ?_)
    refine s_X10_told (((r5.toUInt32 >>> (((4 * l1) + l2).toUInt32 &&& Int32.toUInt32 31)).toInt32) &&& 1) ok.1 (fun r7 h6 ko_23 tq => ?_)
    have ok_24 := Ok_tr ok ko_23 (by decide)
    have f_25 : R (-2147483648) 2147483647 r7 := R_full _
    exact hp _ _ ok_24 (by first | exact tq | exact tq (by decide) | (rw [mI_wI, if_pos ⟨rfl, rfl⟩]; decide)) 
  · have f_26 : R 0 0 0 := ⟨by decide, by decide⟩
    have f_27 : R 0 0 r2 := rf_eq f_26 c_18
    refine s_X10_refused 1 ok.1 (fun r9 h8 ko_28 f_30 tq => ?_)
    have ok_29 := Ok_tr ok ko_28 (by decide)
    exact hp _ _ ok_29 (by first | exact tq | exact tq (by decide) | (rw [mI_wI, if_pos ⟨rfl, rfl⟩]; decide)) 
set_option maxRecDepth 100000 in
set_option maxHeartbeats 4000000 in
theorem s_X10_level {g : gT} {h : mh_T} {P : Int32 → mh_T → Prop}  (hG : GI h)  (hp : ∀ (r : Int32) h', Ok [0, 6, 29, 30] h h' → ¬ mI h' 0 11 = 4 → P r h') : MCi g yX10_level uX10_level [.ref 0] h P := by
  have ok : Ok [0, 6, 29, 30] h h := Ok_rf hG
  refine e_X10_level   ?_
  refine s_X10_noBook ok.1 (fun r2 f_39 => ?_)
  refine ⟨fun c_40 => ?_, fun c_40 => ?_⟩
  · have f_41 : R 0 0 0 := ⟨by decide, by decide⟩
    have f_42 : R 0 0 r2 := rf_eq f_41 c_40
    refine s_X0_isMixed ok.1 (fun r5 h4 ko_43 f_45 => ?_)
    have ok_44 := Ok_tr ok ko_43 (by decide)
    refine ⟨fun c_46 => ?_, fun c_46 => ?_⟩
    · have f_47 : R 0 0 0 := ⟨by decide, by decide⟩
      have f_48 : R 0 0 r5 := rf_eq f_47 c_46
      refine s_X8_possible ok_44.1 (fun r8 => ?_)
      refine s_X8_extending ok_44.1 (fun r10 => ?_)
      intro x11 ex11
      have f_50 : R (-2147483648) 2147483647 r10 := R_full _
      have f_51 : R (-2147483648) 2147483647 r8 := R_full _
      have f_49 : R (-2147483648) 2147483647 (r8 &&& r10) := R_full _
      have f_52 : R (-2147483648) 2147483647 x11 := rf_eq f_49 ex11
      refine ⟨fun c_53 => ?_, fun c_53 => ?_⟩
      · refine ⟨fun c_54 => ?_, fun c_54 => ?_⟩
        · have f_55 : R 0 0 0 := ⟨by decide, by decide⟩
          have f_56 : R 0 0 x11 := rf_eq f_55 c_54
          refine s_X10_told 3 ok_44.1 (fun r15 h14 ko_57 tq => ?_)
          have ok_58 := Ok_tr ok_44 ko_57 (by decide)
          have f_59 : R (-2147483648) 2147483647 r15 := R_full _
          exact hp _ _ ok_58 (by first | exact tq | exact tq (by decide) | (rw [mI_wI, if_pos ⟨rfl, rfl⟩]; decide)) 
        · have f_60 : R 0 0 0 := ⟨by decide, by decide⟩
          refine s_X10_told 2 ok_44.1 (fun r17 h16 ko_61 tq => ?_)
          have ok_62 := Ok_tr ok_44 ko_61 (by decide)
          have f_63 : R (-2147483648) 2147483647 r17 := R_full _
          exact hp _ _ ok_62 (by first | exact tq | exact tq (by decide) | (rw [mI_wI, if_pos ⟨rfl, rfl⟩]; decide)) 
      · refine s_X10_told 1 ok_44.1 (fun r19 h18 ko_64 tq => ?_)
        have ok_65 := Ok_tr ok_44 ko_64 (by decide)
        have f_66 : R (-2147483648) 2147483647 r19 := R_full _
        exact hp _ _ ok_65 (by first | exact tq | exact tq (by decide) | (rw [mI_wI, if_pos ⟨rfl, rfl⟩]; decide)) 
    · have f_67 : R 0 0 0 := ⟨by decide, by decide⟩
      have f_68 : R 1 1 r5 := rf_ne_lo f_45 c_46 (by decide) 1 rfl
      refine s_X10_told 0 ok_44.1 (fun r21 h20 ko_69 tq => ?_)
      have ok_70 := Ok_tr ok_44 ko_69 (by decide)
      have f_71 : R (-2147483648) 2147483647 r21 := R_full _
      exact hp _ _ ok_70 (by first | exact tq | exact tq (by decide) | (rw [mI_wI, if_pos ⟨rfl, rfl⟩]; decide)) 
  · have f_72 : R 0 0 0 := ⟨by decide, by decide⟩
    have f_73 : R 1 1 r2 := rf_ne_lo f_39 c_40 (by decide) 1 rfl
    refine s_X10_refused 1 ok.1 (fun r23 h22 ko_74 f_76 tq => ?_)
    have ok_75 := Ok_tr ok ko_74 (by decide)
    exact hp _ _ ok_75 (by first | exact tq | exact tq (by decide) | (rw [mI_wI, if_pos ⟨rfl, rfl⟩]; decide)) 
set_option maxRecDepth 100000 in
set_option maxHeartbeats 4000000 in
theorem s_X10_hidden {g : gT} {h : mh_T} {P : Int32 → mh_T → Prop}  (hG : GI h)  (hp : ∀ (r : Int32) h', Ok [0] h h' → ¬ mI h' 0 11 = 4 → P r h') : MCi g yX10_hidden uX10_hidden [.ref 0] h P := by
  have ok : Ok [0] h h := Ok_rf hG
  refine e_X10_hidden   ?_
  refine s_X10_noBook ok.1 (fun r2 f_13 => ?_)
  refine ⟨fun c_14 => ?_, fun c_14 => ?_⟩
  · have f_15 : R 0 0 0 := ⟨by decide, by decide⟩
    have f_16 : R 0 0 r2 := rf_eq f_15 c_14
    refine s_X8_fitting ok.1 (fun r5 => ?_)
    refine s_X10_told r5 ok.1 (fun r7 h6 ko_17 tq => ?_)
    have ok_18 := Ok_tr ok ko_17 (by decide)
    have f_19 : R (-2147483648) 2147483647 r7 := R_full _
    exact hp _ _ ok_18 (by first | exact tq | exact tq (by decide) | (rw [mI_wI, if_pos ⟨rfl, rfl⟩]; decide)) 
  · have f_20 : R 0 0 0 := ⟨by decide, by decide⟩
    have f_21 : R 1 1 r2 := rf_ne_lo f_13 c_14 (by decide) 1 rfl
    refine s_X10_refused 1 ok.1 (fun r9 h8 ko_22 f_24 tq => ?_)
    have ok_23 := Ok_tr ok ko_22 (by decide)
    exact hp _ _ ok_23 (by first | exact tq | exact tq (by decide) | (rw [mI_wI, if_pos ⟨rfl, rfl⟩]; decide)) 
set_option maxRecDepth 100000 in
set_option maxHeartbeats 4000000 in
theorem s_X10_answer {g : gT} {h : mh_T} {P : Int32 → mh_T → Prop} (l1 : Int32) (hG : GI h)  (hp : ∀ (r : Int32) h', Ok [0] h h' → ¬ mI h' 0 11 = 4 → P r h') : MCi g yX10_answer uX10_answer [.ref 0, .int l1] h P := by
  have ok : Ok [0] h h := Ok_rf hG
  refine e_X10_answer l1  ?_
  refine s_X10_noBook ok.1 (fun r2 f_22 => ?_)
  refine ⟨fun c_23 => ?_, fun c_23 => ?_⟩
  · have f_24 : R 0 0 0 := ⟨by decide, by decide⟩
    have f_25 : R 0 0 r2 := rf_eq f_24 c_23
    refine s_X8_fittingAt l1 ok.1 (fun r5 f_26 => ?_)
    refine ⟨fun c_27 => ?_, fun c_27 => ?_⟩
    · have f_28 : R 0 0 0 := ⟨by decide, by decide⟩
      have f_29 : R 0 63 r5 := rf_le_r f_28 f_26 c_27 0 (by decide)
      refine s_X10_told r5 ok.1 (fun r8 h7 ko_30 tq => ?_)
      have ok_31 := Ok_tr ok ko_30 (by decide)
      have f_32 : R (-2147483648) 2147483647 r8 := R_full _
      exact hp _ _ ok_31 (by first | exact tq | exact tq (by decide) | (rw [mI_wI, if_pos ⟨rfl, rfl⟩]; decide)) 
    · have f_33 : R 0 0 0 := ⟨by decide, by decide⟩
      have f_34 : R (-1) (-1) r5 := rf_lt_l f_26 f_33 (nle c_27) (-1) (by decide)
      refine s_X10_refused 1 ok.1 (fun r10 h9 ko_35 f_37 tq => ?_)
      have ok_36 := Ok_tr ok ko_35 (by decide)
      exact hp _ _ ok_36 (by first | exact tq | exact tq (by decide) | (rw [mI_wI, if_pos ⟨rfl, rfl⟩]; decide)) 
  · have f_38 : R 0 0 0 := ⟨by decide, by decide⟩
    have f_39 : R 1 1 r2 := rf_ne_lo f_22 c_23 (by decide) 1 rfl
    refine s_X10_refused 1 ok.1 (fun r13 h12 ko_40 f_42 tq => ?_)
    have ok_41 := Ok_tr ok ko_40 (by decide)
    exact hp _ _ ok_41 (by first | exact tq | exact tq (by decide) | (rw [mI_wI, if_pos ⟨rfl, rfl⟩]; decide)) 
set_option maxRecDepth 100000 in
set_option maxHeartbeats 4000000 in
theorem s_X10_disturbed {g : gT} {h : mh_T} {P : Int32 → mh_T → Prop}  (hG : GI h)  (hp : ∀ (r : Int32) h', Ok [0] h h' → ¬ mI h' 0 11 = 4 → P r h') : MCi g yX10_disturbed uX10_disturbed [.ref 0] h P := by
  have ok : Ok [0] h h := Ok_rf hG
  refine e_X10_disturbed   ?_
  refine s_X10_noBook ok.1 (fun r2 f_14 => ?_)
  refine ⟨fun c_15 => ?_, fun c_15 => ?_⟩
  · have f_16 : R 0 0 0 := ⟨by decide, by decide⟩
    have f_17 : R 0 0 r2 := rf_eq f_16 c_15
    refine s_X8_firstDisturbed ok.1 (fun r5 f_18 => ?_)
    refine s_X10_told r5 ok.1 (fun r7 h6 ko_19 tq => ?_)
    have ok_20 := Ok_tr ok ko_19 (by decide)
    have f_21 : R (-2147483648) 2147483647 r7 := R_full _
    exact hp _ _ ok_20 (by first | exact tq | exact tq (by decide) | (rw [mI_wI, if_pos ⟨rfl, rfl⟩]; decide)) 
  · have f_22 : R 0 0 0 := ⟨by decide, by decide⟩
    have f_23 : R 1 1 r2 := rf_ne_lo f_14 c_15 (by decide) 1 rfl
    refine s_X10_refused 1 ok.1 (fun r9 h8 ko_24 f_26 tq => ?_)
    have ok_25 := Ok_tr ok ko_24 (by decide)
    exact hp _ _ ok_25 (by first | exact tq | exact tq (by decide) | (rw [mI_wI, if_pos ⟨rfl, rfl⟩]; decide)) 
