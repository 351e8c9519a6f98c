set_option maxRecDepth 100000 in
set_option maxHeartbeats 4000000 in
theorem s_X11_noCoins_L {g : gT} {h0 : mh_T} {P : mh_T → Prop} (hG0 : GI h0) (hp : ∀ h', Ok [47] h0 h' → P h') : ∀ n : Nat, (∀ (l1 : Int32) (h : mh_T), Ok [47] h0 h → R 0 32 l1 → 1 * gap 32 l1 + 0 < n → ME g uX11_noCoins 2 [.ref 11, .int l1] [] h (qV P)) := by
  intro n
  induction n with
  | zero =>
    exact (fun _ _ _ _ hm => absurd hm (Nat.not_lt_zero _))
  | succ n ih =>
    intro l1 h  ok fl1     hm
    refine r_X11_noCoins_2 l1  ?_
    refine ⟨fun c_187 => ?_, fun c_187 => ?_⟩
    · have f_188 : R 32 32 32 := ⟨by decide, by decide⟩
      have f_189 : R 32 32 l1 := rf_le_r f_188 fl1 c_187 32 (by decide)
      exact hp _ ok
    · have f_190 : R 32 32 32 := ⟨by decide, by decide⟩
      have f_191 : R 0 31 l1 := rf_lt_l fl1 f_190 (nle c_187) 31 (by decide)
      have f_192 : R 32 32 32 := ⟨by decide, by decide⟩
      refine ⟨vin f_191 (by decide), ?_⟩
      have f_194 : R 1 1 1 := ⟨by decide, by decide⟩
      have f_193 : R 1 32 (l1 + 1) := R_add f_191 f_194 1 32 (by decide)
      have f_195 : R 0 0 0 := ⟨by decide, by decide⟩
      have ok_196 := Ok_w ok (k := 47) (j := l1.toNatClampNeg) (v := 0) (lo := (-2147483648)) (hi := 2147483647) (rgc_47 _) (R_w f_195 (by decide)) (by decide) (nt_k (by decide))
      have g_197 := gap_inc (N := 32) f_191 (by decide)
      exact ih (l1 + 1) (wI h 47 l1.toNatClampNeg 0)  ok_196 (R_w f_193 (by decide)) (by omega)
set_option maxRecDepth 100000 in
set_option maxHeartbeats 4000000 in
theorem s_X11_noCoins {g : gT} {h : mh_T} {P : mh_T → Prop}  (hG : GI h)  (hp : ∀ h', Ok [47] h h' → P h') : MCv g yX11_noCoins uX11_noCoins [.ref 11] h P := by
  have ok : Ok [47] h h := Ok_rf hG
  have L0 := s_X11_noCoins_L (g := g) hG hp 33
  refine e_X11_noCoins   ?_
  have f_198 : R 0 0 0 := ⟨by decide, by decide⟩
  have f_199 : R 0 0 0 := ⟨by decide, by decide⟩
  have g_200 := gap_le (N := 32) f_199 (m := 32) (by decide)
  exact L0 0 h  ok (R_w f_198 (by decide)) (by omega)
abbrev msM : List Nat := [301, 11, 44, 45, 46, 47]
theorem rg4645 : ∀ j, j < 346 → (rgT 45 j).1 ≤ (rgT 46 j).1 ∧ (rgT 46 j).2 ≤ (rgT 45 j).2 := by decide +kernel
theorem rg46_0 : ∀ j, j < 346 → (rgT 46 j).1 ≤ 0 ∧ 0 ≤ (rgT 46 j).2 := by decide +kernel
set_option maxRecDepth 100000 in
set_option maxHeartbeats 4000000 in
theorem s_X11_fault {g : gT} {h : mh_T} {P : Int32 → mh_T → Prop}  (hG : GI h)  (hp : ∀ (r : Int32) h', Ok [11] h h' → P r h') : MCi g yX11_fault uX11_fault [.ref 11] h P := by
  have ok : Ok [11] h h := Ok_rf hG
  refine e_X11_fault   ?_
  have f_5 : R 0 0 0 := ⟨by decide, by decide⟩
  have ok_6 := Ok_w ok (k := 11) (j := 0) (v := 0) (lo := (-2147483648)) (hi := 2147483647) (by decide) (R_w f_5 (by decide)) (by decide) (by decide)
  have f_8 : R (-2147483648) 2147483647 (mI h 11 9) := R_full _
  have f_7 : R (-2147483648) 2147483647 (mI (wI h 11 0 0) 11 9) := (rd_nj f_8 (by decide))
  exact hp _ _ ok_6 
set_option maxRecDepth 100000 in
set_option maxHeartbeats 4000000 in
theorem s_X11_where {g : gT} {h : mh_T} {P : Int32 → mh_T → Prop}  (hG : GI h)  (hp : ∀ (r : Int32) h', Ok [11] h h' → P r h') : MCi g yX11_where uX11_where [.ref 11] h P := by
  have ok : Ok [11] h h := Ok_rf hG
  refine e_X11_where   ?_
  refine ⟨fun c_16 => ?_, fun c_16 => ?_⟩
  · have f_18 : R (-2147483648) 2147483647 (mI h 11 11) := R_full _
    have f_17 : R (-2147483648) 2147483647 (mI (wI h 11 0 0) 11 11) := (rd_nj f_18 (by decide))
    have f_19 : R 4 4 4 := ⟨by decide, by decide⟩
    have f_20 : R 0 0 0 := ⟨by decide, by decide⟩
    have ok_21 := Ok_w ok (k := 11) (j := 0) (v := 0) (lo := (-2147483648)) (hi := 2147483647) (by decide) (R_w f_20 (by decide)) (by decide) (by decide)
    have f_22 : R (-1) (-1) (-1) := ⟨by decide, by decide⟩
    exact hp _ _ ok_21 
  · have f_24 : R (-2147483648) 2147483647 (mI h 11 11) := R_full _
    have f_23 : R (-2147483648) 2147483647 (mI (wI h 11 0 0) 11 11) := (rd_nj f_24 (by decide))
    have f_25 : R 4 4 4 := ⟨by decide, by decide⟩
    have f_26 : R 4 4 (mI (wI h 11 0 0) 11 11) := rf_eq f_25 c_16
    have f_27 : R 0 0 0 := ⟨by decide, by decide⟩
    have ok_28 := Ok_w ok (k := 11) (j := 0) (v := 0) (lo := (-2147483648)) (hi := 2147483647) (by decide) (R_w f_27 (by decide)) (by decide) (by decide)
    have f_30 : R (-2147483648) 2147483647 (mI h 11 10) := R_full _
    have f_29 : R (-2147483648) 2147483647 (mI (wI h 11 0 0) 11 10) := (rd_nj f_30 (by decide))
    exact hp _ _ ok_28 
set_option maxRecDepth 100000 in
set_option maxHeartbeats 4000000 in
theorem s_X11_isSet {g : gT} {h : mh_T} {P : Int32 → mh_T → Prop} (l1 : Int32) (hG : GI h)  (hp : ∀ r : Int32, R 0 1 r → (¬ r = 0 → R 0 7 l1 ∧ R 1 8 (mI h 45 (Int32.toNatClampNeg 0))) → P r h) : MCi g yX11_isSet uX11_isSet [.ref 11, .int l1] h P := by
  have ok : Ok [] h h := Ok_rf hG
  refine e_X11_isSet l1  ?_
  refine ⟨fun c_28 => ?_, fun c_28 => ?_⟩
  · have f_29 : R 0 1 (mI h 11 14) := GI_rd ok.1 11 _ (by decide)
    have f_30 : R 0 0 0 := ⟨by decide, by decide⟩
    have f_31 : R 0 0 (mI h 11 14) := rf_eq f_30 c_28
    have f_32 : R 0 0 0 := ⟨by decide, by decide⟩
    exact hp _ (R_w f_32 (by decide)) (fun z => absurd rfl z)
  · have f_33 : R 0 1 (mI h 11 14) := GI_rd ok.1 11 _ (by decide)
    have f_34 : R 0 0 0 := ⟨by decide, by decide⟩
    have f_35 : R 1 1 (mI h 11 14) := rf_ne_lo f_33 c_28 (by decide) 1 rfl
    refine s_X11_within l1 0 ((mI h 45 (Int32.toNatClampNeg 0)) - 1) ok.1 (fun r3 f_37 im_36 => ?_)
    refine ⟨fun c_38 => ?_, fun c_38 => ?_⟩
    · have f_39 : R 0 0 0 := ⟨by decide, by decide⟩
      have f_40 : R 0 0 r3 := rf_eq f_39 c_38
      have f_41 : R 0 0 0 := ⟨by decide, by decide⟩
      exact hp _ (R_w f_41 (by decide)) (fun z => absurd rfl z)
    · have f_42 : R 0 0 0 := ⟨by decide, by decide⟩
      have f_43 : R 0 0 0 := ⟨by decide, by decide⟩
      have f_44 : R 0 2147483647 l1 := rf_le_r f_43 (R_full l1) (im_36 c_38).1 0 (by decide)
      have f_46 : R 0 8 (mI h 45 (Int32.toNatClampNeg 0)) := GI_rd ok.1 45 _ (by decide)
      have f_47 : R 1 1 1 := ⟨by decide, by decide⟩
      have f_45 : R (-1) 7 ((mI h 45 (Int32.toNatClampNeg 0)) - 1) := R_sub f_46 f_47 (-1) 7 (by decide)
      have f_48 : R 0 7 l1 := rf_le_l f_44 f_45 (im_36 c_38).2 7 (by decide)
      have f_49 : R 0 7 ((mI h 45 (Int32.toNatClampNeg 0)) - 1) := rf_le_r f_44 f_45 (im_36 c_38).2 0 (by decide)
      have f_50 : R 1 8 (mI h 45 (Int32.toNatClampNeg 0)) := R_um1 f_46 f_49 1 8 (by decide)
      have f_51 : R 1 1 r3 := rf_ne_lo f_37 c_38 (by decide) 1 rfl
      have f_52 : R 1 1 1 := ⟨by decide, by decide⟩
      have f_53 : R 1 1 1 := ⟨by decide, by decide⟩
      have f_54 : R 0 0 0 := ⟨by decide, by decide⟩
      exact hp _ (R_w f_52 (by decide)) (fun _ => ⟨R_w f_48 (by decide), R_w f_50 (by decide)⟩)
set_option maxRecDepth 100000 in
set_option maxHeartbeats 4000000 in
theorem s_X11_isLook {g : gT} {h : mh_T} {P : Int32 → mh_T → Prop} (l1 : Int32) (hG : GI h)  (hp : ∀ r : Int32, R 0 1 r → (¬ r = 0 → R 0 5 l1) → P r h) : MCi g yX11_isLook uX11_isLook [.ref 11, .int l1] h P := by
  have ok : Ok [] h h := Ok_rf hG
  refine e_X11_isLook l1  ?_
  refine ⟨fun c_28 => ?_, fun c_28 => ?_⟩
  · have f_29 : R 0 1 (mI h 11 14) := GI_rd ok.1 11 _ (by decide)
    have f_30 : R 0 0 0 := ⟨by decide, by decide⟩
    have f_31 : R 0 0 (mI h 11 14) := rf_eq f_30 c_28
    have f_32 : R 0 0 0 := ⟨by decide, by decide⟩
    exact hp _ (R_w f_32 (by decide)) (fun z => absurd rfl z)
  · have f_33 : R 0 1 (mI h 11 14) := GI_rd ok.1 11 _ (by decide)
    have f_34 : R 0 0 0 := ⟨by decide, by decide⟩
    have f_35 : R 1 1 (mI h 11 14) := rf_ne_lo f_33 c_28 (by decide) 1 rfl
    refine s_X11_within l1 0 ((mI h 45 (Int32.toNatClampNeg 50)) - 1) ok.1 (fun r3 f_37 im_36 => ?_)
    refine ⟨fun c_38 => ?_, fun c_38 => ?_⟩
    · have f_39 : R 0 0 0 := ⟨by decide, by decide⟩
      have f_40 : R 0 0 r3 := rf_eq f_39 c_38
      have f_41 : R 0 0 0 := ⟨by decide, by decide⟩
      exact hp _ (R_w f_41 (by decide)) (fun z => absurd rfl z)
    · have f_42 : R 0 0 0 := ⟨by decide, by decide⟩
      have f_43 : R 0 0 0 := ⟨by decide, by decide⟩
      have f_44 : R 0 2147483647 l1 := rf_le_r f_43 (R_full l1) (im_36 c_38).1 0 (by decide)
      have f_46 : R 0 6 (mI h 45 (Int32.toNatClampNeg 50)) := GI_rd ok.1 45 _ (by decide)
      have f_47 : R 1 1 1 := ⟨by decide, by decide⟩
      have f_45 : R (-1) 5 ((mI h 45 (Int32.toNatClampNeg 50)) - 1) := R_sub f_46 f_47 (-1) 5 (by decide)
      have f_48 : R 0 5 l1 := rf_le_l f_44 f_45 (im_36 c_38).2 5 (by decide)
      have f_49 : R 0 5 ((mI h 45 (Int32.toNatClampNeg 50)) - 1) := rf_le_r f_44 f_45 (im_36 c_38).2 0 (by decide)
      have f_50 : R 1 6 (mI h 45 (Int32.toNatClampNeg 50)) := R_um1 f_46 f_49 1 6 (by decide)
      have f_51 : R 1 1 r3 := rf_ne_lo f_37 c_38 (by decide) 1 rfl
      have f_52 : R 1 1 1 := ⟨by decide, by decide⟩
      have f_53 : R 1 1 1 := ⟨by decide, by decide⟩
      have f_54 : R 0 0 0 := ⟨by decide, by decide⟩
      exact hp _ (R_w f_52 (by decide)) (fun _ => R_w f_48 (by decide))
set_option maxRecDepth 100000 in
set_option maxHeartbeats 4000000 in
theorem s_X11_outcomes {g : gT} {h : mh_T} {P : Int32 → mh_T → Prop} (l1 : Int32) (hG : GI h) (fl1 : R 0 7 l1) (hp : ∀ r : Int32, R 2 4 r → P r h) : MCi g yX11_outcomes uX11_outcomes [.ref 45, .int l1] h P := by
  have ok : Ok [] h h := Ok_rf hG
  refine e_X11_outcomes l1  ?_
  have f_13 : R 9 9 9 := ⟨by decide, by decide⟩
  have f_12 : R 9 16 (9 + l1) := R_add f_13 fl1 9 16 (by decide)
  refine ⟨vin f_12 (by decide), ?_⟩
  refine ⟨fun c_14 => ?_, fun c_14 => ?_⟩
  · have f_15 : R (-2) 5 (mI h 45 (9 + l1).toNatClampNeg) := GI_rd ok.1 45 _ (rgp_45_2 (ix_ge f_12 (by decide)) (ix_le f_12 (by decide)))
    have f_16 : R (-2) (-2) (-2) := ⟨by decide, by decide⟩
    have f_17 : R (-1) 5 (mI h 45 (9 + l1).toNatClampNeg) := rf_ne_lo f_15 c_14 (by decide) (-1) rfl
    have f_18 : R 4 4 4 := ⟨by decide, by decide⟩
    exact hp _ (R_w f_18 (by decide))
  · have f_19 : R (-2) 5 (mI h 45 (9 + l1).toNatClampNeg) := GI_rd ok.1 45 _ (rgp_45_2 (ix_ge f_12 (by decide)) (ix_le f_12 (by decide)))
    have f_20 : R (-2) (-2) (-2) := ⟨by decide, by decide⟩
    have f_21 : R (-2) (-2) (mI h 45 (9 + l1).toNatClampNeg) := rf_eq f_20 c_14
    have f_22 : R 2 2 2 := ⟨by decide, by decide⟩
    exact hp _ (R_w f_22 (by decide))
set_option maxRecDepth 100000 in
set_option maxHeartbeats 4000000 in
theorem s_X11_isOutcome {g : gT} {h : mh_T} {P : Int32 → mh_T → Prop} (l1 : Int32) (l2 : Int32) (hG : GI h)  (hp : ∀ r : Int32, R 0 1 r → (¬ r = 0 → R 0 7 l1 ∧ R 0 3 l2) → P r h) : MCi g yX11_isOutcome uX11_isOutcome [.ref 11, .int l1, .int l2] h P := by
  have ok : Ok [] h h := Ok_rf hG
  refine e_X11_isOutcome l1 l2  ?_
  refine s_X11_isSet l1 ok.1 (fun r2 f_29 im_28 => ?_)
  refine ⟨fun c_30 => ?_, fun c_30 => ?_⟩
  · have f_31 : R 0 0 0 := ⟨by decide, by decide⟩
    have f_32 : R 0 0 r2 := rf_eq f_31 c_30
    have f_33 : R 0 0 0 := ⟨by decide, by decide⟩
    exact hp _ (R_w f_33 (by decide)) (fun z => absurd rfl z)
  · have f_34 : R 0 0 0 := ⟨by decide, by decide⟩
    have f_35 := (im_28 c_30).1
    have f_36 := (im_28 c_30).2
    have f_37 : R 1 1 r2 := rf_ne_lo f_29 c_30 (by decide) 1 rfl
    refine s_X11_outcomes l1 ok.1 (R_w f_35 (by decide)) (fun r5 f_38 => ?_)
    refine s_X11_within l2 0 (r5 - 1) ok.1 (fun r7 f_40 im_39 => ?_)
    refine ⟨fun c_41 => ?_, fun c_41 => ?_⟩
    · have f_42 : R 0 0 0 := ⟨by decide, by decide⟩
      have f_43 : R 0 0 r7 := rf_eq f_42 c_41
      have f_44 : R 0 0 0 := ⟨by decide, by decide⟩
      exact hp _ (R_w f_44 (by decide)) (fun z => absurd rfl z)
    · have f_45 : R 0 0 0 := ⟨by decide, by decide⟩
      have f_46 : R 0 0 0 := ⟨by decide, by decide⟩
      have f_47 : R 0 2147483647 l2 := rf_le_r f_46 (R_full l2) (im_39 c_41).1 0 (by decide)
      have f_49 : R 1 1 1 := ⟨by decide, by decide⟩
      have f_48 : R 1 3 (r5 - 1) := R_sub f_38 f_49 1 3 (by decide)
      have f_50 : R 0 3 l2 := rf_le_l f_47 f_48 (im_39 c_41).2 3 (by decide)
      have f_51 : R 1 1 r7 := rf_ne_lo f_40 c_41 (by decide) 1 rfl
      have f_52 : R 1 1 1 := ⟨by decide, by decide⟩
      have f_53 : R 1 1 1 := ⟨by decide, by decide⟩
      have f_54 : R 0 0 0 := ⟨by decide, by decide⟩
      exact hp _ (R_w f_52 (by decide)) (fun _ => ⟨R_w f_35 (by decide), R_w f_50 (by decide)⟩)
set_option maxRecDepth 100000 in
set_option maxHeartbeats 4000000 in
theorem s_X11_hiddenMany {g : gT} {h : mh_T} {P : Int32 → mh_T → Prop}  (hG : GI h)  (hp : ∀ r : Int32, R 1 64 r → P r h) : MCi g yX11_hiddenMany uX11_hiddenMany [.ref 11] h P := by
  have ok : Ok [] h h := Ok_rf hG
  refine e_X11_hiddenMany   ?_
  have f_4 : R 0 6 (mI h 45 (Int32.toNatClampNeg 50)) := GI_rd ok.1 45 _ (by decide)
  have f_3 : R 1 64 (1 <<< ((mI h 45 (Int32.toNatClampNeg 50)) &&& 31)) := R_shl f_4 1 64 0 6 (by decide)
  exact hp _ (R_w f_3 (by decide))
set_option maxRecDepth 100000 in
set_option maxHeartbeats 4000000 in
theorem s_X11_fitted {g : gT} {h : mh_T} {P : Int32 → mh_T → Prop} (l1 : Int32) (l2 : Int32) (hG : GI h) (fl1 : R 0 7 l1) (hp : ∀ r : Int32, R 0 3 r → P r h) : MCi g yX11_fitted uX11_fitted [.ref 11, .int l1, .int l2] h P := by
  have ok : Ok [] h h := Ok_rf hG
  refine e_X11_fitted l1 l2  ?_
  have f_21 : R 1 1 1 := ⟨by decide, by decide⟩
  have f_20 : R 1 8 (1 + l1) := R_add f_21 fl1 1 8 (by decide)
  refine ⟨vin f_20 (by decide), ?_⟩
  intro x2 ex2
  have f_23 : R 1 1 1 := ⟨by decide, by decide⟩
  have f_22 : R 0 1 ((l2 >>> ((mI h 45 (1 + l1).toNatClampNeg) &&& 31)) &&& 1) := R_and f_23 (by decide)
  have f_24 : R 0 1 x2 := rf_eq f_22 ex2
  have f_26 : R 9 9 9 := ⟨by decide, by decide⟩
  have f_25 : R 9 16 (9 + l1) := R_add f_26 fl1 9 16 (by decide)
  refine ⟨vin f_25 (by decide), ?_⟩
  refine ⟨fun c_27 => ?_, fun c_27 => ?_⟩
  · have f_28 : R (-2) 5 (mI h 45 (9 + l1).toNatClampNeg) := GI_rd ok.1 45 _ (rgp_45_2 (ix_ge f_25 (by decide)) (ix_le f_25 (by decide)))
    have f_29 : R (-2) (-2) (-2) := ⟨by decide, by decide⟩
    have f_30 : R (-1) 5 (mI h 45 (9 + l1).toNatClampNeg) := rf_ne_lo f_28 c_27 (by decide) (-1) rfl
    refine ⟨vin f_25 (by decide), ?_⟩
    have f_33 : R 2 2 2 := ⟨by decide, by decide⟩
    have f_32 : R 0 2 (2 * x2) := R_mul f_33 f_24 0 2 (by decide)
    have f_35 : R 1 1 1 := ⟨by decide, by decide⟩
    have f_34 : R 0 1 ((l2 >>> ((mI h 45 (9 + l1).toNatClampNeg) &&& 31)) &&& 1) := R_and f_35 (by decide)
    have f_31 : R 0 3 ((2 * x2) + ((l2 >>> ((mI h 45 (9 + l1).toNatClampNeg) &&& 31)) &&& 1)) := R_add f_32 f_34 0 3 (by decide)
    exact hp _ (R_w f_31 (by decide))
  · have f_36 : R (-2) 5 (mI h 45 (9 + l1).toNatClampNeg) := GI_rd ok.1 45 _ (rgp_45_2 (ix_ge f_25 (by decide)) (ix_le f_25 (by decide)))
    have f_37 : R (-2) (-2) (-2) := ⟨by decide, by decide⟩
    have f_38 : R (-2) (-2) (mI h 45 (9 + l1).toNatClampNeg) := rf_eq f_37 c_27
    exact hp _ (R_w f_24 (by decide))
set_option maxRecDepth 100000 in
set_option maxHeartbeats 4000000 in
theorem s_X11_cell {g : gT} {h : mh_T} {P : Int32 → mh_T → Prop} (l0 : Int32) (l1 : Int32) (hG : GI h) (fl0 : R 0 33 l0) (fl1 : R 0 96 l1) (hp : ∀ r : Int32, R 0 3297 r → P r h) : MCi g yX11_cell uX11_cell [.int l0, .int l1] h P := by
  have ok : Ok [] h h := Ok_rf hG
  refine e_X11_cell l0 l1  ?_
  have f_6 : R 97 97 97 := ⟨by decide, by decide⟩
  have f_5 : R 0 3201 (97 * l0) := R_mul f_6 fl0 0 3201 (by decide)
  have f_4 : R 0 3297 ((97 * l0) + l1) := R_add f_5 fl1 0 3297 (by decide)
  exact hp _ (R_w f_4 (by decide))
set_option maxRecDepth 100000 in
set_option maxHeartbeats 4000000 in
theorem s_X11_bounding_L {g : gT} {h0 : mh_T} {P : Int32 → mh_T → Prop} (hG0 : GI h0) (hp : ∀ r : Int32, R (-1) 31 r → P r h0) : ∀ n : Nat, (∀ (l1 : Int32) (l2 : Int32) (l3 : Int32), R 0 95 l1 → R (-1) 31 l2 → R 0 32 l3 → R 1 97 (mI h0 11 31) → 1 * gap 32 l3 + 0 < n → ME g uX11_bounding 4 [.ref 11, .int l1, .int l2, .int l3, .retAddr 0, .retAddr 0, .retAddr 0, .retAddr 0, .retAddr 0, .retAddr 0, .retAddr 0, .retAddr 0] [] h0 (qI P)) := by
  intro n
  induction n with
  | zero =>
    exact (fun _ _ _ _ _ _ _ hm => absurd hm (Nat.not_lt_zero _))
  | succ n ih =>
    intro l1 l2 l3  fl1 fl2 fl3 fi0    hm
    have ok : Ok [] h0 h0 := Ok_rf hG0
    refine r_X11_bounding_4 l1 l2 l3  ?_
    refine ⟨fun c_1280 => ?_, fun c_1280 => ?_⟩
    · have f_1281 : R 0 32 (mI h0 11 30) := GI_rd ok.1 11 _ (by decide)
      exact hp _ (R_w fl2 (by decide))
    · have f_1282 : R 0 32 (mI h0 11 30) := GI_rd ok.1 11 _ (by decide)
      have f_1283 : R 0 31 l3 := rf_lt_l fl3 f_1282 (nle c_1280) 31 (by decide)
      have f_1284 : R 1 32 (mI h0 11 30) := rf_lt_r fl3 f_1282 (nle c_1280) 1 (by decide)
      refine s_X11_cell l3 l1 ok.1 (R_w f_1283 (by decide)) (R_w fl1 (by decide)) (fun r3 f_1285 => ?_)
      refine ⟨vin f_1285 (by decide), ?_⟩
      intro x5 ex5
      refine ⟨fun c_1286 => ?_, fun c_1286 => ?_⟩
      · have f_1287 : R (-2147483648) 2147483647 (lg_cmp x5 0) := R_full _
        have f_1288 : R 0 0 0 := ⟨by decide, by decide⟩
        have f_1289 : R 1 2147483647 (lg_cmp x5 0) := rf_lt_r f_1288 f_1287 c_1286 1 (by decide)
        refine ⟨fun c_1290 => ?_, fun c_1290 => ?_⟩
        · have f_1291 : R 0 0 0 := ⟨by decide, by decide⟩
          have f_1292 : R 0 31 l2 := rf_le_r f_1291 fl2 c_1290 0 (by decide)
          refine s_X11_cell l2 l1 ok.1 (R_w f_1292 (by decide)) (R_w fl1 (by decide)) (fun r9 f_1293 => ?_)
          refine ⟨vin f_1293 (by decide), ?_⟩
          intro x11 ex11
          have f_1295 : R 1 1 1 := ⟨by decide, by decide⟩
          have f_1294 : R 0 96 ((mI h0 11 31) - 1) := R_sub fi0 f_1295 0 96 (by decide)
          refine s_X11_cell l3 ((mI h0 11 31) - 1) ok.1 (R_w f_1283 (by decide)) (R_w f_1294 (by decide)) (fun r13 f_1296 => ?_)
          refine ⟨vin f_1296 (by decide), ?_⟩
          intro x15 ex15
          refine s_X11_cell l2 ((mI h0 11 31) - 1) ok.1 (R_w f_1292 (by decide)) (R_w f_1294 (by decide)) (fun r17 f_1297 => ?_)
          refine ⟨vin f_1297 (by decide), ?_⟩
          intro x19 ex19
          refine ⟨fun c_1298 => ?_, fun c_1298 => ?_⟩
          · have f_1299 : R (-2147483648) 2147483647 (lg_cmp x15 x19) := R_full _
            have f_1300 : R 0 0 0 := ⟨by decide, by decide⟩
            have f_1301 : R (-2147483648) (-1) (lg_cmp x15 x19) := rf_lt_l f_1299 f_1300 c_1298 (-1) (by decide)
            have f_1303 : R 1 1 1 := ⟨by decide, by decide⟩
            have f_1302 : R 1 32 (l3 + 1) := R_add f_1283 f_1303 1 32 (by decide)
            have g_1304 := gap_inc (N := 32) f_1283 (by decide)
            exact ih l1 l3 (l3 + 1)  (R_w fl1 (by decide)) (R_w f_1283 (by decide)) (R_w f_1302 (by decide)) (R_w fi0 (by decide)) (by omega)
          · have f_1305 : R (-2147483648) 2147483647 (lg_cmp x15 x19) := R_full _
            have f_1306 : R 0 0 0 := ⟨by decide, by decide⟩
            have f_1307 : R 0 2147483647 (lg_cmp x15 x19) := rf_le_r f_1306 f_1305 (nlt c_1298) 0 (by decide)
            refine ⟨fun c_1308 => ?_, fun c_1308 => ?_⟩
            · have f_1309 : R 0 0 0 := ⟨by decide, by decide⟩
              have f_1310 : R 1 2147483647 (lg_cmp x15 x19) := rf_ne_lo f_1307 c_1308 (by decide) 1 rfl
              have f_1312 : R 1 1 1 := ⟨by decide, by decide⟩
              have f_1311 : R 1 32 (l3 + 1) := R_add f_1283 f_1312 1 32 (by decide)
              have g_1313 := gap_inc (N := 32) f_1283 (by decide)
              exact ih l1 l2 (l3 + 1)  (R_w fl1 (by decide)) (R_w f_1292 (by decide)) (R_w f_1311 (by decide)) (R_w fi0 (by decide)) (by omega)
            · have f_1314 : R 0 0 0 := ⟨by decide, by decide⟩
              have f_1315 : R 0 0 (lg_cmp x15 x19) := rf_eq f_1314 c_1308
              refine ⟨vin f_1283 (by decide), ?_⟩
              have f_1316 : R 0 0 0 := ⟨by decide, by decide⟩
              refine ⟨vin f_1292 (by decide), ?_⟩
              refine ⟨fun c_1317 => ?_, fun c_1317 => ?_⟩
              · have f_1318 : R 0 96 (mI h0 55 l3.toNatClampNeg) := GI_rd ok.1 55 _ rfl
                have f_1319 : R 0 96 (mI h0 55 l2.toNatClampNeg) := GI_rd ok.1 55 _ rfl
                have f_1321 : R 1 1 1 := ⟨by decide, by decide⟩
                have f_1320 : R 1 32 (l3 + 1) := R_add f_1283 f_1321 1 32 (by decide)
                have g_1322 := gap_inc (N := 32) f_1283 (by decide)
                exact ih l1 l2 (l3 + 1)  (R_w fl1 (by decide)) (R_w f_1292 (by decide)) (R_w f_1320 (by decide)) (R_w fi0 (by decide)) (by omega)
              · have f_1323 : R 0 96 (mI h0 55 l3.toNatClampNeg) := GI_rd ok.1 55 _ rfl
                have f_1324 : R 0 96 (mI h0 55 l2.toNatClampNeg) := GI_rd ok.1 55 _ rfl
                have f_1325 : R 0 95 (mI h0 55 l3.toNatClampNeg) := rf_lt_l f_1323 f_1324 (nle c_1317) 95 (by decide)
                have f_1326 : R 1 96 (mI h0 55 l2.toNatClampNeg) := rf_lt_r f_1323 f_1324 (nle c_1317) 1 (by decide)
                have f_1328 : R 1 1 1 := ⟨by decide, by decide⟩
                have f_1327 : R 1 32 (l3 + 1) := R_add f_1283 f_1328 1 32 (by decide)
                have g_1329 := gap_inc (N := 32) f_1283 (by decide)
                exact ih l1 l3 (l3 + 1)  (R_w fl1 (by decide)) (R_w f_1283 (by decide)) (R_w f_1327 (by decide)) (R_w fi0 (by decide)) (by omega)
        · have f_1330 : R 0 0 0 := ⟨by decide, by decide⟩
          have f_1331 : R (-1) (-1) l2 := rf_lt_l fl2 f_1330 (nle c_1290) (-1) (by decide)
          have f_1333 : R 1 1 1 := ⟨by decide, by decide⟩
          have f_1332 : R 1 32 (l3 + 1) := R_add f_1283 f_1333 1 32 (by decide)
          have g_1334 := gap_inc (N := 32) f_1283 (by decide)
          exact ih l1 l3 (l3 + 1)  (R_w fl1 (by decide)) (R_w f_1283 (by decide)) (R_w f_1332 (by decide)) (R_w fi0 (by decide)) (by omega)
      · have f_1335 : R (-2147483648) 2147483647 (lg_cmp x5 0) := R_full _
        have f_1336 : R 0 0 0 := ⟨by decide, by decide⟩
        have f_1337 : R (-2147483648) 0 (lg_cmp x5 0) := rf_le_l f_1335 f_1336 (nlt c_1286) 0 (by decide)
        have f_1339 : R 1 1 1 := ⟨by decide, by decide⟩
        have f_1338 : R 1 32 (l3 + 1) := R_add f_1283 f_1339 1 32 (by decide)
        have g_1340 := gap_inc (N := 32) f_1283 (by decide)
        exact ih l1 l2 (l3 + 1)  (R_w fl1 (by decide)) (R_w fl2 (by decide)) (R_w f_1338 (by decide)) (R_w fi0 (by decide)) (by omega)
set_option maxRecDepth 100000 in
set_option maxHeartbeats 4000000 in
theorem s_X11_bounding {g : gT} {h : mh_T} {P : Int32 → mh_T → Prop} (l1 : Int32) (hG : GI h) (fl1 : R 0 95 l1) (fi0 : R 1 97 (mI h 11 31)) (hp : ∀ r : Int32, R (-1) 31 r → P r h) : MCi g yX11_bounding uX11_bounding [.ref 11, .int l1] h P := by
  have ok : Ok [] h h := Ok_rf hG
  have L0 := s_X11_bounding_L (g := g) hG hp 33
  refine e_X11_bounding l1  ?_
  have f_1341 : R (-1) (-1) (-1) := ⟨by decide, by decide⟩
  have f_1342 : R 0 0 0 := ⟨by decide, by decide⟩
  have f_1343 : R 0 0 0 := ⟨by decide, by decide⟩
  have g_1344 := gap_le (N := 32) f_1343 (m := 32) (by decide)
  exact L0 l1 (-1) 0  (R_w fl1 (by decide)) (R_w f_1341 (by decide)) (R_w f_1342 (by decide)) (R_w fi0 (by decide)) (by omega)
theorem lg_eq {x y : Int64} (h : lg_cmp x y = 0) : x = y := by
  unfold lg_cmp at h
  split at h
  · cases h
  · split at h
    · assumption
    · cases h
theorem rem_ti {x y : Int64} (h : ¬ y = 0) : (x - x / y * y).toInt = x.toInt.tmod y.toInt := by
  have hy : y.toInt ≠ 0 := fun z => h (Int64.toInt_inj.mp (by rw [z]; decide))
  have e : x.toInt - x.toInt.tdiv y.toInt * y.toInt = x.toInt.tmod y.toInt := by
    rw [Int.tmod_def, Int.mul_comm]
  have l1 := Int64.le_toInt y
  have l2 := Int64.toInt_le y
  have m1 : (x.toInt.tmod y.toInt).natAbs < y.toInt.natAbs := by
    rw [Int.natAbs_tmod]
    exact Nat.mod_lt _ (by omega)
  have q1 : Int64.minValue.toInt = -9223372036854775808 := by decide
  have q2 : Int64.maxValue.toInt = 9223372036854775807 := by decide
  rw [Int64.toInt_sub, Int64.toInt_mul, Int64.toInt_div]
  simp only [Int.bmod_mul_bmod, Int.sub_bmod_bmod]
  rw [e]
  exact Int.bmod_eq_of_le (by omega) (by omega)
theorem rem_abs {x y : Int64} (h : ¬ y = 0) : (x - x / y * y).toInt.natAbs < y.toInt.natAbs := by
  have hy : y.toInt ≠ 0 := fun z => h (Int64.toInt_inj.mp (by rw [z]; decide))
  rw [rem_ti h, Int.natAbs_tmod]
  exact Nat.mod_lt _ (by omega)
set_option maxRecDepth 100000 in
theorem s_X11_common_L {g : gT} {h : mh_T} {P : Int64 → mh_T → Prop} (hp : ∀ r, ¬ r = 0 → P r h) : ∀ (n : Nat) (l0 l2 l4 l6 : Int64), ¬ (l4 = 0 ∧ l6 = 0) → l6.toInt.natAbs < n → ME g uX11_common 6 [.long l0, .retAddr 0, .long l2, .retAddr 0, .long l4, .retAddr 0, .long l6, .retAddr 0, .retAddr 0, .retAddr 0] [] h (qL P) := by
  intro n
  induction n with
  | zero => intro l0 l2 l4 l6 _ hm; omega
  | succ n ih =>
    intro l0 l2 l4 l6 h0 hm
    refine r_X11_common_6 l0 l2 l4 l6 ⟨fun c => hp _ (fun z => h0 ⟨z, lg_eq c⟩), fun c => ⟨lg_ne c, fun x3 e3 => ?_⟩⟩
    have := rem_abs (x := l4) (lg_ne c)
    rw [← e3] at this
    exact ih l0 l2 l6 x3 (fun z => lg_ne c z.1) (by omega)
theorem s_X11_common {g : gT} {h : mh_T} {P : Int64 → mh_T → Prop} (l0 l2 : Int64) (hG : GI h) (h0 : ¬ (l0 = 0 ∧ l2 = 0)) (hp : ∀ r, ¬ r = 0 → P r h) : MCl g yX11_common uX11_common [.long l0, .long l2] h P := e_X11_common l0 l2 (s_X11_common_L hp _ l0 l2 l0 l2 h0 (Nat.lt_succ_self _))
theorem s_X11_lowest {g : gT} {h : mh_T} {P : Int32 → mh_T → Prop} (l0 l2 : Int64) (l4 : Int32) (hG : GI h) (h0 : ¬ l2 = 0) (hp : ∀ r, P r h) : MCi g yX11_lowest uX11_lowest [.long l0, .long l2, .int l4] h P := by
  refine e_X11_lowest l0 l2 l4 ?_
  refine s_X11_common l0 l2 hG (fun z => h0 z.2) (fun r hr => ?_)
  first
    | exact ⟨fun _ => ⟨hr, hp _⟩, fun _ => ⟨hr, hp _⟩⟩
    | (intros; exact ⟨fun _ => ⟨hr, hp _⟩, fun _ => ⟨hr, hp _⟩⟩)
set_option maxRecDepth 100000 in
set_option maxHeartbeats 4000000 in
theorem s_X11_isBit {g : gT} {h : mh_T} {P : Int32 → mh_T → Prop} (l0 : Int32) (hG : GI h)  (hp : ∀ r : Int32, R 0 1 r → P r h) : MCi g yX11_isBit uX11_isBit [.int l0] h P := by
  have ok : Ok [] h h := Ok_rf hG
  refine e_X11_isBit l0  ?_
  refine ⟨fun c_12 => ?_, fun c_12 => ?_⟩
  · have f_13 : R 0 0 0 := ⟨by decide, by decide⟩
    have f_14 : R 0 0 l0 := rf_eq f_13 c_12
    have f_15 : R 1 1 1 := ⟨by decide, by decide⟩
    exact hp _ (R_w f_15 (by decide))
  · have f_16 : R 0 0 0 := ⟨by decide, by decide⟩
    refine ⟨fun c_17 => ?_, fun c_17 => ?_⟩
    · have f_18 : R 1 1 1 := ⟨by decide, by decide⟩
      have f_19 : R 0 0 0 := ⟨by decide, by decide⟩
      exact hp _ (R_w f_19 (by decide))
    · have f_20 : R 1 1 1 := ⟨by decide, by decide⟩
      have f_21 : R 1 1 l0 := rf_eq f_20 c_17
      have f_22 : R 1 1 1 := ⟨by decide, by decide⟩
      exact hp _ (R_w f_22 (by decide))
set_option maxRecDepth 100000 in
set_option maxHeartbeats 4000000 in
theorem s_X11_fitsAll_L {g : gT} {h0 : mh_T} {P : Int32 → mh_T → Prop} (hG0 : GI h0) (hp : ∀ r : Int32, R 0 1 r → P r h0) : ∀ n : Nat, (∀ (l1 : Int32) (l2 : Int32) (l3 : Int32) (l4 : Int32), R (-2147483648) 2147483647 l1 → R (-2147483648) 2147483647 l2 → R 0 1 l3 → R 0 8 l4 → 1 * gap 8 l4 + 0 < n → ME g uX11_fitsAll 5 [.ref 11, .int l1, .int l2, .int l3, .int l4] [] h0 (qI P)) := by
  intro n
  induction n with
  | zero =>
    exact (fun _ _ _ _ _ _ _ _ hm => absurd hm (Nat.not_lt_zero _))
  | succ n ih =>
    intro l1 l2 l3 l4  fl1 fl2 fl3 fl4     hm
    have ok : Ok [] h0 h0 := Ok_rf hG0
    refine r_X11_fitsAll_5 l1 l2 l3 l4  ?_
    refine ⟨fun c_350 => ?_, fun c_350 => ?_⟩
    · have f_351 : R 0 8 (mI h0 45 (Int32.toNatClampNeg 0)) := GI_rd ok.1 45 _ (by decide)
      exact ⟨R_z (R_w fl3 (by decide)), hp _ (R_w fl3 (by decide))⟩
    · have f_352 : R 0 8 (mI h0 45 (Int32.toNatClampNeg 0)) := GI_rd ok.1 45 _ (by decide)
      have f_353 : R 0 7 l4 := rf_lt_l fl4 f_352 (nle c_350) 7 (by decide)
      have f_354 : R 1 8 (mI h0 45 (Int32.toNatClampNeg 0)) := rf_lt_r fl4 f_352 (nle c_350) 1 (by decide)
      refine ⟨fun c_355 => ?_, fun c_355 => ?_⟩
      · have f_356 : R 0 0 0 := ⟨by decide, by decide⟩
        have f_357 : R 0 0 l3 := rf_eq f_356 c_355
        have f_358 : R 0 0 0 := ⟨by decide, by decide⟩
        have f_360 : R 1 1 1 := ⟨by decide, by decide⟩
        have f_359 : R 1 8 (l4 + 1) := R_add f_353 f_360 1 8 (by decide)
        have g_361 := gap_inc (N := 8) f_353 (by decide)
        exact ih l1 l2 0 (l4 + 1)  (R_w fl1 (by decide)) (R_w fl2 (by decide)) (R_w f_358 (by decide)) (R_w f_359 (by decide)) (by omega)
      · have f_362 : R 0 0 0 := ⟨by decide, by decide⟩
        have f_363 : R 1 1 l3 := rf_ne_lo fl3 c_355 (by decide) 1 rfl
        refine ⟨fun c_364 => ?_, fun c_364 => ?_⟩
        · have f_365 : R 0 7 l2 := rf_eq' f_353 c_364
          have f_366 : R 1 1 1 := ⟨by decide, by decide⟩
          have f_368 : R 1 1 1 := ⟨by decide, by decide⟩
          have f_367 : R 1 8 (l4 + 1) := R_add f_353 f_368 1 8 (by decide)
          have g_369 := gap_inc (N := 8) f_353 (by decide)
          exact ih l1 l2 1 (l4 + 1)  (R_w fl1 (by decide)) (R_w f_365 (by decide)) (R_w f_366 (by decide)) (R_w f_367 (by decide)) (by omega)
        · refine s_X11_fitted l4 l1 ok.1 (R_w f_353 (by decide)) (fun r5 f_370 => ?_)
          have f_373 : R 17 17 17 := ⟨by decide, by decide⟩
          have f_375 : R 4 4 4 := ⟨by decide, by decide⟩
          have f_374 : R 0 28 (4 * l4) := R_mul f_375 f_353 0 28 (by decide)
          have f_372 : R 17 45 (17 + (4 * l4)) := R_add f_373 f_374 17 45 (by decide)
          have f_371 : R 17 48 ((17 + (4 * l4)) + r5) := R_add f_372 f_370 17 48 (by decide)
          refine ⟨vin f_371 (by decide), ?_⟩
          refine ⟨fun c_376 => ?_, fun c_376 => ?_⟩
          · have f_377 : R (-2147483648) 2147483647 (mI h0 45 ((17 + (4 * l4)) + r5).toNatClampNeg) := R_full _
            have f_378 : R 0 0 0 := ⟨by decide, by decide⟩
            have f_379 : R (-2147483648) 0 (mI h0 45 ((17 + (4 * l4)) + r5).toNatClampNeg) := rf_le_l f_377 f_378 c_376 0 (by decide)
            have f_380 : R 0 0 0 := ⟨by decide, by decide⟩
            have f_382 : R 1 1 1 := ⟨by decide, by decide⟩
            have f_381 : R 1 8 (l4 + 1) := R_add f_353 f_382 1 8 (by decide)
            have g_383 := gap_inc (N := 8) f_353 (by decide)
            exact ih l1 l2 0 (l4 + 1)  (R_w fl1 (by decide)) (R_w fl2 (by decide)) (R_w f_380 (by decide)) (R_w f_381 (by decide)) (by omega)
          · have f_384 : R (-2147483648) 2147483647 (mI h0 45 ((17 + (4 * l4)) + r5).toNatClampNeg) := R_full _
            have f_385 : R 0 0 0 := ⟨by decide, by decide⟩
            have f_386 : R 1 2147483647 (mI h0 45 ((17 + (4 * l4)) + r5).toNatClampNeg) := rf_lt_r f_385 f_384 (nle c_376) 1 (by decide)
            have f_387 : R 1 1 1 := ⟨by decide, by decide⟩
            have f_389 : R 1 1 1 := ⟨by decide, by decide⟩
            have f_388 : R 1 8 (l4 + 1) := R_add f_353 f_389 1 8 (by decide)
            have g_390 := gap_inc (N := 8) f_353 (by decide)
            exact ih l1 l2 1 (l4 + 1)  (R_w fl1 (by decide)) (R_w fl2 (by decide)) (R_w f_387 (by decide)) (R_w f_388 (by decide)) (by omega)
set_option maxRecDepth 100000 in
set_option maxHeartbeats 4000000 in
theorem s_X11_fitsAll {g : gT} {h : mh_T} {P : Int32 → mh_T → Prop} (l1 : Int32) (l2 : Int32) (hG : GI h)  (hp : ∀ r : Int32, R 0 1 r → P r h) : MCi g yX11_fitsAll uX11_fitsAll [.ref 11, .int l1, .int l2] h P := by
  have ok : Ok [] h h := Ok_rf hG
  have L0 := s_X11_fitsAll_L (g := g) hG hp 9
  refine e_X11_fitsAll l1 l2  ?_
  have f_391 : R 1 1 1 := ⟨by decide, by decide⟩
  have f_392 : R 0 0 0 := ⟨by decide, by decide⟩
  have f_393 : R 0 0 0 := ⟨by decide, by decide⟩
  have g_394 := gap_le (N := 8) f_393 (m := 8) (by decide)
  exact L0 l1 l2 1 0  (R_w (R_full l1) (by decide)) (R_w (R_full l2) (by decide)) (R_w f_391 (by decide)) (R_w f_392 (by decide)) (by omega)
set_option maxRecDepth 100000 in
set_option maxHeartbeats 4000000 in
theorem s_X11_doesExtend_L {g : gT} {h0 : mh_T} {P : Int32 → mh_T → Prop} (hG0 : GI h0) (hp : ∀ r : Int32, R 0 1 r → P r h0) : ∀ n : Nat, (∀ (l1 : Int32) (l2 : Int32) (l3 : Int32) (l4 : Int32), R 0 7 l1 → R (-2147483648) 2147483647 l2 → R 0 1 l3 → R 0 64 l4 → 1 * gap 64 l4 + 0 < n → ME g uX11_doesExtend 5 [.ref 11, .int l1, .int l2, .int l3, .int l4] [] h0 (qI P)) := by
  intro n
  induction n with
  | zero =>
    exact (fun _ _ _ _ _ _ _ _ hm => absurd hm (Nat.not_lt_zero _))
  | succ n ih =>
    intro l1 l2 l3 l4  fl1 fl2 fl3 fl4     hm
    have ok : Ok [] h0 h0 := Ok_rf hG0
    refine r_X11_doesExtend_5 l1 l2 l3 l4  ?_
    refine s_X11_hiddenMany ok.1 (fun r2 f_926 => ?_)
    refine ⟨fun c_927 => ?_, fun c_927 => ?_⟩
    · have f_928 : R 1 64 l4 := rf_le_r f_926 fl4 c_927 1 (by decide)
      exact ⟨R_z (R_w fl3 (by decide)), hp _ (R_w fl3 (by decide))⟩
    · have f_929 : R 0 63 l4 := rf_lt_l fl4 f_926 (nle c_927) 63 (by decide)
      refine ⟨fun c_930 => ?_, fun c_930 => ?_⟩
      · have f_931 : R 0 0 0 := ⟨by decide, by decide⟩
        have f_932 : R 1 1 l3 := rf_ne_lo fl3 c_930 (by decide) 1 rfl
        have f_933 : R 1 1 1 := ⟨by decide, by decide⟩
        have f_935 : R 1 1 1 := ⟨by decide, by decide⟩
        have f_934 : R 1 64 (l4 + 1) := R_add f_929 f_935 1 64 (by decide)
        have g_936 := gap_inc (N := 64) f_929 (by decide)
        exact ih l1 l2 1 (l4 + 1)  (R_w fl1 (by decide)) (R_w fl2 (by decide)) (R_w f_933 (by decide)) (R_w f_934 (by decide)) (by omega)
      · have f_937 : R 0 0 0 := ⟨by decide, by decide⟩
        have f_938 : R 0 0 l3 := rf_eq f_937 c_930
        refine s_X11_fitted l1 l4 ok.1 (R_w fl1 (by decide)) (fun r6 f_939 => ?_)
        refine ⟨fun c_940 => ?_, fun c_940 => ?_⟩
        · have f_941 : R 0 0 0 := ⟨by decide, by decide⟩
          have f_943 : R 1 1 1 := ⟨by decide, by decide⟩
          have f_942 : R 1 64 (l4 + 1) := R_add f_929 f_943 1 64 (by decide)
          have g_944 := gap_inc (N := 64) f_929 (by decide)
          exact ih l1 l2 0 (l4 + 1)  (R_w fl1 (by decide)) (R_w fl2 (by decide)) (R_w f_941 (by decide)) (R_w f_942 (by decide)) (by omega)
        · have f_945 : R 0 3 l2 := rf_eq' f_939 c_940
          refine s_X11_fitsAll l4 l1 ok.1 (fun r9 f_946 => ?_)
          refine ⟨fun c_947 => ?_, fun c_947 => ?_⟩
          · have f_948 : R 0 0 0 := ⟨by decide, by decide⟩
            have f_949 : R 0 0 r9 := rf_eq f_948 c_947
            have f_950 : R 0 0 0 := ⟨by decide, by decide⟩
            have f_952 : R 1 1 1 := ⟨by decide, by decide⟩
            have f_951 : R 1 64 (l4 + 1) := R_add f_929 f_952 1 64 (by decide)
            have g_953 := gap_inc (N := 64) f_929 (by decide)
            exact ih l1 l2 0 (l4 + 1)  (R_w fl1 (by decide)) (R_w f_945 (by decide)) (R_w f_950 (by decide)) (R_w f_951 (by decide)) (by omega)
          · have f_954 : R 0 0 0 := ⟨by decide, by decide⟩
            have f_955 : R 1 1 r9 := rf_ne_lo f_946 c_947 (by decide) 1 rfl
            have f_956 : R 1 1 1 := ⟨by decide, by decide⟩
            have f_958 : R 1 1 1 := ⟨by decide, by decide⟩
            have f_957 : R 1 64 (l4 + 1) := R_add f_929 f_958 1 64 (by decide)
            have g_959 := gap_inc (N := 64) f_929 (by decide)
            exact ih l1 l2 1 (l4 + 1)  (R_w fl1 (by decide)) (R_w f_945 (by decide)) (R_w f_956 (by decide)) (R_w f_957 (by decide)) (by omega)
set_option maxRecDepth 100000 in
set_option maxHeartbeats 4000000 in
theorem s_X11_doesExtend {g : gT} {h : mh_T} {P : Int32 → mh_T → Prop} (l1 : Int32) (l2 : Int32) (hG : GI h) (fl1 : R 0 7 l1) (hp : ∀ r : Int32, R 0 1 r → P r h) : MCi g yX11_doesExtend uX11_doesExtend [.ref 11, .int l1, .int l2] h P := by
  have ok : Ok [] h h := Ok_rf hG
  have L0 := s_X11_doesExtend_L (g := g) hG hp 65
  refine e_X11_doesExtend l1 l2  ?_
  have f_960 : R 0 0 0 := ⟨by decide, by decide⟩
  have f_961 : R 0 0 0 := ⟨by decide, by decide⟩
  have f_962 : R 0 0 0 := ⟨by decide, by decide⟩
  have g_963 := gap_le (N := 64) f_962 (m := 64) (by decide)
  exact L0 l1 l2 0 0  (R_w fl1 (by decide)) (R_w (R_full l2) (by decide)) (R_w f_960 (by decide)) (R_w f_961 (by decide)) (by omega)

