set_option maxRecDepth 100000 in
set_option maxHeartbeats 4000000 in
theorem s_X11_passed_v0 {g : gT} {h : mh_T} {P : Int32 → mh_T → Prop} (l1 : Int32) (l2 : Int32) (hG : GI h) (fl1 : R 1 1 l1) (hp : ∀ (r : Int32) h', Ok [11, 44] h h' → R 0 5 r → P r h') : MCi g yX11_passed uX11_passed [.ref 11, .int l1, .int l2] h P := by
  have ok : Ok [11, 44] h h := Ok_rf hG
  refine e_X11_passed l1 l2  ?_
  refine s_X11_named_v0 l1 l2 ok.1 (R_w fl1 (by decide)) (fun r2 h1 ko_13 f_15 => ?_)
  have ok_14 := Ok_tr ok ko_13 (by decide)
  refine ⟨fun c_16 => ?_, fun c_16 => ?_⟩
  · have f_17 : R 0 1 (mI h1 11 13) := GI_rd ok_14.1 11 _ (by decide)
    have f_18 : R 0 0 0 := ⟨by decide, by decide⟩
    have f_19 : R 1 1 (mI h1 11 13) := rf_ne_lo f_17 c_16 (by decide) 1 rfl
    exact hp _ _ ok_14 (R_w f_15 (by decide))
  · have f_20 : R 0 1 (mI h1 11 13) := GI_rd ok_14.1 11 _ (by decide)
    have f_21 : R 0 0 0 := ⟨by decide, by decide⟩
    have f_22 : R 0 0 (mI h1 11 13) := rf_eq f_21 c_16
    refine s_X11_next ok_14.1 (fun h4 ko_23 => ?_)
    have ok_24 := Ok_tr ok_14 ko_23 (by decide)
    exact hp _ _ ok_24 (R_w f_15 (by decide))
set_option maxRecDepth 100000 in
set_option maxHeartbeats 4000000 in
theorem s_X11_passed_v1 {g : gT} {h : mh_T} {P : Int32 → mh_T → Prop} (l1 : Int32) (l2 : Int32) (hG : GI h) (fl1 : R 0 0 l1) (hp : ∀ (r : Int32) h', Ok [11, 44] h h' → R 0 8 r → P r h') : MCi g yX11_passed uX11_passed [.ref 11, .int l1, .int l2] h P := by
  have ok : Ok [11, 44] h h := Ok_rf hG
  refine e_X11_passed l1 l2  ?_
  refine s_X11_named_v1 l1 l2 ok.1 (R_w fl1 (by decide)) (fun r2 h1 ko_13 f_15 => ?_)
  have ok_14 := Ok_tr ok ko_13 (by decide)
  refine ⟨fun c_16 => ?_, fun c_16 => ?_⟩
  · have f_17 : R 0 1 (mI h1 11 13) := GI_rd ok_14.1 11 _ (by decide)
    have f_18 : R 0 0 0 := ⟨by decide, by decide⟩
    have f_19 : R 1 1 (mI h1 11 13) := rf_ne_lo f_17 c_16 (by decide) 1 rfl
    exact hp _ _ ok_14 (R_w f_15 (by decide))
  · have f_20 : R 0 1 (mI h1 11 13) := GI_rd ok_14.1 11 _ (by decide)
    have f_21 : R 0 0 0 := ⟨by decide, by decide⟩
    have f_22 : R 0 0 (mI h1 11 13) := rf_eq f_21 c_16
    refine s_X11_next ok_14.1 (fun h4 ko_23 => ?_)
    have ok_24 := Ok_tr ok_14 ko_23 (by decide)
    exact hp _ _ ok_24 (R_w f_15 (by decide))
set_option maxRecDepth 100000 in
set_option maxHeartbeats 4000000 in
theorem s_X11_number_v0 {g : gT} {h : mh_T} {P : Int32 → mh_T → Prop} (l1 : Int32) (l2 : Int32) (hG : GI h) (fl1 : R 1 1 l1) (fl2 : R 60 60 l2) (hp : ∀ (r : Int32) h', Ok [11, 44] h h' → R 1 60 r → P r h') : MCi g yX11_number uX11_number [.ref 11, .int l1, .int l2] h P := by
  have ok : Ok [11, 44] h h := Ok_rf hG
  refine e_X11_number l1 l2  ?_
  refine ⟨fun c_33 => ?_, fun c_33 => ?_⟩
  · have f_34 : R 0 1 (mI h 11 13) := GI_rd ok.1 11 _ (by decide)
    have f_35 : R 0 0 0 := ⟨by decide, by decide⟩
    have f_36 : R 0 0 (mI h 11 13) := rf_eq f_35 c_33
    refine ⟨fun c_37 => ?_, fun c_37 => ?_⟩
    · have f_38 : R (-2147483648) 2147483647 (mI h 11 6) := R_full _
      have f_39 : R 3 3 3 := ⟨by decide, by decide⟩
      have f_40 : R 3 3 (mI h 11 6) := rf_eq f_39 c_37
      intro x3 ex3
      have f_41 : R (-2147483648) 2147483647 (mI h 11 7) := R_full _
      have f_42 : R (-2147483648) 2147483647 x3 := rf_eq f_41 ex3
      refine s_X11_within x3 l1 l2 ok.1 (fun r5 f_44 im_43 => ?_)
      refine ⟨fun c_45 => ?_, fun c_45 => ?_⟩
      · have f_46 : R 0 0 0 := ⟨by decide, by decide⟩
        have f_47 : R 1 2147483647 x3 := rf_le_r fl1 f_42 (im_43 c_45).1 1 (by decide)
        have f_48 : R 1 60 x3 := rf_le_l f_47 fl2 (im_43 c_45).2 60 (by decide)
        have f_49 : R 1 1 r5 := rf_ne_lo f_44 c_45 (by decide) 1 rfl
        refine s_X11_next ok.1 (fun h7 ko_50 => ?_)
        have ok_51 := Ok_tr ok ko_50 (by decide)
        exact hp _ _ ok_51 (R_w f_48 (by decide))
      · have f_52 : R 0 0 0 := ⟨by decide, by decide⟩
        have f_53 : R 0 0 r5 := rf_eq f_52 c_45
        refine s_X11_wrong 4 (mI h 11 4) ok.1 (fun h8 ko_54 po_56 => ?_)
        have ok_55 := Ok_tr ok ko_54 (by decide)
        exact hp _ _ ok_55 (R_w fl1 (by decide))
    · have f_57 : R (-2147483648) 2147483647 (mI h 11 6) := R_full _
      have f_58 : R 3 3 3 := ⟨by decide, by decide⟩
      refine s_X11_wrong 1 (mI h 11 4) ok.1 (fun h9 ko_59 po_61 => ?_)
      have ok_60 := Ok_tr ok ko_59 (by decide)
      exact hp _ _ ok_60 (R_w fl1 (by decide))
  · have f_62 : R 0 1 (mI h 11 13) := GI_rd ok.1 11 _ (by decide)
    have f_63 : R 0 0 0 := ⟨by decide, by decide⟩
    have f_64 : R 1 1 (mI h 11 13) := rf_ne_lo f_62 c_33 (by decide) 1 rfl
    exact hp _ _ ok (R_w fl1 (by decide))
set_option maxRecDepth 100000 in
set_option maxHeartbeats 4000000 in
theorem s_X11_number_v1 {g : gT} {h : mh_T} {P : Int32 → mh_T → Prop} (l1 : Int32) (l2 : Int32) (hG : GI h) (fl1 : R 0 0 l1) (fl2 : R 60 60 l2) (hp : ∀ (r : Int32) h', Ok [11, 44] h h' → R 0 60 r → P r h') : MCi g yX11_number uX11_number [.ref 11, .int l1, .int l2] h P := by
  have ok : Ok [11, 44] h h := Ok_rf hG
  refine e_X11_number l1 l2  ?_
  refine ⟨fun c_33 => ?_, fun c_33 => ?_⟩
  · have f_34 : R 0 1 (mI h 11 13) := GI_rd ok.1 11 _ (by decide)
    have f_35 : R 0 0 0 := ⟨by decide, by decide⟩
    have f_36 : R 0 0 (mI h 11 13) := rf_eq f_35 c_33
    refine ⟨fun c_37 => ?_, fun c_37 => ?_⟩
    · have f_38 : R (-2147483648) 2147483647 (mI h 11 6) := R_full _
      have f_39 : R 3 3 3 := ⟨by decide, by decide⟩
      have f_40 : R 3 3 (mI h 11 6) := rf_eq f_39 c_37
      intro x3 ex3
      have f_41 : R (-2147483648) 2147483647 (mI h 11 7) := R_full _
      have f_42 : R (-2147483648) 2147483647 x3 := rf_eq f_41 ex3
      refine s_X11_within x3 l1 l2 ok.1 (fun r5 f_44 im_43 => ?_)
      refine ⟨fun c_45 => ?_, fun c_45 => ?_⟩
      · have f_46 : R 0 0 0 := ⟨by decide, by decide⟩
        have f_47 : R 0 2147483647 x3 := rf_le_r fl1 f_42 (im_43 c_45).1 0 (by decide)
        have f_48 : R 0 60 x3 := rf_le_l f_47 fl2 (im_43 c_45).2 60 (by decide)
        have f_49 : R 1 1 r5 := rf_ne_lo f_44 c_45 (by decide) 1 rfl
        refine s_X11_next ok.1 (fun h7 ko_50 => ?_)
        have ok_51 := Ok_tr ok ko_50 (by decide)
        exact hp _ _ ok_51 (R_w f_48 (by decide))
      · have f_52 : R 0 0 0 := ⟨by decide, by decide⟩
        have f_53 : R 0 0 r5 := rf_eq f_52 c_45
        refine s_X11_wrong 4 (mI h 11 4) ok.1 (fun h8 ko_54 po_56 => ?_)
        have ok_55 := Ok_tr ok ko_54 (by decide)
        exact hp _ _ ok_55 (R_w fl1 (by decide))
    · have f_57 : R (-2147483648) 2147483647 (mI h 11 6) := R_full _
      have f_58 : R 3 3 3 := ⟨by decide, by decide⟩
      refine s_X11_wrong 1 (mI h 11 4) ok.1 (fun h9 ko_59 po_61 => ?_)
      have ok_60 := Ok_tr ok ko_59 (by decide)
      exact hp _ _ ok_60 (R_w fl1 (by decide))
  · have f_62 : R 0 1 (mI h 11 13) := GI_rd ok.1 11 _ (by decide)
    have f_63 : R 0 0 0 := ⟨by decide, by decide⟩
    have f_64 : R 1 1 (mI h 11 13) := rf_ne_lo f_62 c_33 (by decide) 1 rfl
    exact hp _ _ ok (R_w fl1 (by decide))
set_option maxRecDepth 100000 in
set_option maxHeartbeats 4000000 in
theorem s_X11_number_v2 {g : gT} {h : mh_T} {P : Int32 → mh_T → Prop} (l1 : Int32) (l2 : Int32) (hG : GI h) (fl1 : R 0 0 l1) (fl2 : R 3 3 l2) (hp : ∀ (r : Int32) h', Ok [11, 44] h h' → R 0 3 r → P r h') : MCi g yX11_number uX11_number [.ref 11, .int l1, .int l2] h P := by
  have ok : Ok [11, 44] h h := Ok_rf hG
  refine e_X11_number l1 l2  ?_
  refine ⟨fun c_33 => ?_, fun c_33 => ?_⟩
  · have f_34 : R 0 1 (mI h 11 13) := GI_rd ok.1 11 _ (by decide)
    have f_35 : R 0 0 0 := ⟨by decide, by decide⟩
    have f_36 : R 0 0 (mI h 11 13) := rf_eq f_35 c_33
    refine ⟨fun c_37 => ?_, fun c_37 => ?_⟩
    · have f_38 : R (-2147483648) 2147483647 (mI h 11 6) := R_full _
      have f_39 : R 3 3 3 := ⟨by decide, by decide⟩
      have f_40 : R 3 3 (mI h 11 6) := rf_eq f_39 c_37
      intro x3 ex3
      have f_41 : R (-2147483648) 2147483647 (mI h 11 7) := R_full _
      have f_42 : R (-2147483648) 2147483647 x3 := rf_eq f_41 ex3
      refine s_X11_within x3 l1 l2 ok.1 (fun r5 f_44 im_43 => ?_)
      refine ⟨fun c_45 => ?_, fun c_45 => ?_⟩
      · have f_46 : R 0 0 0 := ⟨by decide, by decide⟩
        have f_47 : R 0 2147483647 x3 := rf_le_r fl1 f_42 (im_43 c_45).1 0 (by decide)
        have f_48 : R 0 3 x3 := rf_le_l f_47 fl2 (im_43 c_45).2 3 (by decide)
        have f_49 : R 1 1 r5 := rf_ne_lo f_44 c_45 (by decide) 1 rfl
        refine s_X11_next ok.1 (fun h7 ko_50 => ?_)
        have ok_51 := Ok_tr ok ko_50 (by decide)
        exact hp _ _ ok_51 (R_w f_48 (by decide))
      · have f_52 : R 0 0 0 := ⟨by decide, by decide⟩
        have f_53 : R 0 0 r5 := rf_eq f_52 c_45
        refine s_X11_wrong 4 (mI h 11 4) ok.1 (fun h8 ko_54 po_56 => ?_)
        have ok_55 := Ok_tr ok ko_54 (by decide)
        exact hp _ _ ok_55 (R_w fl1 (by decide))
    · have f_57 : R (-2147483648) 2147483647 (mI h 11 6) := R_full _
      have f_58 : R 3 3 3 := ⟨by decide, by decide⟩
      refine s_X11_wrong 1 (mI h 11 4) ok.1 (fun h9 ko_59 po_61 => ?_)
      have ok_60 := Ok_tr ok ko_59 (by decide)
      exact hp _ _ ok_60 (R_w fl1 (by decide))
  · have f_62 : R 0 1 (mI h 11 13) := GI_rd ok.1 11 _ (by decide)
    have f_63 : R 0 0 0 := ⟨by decide, by decide⟩
    have f_64 : R 1 1 (mI h 11 13) := rf_ne_lo f_62 c_33 (by decide) 1 rfl
    exact hp _ _ ok (R_w fl1 (by decide))
set_option maxRecDepth 100000 in
set_option maxHeartbeats 4000000 in
theorem s_X11_number_v3 {g : gT} {h : mh_T} {P : Int32 → mh_T → Prop} (l1 : Int32) (l2 : Int32) (hG : GI h) (fl1 : R 0 0 l1) (fl2 : R 1 1 l2) (hp : ∀ (r : Int32) h', Ok [11, 44] h h' → R 0 1 r → P r h') : MCi g yX11_number uX11_number [.ref 11, .int l1, .int l2] h P := by
  have ok : Ok [11, 44] h h := Ok_rf hG
  refine e_X11_number l1 l2  ?_
  refine ⟨fun c_33 => ?_, fun c_33 => ?_⟩
  · have f_34 : R 0 1 (mI h 11 13) := GI_rd ok.1 11 _ (by decide)
    have f_35 : R 0 0 0 := ⟨by decide, by decide⟩
    have f_36 : R 0 0 (mI h 11 13) := rf_eq f_35 c_33
    refine ⟨fun c_37 => ?_, fun c_37 => ?_⟩
    · have f_38 : R (-2147483648) 2147483647 (mI h 11 6) := R_full _
      have f_39 : R 3 3 3 := ⟨by decide, by decide⟩
      have f_40 : R 3 3 (mI h 11 6) := rf_eq f_39 c_37
      intro x3 ex3
      have f_41 : R (-2147483648) 2147483647 (mI h 11 7) := R_full _
      have f_42 : R (-2147483648) 2147483647 x3 := rf_eq f_41 ex3
      refine s_X11_within x3 l1 l2 ok.1 (fun r5 f_44 im_43 => ?_)
      refine ⟨fun c_45 => ?_, fun c_45 => ?_⟩
      · have f_46 : R 0 0 0 := ⟨by decide, by decide⟩
        have f_47 : R 0 2147483647 x3 := rf_le_r fl1 f_42 (im_43 c_45).1 0 (by decide)
        have f_48 : R 0 1 x3 := rf_le_l f_47 fl2 (im_43 c_45).2 1 (by decide)
        have f_49 : R 1 1 r5 := rf_ne_lo f_44 c_45 (by decide) 1 rfl
        refine s_X11_next ok.1 (fun h7 ko_50 => ?_)
        have ok_51 := Ok_tr ok ko_50 (by decide)
        exact hp _ _ ok_51 (R_w f_48 (by decide))
      · have f_52 : R 0 0 0 := ⟨by decide, by decide⟩
        have f_53 : R 0 0 r5 := rf_eq f_52 c_45
        refine s_X11_wrong 4 (mI h 11 4) ok.1 (fun h8 ko_54 po_56 => ?_)
        have ok_55 := Ok_tr ok ko_54 (by decide)
        exact hp _ _ ok_55 (R_w fl1 (by decide))
    · have f_57 : R (-2147483648) 2147483647 (mI h 11 6) := R_full _
      have f_58 : R 3 3 3 := ⟨by decide, by decide⟩
      refine s_X11_wrong 1 (mI h 11 4) ok.1 (fun h9 ko_59 po_61 => ?_)
      have ok_60 := Ok_tr ok ko_59 (by decide)
      exact hp _ _ ok_60 (R_w fl1 (by decide))
  · have f_62 : R 0 1 (mI h 11 13) := GI_rd ok.1 11 _ (by decide)
    have f_63 : R 0 0 0 := ⟨by decide, by decide⟩
    have f_64 : R 1 1 (mI h 11 13) := rf_ne_lo f_62 c_33 (by decide) 1 rfl
    exact hp _ _ ok (R_w fl1 (by decide))
set_option maxRecDepth 100000 in
set_option maxHeartbeats 4000000 in
theorem s_X11_mustComma {g : gT} {h : mh_T} {P : mh_T → Prop}  (hG : GI h)  (hp : ∀ h', Ok [11, 44] h h' → P h') : MCv g yX11_mustComma uX11_mustComma [.ref 11] h P := by
  have ok : Ok [11, 44] h h := Ok_rf hG
  refine e_X11_mustComma   ?_
  refine ⟨fun c_19 => ?_, fun c_19 => ?_⟩
  · have f_20 : R 0 1 (mI h 11 13) := GI_rd ok.1 11 _ (by decide)
    have f_21 : R 0 0 0 := ⟨by decide, by decide⟩
    have f_22 : R 1 1 (mI h 11 13) := rf_ne_lo f_20 c_19 (by decide) 1 rfl
    exact hp _ ok
  · have f_23 : R 0 1 (mI h 11 13) := GI_rd ok.1 11 _ (by decide)
    have f_24 : R 0 0 0 := ⟨by decide, by decide⟩
    have f_25 : R 0 0 (mI h 11 13) := rf_eq f_24 c_19
    refine s_X11_comma ok.1 (fun r3 h2 ko_26 f_28 => ?_)
    have ok_27 := Ok_tr ok ko_26 (by decide)
    refine ⟨fun c_29 => ?_, fun c_29 => ?_⟩
    · have f_30 : R 0 0 0 := ⟨by decide, by decide⟩
      have f_31 : R 1 1 r3 := rf_ne_lo f_28 c_29 (by decide) 1 rfl
      exact hp _ ok_27
    · have f_32 : R 0 0 0 := ⟨by decide, by decide⟩
      have f_33 : R 0 0 r3 := rf_eq f_32 c_29
      refine s_X11_wrong 1 (mI h2 11 4) ok_27.1 (fun h5 ko_34 po_36 => ?_)
      have ok_35 := Ok_tr ok_27 ko_34 (by decide)
      exact hp _ ok_35
theorem s_X11_begins_v0 {g : gT} {h : mh_T} {P : Int32 → mh_T → Prop} (l1 : Nat) (l2 l3 : Int32) (sl1 : l1 < nJS) (hG : GI h) (f2 : R 0 0 l2) (hp : ∀ (r : Int32) h', Ok [11, 44] h h' → R 0 1 r → (¬ r = 0 → R 1 1 (mI h' 11 13)) → P r h') : MCi g yX11_begins uX11_begins [.ref 11, .ref (1000 + l1), .int l2, .int l3] h P := by
  have e2 := R_zero f2
  refine e_X11_begins l1 l2 l3 sl1 (s_X11_isWord l1 sl1 hG (fun _ _ => ⟨fun _ => ⟨fun z => absurd e2 z, fun _ => ?_⟩, fun _ => hp 0 h (Ok_rf hG) ⟨by decide, by decide⟩ (fun z => absurd rfl z)⟩))
  refine s_X11_wrong _ _ hG (fun h' k e => ⟨fun _ => hp 1 h' (Ok_mono k (by decide)) ⟨by decide, by decide⟩ (fun _ => by rw [e]; exact ⟨by decide, by decide⟩), fun z => absurd (e.symm.trans z) (by decide)⟩)
theorem s_X11_begins_v1 {g : gT} {h : mh_T} {P : Int32 → mh_T → Prop} (l1 : Nat) (l2 l3 : Int32) (sl1 : l1 < nJS) (hG : GI h) (f2 : R 1 1 l2) (hp : ∀ (r : Int32) h', Ok [11, 44] h h' → R 0 1 r → (¬ r = 0 → (mI h' 11 13 = 0 → NI h')) → P r h') : MCi g yX11_begins uX11_begins [.ref 11, .ref (1000 + l1), .int l2, .int l3] h P := by
  have e2 : ¬ l2 = 0 := fun z => by subst z; exact absurd f2.1 (by decide)
  refine e_X11_begins l1 l2 l3 sl1 (s_X11_isWord l1 sl1 hG (fun _ _ => ⟨fun _ => ⟨fun _ => ⟨fun z => hp 1 h (Ok_rf hG) ⟨by decide, by decide⟩ (fun _ y => absurd y z), fun _ => ?_⟩, fun z => absurd z e2⟩, fun _ => hp 0 h (Ok_rf hG) ⟨by decide, by decide⟩ (fun z => absurd rfl z)⟩))
  exact s_X11_next_N hG (fun h' k n _ => hp 1 h' k ⟨by decide, by decide⟩ (fun _ _ => n))
set_option maxRecDepth 100000 in
set_option maxHeartbeats 4000000 in
theorem s_X11_lawLine {g : gT} {h : mh_T} {P : mh_T → Prop}  (hG : GI h)  (hp : ∀ h', Ok [11, 44, 46] h h' → P h') : MCv g yX11_lawLine uX11_lawLine [.ref 11] h P := by
  have ok : Ok [11, 44, 46] h h := Ok_rf hG
  refine e_X11_lawLine   ?_
  refine s_X11_pass 7 (by decide) ok.1 (fun h1 ko_18 => ?_)
  have ok_19 := Ok_tr ok ko_18 (by decide)
  have f_20 : R 1 1 1 := ⟨by decide, by decide⟩
  have f_21 : R 60 60 60 := ⟨by decide, by decide⟩
  have f_22 : R 1 1 1 := ⟨by decide, by decide⟩
  have f_23 : R 60 60 60 := ⟨by decide, by decide⟩
  refine s_X11_number_v0 1 60 ok_19.1 (R_w f_22 (by decide)) (R_w f_23 (by decide)) (fun r3 h2 ko_24 f_26 => ?_)
  have ok_25 := Ok_tr ok_19 ko_24 (by decide)
  refine ⟨fun c_27 => ?_, fun c_27 => ?_⟩
  · have f_28 : R 0 1 (mI h2 11 13) := GI_rd ok_25.1 11 _ (by decide)
    have f_29 : R 0 0 0 := ⟨by decide, by decide⟩
    have f_30 : R 1 1 (mI h2 11 13) := rf_ne_lo f_28 c_27 (by decide) 1 rfl
    exact hp _ ok_25
  · have f_31 : R 0 1 (mI h2 11 13) := GI_rd ok_25.1 11 _ (by decide)
    have f_32 : R 0 0 0 := ⟨by decide, by decide⟩
    have f_33 : R 0 0 (mI h2 11 13) := rf_eq f_32 c_27
    have ok_34 := Ok_w ok_25 (k := 46) (j := (Int32.toNatClampNeg 49)) (v := r3) (lo := 0) (hi := 60) (by decide) (R_w f_26 (by decide)) (by decide) (by decide)
    exact hp _ ok_34
set_option maxRecDepth 100000 in
set_option maxHeartbeats 4000000 in
theorem s_X11_setLine_L {g : gT} {h0 : mh_T} {P : mh_T → Prop} (hG0 : GI h0) (hp : ∀ h', Ok [11, 44, 46] h0 h' → P h') : ∀ n : Nat, (∀ (l1 : Int32) (l2 : Int32) (l3 : Int32) (l4 : Int32) (l5 : Int32) (h : mh_T), Ok [11, 44, 46] h0 h → R 0 7 l1 → R 0 5 l2 → R 2 4 l3 → R (-2147483648) 2147483647 l4 → R 0 4 l5 → R 0 7 (mI h 46 (Int32.toNatClampNeg 0)) → 1 * gap 4 l5 + 0 < n → ME g uX11_setLine 142 [.ref 11, .int l1, .int l2, .int l3, .int l4, .int l5, .retAddr 0, .retAddr 0] [] h (qV P)) := by
  intro n
  induction n with
  | zero =>
    exact (fun _ _ _ _ _ _ _ _ _ _ _ _ _ hm => absurd hm (Nat.not_lt_zero _))
  | succ n ih =>
    intro l1 l2 l3 l4 l5 h  ok fl1 fl2 fl3 fl4 fl5 fi0    hm
    refine r_X11_setLine_142 l1 l2 l3 l4 l5  ?_
    refine ⟨fun c_4332 => ?_, fun c_4332 => ?_⟩
    · have f_4333 : R 2 4 l5 := rf_le_r fl3 fl5 c_4332 2 (by decide)
      refine ⟨fun c_4334 => ?_, fun c_4334 => ?_⟩
      · have f_4335 : R 0 1 (mI h 11 13) := GI_rd ok.1 11 _ (by decide)
        have f_4336 : R 0 0 0 := ⟨by decide, by decide⟩
        have f_4337 : R 1 1 (mI h 11 13) := rf_ne_lo f_4335 c_4334 (by decide) 1 rfl
        exact hp _ ok
      · have f_4338 : R 0 1 (mI h 11 13) := GI_rd ok.1 11 _ (by decide)
        have f_4339 : R 0 0 0 := ⟨by decide, by decide⟩
        have f_4340 : R 0 0 (mI h 11 13) := rf_eq f_4339 c_4334
        have f_4342 : R 1 1 1 := ⟨by decide, by decide⟩
        have f_4341 : R 1 8 ((mI h 46 (Int32.toNatClampNeg 0)) + 1) := R_add fi0 f_4342 1 8 (by decide)
        have ok_4343 := Ok_w ok (k := 46) (j := (Int32.toNatClampNeg 0)) (v := ((mI h 46 (Int32.toNatClampNeg 0)) + 1)) (lo := 0) (hi := 8) (by decide) (R_w f_4341 (by decide)) (by decide) (by decide)
        exact hp _ ok_4343
    · have f_4344 : R 0 3 l5 := rf_lt_l fl5 fl3 (nle c_4332) 3 (by decide)
      refine ⟨fun c_4345 => ?_, fun c_4345 => ?_⟩
      · have f_4346 : R 0 0 0 := ⟨by decide, by decide⟩
        have f_4347 : R 0 0 l5 := rf_le_l f_4344 f_4346 c_4345 0 (by decide)
        refine ⟨fun c_4348 => ?_, fun c_4348 => ?_⟩
        · have f_4349 : R 0 1 (mI h 11 13) := GI_rd ok.1 11 _ (by decide)
          have f_4350 : R 0 0 0 := ⟨by decide, by decide⟩
          have f_4351 : R 0 0 (mI h 11 13) := rf_eq f_4350 c_4348
          refine ⟨fun c_4352 => ?_, fun c_4352 => ?_⟩
          · have f_4354 : R 1 1 1 := ⟨by decide, by decide⟩
            have f_4353 : R 1 3 (l3 - 1) := R_sub fl3 f_4354 1 3 (by decide)
            have f_4355 : R 0 0 0 := ⟨by decide, by decide⟩
            have f_4356 : R 60 60 60 := ⟨by decide, by decide⟩
            have f_4357 : R 0 0 0 := ⟨by decide, by decide⟩
            have f_4358 : R 60 60 60 := ⟨by decide, by decide⟩
            have f_4359 : R 0 0 0 := ⟨by decide, by decide⟩
            have f_4360 : R 60 60 60 := ⟨by decide, by decide⟩
            refine s_X11_number_v1 0 60 ok.1 (R_w f_4359 (by decide)) (R_w f_4360 (by decide)) (fun r8 h7 ko_4361 f_4363 => ?_)
            have ok_4362 := Ok_tr ok ko_4361 (by decide)
            have f_4366 : R 17 17 17 := ⟨by decide, by decide⟩
            have f_4368 : R 4 4 4 := ⟨by decide, by decide⟩
            have f_4367 : R 0 28 (4 * l1) := R_mul f_4368 fl1 0 28 (by decide)
            have f_4365 : R 17 45 (17 + (4 * l1)) := R_add f_4366 f_4367 17 45 (by decide)
            have f_4364 : R 17 45 ((17 + (4 * l1)) + l5) := R_add f_4365 f_4347 17 45 (by decide)
            refine ⟨vin f_4364 (by decide), ?_⟩
            intro x10 ex10
            have f_4369 : R (-2147483648) 2147483647 (l4 + r8) := R_full _
            have f_4370 : R (-2147483648) 2147483647 x10 := rf_eq f_4369 ex10
            have f_4372 : R 1 1 1 := ⟨by decide, by decide⟩
            have f_4371 : R 1 1 (l5 + 1) := R_add f_4347 f_4372 1 1 (by decide)
            have ok_4373 := Ok_w ok_4362 (k := 46) (j := ((17 + (4 * l1)) + l5).toNatClampNeg) (v := r8) (lo := 0) (hi := 60) (rgp_46_15 (ix_ge f_4364 (by decide)) (ix_le f_4364 (by decide))) f_4363 (by decide) (nt_k (by decide))
            have f_4375 : R 0 7 (mI h7 46 (Int32.toNatClampNeg 0)) := Ok_rd ko_4361 (by decide) fi0
            have f_4374 : R 0 7 (mI (wI h7 46 ((17 + (4 * l1)) + l5).toNatClampNeg r8) 46 (Int32.toNatClampNeg 0)) := rd_nj f_4375 (ix_ne f_4364 (by decide))
            have g_4376 := gap_inc (N := 4) f_4347 (by decide)
            exact ih l1 l2 l3 x10 (l5 + 1) (wI h7 46 ((17 + (4 * l1)) + l5).toNatClampNeg r8)  ok_4373 (R_w fl1 (by decide)) (R_w fl2 (by decide)) (R_w fl3 (by decide)) (R_w f_4370 (by decide)) (R_w f_4371 (by decide)) (R_w f_4374 (by decide)) (by omega)
          · have f_4378 : R 1 1 1 := ⟨by decide, by decide⟩
            have f_4377 : R 1 3 (l3 - 1) := R_sub fl3 f_4378 1 3 (by decide)
            have f_4379 : R 1 3 l5 := rf_eq f_4377 c_4352
            exact (R_abs2 f_4347 f_4379 (by decide)).elim
        · have f_4380 : R 0 1 (mI h 11 13) := GI_rd ok.1 11 _ (by decide)
          have f_4381 : R 0 0 0 := ⟨by decide, by decide⟩
          have f_4382 : R 1 1 (mI h 11 13) := rf_ne_lo f_4380 c_4348 (by decide) 1 rfl
          exact hp _ ok
      · have f_4383 : R 0 0 0 := ⟨by decide, by decide⟩
        have f_4384 : R 1 3 l5 := rf_lt_r f_4383 f_4344 (nle c_4345) 1 (by decide)
        refine s_X11_mustComma ok.1 (fun h36 ko_4385 => ?_)
        have ok_4386 := Ok_tr ok ko_4385 (by decide)
        refine ⟨fun c_4387 => ?_, fun c_4387 => ?_⟩
        · have f_4388 : R 0 1 (mI h36 11 13) := GI_rd ok_4386.1 11 _ (by decide)
          have f_4389 : R 0 0 0 := ⟨by decide, by decide⟩
          have f_4390 : R 0 0 (mI h36 11 13) := rf_eq f_4389 c_4387
          refine ⟨fun c_4391 => ?_, fun c_4391 => ?_⟩
          · have f_4393 : R 1 1 1 := ⟨by decide, by decide⟩
            have f_4392 : R 1 3 (l3 - 1) := R_sub fl3 f_4393 1 3 (by decide)
            have f_4394 : R 0 0 0 := ⟨by decide, by decide⟩
            have f_4395 : R 60 60 60 := ⟨by decide, by decide⟩
            have f_4396 : R 0 0 0 := ⟨by decide, by decide⟩
            have f_4397 : R 60 60 60 := ⟨by decide, by decide⟩
            have f_4398 : R 0 0 0 := ⟨by decide, by decide⟩
            have f_4399 : R 60 60 60 := ⟨by decide, by decide⟩
            refine s_X11_number_v1 0 60 ok_4386.1 (R_w f_4398 (by decide)) (R_w f_4399 (by decide)) (fun r41 h40 ko_4400 f_4402 => ?_)
            have ok_4401 := Ok_tr ok_4386 ko_4400 (by decide)
            have f_4405 : R 17 17 17 := ⟨by decide, by decide⟩
            have f_4407 : R 4 4 4 := ⟨by decide, by decide⟩
            have f_4406 : R 0 28 (4 * l1) := R_mul f_4407 fl1 0 28 (by decide)
            have f_4404 : R 17 45 (17 + (4 * l1)) := R_add f_4405 f_4406 17 45 (by decide)
            have f_4403 : R 18 48 ((17 + (4 * l1)) + l5) := R_add f_4404 f_4384 18 48 (by decide)
            refine ⟨vin f_4403 (by decide), ?_⟩
            intro x43 ex43
            have f_4408 : R (-2147483648) 2147483647 (l4 + r41) := R_full _
            have f_4409 : R (-2147483648) 2147483647 x43 := rf_eq f_4408 ex43
            have f_4411 : R 1 1 1 := ⟨by decide, by decide⟩
            have f_4410 : R 2 4 (l5 + 1) := R_add f_4384 f_4411 2 4 (by decide)
            have ok_4412 := Ok_w ok_4401 (k := 46) (j := ((17 + (4 * l1)) + l5).toNatClampNeg) (v := r41) (lo := 0) (hi := 60) (rgp_46_15 (ix_ge f_4403 (by decide)) (ix_le f_4403 (by decide))) f_4402 (by decide) (nt_k (by decide))
            have f_4415 : R 0 7 (mI h36 46 (Int32.toNatClampNeg 0)) := Ok_rd ko_4385 (by decide) fi0
            have f_4414 : R 0 7 (mI h40 46 (Int32.toNatClampNeg 0)) := Ok_rd ko_4400 (by decide) f_4415
            have f_4413 : R 0 7 (mI (wI h40 46 ((17 + (4 * l1)) + l5).toNatClampNeg r41) 46 (Int32.toNatClampNeg 0)) := rd_nj f_4414 (ix_ne f_4403 (by decide))
            have g_4416 := gap_inc (N := 4) f_4384 (by decide)
            exact ih l1 l2 l3 x43 (l5 + 1) (wI h40 46 ((17 + (4 * l1)) + l5).toNatClampNeg r41)  ok_4412 (R_w fl1 (by decide)) (R_w fl2 (by decide)) (R_w fl3 (by decide)) (R_w f_4409 (by decide)) (R_w f_4410 (by decide)) (R_w f_4413 (by decide)) (by omega)
          · have f_4418 : R 1 1 1 := ⟨by decide, by decide⟩
            have f_4417 : R 1 3 (l3 - 1) := R_sub fl3 f_4418 1 3 (by decide)
            refine ⟨fun c_4419 => ?_, fun c_4419 => ?_⟩
            · have f_4420 : R (-2147483648) 2147483647 (mI h36 11 6) := R_full _
              have f_4421 : R 3 3 3 := ⟨by decide, by decide⟩
              have f_4422 : R 0 0 0 := ⟨by decide, by decide⟩
              have f_4423 : R 60 60 60 := ⟨by decide, by decide⟩
              have f_4424 : R 0 0 0 := ⟨by decide, by decide⟩
              have f_4425 : R 60 60 60 := ⟨by decide, by decide⟩
              have f_4426 : R 0 0 0 := ⟨by decide, by decide⟩
              have f_4427 : R 60 60 60 := ⟨by decide, by decide⟩
              refine s_X11_number_v1 0 60 ok_4386.1 (R_w f_4426 (by decide)) (R_w f_4427 (by decide)) (fun r47 h46 ko_4428 f_4430 => ?_)
              have ok_4429 := Ok_tr ok_4386 ko_4428 (by decide)
              have f_4433 : R 17 17 17 := ⟨by decide, by decide⟩
              have f_4435 : R 4 4 4 := ⟨by decide, by decide⟩
              have f_4434 : R 0 28 (4 * l1) := R_mul f_4435 fl1 0 28 (by decide)
              have f_4432 : R 17 45 (17 + (4 * l1)) := R_add f_4433 f_4434 17 45 (by decide)
              have f_4431 : R 18 48 ((17 + (4 * l1)) + l5) := R_add f_4432 f_4384 18 48 (by decide)
              refine ⟨vin f_4431 (by decide), ?_⟩
              intro x49 ex49
              have f_4436 : R (-2147483648) 2147483647 (l4 + r47) := R_full _
              have f_4437 : R (-2147483648) 2147483647 x49 := rf_eq f_4436 ex49
              have f_4439 : R 1 1 1 := ⟨by decide, by decide⟩
              have f_4438 : R 2 4 (l5 + 1) := R_add f_4384 f_4439 2 4 (by decide)
              have ok_4440 := Ok_w ok_4429 (k := 46) (j := ((17 + (4 * l1)) + l5).toNatClampNeg) (v := r47) (lo := 0) (hi := 60) (rgp_46_15 (ix_ge f_4431 (by decide)) (ix_le f_4431 (by decide))) f_4430 (by decide) (nt_k (by decide))
              have f_4443 : R 0 7 (mI h36 46 (Int32.toNatClampNeg 0)) := Ok_rd ko_4385 (by decide) fi0
              have f_4442 : R 0 7 (mI h46 46 (Int32.toNatClampNeg 0)) := Ok_rd ko_4428 (by decide) f_4443
              have f_4441 : R 0 7 (mI (wI h46 46 ((17 + (4 * l1)) + l5).toNatClampNeg r47) 46 (Int32.toNatClampNeg 0)) := rd_nj f_4442 (ix_ne f_4431 (by decide))
              have g_4444 := gap_inc (N := 4) f_4384 (by decide)
              exact ih l1 l2 l3 x49 (l5 + 1) (wI h46 46 ((17 + (4 * l1)) + l5).toNatClampNeg r47)  ok_4440 (R_w fl1 (by decide)) (R_w fl2 (by decide)) (R_w fl3 (by decide)) (R_w f_4437 (by decide)) (R_w f_4438 (by decide)) (R_w f_4441 (by decide)) (by omega)
            · have f_4445 : R (-2147483648) 2147483647 (mI h36 11 6) := R_full _
              have f_4446 : R 3 3 3 := ⟨by decide, by decide⟩
              have f_4447 : R 3 3 (mI h36 11 6) := rf_eq f_4446 c_4419
              refine s_X11_within (mI h36 11 7) 0 60 ok_4386.1 (fun r51 f_4449 im_4448 => ?_)
              refine ⟨fun c_4450 => ?_, fun c_4450 => ?_⟩
              · have f_4451 : R 0 0 0 := ⟨by decide, by decide⟩
                have f_4452 : R 0 0 r51 := rf_eq f_4451 c_4450
                have f_4453 : R 0 0 0 := ⟨by decide, by decide⟩
                have f_4454 : R 60 60 60 := ⟨by decide, by decide⟩
                have f_4455 : R 0 0 0 := ⟨by decide, by decide⟩
                have f_4456 : R 60 60 60 := ⟨by decide, by decide⟩
                have f_4457 : R 0 0 0 := ⟨by decide, by decide⟩
                have f_4458 : R 60 60 60 := ⟨by decide, by decide⟩
                refine s_X11_number_v1 0 60 ok_4386.1 (R_w f_4457 (by decide)) (R_w f_4458 (by decide)) (fun r55 h54 ko_4459 f_4461 => ?_)
                have ok_4460 := Ok_tr ok_4386 ko_4459 (by decide)
                have f_4464 : R 17 17 17 := ⟨by decide, by decide⟩
                have f_4466 : R 4 4 4 := ⟨by decide, by decide⟩
                have f_4465 : R 0 28 (4 * l1) := R_mul f_4466 fl1 0 28 (by decide)
                have f_4463 : R 17 45 (17 + (4 * l1)) := R_add f_4464 f_4465 17 45 (by decide)
                have f_4462 : R 18 48 ((17 + (4 * l1)) + l5) := R_add f_4463 f_4384 18 48 (by decide)
                refine ⟨vin f_4462 (by decide), ?_⟩
                intro x57 ex57
                have f_4467 : R (-2147483648) 2147483647 (l4 + r55) := R_full _
                have f_4468 : R (-2147483648) 2147483647 x57 := rf_eq f_4467 ex57
                have f_4470 : R 1 1 1 := ⟨by decide, by decide⟩
                have f_4469 : R 2 4 (l5 + 1) := R_add f_4384 f_4470 2 4 (by decide)
                have ok_4471 := Ok_w ok_4460 (k := 46) (j := ((17 + (4 * l1)) + l5).toNatClampNeg) (v := r55) (lo := 0) (hi := 60) (rgp_46_15 (ix_ge f_4462 (by decide)) (ix_le f_4462 (by decide))) f_4461 (by decide) (nt_k (by decide))
                have f_4474 : R 0 7 (mI h36 46 (Int32.toNatClampNeg 0)) := Ok_rd ko_4385 (by decide) fi0
                have f_4473 : R 0 7 (mI h54 46 (Int32.toNatClampNeg 0)) := Ok_rd ko_4459 (by decide) f_4474
                have f_4472 : R 0 7 (mI (wI h54 46 ((17 + (4 * l1)) + l5).toNatClampNeg r55) 46 (Int32.toNatClampNeg 0)) := rd_nj f_4473 (ix_ne f_4462 (by decide))
                have g_4475 := gap_inc (N := 4) f_4384 (by decide)
                exact ih l1 l2 l3 x57 (l5 + 1) (wI h54 46 ((17 + (4 * l1)) + l5).toNatClampNeg r55)  ok_4471 (R_w fl1 (by decide)) (R_w fl2 (by decide)) (R_w fl3 (by decide)) (R_w f_4468 (by decide)) (R_w f_4469 (by decide)) (R_w f_4472 (by decide)) (by omega)
              · have f_4476 : R 0 0 0 := ⟨by decide, by decide⟩
                have f_4477 : R 0 0 0 := ⟨by decide, by decide⟩
                have f_4478 : R (-2147483648) 2147483647 (mI h36 11 7) := R_full _
                have f_4479 : R 0 2147483647 (mI h36 11 7) := rf_le_r f_4477 f_4478 (im_4448 c_4450).1 0 (by decide)
                have f_4480 : R 60 60 60 := ⟨by decide, by decide⟩
                have f_4481 : R 0 60 (mI h36 11 7) := rf_le_l f_4479 f_4480 (im_4448 c_4450).2 60 (by decide)
                have f_4482 : R 1 1 r51 := rf_ne_lo f_4449 c_4450 (by decide) 1 rfl
                refine ⟨fun c_4483 => ?_, fun c_4483 => ?_⟩
                · have f_4484 : R (-2147483648) 2147483647 (l4 + (mI h36 11 7)) := R_full _
                  have f_4486 : R 0 60 (mI h 46 (Int32.toNatClampNeg 49)) := GI_rd ok.1 46 _ (by decide)
                  have f_4485 : R 0 60 (mI h36 46 (Int32.toNatClampNeg 49)) := Ok_rd ko_4385 (by decide) f_4486
                  have f_4487 : R 0 60 (l4 + (mI h36 11 7)) := rf_eq f_4485 c_4483
                  have f_4488 : R 0 0 0 := ⟨by decide, by decide⟩
                  have f_4489 : R 60 60 60 := ⟨by decide, by decide⟩
                  have f_4490 : R 0 0 0 := ⟨by decide, by decide⟩
                  have f_4491 : R 60 60 60 := ⟨by decide, by decide⟩
                  have f_4492 : R 0 0 0 := ⟨by decide, by decide⟩
                  have f_4493 : R 60 60 60 := ⟨by decide, by decide⟩
                  refine s_X11_number_v1 0 60 ok_4386.1 (R_w f_4492 (by decide)) (R_w f_4493 (by decide)) (fun r61 h60 ko_4494 f_4496 => ?_)
                  have ok_4495 := Ok_tr ok_4386 ko_4494 (by decide)
                  have f_4499 : R 17 17 17 := ⟨by decide, by decide⟩
                  have f_4501 : R 4 4 4 := ⟨by decide, by decide⟩
                  have f_4500 : R 0 28 (4 * l1) := R_mul f_4501 fl1 0 28 (by decide)
                  have f_4498 : R 17 45 (17 + (4 * l1)) := R_add f_4499 f_4500 17 45 (by decide)
                  have f_4497 : R 18 48 ((17 + (4 * l1)) + l5) := R_add f_4498 f_4384 18 48 (by decide)
                  refine ⟨vin f_4497 (by decide), ?_⟩
                  intro x63 ex63
                  have f_4502 : R (-2147483648) 2147483647 (l4 + r61) := R_full _
                  have f_4503 : R (-2147483648) 2147483647 x63 := rf_eq f_4502 ex63
                  have f_4505 : R 1 1 1 := ⟨by decide, by decide⟩
                  have f_4504 : R 2 4 (l5 + 1) := R_add f_4384 f_4505 2 4 (by decide)
                  have ok_4506 := Ok_w ok_4495 (k := 46) (j := ((17 + (4 * l1)) + l5).toNatClampNeg) (v := r61) (lo := 0) (hi := 60) (rgp_46_15 (ix_ge f_4497 (by decide)) (ix_le f_4497 (by decide))) f_4496 (by decide) (nt_k (by decide))
                  have f_4509 : R 0 7 (mI h36 46 (Int32.toNatClampNeg 0)) := Ok_rd ko_4385 (by decide) fi0
                  have f_4508 : R 0 7 (mI h60 46 (Int32.toNatClampNeg 0)) := Ok_rd ko_4494 (by decide) f_4509
                  have f_4507 : R 0 7 (mI (wI h60 46 ((17 + (4 * l1)) + l5).toNatClampNeg r61) 46 (Int32.toNatClampNeg 0)) := rd_nj f_4508 (ix_ne f_4497 (by decide))
                  have g_4510 := gap_inc (N := 4) f_4384 (by decide)
                  exact ih l1 l2 l3 x63 (l5 + 1) (wI h60 46 ((17 + (4 * l1)) + l5).toNatClampNeg r61)  ok_4506 (R_w fl1 (by decide)) (R_w fl2 (by decide)) (R_w fl3 (by decide)) (R_w f_4503 (by decide)) (R_w f_4504 (by decide)) (R_w f_4507 (by decide)) (by omega)
                · have f_4511 : R (-2147483648) 2147483647 (l4 + (mI h36 11 7)) := R_full _
                  have f_4513 : R 0 60 (mI h 46 (Int32.toNatClampNeg 49)) := GI_rd ok.1 46 _ (by decide)
                  have f_4512 : R 0 60 (mI h36 46 (Int32.toNatClampNeg 49)) := Ok_rd ko_4385 (by decide) f_4513
                  refine s_X11_wrong 4 (mI h36 11 4) ok_4386.1 (fun h64 ko_4514 po_4516 => ?_)
                  have ok_4515 := Ok_tr ok_4386 ko_4514 (by decide)
                  have f_4517 : R 0 0 0 := ⟨by decide, by decide⟩
                  have f_4518 : R 60 60 60 := ⟨by decide, by decide⟩
                  have f_4519 : R 0 0 0 := ⟨by decide, by decide⟩
                  have f_4520 : R 60 60 60 := ⟨by decide, by decide⟩
                  have f_4521 : R 0 0 0 := ⟨by decide, by decide⟩
                  have f_4522 : R 60 60 60 := ⟨by decide, by decide⟩
                  refine s_X11_number_v1 0 60 ok_4515.1 (R_w f_4521 (by decide)) (R_w f_4522 (by decide)) (fun r66 h65 ko_4523 f_4525 => ?_)
                  have ok_4524 := Ok_tr ok_4515 ko_4523 (by decide)
                  have f_4528 : R 17 17 17 := ⟨by decide, by decide⟩
                  have f_4530 : R 4 4 4 := ⟨by decide, by decide⟩
                  have f_4529 : R 0 28 (4 * l1) := R_mul f_4530 fl1 0 28 (by decide)
                  have f_4527 : R 17 45 (17 + (4 * l1)) := R_add f_4528 f_4529 17 45 (by decide)
                  have f_4526 : R 18 48 ((17 + (4 * l1)) + l5) := R_add f_4527 f_4384 18 48 (by decide)
                  refine ⟨vin f_4526 (by decide), ?_⟩
                  intro x68 ex68
                  have f_4531 : R (-2147483648) 2147483647 (l4 + r66) := R_full _
                  have f_4532 : R (-2147483648) 2147483647 x68 := rf_eq f_4531 ex68
                  have f_4534 : R 1 1 1 := ⟨by decide, by decide⟩
                  have f_4533 : R 2 4 (l5 + 1) := R_add f_4384 f_4534 2 4 (by decide)
                  have ok_4535 := Ok_w ok_4524 (k := 46) (j := ((17 + (4 * l1)) + l5).toNatClampNeg) (v := r66) (lo := 0) (hi := 60) (rgp_46_15 (ix_ge f_4526 (by decide)) (ix_le f_4526 (by decide))) f_4525 (by decide) (nt_k (by decide))
                  have f_4539 : R 0 7 (mI h36 46 (Int32.toNatClampNeg 0)) := Ok_rd ko_4385 (by decide) fi0
                  have f_4538 : R 0 7 (mI h64 46 (Int32.toNatClampNeg 0)) := Ok_rd ko_4514 (by decide) f_4539
                  have f_4537 : R 0 7 (mI h65 46 (Int32.toNatClampNeg 0)) := Ok_rd ko_4523 (by decide) f_4538
                  have f_4536 : R 0 7 (mI (wI h65 46 ((17 + (4 * l1)) + l5).toNatClampNeg r66) 46 (Int32.toNatClampNeg 0)) := rd_nj f_4537 (ix_ne f_4526 (by decide))
                  have g_4540 := gap_inc (N := 4) f_4384 (by decide)
                  exact ih l1 l2 l3 x68 (l5 + 1) (wI h65 46 ((17 + (4 * l1)) + l5).toNatClampNeg r66)  ok_4535 (R_w fl1 (by decide)) (R_w fl2 (by decide)) (R_w fl3 (by decide)) (R_w f_4532 (by decide)) (R_w f_4533 (by decide)) (R_w f_4536 (by decide)) (by omega)
        · have f_4541 : R 0 1 (mI h36 11 13) := GI_rd ok_4386.1 11 _ (by decide)
          have f_4542 : R 0 0 0 := ⟨by decide, by decide⟩
          have f_4543 : R 1 1 (mI h36 11 13) := rf_ne_lo f_4541 c_4387 (by decide) 1 rfl
          exact hp _ ok_4386
set_option maxRecDepth 100000 in
set_option maxHeartbeats 4000000 in
theorem s_X11_setLine {g : gT} {h : mh_T} {P : mh_T → Prop}  (hG : GI h)  (hp : ∀ h', Ok [11, 44, 46] h h' → P h') : MCv g yX11_setLine uX11_setLine [.ref 11] h P := by
  have ok : Ok [11, 44, 46] h h := Ok_rf hG
  have L0 := s_X11_setLine_L (g := g) hG hp 5
  refine e_X11_setLine   ?_
  refine ⟨fun c_4544 => ?_, fun c_4544 => ?_⟩
  · have f_4545 : R 0 8 (mI h 46 (Int32.toNatClampNeg 0)) := GI_rd ok.1 46 _ (by decide)
    have f_4546 : R 8 8 8 := ⟨by decide, by decide⟩
    have f_4547 : R 0 7 (mI h 46 (Int32.toNatClampNeg 0)) := rf_ne_hi f_4545 c_4544 (by decide) 7 rfl
    refine ⟨fun c_4548 => ?_, fun c_4548 => ?_⟩
    · have f_4549 : R 0 60 (mI h 46 (Int32.toNatClampNeg 49)) := GI_rd ok.1 46 _ (by decide)
      have f_4550 : R 0 0 0 := ⟨by decide, by decide⟩
      have f_4551 : R 1 60 (mI h 46 (Int32.toNatClampNeg 49)) := rf_ne_lo f_4549 c_4548 (by decide) 1 rfl
      refine ⟨fun c_4552 => ?_, fun c_4552 => ?_⟩
      · have f_4553 : R 0 1 (mI h 11 13) := GI_rd ok.1 11 _ (by decide)
        have f_4554 : R 0 0 0 := ⟨by decide, by decide⟩
        have f_4555 : R 0 0 (mI h 11 13) := rf_eq f_4554 c_4552
        refine s_X11_next ok.1 (fun h4 ko_4556 => ?_)
        have ok_4557 := Ok_tr ok ko_4556 (by decide)
        intro x5 ex5
        have f_4558 : R 0 7 (mI h4 46 (Int32.toNatClampNeg 0)) := Ok_rd ko_4556 (by decide) f_4547
        have f_4559 : R 0 7 x5 := rf_eq f_4558 ex5
        have f_4560 : R 1 1 1 := ⟨by decide, by decide⟩
        have f_4561 : R 1 1 1 := ⟨by decide, by decide⟩
        refine s_X11_passed_v0 1 0 ok_4557.1 (R_w f_4561 (by decide)) (fun r7 h6 ko_4562 f_4564 => ?_)
        have ok_4563 := Ok_tr ok_4557 ko_4562 (by decide)
        have f_4566 : R 1 1 1 := ⟨by decide, by decide⟩
        have f_4565 : R 1 8 (1 + x5) := R_add f_4566 f_4559 1 8 (by decide)
        refine ⟨vin f_4565 (by decide), ?_⟩
        have f_4568 : R 9 9 9 := ⟨by decide, by decide⟩
        have f_4567 : R 9 16 (9 + x5) := R_add f_4568 f_4559 9 16 (by decide)
        refine ⟨vin f_4567 (by decide), ?_⟩
        have ok_4569 := Ok_w ok_4563 (k := 46) (j := (1 + x5).toNatClampNeg) (v := r7) (lo := (-1)) (hi := 5) (rgp_46_1 (ix_ge f_4565 (by decide)) (ix_le f_4565 (by decide))) (R_w f_4564 (by decide)) (by decide) (nt_k (by decide))
        have f_4570 : R (-2) (-2) (-2) := ⟨by decide, by decide⟩
        have ok_4571 := Ok_w ok_4569 (k := 46) (j := (9 + x5).toNatClampNeg) (v := (-2)) (lo := (-2)) (hi := 5) (rgp_46_2 (ix_ge f_4567 (by decide)) (ix_le f_4567 (by decide))) (R_w f_4570 (by decide)) (by decide) (nt_k (by decide))
        refine s_X11_comma ok_4571.1 (fun r11 h10 ko_4572 f_4574 => ?_)
        have ok_4573 := Ok_tr ok_4571 ko_4572 (by decide)
        refine ⟨fun c_4575 => ?_, fun c_4575 => ?_⟩
        · have f_4576 : R 0 0 0 := ⟨by decide, by decide⟩
          have f_4577 : R 0 0 r11 := rf_eq f_4576 c_4575
          refine s_X11_pass 8 (by decide) ok_4573.1 (fun h13 ko_4578 => ?_)
          have ok_4579 := Ok_tr ok_4573 ko_4578 (by decide)
          refine ⟨vin f_4567 (by decide), ?_⟩
          refine ⟨fun c_4580 => ?_, fun c_4580 => ?_⟩
          · have f_4583 : R (-2) 5 (mI (wI (wI h6 46 (1 + x5).toNatClampNeg r7) 46 (9 + x5).toNatClampNeg (-2)) 46 (9 + x5).toNatClampNeg) := GI_rd ok_4571.1 46 _ (rgp_46_2 (ix_ge f_4567 (by decide)) (ix_le f_4567 (by decide)))
            have f_4582 : R (-2) 5 (mI h10 46 (9 + x5).toNatClampNeg) := Ok_rd ko_4572 (by decide) f_4583
            have f_4581 : R (-2) 5 (mI h13 46 (9 + x5).toNatClampNeg) := Ok_rd ko_4578 (by decide) f_4582
            have f_4584 : R (-2) (-2) (-2) := ⟨by decide, by decide⟩
            have f_4585 : R (-1) 5 (mI h13 46 (9 + x5).toNatClampNeg) := rf_ne_lo f_4581 c_4580 (by decide) (-1) rfl
            have f_4586 : R 4 4 4 := ⟨by decide, by decide⟩
            have f_4587 : R 0 0 0 := ⟨by decide, by decide⟩
            have f_4588 : R 0 0 0 := ⟨by decide, by decide⟩
            have f_4593 : R 0 7 (mI h6 46 (Int32.toNatClampNeg 0)) := Ok_rd ko_4562 (by decide) f_4558
            have f_4592 : R 0 7 (mI (wI h6 46 (1 + x5).toNatClampNeg r7) 46 (Int32.toNatClampNeg 0)) := rd_nj f_4593 (ix_ne f_4565 (by decide))
            have f_4591 : R 0 7 (mI (wI (wI h6 46 (1 + x5).toNatClampNeg r7) 46 (9 + x5).toNatClampNeg (-2)) 46 (Int32.toNatClampNeg 0)) := rd_nj f_4592 (ix_ne f_4567 (by decide))
            have f_4590 : R 0 7 (mI h10 46 (Int32.toNatClampNeg 0)) := Ok_rd ko_4572 (by decide) f_4591
            have f_4589 : R 0 7 (mI h13 46 (Int32.toNatClampNeg 0)) := Ok_rd ko_4578 (by decide) f_4590
            have f_4594 : R 0 0 0 := ⟨by decide, by decide⟩
            have g_4595 := gap_le (N := 4) f_4594 (m := 4) (by decide)
            exact L0 x5 r7 4 0 0 h13  ok_4579 (R_w f_4559 (by decide)) (R_w f_4564 (by decide)) (R_w f_4586 (by decide)) (R_w f_4587 (by decide)) (R_w f_4588 (by decide)) (R_w f_4589 (by decide)) (by omega)
          · have f_4598 : R (-2) 5 (mI (wI (wI h6 46 (1 + x5).toNatClampNeg r7) 46 (9 + x5).toNatClampNeg (-2)) 46 (9 + x5).toNatClampNeg) := GI_rd ok_4571.1 46 _ (rgp_46_2 (ix_ge f_4567 (by decide)) (ix_le f_4567 (by decide)))
            have f_4597 : R (-2) 5 (mI h10 46 (9 + x5).toNatClampNeg) := Ok_rd ko_4572 (by decide) f_4598
            have f_4596 : R (-2) 5 (mI h13 46 (9 + x5).toNatClampNeg) := Ok_rd ko_4578 (by decide) f_4597
            have f_4599 : R (-2) (-2) (-2) := ⟨by decide, by decide⟩
            have f_4600 : R (-2) (-2) (mI h13 46 (9 + x5).toNatClampNeg) := rf_eq f_4599 c_4580
            have f_4601 : R 2 2 2 := ⟨by decide, by decide⟩
            have f_4602 : R 0 0 0 := ⟨by decide, by decide⟩
            have f_4603 : R 0 0 0 := ⟨by decide, by decide⟩
            have f_4608 : R 0 7 (mI h6 46 (Int32.toNatClampNeg 0)) := Ok_rd ko_4562 (by decide) f_4558
            have f_4607 : R 0 7 (mI (wI h6 46 (1 + x5).toNatClampNeg r7) 46 (Int32.toNatClampNeg 0)) := rd_nj f_4608 (ix_ne f_4565 (by decide))
            have f_4606 : R 0 7 (mI (wI (wI h6 46 (1 + x5).toNatClampNeg r7) 46 (9 + x5).toNatClampNeg (-2)) 46 (Int32.toNatClampNeg 0)) := rd_nj f_4607 (ix_ne f_4567 (by decide))
            have f_4605 : R 0 7 (mI h10 46 (Int32.toNatClampNeg 0)) := Ok_rd ko_4572 (by decide) f_4606
            have f_4604 : R 0 7 (mI h13 46 (Int32.toNatClampNeg 0)) := Ok_rd ko_4578 (by decide) f_4605
            have f_4609 : R 0 0 0 := ⟨by decide, by decide⟩
            have g_4610 := gap_le (N := 4) f_4609 (m := 4) (by decide)
            exact L0 x5 r7 2 0 0 h13  ok_4579 (R_w f_4559 (by decide)) (R_w f_4564 (by decide)) (R_w f_4601 (by decide)) (R_w f_4602 (by decide)) (R_w f_4603 (by decide)) (R_w f_4604 (by decide)) (by omega)
        · have f_4611 : R 0 0 0 := ⟨by decide, by decide⟩
          have f_4612 : R 1 1 r11 := rf_ne_lo f_4574 c_4575 (by decide) 1 rfl
          have f_4613 : R 1 1 1 := ⟨by decide, by decide⟩
          have f_4614 : R 1 1 1 := ⟨by decide, by decide⟩
          refine s_X11_passed_v0 1 (1 <<< (r7 &&& 31)) ok_4573.1 (R_w f_4614 (by decide)) (fun r17 h16 ko_4615 f_4617 => ?_)
          have ok_4616 := Ok_tr ok_4573 ko_4615 (by decide)
          refine ⟨vin f_4567 (by decide), ?_⟩
          have ok_4618 := Ok_w ok_4616 (k := 46) (j := (9 + x5).toNatClampNeg) (v := r17) (lo := (-2)) (hi := 5) (rgp_46_2 (ix_ge f_4567 (by decide)) (ix_le f_4567 (by decide))) (R_w f_4617 (by decide)) (by decide) (nt_k (by decide))
          refine s_X11_pass 8 (by decide) ok_4618.1 (fun h19 ko_4619 => ?_)
          have ok_4620 := Ok_tr ok_4618 ko_4619 (by decide)
          refine ⟨vin f_4567 (by decide), ?_⟩
          refine ⟨fun c_4621 => ?_, fun c_4621 => ?_⟩
          · have f_4623 : R (-2) 5 (mI (wI h16 46 (9 + x5).toNatClampNeg r17) 46 (9 + x5).toNatClampNeg) := GI_rd ok_4618.1 46 _ (rgp_46_2 (ix_ge f_4567 (by decide)) (ix_le f_4567 (by decide)))
            have f_4622 : R (-2) 5 (mI h19 46 (9 + x5).toNatClampNeg) := Ok_rd ko_4619 (by decide) f_4623
            have f_4624 : R (-2) (-2) (-2) := ⟨by decide, by decide⟩
            have f_4625 : R (-1) 5 (mI h19 46 (9 + x5).toNatClampNeg) := rf_ne_lo f_4622 c_4621 (by decide) (-1) rfl
            have f_4626 : R 4 4 4 := ⟨by decide, by decide⟩
            have f_4627 : R 0 0 0 := ⟨by decide, by decide⟩
            have f_4628 : R 0 0 0 := ⟨by decide, by decide⟩
            have f_4635 : R 0 7 (mI h6 46 (Int32.toNatClampNeg 0)) := Ok_rd ko_4562 (by decide) f_4558
            have f_4634 : R 0 7 (mI (wI h6 46 (1 + x5).toNatClampNeg r7) 46 (Int32.toNatClampNeg 0)) := rd_nj f_4635 (ix_ne f_4565 (by decide))
            have f_4633 : R 0 7 (mI (wI (wI h6 46 (1 + x5).toNatClampNeg r7) 46 (9 + x5).toNatClampNeg (-2)) 46 (Int32.toNatClampNeg 0)) := rd_nj f_4634 (ix_ne f_4567 (by decide))
            have f_4632 : R 0 7 (mI h10 46 (Int32.toNatClampNeg 0)) := Ok_rd ko_4572 (by decide) f_4633
            have f_4631 : R 0 7 (mI h16 46 (Int32.toNatClampNeg 0)) := Ok_rd ko_4615 (by decide) f_4632
            have f_4630 : R 0 7 (mI (wI h16 46 (9 + x5).toNatClampNeg r17) 46 (Int32.toNatClampNeg 0)) := rd_nj f_4631 (ix_ne f_4567 (by decide))
            have f_4629 : R 0 7 (mI h19 46 (Int32.toNatClampNeg 0)) := Ok_rd ko_4619 (by decide) f_4630
            have f_4636 : R 0 0 0 := ⟨by decide, by decide⟩
            have g_4637 := gap_le (N := 4) f_4636 (m := 4) (by decide)
            exact L0 x5 r7 4 0 0 h19  ok_4620 (R_w f_4559 (by decide)) (R_w f_4564 (by decide)) (R_w f_4626 (by decide)) (R_w f_4627 (by decide)) (R_w f_4628 (by decide)) (R_w f_4629 (by decide)) (by omega)
          · have f_4639 : R (-2) 5 (mI (wI h16 46 (9 + x5).toNatClampNeg r17) 46 (9 + x5).toNatClampNeg) := GI_rd ok_4618.1 46 _ (rgp_46_2 (ix_ge f_4567 (by decide)) (ix_le f_4567 (by decide)))
            have f_4638 : R (-2) 5 (mI h19 46 (9 + x5).toNatClampNeg) := Ok_rd ko_4619 (by decide) f_4639
            have f_4640 : R (-2) (-2) (-2) := ⟨by decide, by decide⟩
            have f_4641 : R (-2) (-2) (mI h19 46 (9 + x5).toNatClampNeg) := rf_eq f_4640 c_4621
            have f_4642 : R 2 2 2 := ⟨by decide, by decide⟩
            have f_4643 : R 0 0 0 := ⟨by decide, by decide⟩
            have f_4644 : R 0 0 0 := ⟨by decide, by decide⟩
            have f_4651 : R 0 7 (mI h6 46 (Int32.toNatClampNeg 0)) := Ok_rd ko_4562 (by decide) f_4558
            have f_4650 : R 0 7 (mI (wI h6 46 (1 + x5).toNatClampNeg r7) 46 (Int32.toNatClampNeg 0)) := rd_nj f_4651 (ix_ne f_4565 (by decide))
            have f_4649 : R 0 7 (mI (wI (wI h6 46 (1 + x5).toNatClampNeg r7) 46 (9 + x5).toNatClampNeg (-2)) 46 (Int32.toNatClampNeg 0)) := rd_nj f_4650 (ix_ne f_4567 (by decide))
            have f_4648 : R 0 7 (mI h10 46 (Int32.toNatClampNeg 0)) := Ok_rd ko_4572 (by decide) f_4649
            have f_4647 : R 0 7 (mI h16 46 (Int32.toNatClampNeg 0)) := Ok_rd ko_4615 (by decide) f_4648
            have f_4646 : R 0 7 (mI (wI h16 46 (9 + x5).toNatClampNeg r17) 46 (Int32.toNatClampNeg 0)) := rd_nj f_4647 (ix_ne f_4567 (by decide))
            have f_4645 : R 0 7 (mI h19 46 (Int32.toNatClampNeg 0)) := Ok_rd ko_4619 (by decide) f_4646
            have f_4652 : R 0 0 0 := ⟨by decide, by decide⟩
            have g_4653 := gap_le (N := 4) f_4652 (m := 4) (by decide)
            exact L0 x5 r7 2 0 0 h19  ok_4620 (R_w f_4559 (by decide)) (R_w f_4564 (by decide)) (R_w f_4642 (by decide)) (R_w f_4643 (by decide)) (R_w f_4644 (by decide)) (R_w f_4645 (by decide)) (by omega)
      · have f_4654 : R 0 1 (mI h 11 13) := GI_rd ok.1 11 _ (by decide)
        have f_4655 : R 0 0 0 := ⟨by decide, by decide⟩
        have f_4656 : R 1 1 (mI h 11 13) := rf_ne_lo f_4654 c_4552 (by decide) 1 rfl
        exact hp _ ok
    · have f_4657 : R 0 60 (mI h 46 (Int32.toNatClampNeg 49)) := GI_rd ok.1 46 _ (by decide)
      have f_4658 : R 0 0 0 := ⟨by decide, by decide⟩
      have f_4659 : R 0 0 (mI h 46 (Int32.toNatClampNeg 49)) := rf_eq f_4658 c_4548
      refine s_X11_wrong 6 (mI h 11 4) ok.1 (fun h22 ko_4660 po_4662 => ?_)
      have ok_4661 := Ok_tr ok ko_4660 (by decide)
      refine ⟨fun c_4663 => ?_, fun c_4663 => ?_⟩
      · have f_4665 : R 1 1 1 := ⟨by decide, by decide⟩
        have f_4664 : R 1 1 (mI h22 11 13) := rf_eq f_4665 po_4662
        have f_4666 : R 0 0 0 := ⟨by decide, by decide⟩
        have f_4667 : R 0 0 (mI h22 11 13) := rf_eq f_4666 c_4663
        exact (R_abs2 f_4664 f_4667 (by decide)).elim
      · have f_4669 : R 1 1 1 := ⟨by decide, by decide⟩
        have f_4668 : R 1 1 (mI h22 11 13) := rf_eq f_4669 po_4662
        have f_4670 : R 0 0 0 := ⟨by decide, by decide⟩
        exact hp _ ok_4661
  · have f_4671 : R 0 8 (mI h 46 (Int32.toNatClampNeg 0)) := GI_rd ok.1 46 _ (by decide)
    have f_4672 : R 8 8 8 := ⟨by decide, by decide⟩
    have f_4673 : R 8 8 (mI h 46 (Int32.toNatClampNeg 0)) := rf_eq f_4672 c_4544
    refine s_X11_wrong 5 (mI h 11 4) ok.1 (fun h42 ko_4674 po_4676 => ?_)
    have ok_4675 := Ok_tr ok ko_4674 (by decide)
    refine ⟨fun c_4677 => ?_, fun c_4677 => ?_⟩
    · have f_4679 : R 0 60 (mI h 46 (Int32.toNatClampNeg 49)) := GI_rd ok.1 46 _ (by decide)
      have f_4678 : R 0 60 (mI h42 46 (Int32.toNatClampNeg 49)) := Ok_rd ko_4674 (by decide) f_4679
      have f_4680 : R 0 0 0 := ⟨by decide, by decide⟩
      have f_4681 : R 1 60 (mI h42 46 (Int32.toNatClampNeg 49)) := rf_ne_lo f_4678 c_4677 (by decide) 1 rfl
      refine ⟨fun c_4682 => ?_, fun c_4682 => ?_⟩
      · have f_4684 : R 1 1 1 := ⟨by decide, by decide⟩
        have f_4683 : R 1 1 (mI h42 11 13) := rf_eq f_4684 po_4676
        have f_4685 : R 0 0 0 := ⟨by decide, by decide⟩
        have f_4686 : R 0 0 (mI h42 11 13) := rf_eq f_4685 c_4682
        exact (R_abs2 f_4683 f_4686 (by decide)).elim
      · have f_4688 : R 1 1 1 := ⟨by decide, by decide⟩
        have f_4687 : R 1 1 (mI h42 11 13) := rf_eq f_4688 po_4676
        have f_4689 : R 0 0 0 := ⟨by decide, by decide⟩
        exact hp _ ok_4675
    · have f_4691 : R 0 60 (mI h 46 (Int32.toNatClampNeg 49)) := GI_rd ok.1 46 _ (by decide)
      have f_4690 : R 0 60 (mI h42 46 (Int32.toNatClampNeg 49)) := Ok_rd ko_4674 (by decide) f_4691
      have f_4692 : R 0 0 0 := ⟨by decide, by decide⟩
      have f_4693 : R 0 0 (mI h42 46 (Int32.toNatClampNeg 49)) := rf_eq f_4692 c_4677
      refine s_X11_wrong 6 (mI h42 11 4) ok_4675.1 (fun h63 ko_4694 po_4696 => ?_)
      have ok_4695 := Ok_tr ok_4675 ko_4694 (by decide)
      refine ⟨fun c_4697 => ?_, fun c_4697 => ?_⟩
      · have f_4699 : R 1 1 1 := ⟨by decide, by decide⟩
        have f_4698 : R 1 1 (mI h63 11 13) := rf_eq f_4699 po_4696
        have f_4700 : R 0 0 0 := ⟨by decide, by decide⟩
        have f_4701 : R 0 0 (mI h63 11 13) := rf_eq f_4700 c_4697
        exact (R_abs2 f_4698 f_4701 (by decide)).elim
      · have f_4703 : R 1 1 1 := ⟨by decide, by decide⟩
        have f_4702 : R 1 1 (mI h63 11 13) := rf_eq f_4703 po_4696
        have f_4704 : R 0 0 0 := ⟨by decide, by decide⟩
        exact hp _ ok_4695
set_option maxRecDepth 100000 in
set_option maxHeartbeats 4000000 in
theorem s_X11_lineLine_v0_L {g : gT} {h0 : mh_T} {P : mh_T → Prop} (hG0 : GI h0) (hp : ∀ h', Ok [11, 44, 46] h0 h' → P h') : ∀ n : Nat, (∀ (l1 : Int32) (l2 : Int32) (l3 : Int32) (h : mh_T), Ok [11, 44, 46] h0 h → R 0 7 l1 → R 0 511 l2 → R 0 3 l3 → R 0 7 (mI h 46 (Int32.toNatClampNeg 52)) → 1 * gap 3 l3 + 0 < n → ME g uX11_lineLine 20 [.ref 11, .int l1, .int l2, .int l3, .retAddr 0] [] h (qV P)) := by
  intro n
  induction n with
  | zero =>
    exact (fun _ _ _ _ _ _ _ _ _ hm => absurd hm (Nat.not_lt_zero _))
  | succ n ih =>
    intro l1 l2 l3 h  ok fl1 fl2 fl3 fi0    hm
    refine r_X11_lineLine_20 l1 l2 l3  ?_
    refine ⟨fun c_289 => ?_, fun c_289 => ?_⟩
    · have f_290 : R 3 3 3 := ⟨by decide, by decide⟩
      have f_291 : R 3 3 l3 := rf_le_r f_290 fl3 c_289 3 (by decide)
      refine s_X11_pass 9 (by decide) ok.1 (fun h2 ko_292 => ?_)
      have ok_293 := Ok_tr ok ko_292 (by decide)
      refine ⟨fun c_294 => ?_, fun c_294 => ?_⟩
      · have f_295 : R 0 1 (mI h2 11 13) := GI_rd ok_293.1 11 _ (by decide)
        have f_296 : R 0 0 0 := ⟨by decide, by decide⟩
        have f_297 : R 0 0 (mI h2 11 13) := rf_eq f_296 c_294
        refine s_X11_takes 11 (by decide) ok_293.1 (fun r5 h4 ko_298 f_300 => ?_)
        have ok_299 := Ok_tr ok_293 ko_298 (by decide)
        refine ⟨fun c_301 => ?_, fun c_301 => ?_⟩
        · have f_302 : R 0 0 0 := ⟨by decide, by decide⟩
          have f_303 : R 0 0 r5 := rf_eq f_302 c_301
          refine s_X11_pass 10 (by decide) ok_299.1 (fun h7 ko_304 => ?_)
          have ok_305 := Ok_tr ok_299 ko_304 (by decide)
          have f_309 : R 0 7 (mI h2 46 (Int32.toNatClampNeg 52)) := Ok_rd ko_292 (by decide) fi0
          have f_308 : R 0 7 (mI h4 46 (Int32.toNatClampNeg 52)) := Ok_rd ko_298 (by decide) f_309
          have f_307 : R 0 7 (mI h7 46 (Int32.toNatClampNeg 52)) := Ok_rd ko_304 (by decide) f_308
          have f_310 : R 1 1 1 := ⟨by decide, by decide⟩
          have f_306 : R 1 8 ((mI h7 46 (Int32.toNatClampNeg 52)) + 1) := R_add f_307 f_310 1 8 (by decide)
          have ok_311 := Ok_w ok_305 (k := 46) (j := (Int32.toNatClampNeg 52)) (v := ((mI h7 46 (Int32.toNatClampNeg 52)) + 1)) (lo := 0) (hi := 8) (by decide) (R_w f_306 (by decide)) (by decide) (by decide)
          exact hp _ ok_311
        · have f_312 : R 0 0 0 := ⟨by decide, by decide⟩
          have f_313 : R 1 1 r5 := rf_ne_lo f_300 c_301 (by decide) 1 rfl
          have f_315 : R 77 77 77 := ⟨by decide, by decide⟩
          have f_314 : R 77 84 (77 + l1) := R_add f_315 fl1 77 84 (by decide)
          refine ⟨vin f_314 (by decide), ?_⟩
          have f_316 : R 1 1 1 := ⟨by decide, by decide⟩
          have ok_317 := Ok_w ok_299 (k := 46) (j := (77 + l1).toNatClampNeg) (v := 1) (lo := 0) (hi := 1) (rgp_46_8 (ix_ge f_314 (by decide)) (ix_le f_314 (by decide))) (R_w f_316 (by decide)) (by decide) (nt_k (by decide))
          have f_321 : R 0 7 (mI h2 46 (Int32.toNatClampNeg 52)) := Ok_rd ko_292 (by decide) fi0
          have f_320 : R 0 7 (mI h4 46 (Int32.toNatClampNeg 52)) := Ok_rd ko_298 (by decide) f_321
          have f_319 : R 0 7 (mI (wI h4 46 (77 + l1).toNatClampNeg 1) 46 (Int32.toNatClampNeg 52)) := rd_nj f_320 (ix_ne f_314 (by decide))
          have f_322 : R 1 1 1 := ⟨by decide, by decide⟩
          have f_318 : R 1 8 ((mI (wI h4 46 (77 + l1).toNatClampNeg 1) 46 (Int32.toNatClampNeg 52)) + 1) := R_add f_319 f_322 1 8 (by decide)
          have ok_323 := Ok_w ok_317 (k := 46) (j := (Int32.toNatClampNeg 52)) (v := ((mI (wI h4 46 (77 + l1).toNatClampNeg 1) 46 (Int32.toNatClampNeg 52)) + 1)) (lo := 0) (hi := 8) (by decide) (R_w f_318 (by decide)) (by decide) (by decide)
          exact hp _ ok_323
      · have f_324 : R 0 1 (mI h2 11 13) := GI_rd ok_293.1 11 _ (by decide)
        have f_325 : R 0 0 0 := ⟨by decide, by decide⟩
        have f_326 : R 1 1 (mI h2 11 13) := rf_ne_lo f_324 c_294 (by decide) 1 rfl
        exact hp _ ok_293
    · have f_327 : R 3 3 3 := ⟨by decide, by decide⟩
      have f_328 : R 0 2 l3 := rf_lt_l fl3 f_327 (nle c_289) 2 (by decide)
      refine ⟨fun c_329 => ?_, fun c_329 => ?_⟩
      · have f_330 : R 0 0 0 := ⟨by decide, by decide⟩
        have f_331 : R 0 0 l3 := rf_le_l f_328 f_330 c_329 0 (by decide)
        have f_332 : R 0 0 0 := ⟨by decide, by decide⟩
        have f_333 : R 0 0 0 := ⟨by decide, by decide⟩
        have f_334 : R 0 0 0 := ⟨by decide, by decide⟩
        refine s_X11_passed_v1 0 l2 ok.1 (R_w f_334 (by decide)) (fun r11 h10 ko_335 f_337 => ?_)
        have ok_336 := Ok_tr ok ko_335 (by decide)
        refine ⟨fun c_338 => ?_, fun c_338 => ?_⟩
        · have f_339 : R 0 1 (mI h10 11 13) := GI_rd ok_336.1 11 _ (by decide)
          have f_340 : R 0 0 0 := ⟨by decide, by decide⟩
          have f_341 : R 0 0 (mI h10 11 13) := rf_eq f_340 c_338
          intro x13 ex13
          have f_343 : R 1 256 (1 <<< (r11 &&& 31)) := R_shl f_337 1 256 0 8 (by decide)
          have f_342 : R 0 511 (l2 ||| (1 <<< (r11 &&& 31))) := R_or fl2 f_343 9 511 (by decide)
          have f_344 : R 0 511 x13 := rf_eq f_342 ex13
          have f_347 : R 53 53 53 := ⟨by decide, by decide⟩
          have f_349 : R 3 3 3 := ⟨by decide, by decide⟩
          have f_348 : R 0 21 (3 * l1) := R_mul f_349 fl1 0 21 (by decide)
          have f_346 : R 53 74 (53 + (3 * l1)) := R_add f_347 f_348 53 74 (by decide)
          have f_345 : R 53 74 ((53 + (3 * l1)) + l3) := R_add f_346 f_331 53 74 (by decide)
          refine ⟨vin f_345 (by decide), ?_⟩
          have f_351 : R 1 1 1 := ⟨by decide, by decide⟩
          have f_350 : R 1 1 (l3 + 1) := R_add f_331 f_351 1 1 (by decide)
          have ok_352 := Ok_w ok_336 (k := 46) (j := ((53 + (3 * l1)) + l3).toNatClampNeg) (v := r11) (lo := 0) (hi := 8) (rgp_46_7 (ix_ge f_345 (by decide)) (ix_le f_345 (by decide))) f_337 (by decide) (nt_k (by decide))
          have f_354 : R 0 7 (mI h10 46 (Int32.toNatClampNeg 52)) := Ok_rd ko_335 (by decide) fi0
          have f_353 : R 0 7 (mI (wI h10 46 ((53 + (3 * l1)) + l3).toNatClampNeg r11) 46 (Int32.toNatClampNeg 52)) := rd_nj f_354 (ix_ne f_345 (by decide))
          have g_355 := gap_inc (N := 3) f_331 (by decide)
          exact ih l1 x13 (l3 + 1) (wI h10 46 ((53 + (3 * l1)) + l3).toNatClampNeg r11)  ok_352 (R_w fl1 (by decide)) (R_w f_344 (by decide)) (R_w f_350 (by decide)) (R_w f_353 (by decide)) (by omega)
        · have f_356 : R 0 1 (mI h10 11 13) := GI_rd ok_336.1 11 _ (by decide)
          have f_357 : R 0 0 0 := ⟨by decide, by decide⟩
          have f_358 : R 1 1 (mI h10 11 13) := rf_ne_lo f_356 c_338 (by decide) 1 rfl
          exact hp _ ok_336
      · have f_359 : R 0 0 0 := ⟨by decide, by decide⟩
        have f_360 : R 1 2 l3 := rf_lt_r f_359 f_328 (nle c_329) 1 (by decide)
        refine s_X11_mustComma ok.1 (fun h15 ko_361 => ?_)
        have ok_362 := Ok_tr ok ko_361 (by decide)
        have f_363 : R 0 0 0 := ⟨by decide, by decide⟩
        have f_364 : R 0 0 0 := ⟨by decide, by decide⟩
        have f_365 : R 0 0 0 := ⟨by decide, by decide⟩
        refine s_X11_passed_v1 0 l2 ok_362.1 (R_w f_365 (by decide)) (fun r17 h16 ko_366 f_368 => ?_)
        have ok_367 := Ok_tr ok_362 ko_366 (by decide)
        refine ⟨fun c_369 => ?_, fun c_369 => ?_⟩
        · have f_370 : R 0 1 (mI h16 11 13) := GI_rd ok_367.1 11 _ (by decide)
          have f_371 : R 0 0 0 := ⟨by decide, by decide⟩
          have f_372 : R 0 0 (mI h16 11 13) := rf_eq f_371 c_369
          intro x19 ex19
          have f_374 : R 1 256 (1 <<< (r17 &&& 31)) := R_shl f_368 1 256 0 8 (by decide)
          have f_373 : R 0 511 (l2 ||| (1 <<< (r17 &&& 31))) := R_or fl2 f_374 9 511 (by decide)
          have f_375 : R 0 511 x19 := rf_eq f_373 ex19
          have f_378 : R 53 53 53 := ⟨by decide, by decide⟩
          have f_380 : R 3 3 3 := ⟨by decide, by decide⟩
          have f_379 : R 0 21 (3 * l1) := R_mul f_380 fl1 0 21 (by decide)
          have f_377 : R 53 74 (53 + (3 * l1)) := R_add f_378 f_379 53 74 (by decide)
          have f_376 : R 54 76 ((53 + (3 * l1)) + l3) := R_add f_377 f_360 54 76 (by decide)
          refine ⟨vin f_376 (by decide), ?_⟩
          have f_382 : R 1 1 1 := ⟨by decide, by decide⟩
          have f_381 : R 2 3 (l3 + 1) := R_add f_360 f_382 2 3 (by decide)
          have ok_383 := Ok_w ok_367 (k := 46) (j := ((53 + (3 * l1)) + l3).toNatClampNeg) (v := r17) (lo := 0) (hi := 8) (rgp_46_7 (ix_ge f_376 (by decide)) (ix_le f_376 (by decide))) f_368 (by decide) (nt_k (by decide))
          have f_386 : R 0 7 (mI h15 46 (Int32.toNatClampNeg 52)) := Ok_rd ko_361 (by decide) fi0
          have f_385 : R 0 7 (mI h16 46 (Int32.toNatClampNeg 52)) := Ok_rd ko_366 (by decide) f_386
          have f_384 : R 0 7 (mI (wI h16 46 ((53 + (3 * l1)) + l3).toNatClampNeg r17) 46 (Int32.toNatClampNeg 52)) := rd_nj f_385 (ix_ne f_376 (by decide))
          have g_387 := gap_inc (N := 3) f_360 (by decide)
          exact ih l1 x19 (l3 + 1) (wI h16 46 ((53 + (3 * l1)) + l3).toNatClampNeg r17)  ok_383 (R_w fl1 (by decide)) (R_w f_375 (by decide)) (R_w f_381 (by decide)) (R_w f_384 (by decide)) (by omega)
        · have f_388 : R 0 1 (mI h16 11 13) := GI_rd ok_367.1 11 _ (by decide)
          have f_389 : R 0 0 0 := ⟨by decide, by decide⟩
          have f_390 : R 1 1 (mI h16 11 13) := rf_ne_lo f_388 c_369 (by decide) 1 rfl
          exact hp _ ok_367
set_option maxRecDepth 100000 in
set_option maxHeartbeats 4000000 in
theorem s_X11_lineLine_v0 {g : gT} {h : mh_T} {P : mh_T → Prop}  (hG : GI h) (fi0 : R 0 7 (mI h 46 (Int32.toNatClampNeg 52))) (hp : ∀ h', Ok [11, 44, 46] h h' → P h') : MCv g yX11_lineLine uX11_lineLine [.ref 11] h P := by
  have ok : Ok [11, 44, 46] h h := Ok_rf hG
  have L0 := s_X11_lineLine_v0_L (g := g) hG hp 4
  refine e_X11_lineLine   ?_
  refine ⟨fun c_391 => ?_, fun c_391 => ?_⟩
  · have f_392 : R 0 1 (mI h 11 13) := GI_rd ok.1 11 _ (by decide)
    have f_393 : R 0 0 0 := ⟨by decide, by decide⟩
    have f_394 : R 0 0 (mI h 11 13) := rf_eq f_393 c_391
    intro x2 ex2
    have f_395 : R 0 7 x2 := rf_eq fi0 ex2
    have f_396 : R 0 0 0 := ⟨by decide, by decide⟩
    have f_397 : R 0 0 0 := ⟨by decide, by decide⟩
    have f_398 : R 0 0 0 := ⟨by decide, by decide⟩
    have g_399 := gap_le (N := 3) f_398 (m := 3) (by decide)
    exact L0 x2 0 0 h  ok (R_w f_395 (by decide)) (R_w f_396 (by decide)) (R_w f_397 (by decide)) (R_w fi0 (by decide)) (by omega)
  · have f_400 : R 0 1 (mI h 11 13) := GI_rd ok.1 11 _ (by decide)
    have f_401 : R 0 0 0 := ⟨by decide, by decide⟩
    have f_402 : R 1 1 (mI h 11 13) := rf_ne_lo f_400 c_391 (by decide) 1 rfl
    exact hp _ ok
set_option maxRecDepth 100000 in
set_option maxHeartbeats 4000000 in
theorem s_X11_lineLine_v1 {g : gT} {h : mh_T} {P : mh_T → Prop}  (hG : GI h) (fi0 : R 1 1 (mI h 11 13)) (hp : ∀ h', Ok [11, 44, 46] h h' → P h') : MCv g yX11_lineLine uX11_lineLine [.ref 11] h P := by
  have ok : Ok [11, 44, 46] h h := Ok_rf hG
  refine e_X11_lineLine   ?_
  refine ⟨fun c_5 => ?_, fun c_5 => ?_⟩
  · have f_6 : R 0 0 0 := ⟨by decide, by decide⟩
    have f_7 : R 0 0 (mI h 11 13) := rf_eq f_6 c_5
    exact (R_abs2 fi0 f_7 (by decide)).elim
  · have f_8 : R 0 0 0 := ⟨by decide, by decide⟩
    exact hp _ ok
set_option maxRecDepth 100000 in
set_option maxHeartbeats 4000000 in
theorem s_X11_rayLine_v0_L {g : gT} {h0 : mh_T} {P : mh_T → Prop} (hG0 : GI h0) (hp : ∀ h', Ok [11, 44, 46] h0 h' → P h') : ∀ n : Nat, (∀ (l1 : Int32) (l2 : Int32) (l3 : Int32) (h : mh_T), Ok [11, 44, 46] h0 h → R 0 17 l1 → R 0 1 l2 → R 0 4 l3 → R 0 17 (mI h 46 (Int32.toNatClampNeg 85)) → 1 * gap 4 l3 + 0 < n → ME g uX11_rayLine 20 [.ref 11, .int l1, .int l2, .int l3, .retAddr 0, .retAddr 0, .retAddr 0] [] h (qV P)) := by
  intro n
  induction n with
  | zero =>
    exact (fun _ _ _ _ _ _ _ _ _ hm => absurd hm (Nat.not_lt_zero _))
  | succ n ih =>
    intro l1 l2 l3 h  ok fl1 fl2 fl3 fi0    hm
    refine r_X11_rayLine_20 l1 l2 l3  ?_
    refine ⟨fun c_1727 => ?_, fun c_1727 => ?_⟩
    · have f_1728 : R 4 4 4 := ⟨by decide, by decide⟩
      have f_1729 : R 4 4 l3 := rf_le_r f_1728 fl3 c_1727 4 (by decide)
      refine ⟨fun c_1730 => ?_, fun c_1730 => ?_⟩
      · have f_1731 : R 0 1 (mI h 11 13) := GI_rd ok.1 11 _ (by decide)
        have f_1732 : R 0 0 0 := ⟨by decide, by decide⟩
        have f_1733 : R 1 1 (mI h 11 13) := rf_ne_lo f_1731 c_1730 (by decide) 1 rfl
        exact hp _ ok
      · have f_1734 : R 0 1 (mI h 11 13) := GI_rd ok.1 11 _ (by decide)
        have f_1735 : R 0 0 0 := ⟨by decide, by decide⟩
        have f_1736 : R 0 0 (mI h 11 13) := rf_eq f_1735 c_1730
        have f_1738 : R 1 1 1 := ⟨by decide, by decide⟩
        have f_1737 : R 1 18 ((mI h 46 (Int32.toNatClampNeg 85)) + 1) := R_add fi0 f_1738 1 18 (by decide)
        have ok_1739 := Ok_w ok (k := 46) (j := (Int32.toNatClampNeg 85)) (v := ((mI h 46 (Int32.toNatClampNeg 85)) + 1)) (lo := 0) (hi := 18) (by decide) (R_w f_1737 (by decide)) (by decide) (by decide)
        exact hp _ ok_1739
    · have f_1740 : R 4 4 4 := ⟨by decide, by decide⟩
      have f_1741 : R 0 3 l3 := rf_lt_l fl3 f_1740 (nle c_1727) 3 (by decide)
      refine ⟨fun c_1742 => ?_, fun c_1742 => ?_⟩
      · have f_1743 : R 0 0 0 := ⟨by decide, by decide⟩
        have f_1744 : R 0 0 l3 := rf_le_l f_1741 f_1743 c_1742 0 (by decide)
        refine ⟨fun c_1745 => ?_, fun c_1745 => ?_⟩
        · have f_1746 : R 0 1 (mI h 11 13) := GI_rd ok.1 11 _ (by decide)
          have f_1747 : R 0 0 0 := ⟨by decide, by decide⟩
          have f_1748 : R 0 0 (mI h 11 13) := rf_eq f_1747 c_1745
          refine ⟨fun c_1749 => ?_, fun c_1749 => ?_⟩
          · have f_1750 : R (-2147483648) 2147483647 (mI h 11 6) := R_full _
            have f_1751 : R 45 45 45 := ⟨by decide, by decide⟩
            refine ⟨fun c_1752 => ?_, fun c_1752 => ?_⟩
            · have f_1753 : R 3 3 3 := ⟨by decide, by decide⟩
              have f_1754 : R 0 0 0 := ⟨by decide, by decide⟩
              have f_1755 : R 3 3 3 := ⟨by decide, by decide⟩
              have f_1756 : R 0 0 0 := ⟨by decide, by decide⟩
              have f_1757 : R 3 3 3 := ⟨by decide, by decide⟩
              have f_1758 : R 0 0 0 := ⟨by decide, by decide⟩
              have f_1759 : R 3 3 3 := ⟨by decide, by decide⟩
              have f_1760 : R 0 0 0 := ⟨by decide, by decide⟩
              have f_1761 : R 3 3 3 := ⟨by decide, by decide⟩
              refine s_X11_number_v2 0 3 ok.1 (R_w f_1760 (by decide)) (R_w f_1761 (by decide)) (fun r10 h9 ko_1762 f_1764 => ?_)
              have ok_1763 := Ok_tr ok ko_1762 (by decide)
              refine ⟨fun c_1765 => ?_, fun c_1765 => ?_⟩
              · have f_1766 : R 0 0 0 := ⟨by decide, by decide⟩
                have f_1767 : R 1 1 l2 := rf_ne_lo fl2 c_1765 (by decide) 1 rfl
                have f_1770 : R 86 86 86 := ⟨by decide, by decide⟩
                have f_1772 : R 4 4 4 := ⟨by decide, by decide⟩
                have f_1771 : R 0 68 (4 * l1) := R_mul f_1772 fl1 0 68 (by decide)
                have f_1769 : R 86 154 (86 + (4 * l1)) := R_add f_1770 f_1771 86 154 (by decide)
                have f_1768 : R 86 154 ((86 + (4 * l1)) + l3) := R_add f_1769 f_1744 86 154 (by decide)
                refine ⟨vin f_1768 (by decide), ?_⟩
                have f_1773 : R 1 1 1 := ⟨by decide, by decide⟩
                have f_1775 : R 1 1 1 := ⟨by decide, by decide⟩
                have f_1774 : R 1 1 (l3 + 1) := R_add f_1744 f_1775 1 1 (by decide)
                have ok_1776 := Ok_w ok_1763 (k := 46) (j := ((86 + (4 * l1)) + l3).toNatClampNeg) (v := r10) (lo := (-2147483648)) (hi := 2147483647) (rgg_46_0 (ix_ge f_1768 (by decide)) (ix_le f_1768 (by decide))) (R_w f_1764 (by decide)) (by decide) (nt_k (by decide))
                have f_1778 : R 0 17 (mI h9 46 (Int32.toNatClampNeg 85)) := Ok_rd ko_1762 (by decide) fi0
                have f_1777 : R 0 17 (mI (wI h9 46 ((86 + (4 * l1)) + l3).toNatClampNeg r10) 46 (Int32.toNatClampNeg 85)) := rd_nj f_1778 (ix_ne f_1768 (by decide))
                have g_1779 := gap_inc (N := 4) f_1744 (by decide)
                exact ih l1 1 (l3 + 1) (wI h9 46 ((86 + (4 * l1)) + l3).toNatClampNeg r10)  ok_1776 (R_w fl1 (by decide)) (R_w f_1773 (by decide)) (R_w f_1774 (by decide)) (R_w f_1777 (by decide)) (by omega)
              · have f_1780 : R 0 0 0 := ⟨by decide, by decide⟩
                have f_1781 : R 0 0 l2 := rf_eq f_1780 c_1765
                refine ⟨fun c_1782 => ?_, fun c_1782 => ?_⟩
                · have f_1783 : R 0 0 0 := ⟨by decide, by decide⟩
                  have f_1784 : R 0 0 r10 := rf_le_l f_1764 f_1783 c_1782 0 (by decide)
                  have f_1787 : R 86 86 86 := ⟨by decide, by decide⟩
                  have f_1789 : R 4 4 4 := ⟨by decide, by decide⟩
                  have f_1788 : R 0 68 (4 * l1) := R_mul f_1789 fl1 0 68 (by decide)
                  have f_1786 : R 86 154 (86 + (4 * l1)) := R_add f_1787 f_1788 86 154 (by decide)
                  have f_1785 : R 86 154 ((86 + (4 * l1)) + l3) := R_add f_1786 f_1744 86 154 (by decide)
                  refine ⟨vin f_1785 (by decide), ?_⟩
                  have f_1790 : R 0 0 0 := ⟨by decide, by decide⟩
                  have f_1792 : R 1 1 1 := ⟨by decide, by decide⟩
                  have f_1791 : R 1 1 (l3 + 1) := R_add f_1744 f_1792 1 1 (by decide)
                  have f_1793 : R 0 0 0 := ⟨by decide, by decide⟩
                  have ok_1794 := Ok_w ok_1763 (k := 46) (j := ((86 + (4 * l1)) + l3).toNatClampNeg) (v := r10) (lo := (-2147483648)) (hi := 2147483647) (rgg_46_0 (ix_ge f_1785 (by decide)) (ix_le f_1785 (by decide))) (R_w f_1784 (by decide)) (by decide) (nt_k (by decide))
                  have f_1796 : R 0 17 (mI h9 46 (Int32.toNatClampNeg 85)) := Ok_rd ko_1762 (by decide) fi0
                  have f_1795 : R 0 17 (mI (wI h9 46 ((86 + (4 * l1)) + l3).toNatClampNeg r10) 46 (Int32.toNatClampNeg 85)) := rd_nj f_1796 (ix_ne f_1785 (by decide))
                  have g_1797 := gap_inc (N := 4) f_1744 (by decide)
                  exact ih l1 0 (l3 + 1) (wI h9 46 ((86 + (4 * l1)) + l3).toNatClampNeg r10)  ok_1794 (R_w fl1 (by decide)) (R_w f_1790 (by decide)) (R_w f_1791 (by decide)) (R_w f_1795 (by decide)) (by omega)
                · have f_1798 : R 0 0 0 := ⟨by decide, by decide⟩
                  have f_1799 : R 1 3 r10 := rf_lt_r f_1798 f_1764 (nle c_1782) 1 (by decide)
                  have f_1802 : R 86 86 86 := ⟨by decide, by decide⟩
                  have f_1804 : R 4 4 4 := ⟨by decide, by decide⟩
                  have f_1803 : R 0 68 (4 * l1) := R_mul f_1804 fl1 0 68 (by decide)
                  have f_1801 : R 86 154 (86 + (4 * l1)) := R_add f_1802 f_1803 86 154 (by decide)
                  have f_1800 : R 86 154 ((86 + (4 * l1)) + l3) := R_add f_1801 f_1744 86 154 (by decide)
                  refine ⟨vin f_1800 (by decide), ?_⟩
                  have f_1805 : R 1 1 1 := ⟨by decide, by decide⟩
                  have f_1807 : R 1 1 1 := ⟨by decide, by decide⟩
                  have f_1806 : R 1 1 (l3 + 1) := R_add f_1744 f_1807 1 1 (by decide)
                  have f_1808 : R 0 0 0 := ⟨by decide, by decide⟩
                  have ok_1809 := Ok_w ok_1763 (k := 46) (j := ((86 + (4 * l1)) + l3).toNatClampNeg) (v := r10) (lo := (-2147483648)) (hi := 2147483647) (rgg_46_0 (ix_ge f_1800 (by decide)) (ix_le f_1800 (by decide))) (R_w f_1799 (by decide)) (by decide) (nt_k (by decide))
                  have f_1811 : R 0 17 (mI h9 46 (Int32.toNatClampNeg 85)) := Ok_rd ko_1762 (by decide) fi0
                  have f_1810 : R 0 17 (mI (wI h9 46 ((86 + (4 * l1)) + l3).toNatClampNeg r10) 46 (Int32.toNatClampNeg 85)) := rd_nj f_1811 (ix_ne f_1800 (by decide))
                  have g_1812 := gap_inc (N := 4) f_1744 (by decide)
                  exact ih l1 1 (l3 + 1) (wI h9 46 ((86 + (4 * l1)) + l3).toNatClampNeg r10)  ok_1809 (R_w fl1 (by decide)) (R_w f_1805 (by decide)) (R_w f_1806 (by decide)) (R_w f_1810 (by decide)) (by omega)
            · have f_1813 : R 3 3 3 := ⟨by decide, by decide⟩
              have f_1814 : R 3 3 l3 := rf_eq f_1813 c_1752
              exact (R_abs2 f_1744 f_1814 (by decide)).elim
          · have f_1815 : R (-2147483648) 2147483647 (mI h 11 6) := R_full _
            have f_1816 : R 45 45 45 := ⟨by decide, by decide⟩
            have f_1817 : R 45 45 (mI h 11 6) := rf_eq f_1816 c_1749
            refine s_X11_next ok.1 (fun h68 ko_1818 => ?_)
            have ok_1819 := Ok_tr ok ko_1818 (by decide)
            refine ⟨fun c_1820 => ?_, fun c_1820 => ?_⟩
            · have f_1821 : R 3 3 3 := ⟨by decide, by decide⟩
              have f_1822 : R 0 0 0 := ⟨by decide, by decide⟩
              have f_1823 : R 3 3 3 := ⟨by decide, by decide⟩
              have f_1824 : R 0 0 0 := ⟨by decide, by decide⟩
              have f_1825 : R 3 3 3 := ⟨by decide, by decide⟩
              have f_1826 : R 0 0 0 := ⟨by decide, by decide⟩
              have f_1827 : R 3 3 3 := ⟨by decide, by decide⟩
              have f_1828 : R 0 0 0 := ⟨by decide, by decide⟩
              have f_1829 : R 3 3 3 := ⟨by decide, by decide⟩
              refine s_X11_number_v2 0 3 ok_1819.1 (R_w f_1828 (by decide)) (R_w f_1829 (by decide)) (fun r72 h71 ko_1830 f_1832 => ?_)
              have ok_1831 := Ok_tr ok_1819 ko_1830 (by decide)
              refine ⟨fun c_1833 => ?_, fun c_1833 => ?_⟩
              · have f_1834 : R 0 0 0 := ⟨by decide, by decide⟩
                have f_1835 : R 1 1 l2 := rf_ne_lo fl2 c_1833 (by decide) 1 rfl
                have f_1838 : R 86 86 86 := ⟨by decide, by decide⟩
                have f_1840 : R 4 4 4 := ⟨by decide, by decide⟩
                have f_1839 : R 0 68 (4 * l1) := R_mul f_1840 fl1 0 68 (by decide)
                have f_1837 : R 86 154 (86 + (4 * l1)) := R_add f_1838 f_1839 86 154 (by decide)
                have f_1836 : R 86 154 ((86 + (4 * l1)) + l3) := R_add f_1837 f_1744 86 154 (by decide)
                refine ⟨vin f_1836 (by decide), ?_⟩
                have f_1841 : R 1 1 1 := ⟨by decide, by decide⟩
                have f_1843 : R 1 1 1 := ⟨by decide, by decide⟩
                have f_1842 : R 1 1 (l3 + 1) := R_add f_1744 f_1843 1 1 (by decide)
                have f_1844 : R (-3) 0 (-r72) := R_neg f_1832 (-3) 0 (by decide)
                have ok_1845 := Ok_w ok_1831 (k := 46) (j := ((86 + (4 * l1)) + l3).toNatClampNeg) (v := (-r72)) (lo := (-2147483648)) (hi := 2147483647) (rgg_46_0 (ix_ge f_1836 (by decide)) (ix_le f_1836 (by decide))) (R_w f_1844 (by decide)) (by decide) (nt_k (by decide))
                have f_1848 : R 0 17 (mI h68 46 (Int32.toNatClampNeg 85)) := Ok_rd ko_1818 (by decide) fi0
                have f_1847 : R 0 17 (mI h71 46 (Int32.toNatClampNeg 85)) := Ok_rd ko_1830 (by decide) f_1848
                have f_1846 : R 0 17 (mI (wI h71 46 ((86 + (4 * l1)) + l3).toNatClampNeg (-r72)) 46 (Int32.toNatClampNeg 85)) := rd_nj f_1847 (ix_ne f_1836 (by decide))
                have g_1849 := gap_inc (N := 4) f_1744 (by decide)
                exact ih l1 1 (l3 + 1) (wI h71 46 ((86 + (4 * l1)) + l3).toNatClampNeg (-r72))  ok_1845 (R_w fl1 (by decide)) (R_w f_1841 (by decide)) (R_w f_1842 (by decide)) (R_w f_1846 (by decide)) (by omega)
              · have f_1850 : R 0 0 0 := ⟨by decide, by decide⟩
                have f_1851 : R 0 0 l2 := rf_eq f_1850 c_1833
                refine ⟨fun c_1852 => ?_, fun c_1852 => ?_⟩
                · have f_1853 : R 0 0 0 := ⟨by decide, by decide⟩
                  have f_1854 : R 0 0 r72 := rf_le_l f_1832 f_1853 c_1852 0 (by decide)
                  have f_1857 : R 86 86 86 := ⟨by decide, by decide⟩
                  have f_1859 : R 4 4 4 := ⟨by decide, by decide⟩
                  have f_1858 : R 0 68 (4 * l1) := R_mul f_1859 fl1 0 68 (by decide)
                  have f_1856 : R 86 154 (86 + (4 * l1)) := R_add f_1857 f_1858 86 154 (by decide)
                  have f_1855 : R 86 154 ((86 + (4 * l1)) + l3) := R_add f_1856 f_1744 86 154 (by decide)
                  refine ⟨vin f_1855 (by decide), ?_⟩
                  have f_1860 : R 0 0 0 := ⟨by decide, by decide⟩
                  have f_1862 : R 1 1 1 := ⟨by decide, by decide⟩
                  have f_1861 : R 1 1 (l3 + 1) := R_add f_1744 f_1862 1 1 (by decide)
                  have f_1863 : R 0 0 (-r72) := R_neg f_1854 0 0 (by decide)
                  have ok_1864 := Ok_w ok_1831 (k := 46) (j := ((86 + (4 * l1)) + l3).toNatClampNeg) (v := (-r72)) (lo := (-2147483648)) (hi := 2147483647) (rgg_46_0 (ix_ge f_1855 (by decide)) (ix_le f_1855 (by decide))) (R_w f_1863 (by decide)) (by decide) (nt_k (by decide))
                  have f_1867 : R 0 17 (mI h68 46 (Int32.toNatClampNeg 85)) := Ok_rd ko_1818 (by decide) fi0
                  have f_1866 : R 0 17 (mI h71 46 (Int32.toNatClampNeg 85)) := Ok_rd ko_1830 (by decide) f_1867
                  have f_1865 : R 0 17 (mI (wI h71 46 ((86 + (4 * l1)) + l3).toNatClampNeg (-r72)) 46 (Int32.toNatClampNeg 85)) := rd_nj f_1866 (ix_ne f_1855 (by decide))
                  have g_1868 := gap_inc (N := 4) f_1744 (by decide)
                  exact ih l1 0 (l3 + 1) (wI h71 46 ((86 + (4 * l1)) + l3).toNatClampNeg (-r72))  ok_1864 (R_w fl1 (by decide)) (R_w f_1860 (by decide)) (R_w f_1861 (by decide)) (R_w f_1865 (by decide)) (by omega)
                · have f_1869 : R 0 0 0 := ⟨by decide, by decide⟩
                  have f_1870 : R 1 3 r72 := rf_lt_r f_1869 f_1832 (nle c_1852) 1 (by decide)
                  have f_1873 : R 86 86 86 := ⟨by decide, by decide⟩
                  have f_1875 : R 4 4 4 := ⟨by decide, by decide⟩
                  have f_1874 : R 0 68 (4 * l1) := R_mul f_1875 fl1 0 68 (by decide)
                  have f_1872 : R 86 154 (86 + (4 * l1)) := R_add f_1873 f_1874 86 154 (by decide)
                  have f_1871 : R 86 154 ((86 + (4 * l1)) + l3) := R_add f_1872 f_1744 86 154 (by decide)
                  refine ⟨vin f_1871 (by decide), ?_⟩
                  have f_1876 : R 1 1 1 := ⟨by decide, by decide⟩
                  have f_1878 : R 1 1 1 := ⟨by decide, by decide⟩
                  have f_1877 : R 1 1 (l3 + 1) := R_add f_1744 f_1878 1 1 (by decide)
                  have f_1879 : R (-3) (-1) (-r72) := R_neg f_1870 (-3) (-1) (by decide)
                  have ok_1880 := Ok_w ok_1831 (k := 46) (j := ((86 + (4 * l1)) + l3).toNatClampNeg) (v := (-r72)) (lo := (-2147483648)) (hi := 2147483647) (rgg_46_0 (ix_ge f_1871 (by decide)) (ix_le f_1871 (by decide))) (R_w f_1879 (by decide)) (by decide) (nt_k (by decide))
                  have f_1883 : R 0 17 (mI h68 46 (Int32.toNatClampNeg 85)) := Ok_rd ko_1818 (by decide) fi0
                  have f_1882 : R 0 17 (mI h71 46 (Int32.toNatClampNeg 85)) := Ok_rd ko_1830 (by decide) f_1883
                  have f_1881 : R 0 17 (mI (wI h71 46 ((86 + (4 * l1)) + l3).toNatClampNeg (-r72)) 46 (Int32.toNatClampNeg 85)) := rd_nj f_1882 (ix_ne f_1871 (by decide))
                  have g_1884 := gap_inc (N := 4) f_1744 (by decide)
                  exact ih l1 1 (l3 + 1) (wI h71 46 ((86 + (4 * l1)) + l3).toNatClampNeg (-r72))  ok_1880 (R_w fl1 (by decide)) (R_w f_1876 (by decide)) (R_w f_1877 (by decide)) (R_w f_1881 (by decide)) (by omega)
            · have f_1885 : R 3 3 3 := ⟨by decide, by decide⟩
              have f_1886 : R 3 3 l3 := rf_eq f_1885 c_1820
              exact (R_abs2 f_1744 f_1886 (by decide)).elim
        · have f_1887 : R 0 1 (mI h 11 13) := GI_rd ok.1 11 _ (by decide)
          have f_1888 : R 0 0 0 := ⟨by decide, by decide⟩
          have f_1889 : R 1 1 (mI h 11 13) := rf_ne_lo f_1887 c_1745 (by decide) 1 rfl
          exact hp _ ok
      · have f_1890 : R 0 0 0 := ⟨by decide, by decide⟩
        have f_1891 : R 1 3 l3 := rf_lt_r f_1890 f_1741 (nle c_1742) 1 (by decide)
        refine s_X11_mustComma ok.1 (fun h129 ko_1892 => ?_)
        have ok_1893 := Ok_tr ok ko_1892 (by decide)
        refine ⟨fun c_1894 => ?_, fun c_1894 => ?_⟩
        · have f_1895 : R 0 1 (mI h129 11 13) := GI_rd ok_1893.1 11 _ (by decide)
          have f_1896 : R 0 0 0 := ⟨by decide, by decide⟩
          have f_1897 : R 0 0 (mI h129 11 13) := rf_eq f_1896 c_1894
          refine ⟨fun c_1898 => ?_, fun c_1898 => ?_⟩
          · have f_1899 : R (-2147483648) 2147483647 (mI h129 11 6) := R_full _
            have f_1900 : R 45 45 45 := ⟨by decide, by decide⟩
            refine ⟨fun c_1901 => ?_, fun c_1901 => ?_⟩
            · have f_1902 : R 3 3 3 := ⟨by decide, by decide⟩
              have f_1903 : R 1 2 l3 := rf_ne_hi f_1891 c_1901 (by decide) 2 rfl
              have f_1904 : R 0 0 0 := ⟨by decide, by decide⟩
              have f_1905 : R 3 3 3 := ⟨by decide, by decide⟩
              have f_1906 : R 0 0 0 := ⟨by decide, by decide⟩
              have f_1907 : R 3 3 3 := ⟨by decide, by decide⟩
              have f_1908 : R 0 0 0 := ⟨by decide, by decide⟩
              have f_1909 : R 3 3 3 := ⟨by decide, by decide⟩
              have f_1910 : R 0 0 0 := ⟨by decide, by decide⟩
              have f_1911 : R 3 3 3 := ⟨by decide, by decide⟩
              refine s_X11_number_v2 0 3 ok_1893.1 (R_w f_1910 (by decide)) (R_w f_1911 (by decide)) (fun r136 h135 ko_1912 f_1914 => ?_)
              have ok_1913 := Ok_tr ok_1893 ko_1912 (by decide)
              refine ⟨fun c_1915 => ?_, fun c_1915 => ?_⟩
              · have f_1916 : R 0 0 0 := ⟨by decide, by decide⟩
                have f_1917 : R 1 1 l2 := rf_ne_lo fl2 c_1915 (by decide) 1 rfl
                have f_1920 : R 86 86 86 := ⟨by decide, by decide⟩
                have f_1922 : R 4 4 4 := ⟨by decide, by decide⟩
                have f_1921 : R 0 68 (4 * l1) := R_mul f_1922 fl1 0 68 (by decide)
                have f_1919 : R 86 154 (86 + (4 * l1)) := R_add f_1920 f_1921 86 154 (by decide)
                have f_1918 : R 87 156 ((86 + (4 * l1)) + l3) := R_add f_1919 f_1903 87 156 (by decide)
                refine ⟨vin f_1918 (by decide), ?_⟩
                have f_1923 : R 1 1 1 := ⟨by decide, by decide⟩
                have f_1925 : R 1 1 1 := ⟨by decide, by decide⟩
                have f_1924 : R 2 3 (l3 + 1) := R_add f_1903 f_1925 2 3 (by decide)
                have ok_1926 := Ok_w ok_1913 (k := 46) (j := ((86 + (4 * l1)) + l3).toNatClampNeg) (v := r136) (lo := (-2147483648)) (hi := 2147483647) (rgg_46_0 (ix_ge f_1918 (by decide)) (ix_le f_1918 (by decide))) (R_w f_1914 (by decide)) (by decide) (nt_k (by decide))
                have f_1929 : R 0 17 (mI h129 46 (Int32.toNatClampNeg 85)) := Ok_rd ko_1892 (by decide) fi0
                have f_1928 : R 0 17 (mI h135 46 (Int32.toNatClampNeg 85)) := Ok_rd ko_1912 (by decide) f_1929
                have f_1927 : R 0 17 (mI (wI h135 46 ((86 + (4 * l1)) + l3).toNatClampNeg r136) 46 (Int32.toNatClampNeg 85)) := rd_nj f_1928 (ix_ne f_1918 (by decide))
                have g_1930 := gap_inc (N := 4) f_1903 (by decide)
                exact ih l1 1 (l3 + 1) (wI h135 46 ((86 + (4 * l1)) + l3).toNatClampNeg r136)  ok_1926 (R_w fl1 (by decide)) (R_w f_1923 (by decide)) (R_w f_1924 (by decide)) (R_w f_1927 (by decide)) (by omega)
              · have f_1931 : R 0 0 0 := ⟨by decide, by decide⟩
                have f_1932 : R 0 0 l2 := rf_eq f_1931 c_1915
                refine ⟨fun c_1933 => ?_, fun c_1933 => ?_⟩
                · have f_1934 : R 0 0 0 := ⟨by decide, by decide⟩
                  have f_1935 : R 0 0 r136 := rf_le_l f_1914 f_1934 c_1933 0 (by decide)
                  have f_1938 : R 86 86 86 := ⟨by decide, by decide⟩
                  have f_1940 : R 4 4 4 := ⟨by decide, by decide⟩
                  have f_1939 : R 0 68 (4 * l1) := R_mul f_1940 fl1 0 68 (by decide)
                  have f_1937 : R 86 154 (86 + (4 * l1)) := R_add f_1938 f_1939 86 154 (by decide)
                  have f_1936 : R 87 156 ((86 + (4 * l1)) + l3) := R_add f_1937 f_1903 87 156 (by decide)
                  refine ⟨vin f_1936 (by decide), ?_⟩
                  have f_1941 : R 0 0 0 := ⟨by decide, by decide⟩
                  have f_1943 : R 1 1 1 := ⟨by decide, by decide⟩
                  have f_1942 : R 2 3 (l3 + 1) := R_add f_1903 f_1943 2 3 (by decide)
                  have f_1944 : R 0 0 0 := ⟨by decide, by decide⟩
                  have ok_1945 := Ok_w ok_1913 (k := 46) (j := ((86 + (4 * l1)) + l3).toNatClampNeg) (v := r136) (lo := (-2147483648)) (hi := 2147483647) (rgg_46_0 (ix_ge f_1936 (by decide)) (ix_le f_1936 (by decide))) (R_w f_1935 (by decide)) (by decide) (nt_k (by decide))
                  have f_1948 : R 0 17 (mI h129 46 (Int32.toNatClampNeg 85)) := Ok_rd ko_1892 (by decide) fi0
                  have f_1947 : R 0 17 (mI h135 46 (Int32.toNatClampNeg 85)) := Ok_rd ko_1912 (by decide) f_1948
                  have f_1946 : R 0 17 (mI (wI h135 46 ((86 + (4 * l1)) + l3).toNatClampNeg r136) 46 (Int32.toNatClampNeg 85)) := rd_nj f_1947 (ix_ne f_1936 (by decide))
                  have g_1949 := gap_inc (N := 4) f_1903 (by decide)
                  exact ih l1 0 (l3 + 1) (wI h135 46 ((86 + (4 * l1)) + l3).toNatClampNeg r136)  ok_1945 (R_w fl1 (by decide)) (R_w f_1941 (by decide)) (R_w f_1942 (by decide)) (R_w f_1946 (by decide)) (by omega)
                · have f_1950 : R 0 0 0 := ⟨by decide, by decide⟩
                  have f_1951 : R 1 3 r136 := rf_lt_r f_1950 f_1914 (nle c_1933) 1 (by decide)
                  have f_1954 : R 86 86 86 := ⟨by decide, by decide⟩
                  have f_1956 : R 4 4 4 := ⟨by decide, by decide⟩
                  have f_1955 : R 0 68 (4 * l1) := R_mul f_1956 fl1 0 68 (by decide)
                  have f_1953 : R 86 154 (86 + (4 * l1)) := R_add f_1954 f_1955 86 154 (by decide)
                  have f_1952 : R 87 156 ((86 + (4 * l1)) + l3) := R_add f_1953 f_1903 87 156 (by decide)
                  refine ⟨vin f_1952 (by decide), ?_⟩
                  have f_1957 : R 1 1 1 := ⟨by decide, by decide⟩
                  have f_1959 : R 1 1 1 := ⟨by decide, by decide⟩
                  have f_1958 : R 2 3 (l3 + 1) := R_add f_1903 f_1959 2 3 (by decide)
                  have f_1960 : R 0 0 0 := ⟨by decide, by decide⟩
                  have ok_1961 := Ok_w ok_1913 (k := 46) (j := ((86 + (4 * l1)) + l3).toNatClampNeg) (v := r136) (lo := (-2147483648)) (hi := 2147483647) (rgg_46_0 (ix_ge f_1952 (by decide)) (ix_le f_1952 (by decide))) (R_w f_1951 (by decide)) (by decide) (nt_k (by decide))
                  have f_1964 : R 0 17 (mI h129 46 (Int32.toNatClampNeg 85)) := Ok_rd ko_1892 (by decide) fi0
                  have f_1963 : R 0 17 (mI h135 46 (Int32.toNatClampNeg 85)) := Ok_rd ko_1912 (by decide) f_1964
                  have f_1962 : R 0 17 (mI (wI h135 46 ((86 + (4 * l1)) + l3).toNatClampNeg r136) 46 (Int32.toNatClampNeg 85)) := rd_nj f_1963 (ix_ne f_1952 (by decide))
                  have g_1965 := gap_inc (N := 4) f_1903 (by decide)
                  exact ih l1 1 (l3 + 1) (wI h135 46 ((86 + (4 * l1)) + l3).toNatClampNeg r136)  ok_1961 (R_w fl1 (by decide)) (R_w f_1957 (by decide)) (R_w f_1958 (by decide)) (R_w f_1962 (by decide)) (by omega)
            · have f_1966 : R 3 3 3 := ⟨by decide, by decide⟩
              have f_1967 : R 3 3 l3 := rf_eq f_1966 c_1901
              refine ⟨fun c_1968 => ?_, fun c_1968 => ?_⟩
              · have f_1969 : R 0 0 0 := ⟨by decide, by decide⟩
                have f_1970 : R 1 1 l2 := rf_ne_lo fl2 c_1968 (by decide) 1 rfl
                have f_1971 : R 0 0 0 := ⟨by decide, by decide⟩
                have f_1972 : R 3 3 3 := ⟨by decide, by decide⟩
                have f_1973 : R 0 0 0 := ⟨by decide, by decide⟩
                have f_1974 : R 3 3 3 := ⟨by decide, by decide⟩
                have f_1975 : R 0 0 0 := ⟨by decide, by decide⟩
                have f_1976 : R 3 3 3 := ⟨by decide, by decide⟩
                have f_1977 : R 0 0 0 := ⟨by decide, by decide⟩
                have f_1978 : R 3 3 3 := ⟨by decide, by decide⟩
                refine s_X11_number_v2 0 3 ok_1893.1 (R_w f_1977 (by decide)) (R_w f_1978 (by decide)) (fun r148 h147 ko_1979 f_1981 => ?_)
                have ok_1980 := Ok_tr ok_1893 ko_1979 (by decide)
                refine ⟨fun c_1982 => ?_, fun c_1982 => ?_⟩
                · have f_1983 : R 0 0 0 := ⟨by decide, by decide⟩
                  have f_1986 : R 86 86 86 := ⟨by decide, by decide⟩
                  have f_1988 : R 4 4 4 := ⟨by decide, by decide⟩
                  have f_1987 : R 0 68 (4 * l1) := R_mul f_1988 fl1 0 68 (by decide)
                  have f_1985 : R 86 154 (86 + (4 * l1)) := R_add f_1986 f_1987 86 154 (by decide)
                  have f_1984 : R 89 157 ((86 + (4 * l1)) + l3) := R_add f_1985 f_1967 89 157 (by decide)
                  refine ⟨vin f_1984 (by decide), ?_⟩
                  have f_1989 : R 1 1 1 := ⟨by decide, by decide⟩
                  have f_1991 : R 1 1 1 := ⟨by decide, by decide⟩
                  have f_1990 : R 4 4 (l3 + 1) := R_add f_1967 f_1991 4 4 (by decide)
                  have ok_1992 := Ok_w ok_1980 (k := 46) (j := ((86 + (4 * l1)) + l3).toNatClampNeg) (v := r148) (lo := (-2147483648)) (hi := 2147483647) (rgg_46_0 (ix_ge f_1984 (by decide)) (ix_le f_1984 (by decide))) (R_w f_1981 (by decide)) (by decide) (nt_k (by decide))
                  have f_1995 : R 0 17 (mI h129 46 (Int32.toNatClampNeg 85)) := Ok_rd ko_1892 (by decide) fi0
                  have f_1994 : R 0 17 (mI h147 46 (Int32.toNatClampNeg 85)) := Ok_rd ko_1979 (by decide) f_1995
                  have f_1993 : R 0 17 (mI (wI h147 46 ((86 + (4 * l1)) + l3).toNatClampNeg r148) 46 (Int32.toNatClampNeg 85)) := rd_nj f_1994 (ix_ne f_1984 (by decide))
                  have g_1996 := gap_inc (N := 4) f_1967 (by decide)
                  exact ih l1 1 (l3 + 1) (wI h147 46 ((86 + (4 * l1)) + l3).toNatClampNeg r148)  ok_1992 (R_w fl1 (by decide)) (R_w f_1989 (by decide)) (R_w f_1990 (by decide)) (R_w f_1993 (by decide)) (by omega)
                · have f_1997 : R 0 0 0 := ⟨by decide, by decide⟩
                  have f_1998 : R 0 0 l2 := rf_eq f_1997 c_1982
                  exact (R_abs2 f_1970 f_1998 (by decide)).elim
              · have f_1999 : R 0 0 0 := ⟨by decide, by decide⟩
                have f_2000 : R 0 0 l2 := rf_eq f_1999 c_1968
                refine ⟨fun c_2001 => ?_, fun c_2001 => ?_⟩
                · have f_2002 : R 3 3 3 := ⟨by decide, by decide⟩
                  have f_2003 : R 0 0 0 := ⟨by decide, by decide⟩
                  have f_2004 : R 3 3 3 := ⟨by decide, by decide⟩
                  have f_2005 : R 0 0 0 := ⟨by decide, by decide⟩
                  have f_2006 : R 3 3 3 := ⟨by decide, by decide⟩
                  have f_2007 : R 0 0 0 := ⟨by decide, by decide⟩
                  have f_2008 : R 3 3 3 := ⟨by decide, by decide⟩
                  have f_2009 : R 0 0 0 := ⟨by decide, by decide⟩
                  have f_2010 : R 3 3 3 := ⟨by decide, by decide⟩
                  refine s_X11_number_v2 0 3 ok_1893.1 (R_w f_2009 (by decide)) (R_w f_2010 (by decide)) (fun r160 h159 ko_2011 f_2013 => ?_)
                  have ok_2012 := Ok_tr ok_1893 ko_2011 (by decide)
                  refine ⟨fun c_2014 => ?_, fun c_2014 => ?_⟩
                  · have f_2015 : R 0 0 0 := ⟨by decide, by decide⟩
                    have f_2016 : R 1 0 l2 := rf_ne_lo f_2000 c_2014 (by decide) 1 rfl
                    exact (R_abs f_2016 (by decide)).elim
                  · have f_2017 : R 0 0 0 := ⟨by decide, by decide⟩
                    refine ⟨fun c_2018 => ?_, fun c_2018 => ?_⟩
                    · have f_2019 : R 0 0 0 := ⟨by decide, by decide⟩
                      have f_2020 : R 0 0 r160 := rf_le_l f_2013 f_2019 c_2018 0 (by decide)
                      have f_2023 : R 86 86 86 := ⟨by decide, by decide⟩
                      have f_2025 : R 4 4 4 := ⟨by decide, by decide⟩
                      have f_2024 : R 0 68 (4 * l1) := R_mul f_2025 fl1 0 68 (by decide)
                      have f_2022 : R 86 154 (86 + (4 * l1)) := R_add f_2023 f_2024 86 154 (by decide)
                      have f_2021 : R 89 157 ((86 + (4 * l1)) + l3) := R_add f_2022 f_1967 89 157 (by decide)
                      refine ⟨vin f_2021 (by decide), ?_⟩
                      have f_2026 : R 0 0 0 := ⟨by decide, by decide⟩
                      have f_2028 : R 1 1 1 := ⟨by decide, by decide⟩
                      have f_2027 : R 4 4 (l3 + 1) := R_add f_1967 f_2028 4 4 (by decide)
                      have f_2029 : R 0 0 0 := ⟨by decide, by decide⟩
                      have ok_2030 := Ok_w ok_2012 (k := 46) (j := ((86 + (4 * l1)) + l3).toNatClampNeg) (v := r160) (lo := (-2147483648)) (hi := 2147483647) (rgg_46_0 (ix_ge f_2021 (by decide)) (ix_le f_2021 (by decide))) (R_w f_2020 (by decide)) (by decide) (nt_k (by decide))
                      have f_2033 : R 0 17 (mI h129 46 (Int32.toNatClampNeg 85)) := Ok_rd ko_1892 (by decide) fi0
                      have f_2032 : R 0 17 (mI h159 46 (Int32.toNatClampNeg 85)) := Ok_rd ko_2011 (by decide) f_2033
                      have f_2031 : R 0 17 (mI (wI h159 46 ((86 + (4 * l1)) + l3).toNatClampNeg r160) 46 (Int32.toNatClampNeg 85)) := rd_nj f_2032 (ix_ne f_2021 (by decide))
                      have g_2034 := gap_inc (N := 4) f_1967 (by decide)
                      exact ih l1 0 (l3 + 1) (wI h159 46 ((86 + (4 * l1)) + l3).toNatClampNeg r160)  ok_2030 (R_w fl1 (by decide)) (R_w f_2026 (by decide)) (R_w f_2027 (by decide)) (R_w f_2031 (by decide)) (by omega)
                    · have f_2035 : R 0 0 0 := ⟨by decide, by decide⟩
                      have f_2036 : R 1 3 r160 := rf_lt_r f_2035 f_2013 (nle c_2018) 1 (by decide)
                      have f_2039 : R 86 86 86 := ⟨by decide, by decide⟩
                      have f_2041 : R 4 4 4 := ⟨by decide, by decide⟩
                      have f_2040 : R 0 68 (4 * l1) := R_mul f_2041 fl1 0 68 (by decide)
                      have f_2038 : R 86 154 (86 + (4 * l1)) := R_add f_2039 f_2040 86 154 (by decide)
                      have f_2037 : R 89 157 ((86 + (4 * l1)) + l3) := R_add f_2038 f_1967 89 157 (by decide)
                      refine ⟨vin f_2037 (by decide), ?_⟩
                      have f_2042 : R 1 1 1 := ⟨by decide, by decide⟩
                      have f_2044 : R 1 1 1 := ⟨by decide, by decide⟩
                      have f_2043 : R 4 4 (l3 + 1) := R_add f_1967 f_2044 4 4 (by decide)
                      have f_2045 : R 0 0 0 := ⟨by decide, by decide⟩
                      have ok_2046 := Ok_w ok_2012 (k := 46) (j := ((86 + (4 * l1)) + l3).toNatClampNeg) (v := r160) (lo := (-2147483648)) (hi := 2147483647) (rgg_46_0 (ix_ge f_2037 (by decide)) (ix_le f_2037 (by decide))) (R_w f_2036 (by decide)) (by decide) (nt_k (by decide))
                      have f_2049 : R 0 17 (mI h129 46 (Int32.toNatClampNeg 85)) := Ok_rd ko_1892 (by decide) fi0
                      have f_2048 : R 0 17 (mI h159 46 (Int32.toNatClampNeg 85)) := Ok_rd ko_2011 (by decide) f_2049
                      have f_2047 : R 0 17 (mI (wI h159 46 ((86 + (4 * l1)) + l3).toNatClampNeg r160) 46 (Int32.toNatClampNeg 85)) := rd_nj f_2048 (ix_ne f_2037 (by decide))
                      have g_2050 := gap_inc (N := 4) f_1967 (by decide)
                      exact ih l1 1 (l3 + 1) (wI h159 46 ((86 + (4 * l1)) + l3).toNatClampNeg r160)  ok_2046 (R_w fl1 (by decide)) (R_w f_2042 (by decide)) (R_w f_2043 (by decide)) (R_w f_2047 (by decide)) (by omega)
                · have f_2051 : R 3 3 3 := ⟨by decide, by decide⟩
                  have f_2052 : R 3 3 (mI h129 11 6) := rf_eq f_2051 c_2001
                  refine ⟨fun c_2053 => ?_, fun c_2053 => ?_⟩
                  · have f_2054 : R (-2147483648) 2147483647 (mI h129 11 7) := R_full _
                    have f_2055 : R 0 0 0 := ⟨by decide, by decide⟩
                    have f_2056 : R 0 0 0 := ⟨by decide, by decide⟩
                    have f_2057 : R 3 3 3 := ⟨by decide, by decide⟩
                    have f_2058 : R 0 0 0 := ⟨by decide, by decide⟩
                    have f_2059 : R 3 3 3 := ⟨by decide, by decide⟩
                    have f_2060 : R 0 0 0 := ⟨by decide, by decide⟩
                    have f_2061 : R 3 3 3 := ⟨by decide, by decide⟩
                    have f_2062 : R 0 0 0 := ⟨by decide, by decide⟩
                    have f_2063 : R 3 3 3 := ⟨by decide, by decide⟩
                    refine s_X11_number_v2 0 3 ok_1893.1 (R_w f_2062 (by decide)) (R_w f_2063 (by decide)) (fun r172 h171 ko_2064 f_2066 => ?_)
                    have ok_2065 := Ok_tr ok_1893 ko_2064 (by decide)
                    refine ⟨fun c_2067 => ?_, fun c_2067 => ?_⟩
                    · have f_2068 : R 0 0 0 := ⟨by decide, by decide⟩
                      have f_2069 : R 1 0 l2 := rf_ne_lo f_2000 c_2067 (by decide) 1 rfl
                      exact (R_abs f_2069 (by decide)).elim
                    · have f_2070 : R 0 0 0 := ⟨by decide, by decide⟩
                      refine ⟨fun c_2071 => ?_, fun c_2071 => ?_⟩
                      · have f_2072 : R 0 0 0 := ⟨by decide, by decide⟩
                        have f_2073 : R 0 0 r172 := rf_le_l f_2066 f_2072 c_2071 0 (by decide)
                        have f_2076 : R 86 86 86 := ⟨by decide, by decide⟩
                        have f_2078 : R 4 4 4 := ⟨by decide, by decide⟩
                        have f_2077 : R 0 68 (4 * l1) := R_mul f_2078 fl1 0 68 (by decide)
                        have f_2075 : R 86 154 (86 + (4 * l1)) := R_add f_2076 f_2077 86 154 (by decide)
                        have f_2074 : R 89 157 ((86 + (4 * l1)) + l3) := R_add f_2075 f_1967 89 157 (by decide)
                        refine ⟨vin f_2074 (by decide), ?_⟩
                        have f_2079 : R 0 0 0 := ⟨by decide, by decide⟩
                        have f_2081 : R 1 1 1 := ⟨by decide, by decide⟩
                        have f_2080 : R 4 4 (l3 + 1) := R_add f_1967 f_2081 4 4 (by decide)
                        have f_2082 : R 0 0 0 := ⟨by decide, by decide⟩
                        have ok_2083 := Ok_w ok_2065 (k := 46) (j := ((86 + (4 * l1)) + l3).toNatClampNeg) (v := r172) (lo := (-2147483648)) (hi := 2147483647) (rgg_46_0 (ix_ge f_2074 (by decide)) (ix_le f_2074 (by decide))) (R_w f_2073 (by decide)) (by decide) (nt_k (by decide))
                        have f_2086 : R 0 17 (mI h129 46 (Int32.toNatClampNeg 85)) := Ok_rd ko_1892 (by decide) fi0
                        have f_2085 : R 0 17 (mI h171 46 (Int32.toNatClampNeg 85)) := Ok_rd ko_2064 (by decide) f_2086
                        have f_2084 : R 0 17 (mI (wI h171 46 ((86 + (4 * l1)) + l3).toNatClampNeg r172) 46 (Int32.toNatClampNeg 85)) := rd_nj f_2085 (ix_ne f_2074 (by decide))
                        have g_2087 := gap_inc (N := 4) f_1967 (by decide)
                        exact ih l1 0 (l3 + 1) (wI h171 46 ((86 + (4 * l1)) + l3).toNatClampNeg r172)  ok_2083 (R_w fl1 (by decide)) (R_w f_2079 (by decide)) (R_w f_2080 (by decide)) (R_w f_2084 (by decide)) (by omega)
                      · have f_2088 : R 0 0 0 := ⟨by decide, by decide⟩
                        have f_2089 : R 1 3 r172 := rf_lt_r f_2088 f_2066 (nle c_2071) 1 (by decide)
                        have f_2092 : R 86 86 86 := ⟨by decide, by decide⟩
                        have f_2094 : R 4 4 4 := ⟨by decide, by decide⟩
                        have f_2093 : R 0 68 (4 * l1) := R_mul f_2094 fl1 0 68 (by decide)
                        have f_2091 : R 86 154 (86 + (4 * l1)) := R_add f_2092 f_2093 86 154 (by decide)
                        have f_2090 : R 89 157 ((86 + (4 * l1)) + l3) := R_add f_2091 f_1967 89 157 (by decide)
                        refine ⟨vin f_2090 (by decide), ?_⟩
                        have f_2095 : R 1 1 1 := ⟨by decide, by decide⟩
                        have f_2097 : R 1 1 1 := ⟨by decide, by decide⟩
                        have f_2096 : R 4 4 (l3 + 1) := R_add f_1967 f_2097 4 4 (by decide)
                        have f_2098 : R 0 0 0 := ⟨by decide, by decide⟩
                        have ok_2099 := Ok_w ok_2065 (k := 46) (j := ((86 + (4 * l1)) + l3).toNatClampNeg) (v := r172) (lo := (-2147483648)) (hi := 2147483647) (rgg_46_0 (ix_ge f_2090 (by decide)) (ix_le f_2090 (by decide))) (R_w f_2089 (by decide)) (by decide) (nt_k (by decide))
                        have f_2102 : R 0 17 (mI h129 46 (Int32.toNatClampNeg 85)) := Ok_rd ko_1892 (by decide) fi0
                        have f_2101 : R 0 17 (mI h171 46 (Int32.toNatClampNeg 85)) := Ok_rd ko_2064 (by decide) f_2102
                        have f_2100 : R 0 17 (mI (wI h171 46 ((86 + (4 * l1)) + l3).toNatClampNeg r172) 46 (Int32.toNatClampNeg 85)) := rd_nj f_2101 (ix_ne f_2090 (by decide))
                        have g_2103 := gap_inc (N := 4) f_1967 (by decide)
                        exact ih l1 1 (l3 + 1) (wI h171 46 ((86 + (4 * l1)) + l3).toNatClampNeg r172)  ok_2099 (R_w fl1 (by decide)) (R_w f_2095 (by decide)) (R_w f_2096 (by decide)) (R_w f_2100 (by decide)) (by omega)
                  · have f_2104 : R (-2147483648) 2147483647 (mI h129 11 7) := R_full _
                    have f_2105 : R 0 0 0 := ⟨by decide, by decide⟩
                    have f_2106 : R 0 0 (mI h129 11 7) := rf_eq f_2105 c_2053
                    refine s_X11_wrong 4 (mI h129 11 4) ok_1893.1 (fun h182 ko_2107 po_2109 => ?_)
                    have ok_2108 := Ok_tr ok_1893 ko_2107 (by decide)
                    have f_2110 : R 0 0 0 := ⟨by decide, by decide⟩
                    have f_2111 : R 3 3 3 := ⟨by decide, by decide⟩
                    have f_2112 : R 0 0 0 := ⟨by decide, by decide⟩
                    have f_2113 : R 3 3 3 := ⟨by decide, by decide⟩
                    have f_2114 : R 0 0 0 := ⟨by decide, by decide⟩
                    have f_2115 : R 3 3 3 := ⟨by decide, by decide⟩
                    have f_2116 : R 0 0 0 := ⟨by decide, by decide⟩
                    have f_2117 : R 3 3 3 := ⟨by decide, by decide⟩
                    refine s_X11_number_v2 0 3 ok_2108.1 (R_w f_2116 (by decide)) (R_w f_2117 (by decide)) (fun r184 h183 ko_2118 f_2120 => ?_)
                    have ok_2119 := Ok_tr ok_2108 ko_2118 (by decide)
                    refine ⟨fun c_2121 => ?_, fun c_2121 => ?_⟩
                    · have f_2122 : R 0 0 0 := ⟨by decide, by decide⟩
                      have f_2123 : R 1 0 l2 := rf_ne_lo f_2000 c_2121 (by decide) 1 rfl
                      exact (R_abs f_2123 (by decide)).elim
                    · have f_2124 : R 0 0 0 := ⟨by decide, by decide⟩
                      refine ⟨fun c_2125 => ?_, fun c_2125 => ?_⟩
                      · have f_2126 : R 0 0 0 := ⟨by decide, by decide⟩
                        have f_2127 : R 0 0 r184 := rf_le_l f_2120 f_2126 c_2125 0 (by decide)
                        have f_2130 : R 86 86 86 := ⟨by decide, by decide⟩
                        have f_2132 : R 4 4 4 := ⟨by decide, by decide⟩
                        have f_2131 : R 0 68 (4 * l1) := R_mul f_2132 fl1 0 68 (by decide)
                        have f_2129 : R 86 154 (86 + (4 * l1)) := R_add f_2130 f_2131 86 154 (by decide)
                        have f_2128 : R 89 157 ((86 + (4 * l1)) + l3) := R_add f_2129 f_1967 89 157 (by decide)
                        refine ⟨vin f_2128 (by decide), ?_⟩
                        have f_2133 : R 0 0 0 := ⟨by decide, by decide⟩
                        have f_2135 : R 1 1 1 := ⟨by decide, by decide⟩
                        have f_2134 : R 4 4 (l3 + 1) := R_add f_1967 f_2135 4 4 (by decide)
                        have f_2136 : R 0 0 0 := ⟨by decide, by decide⟩
                        have ok_2137 := Ok_w ok_2119 (k := 46) (j := ((86 + (4 * l1)) + l3).toNatClampNeg) (v := r184) (lo := (-2147483648)) (hi := 2147483647) (rgg_46_0 (ix_ge f_2128 (by decide)) (ix_le f_2128 (by decide))) (R_w f_2127 (by decide)) (by decide) (nt_k (by decide))
                        have f_2141 : R 0 17 (mI h129 46 (Int32.toNatClampNeg 85)) := Ok_rd ko_1892 (by decide) fi0
                        have f_2140 : R 0 17 (mI h182 46 (Int32.toNatClampNeg 85)) := Ok_rd ko_2107 (by decide) f_2141
                        have f_2139 : R 0 17 (mI h183 46 (Int32.toNatClampNeg 85)) := Ok_rd ko_2118 (by decide) f_2140
                        have f_2138 : R 0 17 (mI (wI h183 46 ((86 + (4 * l1)) + l3).toNatClampNeg r184) 46 (Int32.toNatClampNeg 85)) := rd_nj f_2139 (ix_ne f_2128 (by decide))
                        have g_2142 := gap_inc (N := 4) f_1967 (by decide)
                        exact ih l1 0 (l3 + 1) (wI h183 46 ((86 + (4 * l1)) + l3).toNatClampNeg r184)  ok_2137 (R_w fl1 (by decide)) (R_w f_2133 (by decide)) (R_w f_2134 (by decide)) (R_w f_2138 (by decide)) (by omega)
                      · have f_2143 : R 0 0 0 := ⟨by decide, by decide⟩
                        have f_2144 : R 1 3 r184 := rf_lt_r f_2143 f_2120 (nle c_2125) 1 (by decide)
                        have f_2147 : R 86 86 86 := ⟨by decide, by decide⟩
                        have f_2149 : R 4 4 4 := ⟨by decide, by decide⟩
                        have f_2148 : R 0 68 (4 * l1) := R_mul f_2149 fl1 0 68 (by decide)
                        have f_2146 : R 86 154 (86 + (4 * l1)) := R_add f_2147 f_2148 86 154 (by decide)
                        have f_2145 : R 89 157 ((86 + (4 * l1)) + l3) := R_add f_2146 f_1967 89 157 (by decide)
                        refine ⟨vin f_2145 (by decide), ?_⟩
                        have f_2150 : R 1 1 1 := ⟨by decide, by decide⟩
                        have f_2152 : R 1 1 1 := ⟨by decide, by decide⟩
                        have f_2151 : R 4 4 (l3 + 1) := R_add f_1967 f_2152 4 4 (by decide)
                        have f_2153 : R 0 0 0 := ⟨by decide, by decide⟩
                        have ok_2154 := Ok_w ok_2119 (k := 46) (j := ((86 + (4 * l1)) + l3).toNatClampNeg) (v := r184) (lo := (-2147483648)) (hi := 2147483647) (rgg_46_0 (ix_ge f_2145 (by decide)) (ix_le f_2145 (by decide))) (R_w f_2144 (by decide)) (by decide) (nt_k (by decide))
                        have f_2158 : R 0 17 (mI h129 46 (Int32.toNatClampNeg 85)) := Ok_rd ko_1892 (by decide) fi0
                        have f_2157 : R 0 17 (mI h182 46 (Int32.toNatClampNeg 85)) := Ok_rd ko_2107 (by decide) f_2158
                        have f_2156 : R 0 17 (mI h183 46 (Int32.toNatClampNeg 85)) := Ok_rd ko_2118 (by decide) f_2157
                        have f_2155 : R 0 17 (mI (wI h183 46 ((86 + (4 * l1)) + l3).toNatClampNeg r184) 46 (Int32.toNatClampNeg 85)) := rd_nj f_2156 (ix_ne f_2145 (by decide))
                        have g_2159 := gap_inc (N := 4) f_1967 (by decide)
                        exact ih l1 1 (l3 + 1) (wI h183 46 ((86 + (4 * l1)) + l3).toNatClampNeg r184)  ok_2154 (R_w fl1 (by decide)) (R_w f_2150 (by decide)) (R_w f_2151 (by decide)) (R_w f_2155 (by decide)) (by omega)
          · have f_2160 : R (-2147483648) 2147483647 (mI h129 11 6) := R_full _
            have f_2161 : R 45 45 45 := ⟨by decide, by decide⟩
            have f_2162 : R 45 45 (mI h129 11 6) := rf_eq f_2161 c_1898
            refine s_X11_next ok_1893.1 (fun h194 ko_2163 => ?_)
            have ok_2164 := Ok_tr ok_1893 ko_2163 (by decide)
            refine ⟨fun c_2165 => ?_, fun c_2165 => ?_⟩
            · have f_2166 : R 3 3 3 := ⟨by decide, by decide⟩
              have f_2167 : R 1 2 l3 := rf_ne_hi f_1891 c_2165 (by decide) 2 rfl
              have f_2168 : R 0 0 0 := ⟨by decide, by decide⟩
              have f_2169 : R 3 3 3 := ⟨by decide, by decide⟩
              have f_2170 : R 0 0 0 := ⟨by decide, by decide⟩
              have f_2171 : R 3 3 3 := ⟨by decide, by decide⟩
              have f_2172 : R 0 0 0 := ⟨by decide, by decide⟩
              have f_2173 : R 3 3 3 := ⟨by decide, by decide⟩
              have f_2174 : R 0 0 0 := ⟨by decide, by decide⟩
              have f_2175 : R 3 3 3 := ⟨by decide, by decide⟩
              refine s_X11_number_v2 0 3 ok_2164.1 (R_w f_2174 (by decide)) (R_w f_2175 (by decide)) (fun r198 h197 ko_2176 f_2178 => ?_)
              have ok_2177 := Ok_tr ok_2164 ko_2176 (by decide)
              refine ⟨fun c_2179 => ?_, fun c_2179 => ?_⟩
              · have f_2180 : R 0 0 0 := ⟨by decide, by decide⟩
                have f_2181 : R 1 1 l2 := rf_ne_lo fl2 c_2179 (by decide) 1 rfl
                have f_2184 : R 86 86 86 := ⟨by decide, by decide⟩
                have f_2186 : R 4 4 4 := ⟨by decide, by decide⟩
                have f_2185 : R 0 68 (4 * l1) := R_mul f_2186 fl1 0 68 (by decide)
                have f_2183 : R 86 154 (86 + (4 * l1)) := R_add f_2184 f_2185 86 154 (by decide)
                have f_2182 : R 87 156 ((86 + (4 * l1)) + l3) := R_add f_2183 f_2167 87 156 (by decide)
                refine ⟨vin f_2182 (by decide), ?_⟩
                have f_2187 : R 1 1 1 := ⟨by decide, by decide⟩
                have f_2189 : R 1 1 1 := ⟨by decide, by decide⟩
                have f_2188 : R 2 3 (l3 + 1) := R_add f_2167 f_2189 2 3 (by decide)
                have f_2190 : R (-3) 0 (-r198) := R_neg f_2178 (-3) 0 (by decide)
                have ok_2191 := Ok_w ok_2177 (k := 46) (j := ((86 + (4 * l1)) + l3).toNatClampNeg) (v := (-r198)) (lo := (-2147483648)) (hi := 2147483647) (rgg_46_0 (ix_ge f_2182 (by decide)) (ix_le f_2182 (by decide))) (R_w f_2190 (by decide)) (by decide) (nt_k (by decide))
                have f_2195 : R 0 17 (mI h129 46 (Int32.toNatClampNeg 85)) := Ok_rd ko_1892 (by decide) fi0
                have f_2194 : R 0 17 (mI h194 46 (Int32.toNatClampNeg 85)) := Ok_rd ko_2163 (by decide) f_2195
                have f_2193 : R 0 17 (mI h197 46 (Int32.toNatClampNeg 85)) := Ok_rd ko_2176 (by decide) f_2194
                have f_2192 : R 0 17 (mI (wI h197 46 ((86 + (4 * l1)) + l3).toNatClampNeg (-r198)) 46 (Int32.toNatClampNeg 85)) := rd_nj f_2193 (ix_ne f_2182 (by decide))
                have g_2196 := gap_inc (N := 4) f_2167 (by decide)
                exact ih l1 1 (l3 + 1) (wI h197 46 ((86 + (4 * l1)) + l3).toNatClampNeg (-r198))  ok_2191 (R_w fl1 (by decide)) (R_w f_2187 (by decide)) (R_w f_2188 (by decide)) (R_w f_2192 (by decide)) (by omega)
              · have f_2197 : R 0 0 0 := ⟨by decide, by decide⟩
                have f_2198 : R 0 0 l2 := rf_eq f_2197 c_2179
                refine ⟨fun c_2199 => ?_, fun c_2199 => ?_⟩
                · have f_2200 : R 0 0 0 := ⟨by decide, by decide⟩
                  have f_2201 : R 0 0 r198 := rf_le_l f_2178 f_2200 c_2199 0 (by decide)
                  have f_2204 : R 86 86 86 := ⟨by decide, by decide⟩
                  have f_2206 : R 4 4 4 := ⟨by decide, by decide⟩
                  have f_2205 : R 0 68 (4 * l1) := R_mul f_2206 fl1 0 68 (by decide)
                  have f_2203 : R 86 154 (86 + (4 * l1)) := R_add f_2204 f_2205 86 154 (by decide)
                  have f_2202 : R 87 156 ((86 + (4 * l1)) + l3) := R_add f_2203 f_2167 87 156 (by decide)
                  refine ⟨vin f_2202 (by decide), ?_⟩
                  have f_2207 : R 0 0 0 := ⟨by decide, by decide⟩
                  have f_2209 : R 1 1 1 := ⟨by decide, by decide⟩
                  have f_2208 : R 2 3 (l3 + 1) := R_add f_2167 f_2209 2 3 (by decide)
                  have f_2210 : R 0 0 (-r198) := R_neg f_2201 0 0 (by decide)
                  have ok_2211 := Ok_w ok_2177 (k := 46) (j := ((86 + (4 * l1)) + l3).toNatClampNeg) (v := (-r198)) (lo := (-2147483648)) (hi := 2147483647) (rgg_46_0 (ix_ge f_2202 (by decide)) (ix_le f_2202 (by decide))) (R_w f_2210 (by decide)) (by decide) (nt_k (by decide))
                  have f_2215 : R 0 17 (mI h129 46 (Int32.toNatClampNeg 85)) := Ok_rd ko_1892 (by decide) fi0
                  have f_2214 : R 0 17 (mI h194 46 (Int32.toNatClampNeg 85)) := Ok_rd ko_2163 (by decide) f_2215
                  have f_2213 : R 0 17 (mI h197 46 (Int32.toNatClampNeg 85)) := Ok_rd ko_2176 (by decide) f_2214
                  have f_2212 : R 0 17 (mI (wI h197 46 ((86 + (4 * l1)) + l3).toNatClampNeg (-r198)) 46 (Int32.toNatClampNeg 85)) := rd_nj f_2213 (ix_ne f_2202 (by decide))
                  have g_2216 := gap_inc (N := 4) f_2167 (by decide)
                  exact ih l1 0 (l3 + 1) (wI h197 46 ((86 + (4 * l1)) + l3).toNatClampNeg (-r198))  ok_2211 (R_w fl1 (by decide)) (R_w f_2207 (by decide)) (R_w f_2208 (by decide)) (R_w f_2212 (by decide)) (by omega)
                · have f_2217 : R 0 0 0 := ⟨by decide, by decide⟩
                  have f_2218 : R 1 3 r198 := rf_lt_r f_2217 f_2178 (nle c_2199) 1 (by decide)
                  have f_2221 : R 86 86 86 := ⟨by decide, by decide⟩
                  have f_2223 : R 4 4 4 := ⟨by decide, by decide⟩
                  have f_2222 : R 0 68 (4 * l1) := R_mul f_2223 fl1 0 68 (by decide)
                  have f_2220 : R 86 154 (86 + (4 * l1)) := R_add f_2221 f_2222 86 154 (by decide)
                  have f_2219 : R 87 156 ((86 + (4 * l1)) + l3) := R_add f_2220 f_2167 87 156 (by decide)
                  refine ⟨vin f_2219 (by decide), ?_⟩
                  have f_2224 : R 1 1 1 := ⟨by decide, by decide⟩
                  have f_2226 : R 1 1 1 := ⟨by decide, by decide⟩
                  have f_2225 : R 2 3 (l3 + 1) := R_add f_2167 f_2226 2 3 (by decide)
                  have f_2227 : R (-3) (-1) (-r198) := R_neg f_2218 (-3) (-1) (by decide)
                  have ok_2228 := Ok_w ok_2177 (k := 46) (j := ((86 + (4 * l1)) + l3).toNatClampNeg) (v := (-r198)) (lo := (-2147483648)) (hi := 2147483647) (rgg_46_0 (ix_ge f_2219 (by decide)) (ix_le f_2219 (by decide))) (R_w f_2227 (by decide)) (by decide) (nt_k (by decide))
                  have f_2232 : R 0 17 (mI h129 46 (Int32.toNatClampNeg 85)) := Ok_rd ko_1892 (by decide) fi0
                  have f_2231 : R 0 17 (mI h194 46 (Int32.toNatClampNeg 85)) := Ok_rd ko_2163 (by decide) f_2232
                  have f_2230 : R 0 17 (mI h197 46 (Int32.toNatClampNeg 85)) := Ok_rd ko_2176 (by decide) f_2231
                  have f_2229 : R 0 17 (mI (wI h197 46 ((86 + (4 * l1)) + l3).toNatClampNeg (-r198)) 46 (Int32.toNatClampNeg 85)) := rd_nj f_2230 (ix_ne f_2219 (by decide))
                  have g_2233 := gap_inc (N := 4) f_2167 (by decide)
                  exact ih l1 1 (l3 + 1) (wI h197 46 ((86 + (4 * l1)) + l3).toNatClampNeg (-r198))  ok_2228 (R_w fl1 (by decide)) (R_w f_2224 (by decide)) (R_w f_2225 (by decide)) (R_w f_2229 (by decide)) (by omega)
            · have f_2234 : R 3 3 3 := ⟨by decide, by decide⟩
              have f_2235 : R 3 3 l3 := rf_eq f_2234 c_2165
              refine ⟨fun c_2236 => ?_, fun c_2236 => ?_⟩
              · have f_2237 : R 0 0 0 := ⟨by decide, by decide⟩
                have f_2238 : R 1 1 l2 := rf_ne_lo fl2 c_2236 (by decide) 1 rfl
                have f_2239 : R 0 0 0 := ⟨by decide, by decide⟩
                have f_2240 : R 3 3 3 := ⟨by decide, by decide⟩
                have f_2241 : R 0 0 0 := ⟨by decide, by decide⟩
                have f_2242 : R 3 3 3 := ⟨by decide, by decide⟩
                have f_2243 : R 0 0 0 := ⟨by decide, by decide⟩
                have f_2244 : R 3 3 3 := ⟨by decide, by decide⟩
                have f_2245 : R 0 0 0 := ⟨by decide, by decide⟩
                have f_2246 : R 3 3 3 := ⟨by decide, by decide⟩
                refine s_X11_number_v2 0 3 ok_2164.1 (R_w f_2245 (by decide)) (R_w f_2246 (by decide)) (fun r210 h209 ko_2247 f_2249 => ?_)
                have ok_2248 := Ok_tr ok_2164 ko_2247 (by decide)
                refine ⟨fun c_2250 => ?_, fun c_2250 => ?_⟩
                · have f_2251 : R 0 0 0 := ⟨by decide, by decide⟩
                  have f_2254 : R 86 86 86 := ⟨by decide, by decide⟩
                  have f_2256 : R 4 4 4 := ⟨by decide, by decide⟩
                  have f_2255 : R 0 68 (4 * l1) := R_mul f_2256 fl1 0 68 (by decide)
                  have f_2253 : R 86 154 (86 + (4 * l1)) := R_add f_2254 f_2255 86 154 (by decide)
                  have f_2252 : R 89 157 ((86 + (4 * l1)) + l3) := R_add f_2253 f_2235 89 157 (by decide)
                  refine ⟨vin f_2252 (by decide), ?_⟩
                  have f_2257 : R 1 1 1 := ⟨by decide, by decide⟩
                  have f_2259 : R 1 1 1 := ⟨by decide, by decide⟩
                  have f_2258 : R 4 4 (l3 + 1) := R_add f_2235 f_2259 4 4 (by decide)
                  have f_2260 : R (-3) 0 (-r210) := R_neg f_2249 (-3) 0 (by decide)
                  have ok_2261 := Ok_w ok_2248 (k := 46) (j := ((86 + (4 * l1)) + l3).toNatClampNeg) (v := (-r210)) (lo := (-2147483648)) (hi := 2147483647) (rgg_46_0 (ix_ge f_2252 (by decide)) (ix_le f_2252 (by decide))) (R_w f_2260 (by decide)) (by decide) (nt_k (by decide))
                  have f_2265 : R 0 17 (mI h129 46 (Int32.toNatClampNeg 85)) := Ok_rd ko_1892 (by decide) fi0
                  have f_2264 : R 0 17 (mI h194 46 (Int32.toNatClampNeg 85)) := Ok_rd ko_2163 (by decide) f_2265
                  have f_2263 : R 0 17 (mI h209 46 (Int32.toNatClampNeg 85)) := Ok_rd ko_2247 (by decide) f_2264
                  have f_2262 : R 0 17 (mI (wI h209 46 ((86 + (4 * l1)) + l3).toNatClampNeg (-r210)) 46 (Int32.toNatClampNeg 85)) := rd_nj f_2263 (ix_ne f_2252 (by decide))
                  have g_2266 := gap_inc (N := 4) f_2235 (by decide)
                  exact ih l1 1 (l3 + 1) (wI h209 46 ((86 + (4 * l1)) + l3).toNatClampNeg (-r210))  ok_2261 (R_w fl1 (by decide)) (R_w f_2257 (by decide)) (R_w f_2258 (by decide)) (R_w f_2262 (by decide)) (by omega)
                · have f_2267 : R 0 0 0 := ⟨by decide, by decide⟩
                  have f_2268 : R 0 0 l2 := rf_eq f_2267 c_2250
                  exact (R_abs2 f_2238 f_2268 (by decide)).elim
              · have f_2269 : R 0 0 0 := ⟨by decide, by decide⟩
                have f_2270 : R 0 0 l2 := rf_eq f_2269 c_2236
                refine ⟨fun c_2271 => ?_, fun c_2271 => ?_⟩
                · have f_2272 : R (-2147483648) 2147483647 (mI h194 11 6) := R_full _
                  have f_2273 : R 3 3 3 := ⟨by decide, by decide⟩
                  have f_2274 : R 0 0 0 := ⟨by decide, by decide⟩
                  have f_2275 : R 3 3 3 := ⟨by decide, by decide⟩
                  have f_2276 : R 0 0 0 := ⟨by decide, by decide⟩
                  have f_2277 : R 3 3 3 := ⟨by decide, by decide⟩
                  have f_2278 : R 0 0 0 := ⟨by decide, by decide⟩
                  have f_2279 : R 3 3 3 := ⟨by decide, by decide⟩
                  have f_2280 : R 0 0 0 := ⟨by decide, by decide⟩
                  have f_2281 : R 3 3 3 := ⟨by decide, by decide⟩
                  refine s_X11_number_v2 0 3 ok_2164.1 (R_w f_2280 (by decide)) (R_w f_2281 (by decide)) (fun r222 h221 ko_2282 f_2284 => ?_)
                  have ok_2283 := Ok_tr ok_2164 ko_2282 (by decide)
                  refine ⟨fun c_2285 => ?_, fun c_2285 => ?_⟩
                  · have f_2286 : R 0 0 0 := ⟨by decide, by decide⟩
                    have f_2287 : R 1 0 l2 := rf_ne_lo f_2270 c_2285 (by decide) 1 rfl
                    exact (R_abs f_2287 (by decide)).elim
                  · have f_2288 : R 0 0 0 := ⟨by decide, by decide⟩
                    refine ⟨fun c_2289 => ?_, fun c_2289 => ?_⟩
                    · have f_2290 : R 0 0 0 := ⟨by decide, by decide⟩
                      have f_2291 : R 0 0 r222 := rf_le_l f_2284 f_2290 c_2289 0 (by decide)
                      have f_2294 : R 86 86 86 := ⟨by decide, by decide⟩
                      have f_2296 : R 4 4 4 := ⟨by decide, by decide⟩
                      have f_2295 : R 0 68 (4 * l1) := R_mul f_2296 fl1 0 68 (by decide)
                      have f_2293 : R 86 154 (86 + (4 * l1)) := R_add f_2294 f_2295 86 154 (by decide)
                      have f_2292 : R 89 157 ((86 + (4 * l1)) + l3) := R_add f_2293 f_2235 89 157 (by decide)
                      refine ⟨vin f_2292 (by decide), ?_⟩
                      have f_2297 : R 0 0 0 := ⟨by decide, by decide⟩
                      have f_2299 : R 1 1 1 := ⟨by decide, by decide⟩
                      have f_2298 : R 4 4 (l3 + 1) := R_add f_2235 f_2299 4 4 (by decide)
                      have f_2300 : R 0 0 (-r222) := R_neg f_2291 0 0 (by decide)
                      have ok_2301 := Ok_w ok_2283 (k := 46) (j := ((86 + (4 * l1)) + l3).toNatClampNeg) (v := (-r222)) (lo := (-2147483648)) (hi := 2147483647) (rgg_46_0 (ix_ge f_2292 (by decide)) (ix_le f_2292 (by decide))) (R_w f_2300 (by decide)) (by decide) (nt_k (by decide))
                      have f_2305 : R 0 17 (mI h129 46 (Int32.toNatClampNeg 85)) := Ok_rd ko_1892 (by decide) fi0
                      have f_2304 : R 0 17 (mI h194 46 (Int32.toNatClampNeg 85)) := Ok_rd ko_2163 (by decide) f_2305
                      have f_2303 : R 0 17 (mI h221 46 (Int32.toNatClampNeg 85)) := Ok_rd ko_2282 (by decide) f_2304
                      have f_2302 : R 0 17 (mI (wI h221 46 ((86 + (4 * l1)) + l3).toNatClampNeg (-r222)) 46 (Int32.toNatClampNeg 85)) := rd_nj f_2303 (ix_ne f_2292 (by decide))
                      have g_2306 := gap_inc (N := 4) f_2235 (by decide)
                      exact ih l1 0 (l3 + 1) (wI h221 46 ((86 + (4 * l1)) + l3).toNatClampNeg (-r222))  ok_2301 (R_w fl1 (by decide)) (R_w f_2297 (by decide)) (R_w f_2298 (by decide)) (R_w f_2302 (by decide)) (by omega)
                    · have f_2307 : R 0 0 0 := ⟨by decide, by decide⟩
                      have f_2308 : R 1 3 r222 := rf_lt_r f_2307 f_2284 (nle c_2289) 1 (by decide)
                      have f_2311 : R 86 86 86 := ⟨by decide, by decide⟩
                      have f_2313 : R 4 4 4 := ⟨by decide, by decide⟩
                      have f_2312 : R 0 68 (4 * l1) := R_mul f_2313 fl1 0 68 (by decide)
                      have f_2310 : R 86 154 (86 + (4 * l1)) := R_add f_2311 f_2312 86 154 (by decide)
                      have f_2309 : R 89 157 ((86 + (4 * l1)) + l3) := R_add f_2310 f_2235 89 157 (by decide)
                      refine ⟨vin f_2309 (by decide), ?_⟩
                      have f_2314 : R 1 1 1 := ⟨by decide, by decide⟩
                      have f_2316 : R 1 1 1 := ⟨by decide, by decide⟩
                      have f_2315 : R 4 4 (l3 + 1) := R_add f_2235 f_2316 4 4 (by decide)
                      have f_2317 : R (-3) (-1) (-r222) := R_neg f_2308 (-3) (-1) (by decide)
                      have ok_2318 := Ok_w ok_2283 (k := 46) (j := ((86 + (4 * l1)) + l3).toNatClampNeg) (v := (-r222)) (lo := (-2147483648)) (hi := 2147483647) (rgg_46_0 (ix_ge f_2309 (by decide)) (ix_le f_2309 (by decide))) (R_w f_2317 (by decide)) (by decide) (nt_k (by decide))
                      have f_2322 : R 0 17 (mI h129 46 (Int32.toNatClampNeg 85)) := Ok_rd ko_1892 (by decide) fi0
                      have f_2321 : R 0 17 (mI h194 46 (Int32.toNatClampNeg 85)) := Ok_rd ko_2163 (by decide) f_2322
                      have f_2320 : R 0 17 (mI h221 46 (Int32.toNatClampNeg 85)) := Ok_rd ko_2282 (by decide) f_2321
                      have f_2319 : R 0 17 (mI (wI h221 46 ((86 + (4 * l1)) + l3).toNatClampNeg (-r222)) 46 (Int32.toNatClampNeg 85)) := rd_nj f_2320 (ix_ne f_2309 (by decide))
                      have g_2323 := gap_inc (N := 4) f_2235 (by decide)
                      exact ih l1 1 (l3 + 1) (wI h221 46 ((86 + (4 * l1)) + l3).toNatClampNeg (-r222))  ok_2318 (R_w fl1 (by decide)) (R_w f_2314 (by decide)) (R_w f_2315 (by decide)) (R_w f_2319 (by decide)) (by omega)
                · have f_2324 : R (-2147483648) 2147483647 (mI h194 11 6) := R_full _
                  have f_2325 : R 3 3 3 := ⟨by decide, by decide⟩
                  have f_2326 : R 3 3 (mI h194 11 6) := rf_eq f_2325 c_2271
                  refine ⟨fun c_2327 => ?_, fun c_2327 => ?_⟩
                  · have f_2328 : R (-2147483648) 2147483647 (mI h194 11 7) := R_full _
                    have f_2329 : R 0 0 0 := ⟨by decide, by decide⟩
                    have f_2330 : R 0 0 0 := ⟨by decide, by decide⟩
                    have f_2331 : R 3 3 3 := ⟨by decide, by decide⟩
                    have f_2332 : R 0 0 0 := ⟨by decide, by decide⟩
                    have f_2333 : R 3 3 3 := ⟨by decide, by decide⟩
                    have f_2334 : R 0 0 0 := ⟨by decide, by decide⟩
                    have f_2335 : R 3 3 3 := ⟨by decide, by decide⟩
                    have f_2336 : R 0 0 0 := ⟨by decide, by decide⟩
                    have f_2337 : R 3 3 3 := ⟨by decide, by decide⟩
                    refine s_X11_number_v2 0 3 ok_2164.1 (R_w f_2336 (by decide)) (R_w f_2337 (by decide)) (fun r234 h233 ko_2338 f_2340 => ?_)
                    have ok_2339 := Ok_tr ok_2164 ko_2338 (by decide)
                    refine ⟨fun c_2341 => ?_, fun c_2341 => ?_⟩
                    · have f_2342 : R 0 0 0 := ⟨by decide, by decide⟩
                      have f_2343 : R 1 0 l2 := rf_ne_lo f_2270 c_2341 (by decide) 1 rfl
                      exact (R_abs f_2343 (by decide)).elim
                    · have f_2344 : R 0 0 0 := ⟨by decide, by decide⟩
                      refine ⟨fun c_2345 => ?_, fun c_2345 => ?_⟩
                      · have f_2346 : R 0 0 0 := ⟨by decide, by decide⟩
                        have f_2347 : R 0 0 r234 := rf_le_l f_2340 f_2346 c_2345 0 (by decide)
                        have f_2350 : R 86 86 86 := ⟨by decide, by decide⟩
                        have f_2352 : R 4 4 4 := ⟨by decide, by decide⟩
                        have f_2351 : R 0 68 (4 * l1) := R_mul f_2352 fl1 0 68 (by decide)
                        have f_2349 : R 86 154 (86 + (4 * l1)) := R_add f_2350 f_2351 86 154 (by decide)
                        have f_2348 : R 89 157 ((86 + (4 * l1)) + l3) := R_add f_2349 f_2235 89 157 (by decide)
                        refine ⟨vin f_2348 (by decide), ?_⟩
                        have f_2353 : R 0 0 0 := ⟨by decide, by decide⟩
                        have f_2355 : R 1 1 1 := ⟨by decide, by decide⟩
                        have f_2354 : R 4 4 (l3 + 1) := R_add f_2235 f_2355 4 4 (by decide)
                        have f_2356 : R 0 0 (-r234) := R_neg f_2347 0 0 (by decide)
                        have ok_2357 := Ok_w ok_2339 (k := 46) (j := ((86 + (4 * l1)) + l3).toNatClampNeg) (v := (-r234)) (lo := (-2147483648)) (hi := 2147483647) (rgg_46_0 (ix_ge f_2348 (by decide)) (ix_le f_2348 (by decide))) (R_w f_2356 (by decide)) (by decide) (nt_k (by decide))
                        have f_2361 : R 0 17 (mI h129 46 (Int32.toNatClampNeg 85)) := Ok_rd ko_1892 (by decide) fi0
                        have f_2360 : R 0 17 (mI h194 46 (Int32.toNatClampNeg 85)) := Ok_rd ko_2163 (by decide) f_2361
                        have f_2359 : R 0 17 (mI h233 46 (Int32.toNatClampNeg 85)) := Ok_rd ko_2338 (by decide) f_2360
                        have f_2358 : R 0 17 (mI (wI h233 46 ((86 + (4 * l1)) + l3).toNatClampNeg (-r234)) 46 (Int32.toNatClampNeg 85)) := rd_nj f_2359 (ix_ne f_2348 (by decide))
                        have g_2362 := gap_inc (N := 4) f_2235 (by decide)
                        exact ih l1 0 (l3 + 1) (wI h233 46 ((86 + (4 * l1)) + l3).toNatClampNeg (-r234))  ok_2357 (R_w fl1 (by decide)) (R_w f_2353 (by decide)) (R_w f_2354 (by decide)) (R_w f_2358 (by decide)) (by omega)
                      · have f_2363 : R 0 0 0 := ⟨by decide, by decide⟩
                        have f_2364 : R 1 3 r234 := rf_lt_r f_2363 f_2340 (nle c_2345) 1 (by decide)
                        have f_2367 : R 86 86 86 := ⟨by decide, by decide⟩
                        have f_2369 : R 4 4 4 := ⟨by decide, by decide⟩
                        have f_2368 : R 0 68 (4 * l1) := R_mul f_2369 fl1 0 68 (by decide)
                        have f_2366 : R 86 154 (86 + (4 * l1)) := R_add f_2367 f_2368 86 154 (by decide)
                        have f_2365 : R 89 157 ((86 + (4 * l1)) + l3) := R_add f_2366 f_2235 89 157 (by decide)
                        refine ⟨vin f_2365 (by decide), ?_⟩
                        have f_2370 : R 1 1 1 := ⟨by decide, by decide⟩
                        have f_2372 : R 1 1 1 := ⟨by decide, by decide⟩
                        have f_2371 : R 4 4 (l3 + 1) := R_add f_2235 f_2372 4 4 (by decide)
                        have f_2373 : R (-3) (-1) (-r234) := R_neg f_2364 (-3) (-1) (by decide)
                        have ok_2374 := Ok_w ok_2339 (k := 46) (j := ((86 + (4 * l1)) + l3).toNatClampNeg) (v := (-r234)) (lo := (-2147483648)) (hi := 2147483647) (rgg_46_0 (ix_ge f_2365 (by decide)) (ix_le f_2365 (by decide))) (R_w f_2373 (by decide)) (by decide) (nt_k (by decide))
                        have f_2378 : R 0 17 (mI h129 46 (Int32.toNatClampNeg 85)) := Ok_rd ko_1892 (by decide) fi0
                        have f_2377 : R 0 17 (mI h194 46 (Int32.toNatClampNeg 85)) := Ok_rd ko_2163 (by decide) f_2378
                        have f_2376 : R 0 17 (mI h233 46 (Int32.toNatClampNeg 85)) := Ok_rd ko_2338 (by decide) f_2377
                        have f_2375 : R 0 17 (mI (wI h233 46 ((86 + (4 * l1)) + l3).toNatClampNeg (-r234)) 46 (Int32.toNatClampNeg 85)) := rd_nj f_2376 (ix_ne f_2365 (by decide))
                        have g_2379 := gap_inc (N := 4) f_2235 (by decide)
                        exact ih l1 1 (l3 + 1) (wI h233 46 ((86 + (4 * l1)) + l3).toNatClampNeg (-r234))  ok_2374 (R_w fl1 (by decide)) (R_w f_2370 (by decide)) (R_w f_2371 (by decide)) (R_w f_2375 (by decide)) (by omega)
                  · have f_2380 : R (-2147483648) 2147483647 (mI h194 11 7) := R_full _
                    have f_2381 : R 0 0 0 := ⟨by decide, by decide⟩
                    have f_2382 : R 0 0 (mI h194 11 7) := rf_eq f_2381 c_2327
                    refine s_X11_wrong 4 (mI h194 11 4) ok_2164.1 (fun h244 ko_2383 po_2385 => ?_)
                    have ok_2384 := Ok_tr ok_2164 ko_2383 (by decide)
                    have f_2386 : R 0 0 0 := ⟨by decide, by decide⟩
                    have f_2387 : R 3 3 3 := ⟨by decide, by decide⟩
                    have f_2388 : R 0 0 0 := ⟨by decide, by decide⟩
                    have f_2389 : R 3 3 3 := ⟨by decide, by decide⟩
                    have f_2390 : R 0 0 0 := ⟨by decide, by decide⟩
                    have f_2391 : R 3 3 3 := ⟨by decide, by decide⟩
                    have f_2392 : R 0 0 0 := ⟨by decide, by decide⟩
                    have f_2393 : R 3 3 3 := ⟨by decide, by decide⟩
                    refine s_X11_number_v2 0 3 ok_2384.1 (R_w f_2392 (by decide)) (R_w f_2393 (by decide)) (fun r246 h245 ko_2394 f_2396 => ?_)
                    have ok_2395 := Ok_tr ok_2384 ko_2394 (by decide)
                    refine ⟨fun c_2397 => ?_, fun c_2397 => ?_⟩
                    · have f_2398 : R 0 0 0 := ⟨by decide, by decide⟩
                      have f_2399 : R 1 0 l2 := rf_ne_lo f_2270 c_2397 (by decide) 1 rfl
                      exact (R_abs f_2399 (by decide)).elim
                    · have f_2400 : R 0 0 0 := ⟨by decide, by decide⟩
                      refine ⟨fun c_2401 => ?_, fun c_2401 => ?_⟩
                      · have f_2402 : R 0 0 0 := ⟨by decide, by decide⟩
                        have f_2403 : R 0 0 r246 := rf_le_l f_2396 f_2402 c_2401 0 (by decide)
                        have f_2406 : R 86 86 86 := ⟨by decide, by decide⟩
                        have f_2408 : R 4 4 4 := ⟨by decide, by decide⟩
                        have f_2407 : R 0 68 (4 * l1) := R_mul f_2408 fl1 0 68 (by decide)
                        have f_2405 : R 86 154 (86 + (4 * l1)) := R_add f_2406 f_2407 86 154 (by decide)
                        have f_2404 : R 89 157 ((86 + (4 * l1)) + l3) := R_add f_2405 f_2235 89 157 (by decide)
                        refine ⟨vin f_2404 (by decide), ?_⟩
                        have f_2409 : R 0 0 0 := ⟨by decide, by decide⟩
                        have f_2411 : R 1 1 1 := ⟨by decide, by decide⟩
                        have f_2410 : R 4 4 (l3 + 1) := R_add f_2235 f_2411 4 4 (by decide)
                        have f_2412 : R 0 0 (-r246) := R_neg f_2403 0 0 (by decide)
                        have ok_2413 := Ok_w ok_2395 (k := 46) (j := ((86 + (4 * l1)) + l3).toNatClampNeg) (v := (-r246)) (lo := (-2147483648)) (hi := 2147483647) (rgg_46_0 (ix_ge f_2404 (by decide)) (ix_le f_2404 (by decide))) (R_w f_2412 (by decide)) (by decide) (nt_k (by decide))
                        have f_2418 : R 0 17 (mI h129 46 (Int32.toNatClampNeg 85)) := Ok_rd ko_1892 (by decide) fi0
                        have f_2417 : R 0 17 (mI h194 46 (Int32.toNatClampNeg 85)) := Ok_rd ko_2163 (by decide) f_2418
                        have f_2416 : R 0 17 (mI h244 46 (Int32.toNatClampNeg 85)) := Ok_rd ko_2383 (by decide) f_2417
                        have f_2415 : R 0 17 (mI h245 46 (Int32.toNatClampNeg 85)) := Ok_rd ko_2394 (by decide) f_2416
                        have f_2414 : R 0 17 (mI (wI h245 46 ((86 + (4 * l1)) + l3).toNatClampNeg (-r246)) 46 (Int32.toNatClampNeg 85)) := rd_nj f_2415 (ix_ne f_2404 (by decide))
                        have g_2419 := gap_inc (N := 4) f_2235 (by decide)
                        exact ih l1 0 (l3 + 1) (wI h245 46 ((86 + (4 * l1)) + l3).toNatClampNeg (-r246))  ok_2413 (R_w fl1 (by decide)) (R_w f_2409 (by decide)) (R_w f_2410 (by decide)) (R_w f_2414 (by decide)) (by omega)
                      · have f_2420 : R 0 0 0 := ⟨by decide, by decide⟩
                        have f_2421 : R 1 3 r246 := rf_lt_r f_2420 f_2396 (nle c_2401) 1 (by decide)
                        have f_2424 : R 86 86 86 := ⟨by decide, by decide⟩
                        have f_2426 : R 4 4 4 := ⟨by decide, by decide⟩
                        have f_2425 : R 0 68 (4 * l1) := R_mul f_2426 fl1 0 68 (by decide)
                        have f_2423 : R 86 154 (86 + (4 * l1)) := R_add f_2424 f_2425 86 154 (by decide)
                        have f_2422 : R 89 157 ((86 + (4 * l1)) + l3) := R_add f_2423 f_2235 89 157 (by decide)
                        refine ⟨vin f_2422 (by decide), ?_⟩
                        have f_2427 : R 1 1 1 := ⟨by decide, by decide⟩
                        have f_2429 : R 1 1 1 := ⟨by decide, by decide⟩
                        have f_2428 : R 4 4 (l3 + 1) := R_add f_2235 f_2429 4 4 (by decide)
                        have f_2430 : R (-3) (-1) (-r246) := R_neg f_2421 (-3) (-1) (by decide)
                        have ok_2431 := Ok_w ok_2395 (k := 46) (j := ((86 + (4 * l1)) + l3).toNatClampNeg) (v := (-r246)) (lo := (-2147483648)) (hi := 2147483647) (rgg_46_0 (ix_ge f_2422 (by decide)) (ix_le f_2422 (by decide))) (R_w f_2430 (by decide)) (by decide) (nt_k (by decide))
                        have f_2436 : R 0 17 (mI h129 46 (Int32.toNatClampNeg 85)) := Ok_rd ko_1892 (by decide) fi0
                        have f_2435 : R 0 17 (mI h194 46 (Int32.toNatClampNeg 85)) := Ok_rd ko_2163 (by decide) f_2436
                        have f_2434 : R 0 17 (mI h244 46 (Int32.toNatClampNeg 85)) := Ok_rd ko_2383 (by decide) f_2435
                        have f_2433 : R 0 17 (mI h245 46 (Int32.toNatClampNeg 85)) := Ok_rd ko_2394 (by decide) f_2434
                        have f_2432 : R 0 17 (mI (wI h245 46 ((86 + (4 * l1)) + l3).toNatClampNeg (-r246)) 46 (Int32.toNatClampNeg 85)) := rd_nj f_2433 (ix_ne f_2422 (by decide))
                        have g_2437 := gap_inc (N := 4) f_2235 (by decide)
                        exact ih l1 1 (l3 + 1) (wI h245 46 ((86 + (4 * l1)) + l3).toNatClampNeg (-r246))  ok_2431 (R_w fl1 (by decide)) (R_w f_2427 (by decide)) (R_w f_2428 (by decide)) (R_w f_2432 (by decide)) (by omega)
        · have f_2438 : R 0 1 (mI h129 11 13) := GI_rd ok_1893.1 11 _ (by decide)
          have f_2439 : R 0 0 0 := ⟨by decide, by decide⟩
          have f_2440 : R 1 1 (mI h129 11 13) := rf_ne_lo f_2438 c_1894 (by decide) 1 rfl
          exact hp _ ok_1893
set_option maxRecDepth 100000 in
set_option maxHeartbeats 4000000 in
theorem s_X11_rayLine_v0 {g : gT} {h : mh_T} {P : mh_T → Prop}  (hG : GI h) (fi0 : R 0 17 (mI h 46 (Int32.toNatClampNeg 85))) (hp : ∀ h', Ok [11, 44, 46] h h' → P h') : MCv g yX11_rayLine uX11_rayLine [.ref 11] h P := by
  have ok : Ok [11, 44, 46] h h := Ok_rf hG
  have L0 := s_X11_rayLine_v0_L (g := g) hG hp 5
  refine e_X11_rayLine   ?_
  refine ⟨fun c_2441 => ?_, fun c_2441 => ?_⟩
  · have f_2442 : R 0 1 (mI h 11 13) := GI_rd ok.1 11 _ (by decide)
    have f_2443 : R 0 0 0 := ⟨by decide, by decide⟩
    have f_2444 : R 0 0 (mI h 11 13) := rf_eq f_2443 c_2441
    intro x2 ex2
    have f_2445 : R 0 17 x2 := rf_eq fi0 ex2
    have f_2446 : R 0 0 0 := ⟨by decide, by decide⟩
    have f_2447 : R 0 0 0 := ⟨by decide, by decide⟩
    have f_2448 : R 0 0 0 := ⟨by decide, by decide⟩
    have g_2449 := gap_le (N := 4) f_2448 (m := 4) (by decide)
    exact L0 x2 0 0 h  ok (R_w f_2445 (by decide)) (R_w f_2446 (by decide)) (R_w f_2447 (by decide)) (R_w fi0 (by decide)) (by omega)
  · have f_2450 : R 0 1 (mI h 11 13) := GI_rd ok.1 11 _ (by decide)
    have f_2451 : R 0 0 0 := ⟨by decide, by decide⟩
    have f_2452 : R 1 1 (mI h 11 13) := rf_ne_lo f_2450 c_2441 (by decide) 1 rfl
    exact hp _ ok
set_option maxRecDepth 100000 in
set_option maxHeartbeats 4000000 in
theorem s_X11_rayLine_v1 {g : gT} {h : mh_T} {P : mh_T → Prop}  (hG : GI h) (fi0 : R 1 1 (mI h 11 13)) (hp : ∀ h', Ok [11, 44, 46] h h' → P h') : MCv g yX11_rayLine uX11_rayLine [.ref 11] h P := by
  have ok : Ok [11, 44, 46] h h := Ok_rf hG
  refine e_X11_rayLine   ?_
  refine ⟨fun c_5 => ?_, fun c_5 => ?_⟩
  · have f_6 : R 0 0 0 := ⟨by decide, by decide⟩
    have f_7 : R 0 0 (mI h 11 13) := rf_eq f_6 c_5
    exact (R_abs2 fi0 f_7 (by decide)).elim
  · have f_8 : R 0 0 0 := ⟨by decide, by decide⟩
    exact hp _ ok
