set_option maxRecDepth 100000 in
set_option maxHeartbeats 4000000 in
theorem s_X11_times {g : gT} {h : mh_T} {P : Int32 → mh_T → Prop} (l1 : Int32) (l2 : Int32) (hG : GI h)  (hp : ∀ (r : Int32) h', Ok [300, 11] h h' → ¬ mI h' 11 11 = 4 → P r h') : MCi g yX11_times uX11_times [.ref 11, .int l1, .int l2] h P := by
  have ok : Ok [300, 11] h h := Ok_rf hG
  refine e_X11_times l1 l2  ?_
  refine s_X11_good ok.1 (fun h1 ko_22 t4 => ?_)
  have ok_23 := Ok_tr ok ko_22 (by decide)
  have hp : ∀ (r : Int32) h', Ok [300, 11] h1 h' → P r h' := fun r h' k => hp r h' (Ok_tr ok_23 k (by decide)) (k.2.2.2.2.2.2.1 t4)
  have ok_23 : Ok [300, 11] h1 h1 := Ok_rf ok_23.1
  refine s_X11_isOutcome l1 l2 ok_23.1 (fun r3 f_25 im_24 => ?_)
  refine ⟨fun c_26 => ?_, fun c_26 => ?_⟩
  · have f_27 : R 0 0 0 := ⟨by decide, by decide⟩
    have f_28 : R 0 0 r3 := rf_eq f_27 c_26
    refine s_X11_no 1 ok_23.1 (fun r6 h5 ko_29 f_31 => ?_)
    have ok_30 := Ok_tr ok_23 ko_29 (by decide)
    exact hp _ _ ok_30 
  · have f_32 : R 0 0 0 := ⟨by decide, by decide⟩
    have f_33 := (im_24 c_26).1
    have f_34 := (im_24 c_26).2
    have f_35 : R 1 1 r3 := rf_ne_lo f_25 c_26 (by decide) 1 rfl
    have f_38 : R 17 17 17 := ⟨by decide, by decide⟩
    have f_40 : R 4 4 4 := ⟨by decide, by decide⟩
    have f_39 : R 0 28 (4 * l1) := R_mul f_40 f_33 0 28 (by decide)
    have f_37 : R 17 45 (17 + (4 * l1)) := R_add f_38 f_39 17 45 (by decide)
    have f_36 : R 17 48 ((17 + (4 * l1)) + l2) := R_add f_37 f_34 17 48 (by decide)
    refine ⟨vin f_36 (by decide), ?_⟩
    have f_42 : R (-2147483648) 2147483647 (mI h 45 ((17 + (4 * l1)) + l2).toNatClampNeg) := R_full _
    have f_41 : R (-2147483648) 2147483647 (mI h1 45 ((17 + (4 * l1)) + l2).toNatClampNeg) := Ok_rd ko_22 (by decide) f_42
    exact hp _ _ ok_23 
set_option maxRecDepth 100000 in
set_option maxHeartbeats 4000000 in
theorem s_X11_look {g : gT} {h : mh_T} {P : Int32 → mh_T → Prop} (l1 : Int32) (l2 : Int32) (hG : GI h)  (hp : ∀ (r : Int32) h', Ok [300, 11] h h' → R (-2) 5 r → ¬ mI h' 11 11 = 4 → P r h') : MCi g yX11_look uX11_look [.ref 11, .int l1, .int l2] h P := by
  have ok : Ok [300, 11] h h := Ok_rf hG
  refine e_X11_look l1 l2  ?_
  refine s_X11_good ok.1 (fun h1 ko_27 t4 => ?_)
  have ok_28 := Ok_tr ok ko_27 (by decide)
  have hp : ∀ (r : Int32) h', Ok [300, 11] h1 h' → R (-2) 5 r → P r h' := fun r h' k x0 => hp r h' (Ok_tr ok_28 k (by decide)) x0 (k.2.2.2.2.2.2.1 t4)
  have ok_28 : Ok [300, 11] h1 h1 := Ok_rf ok_28.1
  refine s_X11_isSet l1 ok_28.1 (fun r3 f_30 im_29 => ?_)
  refine ⟨fun c_31 => ?_, fun c_31 => ?_⟩
  · have f_32 : R 0 0 0 := ⟨by decide, by decide⟩
    have f_33 : R 0 0 r3 := rf_eq f_32 c_31
    refine s_X11_no 1 ok_28.1 (fun r6 h5 ko_34 f_36 => ?_)
    have ok_35 := Ok_tr ok_28 ko_34 (by decide)
    exact hp _ _ ok_35 (R_w f_36 (by decide))
  · have f_37 : R 0 0 0 := ⟨by decide, by decide⟩
    have f_38 := (im_29 c_31).1
    have f_39 := (im_29 c_31).2
    have f_40 : R 1 1 r3 := rf_ne_lo f_30 c_31 (by decide) 1 rfl
    refine ⟨fun c_41 => ?_, fun c_41 => ?_⟩
    · have f_42 : R 0 0 0 := ⟨by decide, by decide⟩
      have f_43 : R 0 0 l2 := rf_eq f_42 c_41
      have f_45 : R 1 1 1 := ⟨by decide, by decide⟩
      have f_44 : R 1 8 (1 + l1) := R_add f_45 f_38 1 8 (by decide)
      refine ⟨vin f_44 (by decide), ?_⟩
      have f_47 : R (-1) 5 (mI h 45 (1 + l1).toNatClampNeg) := GI_rd ok.1 45 _ (rgp_45_1 (ix_ge f_44 (by decide)) (ix_le f_44 (by decide)))
      have f_46 : R (-1) 5 (mI h1 45 (1 + l1).toNatClampNeg) := Ok_rd ko_27 (by decide) f_47
      exact hp _ _ ok_28 (R_w f_46 (by decide))
    · have f_48 : R 0 0 0 := ⟨by decide, by decide⟩
      have f_50 : R 9 9 9 := ⟨by decide, by decide⟩
      have f_49 : R 9 16 (9 + l1) := R_add f_50 f_38 9 16 (by decide)
      refine ⟨vin f_49 (by decide), ?_⟩
      have f_52 : R (-2) 5 (mI h 45 (9 + l1).toNatClampNeg) := GI_rd ok.1 45 _ (rgp_45_2 (ix_ge f_49 (by decide)) (ix_le f_49 (by decide)))
      have f_51 : R (-2) 5 (mI h1 45 (9 + l1).toNatClampNeg) := Ok_rd ko_27 (by decide) f_52
      exact hp _ _ ok_28 (R_w f_51 (by decide))
set_option maxRecDepth 100000 in
set_option maxHeartbeats 4000000 in
theorem s_X11_coins {g : gT} {h : mh_T} {P : Int32 → mh_T → Prop} (l1 : Int32) (l2 : Int32) (hG : GI h)  (hp : ∀ (r : Int32) h', Ok [300, 11] h h' → ¬ mI h' 11 11 = 4 → P r h') : MCi g yX11_coins uX11_coins [.ref 11, .int l1, .int l2] h P := by
  have ok : Ok [300, 11] h h := Ok_rf hG
  refine e_X11_coins l1 l2  ?_
  refine s_X11_good ok.1 (fun h1 ko_20 t4 => ?_)
  have ok_21 := Ok_tr ok ko_20 (by decide)
  have hp : ∀ (r : Int32) h', Ok [300, 11] h1 h' → P r h' := fun r h' k => hp r h' (Ok_tr ok_21 k (by decide)) (k.2.2.2.2.2.2.1 t4)
  have ok_21 : Ok [300, 11] h1 h1 := Ok_rf ok_21.1
  refine s_X11_isOutcome l1 l2 ok_21.1 (fun r3 f_23 im_22 => ?_)
  refine ⟨fun c_24 => ?_, fun c_24 => ?_⟩
  · have f_25 : R 0 0 0 := ⟨by decide, by decide⟩
    have f_26 : R 0 0 r3 := rf_eq f_25 c_24
    refine s_X11_no 1 ok_21.1 (fun r6 h5 ko_27 f_29 => ?_)
    have ok_28 := Ok_tr ok_21 ko_27 (by decide)
    exact hp _ _ ok_28 
  · have f_30 : R 0 0 0 := ⟨by decide, by decide⟩
    have f_31 := (im_22 c_24).1
    have f_32 := (im_22 c_24).2
    have f_33 : R 1 1 r3 := rf_ne_lo f_23 c_24 (by decide) 1 rfl
    have f_36 : R 4 4 4 := ⟨by decide, by decide⟩
    have f_35 : R 0 28 (4 * l1) := R_mul f_36 f_31 0 28 (by decide)
    have f_34 : R 0 31 ((4 * l1) + l2) := R_add f_35 f_32 0 31 (by decide)
    refine ⟨vin f_34 (by decide), ?_⟩
    have f_38 : R (-2147483648) 2147483647 (mI h 47 ((4 * l1) + l2).toNatClampNeg) := R_full _
    have f_37 : R (-2147483648) 2147483647 (mI h1 47 ((4 * l1) + l2).toNatClampNeg) := Ok_rd ko_20 (by decide) f_38
    exact hp _ _ ok_21 
set_option maxRecDepth 100000 in
set_option maxHeartbeats 4000000 in
theorem s_X11_led_L {g : gT} {h0 : mh_T} {P : Int32 → mh_T → Prop} (hG0 : GI h0) (hp : ∀ (r : Int32) h', Ok [11] h0 h' → R 0 31 r → P r h') : ∀ n : Nat, (∀ (l1 : Int32) (l2 : Int32) (l3 : Int32) (h : mh_T), Ok [11] h0 h → R (-2147483648) 2147483647 l1 → R (-2147483648) 2147483647 l2 → R 0 8 l3 → 6 * gap 8 l3 + 5 < n → ME g uX11_led 4 [.ref 11, .int l1, .int l2, .int l3, .retAddr 0] [] h (qI P)) ∧ (∀ (l1 : Int32) (l2 : Int32) (l3 : Int32) (l4 : Int32) (h : mh_T), Ok [11] h0 h → R (-2147483648) 2147483647 l1 → R (-2147483648) 2147483647 l2 → R 0 7 l3 → R 0 4 l4 → 1 * gap 4 l4 + 6 * gap 8 l3 + 0 < n → ME g uX11_led 24 [.ref 11, .int l1, .int l2, .int l3, .int l4] [] h (qI P)) := by
  intro n
  induction n with
  | zero =>
    exact ⟨(fun _ _ _ _ _ _ _ _ hm => absurd hm (Nat.not_lt_zero _)), (fun _ _ _ _ _ _ _ _ _ _ hm => absurd hm (Nat.not_lt_zero _))⟩
  | succ n ih =>
    refine ⟨?_, ?_⟩
    · intro l1 l2 l3 h  ok fl1 fl2 fl3     hm
      refine r_X11_led_4 l1 l2 l3  ?_
      refine ⟨fun c_3208 => ?_, fun c_3208 => ?_⟩
      · have f_3209 : R 0 1 (mI h 11 14) := GI_rd ok.1 11 _ (by decide)
        have f_3210 : R 0 0 0 := ⟨by decide, by decide⟩
        have f_3211 : R 0 0 (mI h 11 14) := rf_eq f_3210 c_3208
        have f_3212 : R 1 1 1 := ⟨by decide, by decide⟩
        have ok_3213 := Ok_w ok (k := 11) (j := 0) (v := 1) (lo := (-2147483648)) (hi := 2147483647) (by decide) (R_w f_3212 (by decide)) (by decide) (by decide)
        have f_3214 : R 0 0 0 := ⟨by decide, by decide⟩
        exact hp _ _ ok_3213 (R_w f_3214 (by decide))
      · have f_3215 : R 0 1 (mI h 11 14) := GI_rd ok.1 11 _ (by decide)
        have f_3216 : R 0 0 0 := ⟨by decide, by decide⟩
        have f_3217 : R 1 1 (mI h 11 14) := rf_ne_lo f_3215 c_3208 (by decide) 1 rfl
        refine ⟨fun c_3218 => ?_, fun c_3218 => ?_⟩
        · have f_3219 : R 0 8 (mI h 45 (Int32.toNatClampNeg 0)) := GI_rd ok.1 45 _ (by decide)
          have f_3220 : R 1 1 1 := ⟨by decide, by decide⟩
          have ok_3221 := Ok_w ok (k := 11) (j := 0) (v := 1) (lo := (-2147483648)) (hi := 2147483647) (by decide) (R_w f_3220 (by decide)) (by decide) (by decide)
          have f_3222 : R 0 0 0 := ⟨by decide, by decide⟩
          exact hp _ _ ok_3221 (R_w f_3222 (by decide))
        · have f_3223 : R 0 8 (mI h 45 (Int32.toNatClampNeg 0)) := GI_rd ok.1 45 _ (by decide)
          have f_3224 : R 0 7 l3 := rf_lt_l fl3 f_3223 (nle c_3218) 7 (by decide)
          have f_3225 : R 1 8 (mI h 45 (Int32.toNatClampNeg 0)) := rf_lt_r fl3 f_3223 (nle c_3218) 1 (by decide)
          have f_3226 : R 0 0 0 := ⟨by decide, by decide⟩
          have f_3227 : R 0 0 0 := ⟨by decide, by decide⟩
          have g_3228 := gap_le (N := 4) f_3227 (m := 4) (by decide)
          exact (ih.2) l1 l2 l3 0 h  ok (R_w fl1 (by decide)) (R_w fl2 (by decide)) (R_w f_3224 (by decide)) (R_w f_3226 (by decide)) (by omega)
    · intro l1 l2 l3 l4 h  ok fl1 fl2 fl3 fl4     hm
      refine r_X11_led_24 l1 l2 l3 l4  ?_
      refine s_X11_outcomes l3 ok.1 (R_w fl3 (by decide)) (fun r2 f_3229 => ?_)
      refine ⟨fun c_3230 => ?_, fun c_3230 => ?_⟩
      · have f_3231 : R 2 4 l4 := rf_le_r f_3229 fl4 c_3230 2 (by decide)
        have f_3233 : R 1 1 1 := ⟨by decide, by decide⟩
        have f_3232 : R 1 8 (l3 + 1) := R_add fl3 f_3233 1 8 (by decide)
        have g_3234 := gap_inc (N := 8) fl3 (by decide)
        exact (ih.1) l1 l2 (l3 + 1) h  ok (R_w fl1 (by decide)) (R_w fl2 (by decide)) (R_w f_3232 (by decide)) (by omega)
      · have f_3235 : R 0 3 l4 := rf_lt_l fl4 f_3229 (nle c_3230) 3 (by decide)
        have f_3238 : R 17 17 17 := ⟨by decide, by decide⟩
        have f_3240 : R 4 4 4 := ⟨by decide, by decide⟩
        have f_3239 : R 0 28 (4 * l3) := R_mul f_3240 fl3 0 28 (by decide)
        have f_3237 : R 17 45 (17 + (4 * l3)) := R_add f_3238 f_3239 17 45 (by decide)
        have f_3236 : R 17 48 ((17 + (4 * l3)) + l4) := R_add f_3237 f_3235 17 48 (by decide)
        refine ⟨vin f_3236 (by decide), ?_⟩
        refine ⟨fun c_3241 => ?_, fun c_3241 => ?_⟩
        · have f_3242 : R (-2147483648) 2147483647 (mI h 45 ((17 + (4 * l3)) + l4).toNatClampNeg) := R_full _
          have f_3243 : R 0 0 0 := ⟨by decide, by decide⟩
          have f_3244 : R 0 0 (mI h 45 ((17 + (4 * l3)) + l4).toNatClampNeg) := rf_eq f_3243 c_3241
          have f_3246 : R 1 1 1 := ⟨by decide, by decide⟩
          have f_3245 : R 1 4 (l4 + 1) := R_add f_3235 f_3246 1 4 (by decide)
          have g_3247 := gap_inc (N := 4) f_3235 (by decide)
          exact (ih.2) l1 l2 l3 (l4 + 1) h  ok (R_w fl1 (by decide)) (R_w fl2 (by decide)) (R_w fl3 (by decide)) (R_w f_3245 (by decide)) (by omega)
        · have f_3248 : R (-2147483648) 2147483647 (mI h 45 ((17 + (4 * l3)) + l4).toNatClampNeg) := R_full _
          have f_3249 : R 0 0 0 := ⟨by decide, by decide⟩
          refine s_X11_doesExtend l3 l4 ok.1 (R_w fl3 (by decide)) (fun r7 f_3250 => ?_)
          refine ⟨fun c_3251 => ?_, fun c_3251 => ?_⟩
          · have f_3252 : R 0 0 0 := ⟨by decide, by decide⟩
            have f_3253 : R 0 0 r7 := rf_eq f_3252 c_3251
            refine ⟨fun c_3254 => ?_, fun c_3254 => ?_⟩
            · have f_3256 : R 1 1 1 := ⟨by decide, by decide⟩
              have f_3255 : R (-2147483648) 2147483647 (l2 + 1) := R_full _
              have f_3258 : R 1 1 1 := ⟨by decide, by decide⟩
              have f_3257 : R 1 4 (l4 + 1) := R_add f_3235 f_3258 1 4 (by decide)
              have g_3259 := gap_inc (N := 4) f_3235 (by decide)
              exact (ih.2) l1 (l2 + 1) l3 (l4 + 1) h  ok (R_w fl1 (by decide)) (R_w f_3255 (by decide)) (R_w fl3 (by decide)) (R_w f_3257 (by decide)) (by omega)
            · have f_3260 : R 0 0 0 := ⟨by decide, by decide⟩
              have ok_3261 := Ok_w ok (k := 11) (j := 0) (v := 0) (lo := (-2147483648)) (hi := 2147483647) (by decide) (R_w f_3260 (by decide)) (by decide) (by decide)
              have f_3262 : R 0 31 ((4 * l3) + l4) := R_add f_3239 f_3235 0 31 (by decide)
              exact hp _ _ ok_3261 (R_w f_3262 (by decide))
          · have f_3263 : R 0 0 0 := ⟨by decide, by decide⟩
            have f_3264 : R 1 1 r7 := rf_ne_lo f_3250 c_3251 (by decide) 1 rfl
            have f_3266 : R 1 1 1 := ⟨by decide, by decide⟩
            have f_3265 : R 1 4 (l4 + 1) := R_add f_3235 f_3266 1 4 (by decide)
            have g_3267 := gap_inc (N := 4) f_3235 (by decide)
            exact (ih.2) l1 l2 l3 (l4 + 1) h  ok (R_w fl1 (by decide)) (R_w fl2 (by decide)) (R_w fl3 (by decide)) (R_w f_3265 (by decide)) (by omega)
set_option maxRecDepth 100000 in
set_option maxHeartbeats 4000000 in
theorem s_X11_led {g : gT} {h : mh_T} {P : Int32 → mh_T → Prop} (l1 : Int32) (hG : GI h)  (hp : ∀ (r : Int32) h', Ok [11] h h' → R 0 31 r → P r h') : MCi g yX11_led uX11_led [.ref 11, .int l1] h P := by
  have ok : Ok [11] h h := Ok_rf hG
  have L0 := s_X11_led_L (g := g) hG hp 54
  refine e_X11_led l1  ?_
  have f_3268 : R 0 0 0 := ⟨by decide, by decide⟩
  have f_3269 : R 0 0 0 := ⟨by decide, by decide⟩
  have f_3270 : R 0 0 0 := ⟨by decide, by decide⟩
  have g_3271 := gap_le (N := 8) f_3270 (m := 8) (by decide)
  exact (L0.1) l1 0 0 h  ok (R_w (R_full l1) (by decide)) (R_w f_3268 (by decide)) (R_w f_3269 (by decide)) (by omega)
set_option maxRecDepth 100000 in
set_option maxHeartbeats 4000000 in
theorem s_X11_size {g : gT} {h : mh_T} {P : Int32 → mh_T → Prop} (l1 : Int32) (hG : GI h)  (hp : ∀ (r : Int32) h', Ok [11] h h' → R (-1) 900 r → P r h') : MCi g yX11_size uX11_size [.ref 11, .int l1] h P := by
  have ok : Ok [11] h h := Ok_rf hG
  refine e_X11_size l1  ?_
  refine ⟨fun c_76 => ?_, fun c_76 => ?_⟩
  · have f_77 : R 10 10 10 := ⟨by decide, by decide⟩
    refine ⟨fun c_78 => ?_, fun c_78 => ?_⟩
    · have f_80 : R 0 1 (mI h 11 14) := GI_rd ok.1 11 _ (by decide)
      have f_79 : R 0 1 (mI (wI h 11 0 0) 11 14) := (rd_nj f_80 (by decide))
      have f_81 : R 0 0 0 := ⟨by decide, by decide⟩
      have f_82 : R 1 1 (mI (wI h 11 0 0) 11 14) := rf_ne_lo f_79 c_78 (by decide) 1 rfl
      refine ⟨fun c => ?_, fun c => ?_, fun c => ?_, fun c => ?_, fun c => ?_, fun c => ?_, fun c => ?_, fun c => ?_, fun c => ?_, fun c => ?_, fun c => ?_⟩
      · have f_83 : R 0 0 0 := ⟨by decide, by decide⟩
        have ok_84 := Ok_w ok (k := 11) (j := 0) (v := 0) (lo := (-2147483648)) (hi := 2147483647) (by decide) (R_w f_83 (by decide)) (by decide) (by decide)
        have f_85 : R (-1) (-1) (-1) := ⟨by decide, by decide⟩
        exact hp _ _ ok_84 (R_w f_85 (by decide))
      · have f_86 : R 0 0 0 := ⟨by decide, by decide⟩
        have ok_87 := Ok_w ok (k := 11) (j := 0) (v := 0) (lo := (-2147483648)) (hi := 2147483647) (by decide) (R_w f_86 (by decide)) (by decide) (by decide)
        have f_89 : R 0 6 (mI h 45 (Int32.toNatClampNeg 50)) := GI_rd ok.1 45 _ (by decide)
        have f_88 : R 0 6 (mI (wI h 11 0 0) 45 (Int32.toNatClampNeg 50)) := (rd_ne f_89 (by decide))
        exact hp _ _ ok_87 (R_w f_88 (by decide))
      · have f_90 : R 0 0 0 := ⟨by decide, by decide⟩
        have ok_91 := Ok_w ok (k := 11) (j := 0) (v := 0) (lo := (-2147483648)) (hi := 2147483647) (by decide) (R_w f_90 (by decide)) (by decide) (by decide)
        have f_93 : R 0 9 (mI h 45 (Int32.toNatClampNeg 51)) := GI_rd ok.1 45 _ (by decide)
        have f_92 : R 0 9 (mI (wI h 11 0 0) 45 (Int32.toNatClampNeg 51)) := (rd_ne f_93 (by decide))
        exact hp _ _ ok_91 (R_w f_92 (by decide))
      · have f_94 : R 0 0 0 := ⟨by decide, by decide⟩
        have ok_95 := Ok_w ok (k := 11) (j := 0) (v := 0) (lo := (-2147483648)) (hi := 2147483647) (by decide) (R_w f_94 (by decide)) (by decide) (by decide)
        have f_97 : R 0 8 (mI h 45 (Int32.toNatClampNeg 0)) := GI_rd ok.1 45 _ (by decide)
        have f_96 : R 0 8 (mI (wI h 11 0 0) 45 (Int32.toNatClampNeg 0)) := (rd_ne f_97 (by decide))
        exact hp _ _ ok_95 (R_w f_96 (by decide))
      · have f_98 : R 0 0 0 := ⟨by decide, by decide⟩
        have ok_99 := Ok_w ok (k := 11) (j := 0) (v := 0) (lo := (-2147483648)) (hi := 2147483647) (by decide) (R_w f_98 (by decide)) (by decide) (by decide)
        have f_101 : R 0 8 (mI h 45 (Int32.toNatClampNeg 52)) := GI_rd ok.1 45 _ (by decide)
        have f_100 : R 0 8 (mI (wI h 11 0 0) 45 (Int32.toNatClampNeg 52)) := (rd_ne f_101 (by decide))
        exact hp _ _ ok_99 (R_w f_100 (by decide))
      · have f_102 : R 0 0 0 := ⟨by decide, by decide⟩
        have ok_103 := Ok_w ok (k := 11) (j := 0) (v := 0) (lo := (-2147483648)) (hi := 2147483647) (by decide) (R_w f_102 (by decide)) (by decide) (by decide)
        have f_105 : R 0 18 (mI h 45 (Int32.toNatClampNeg 85)) := GI_rd ok.1 45 _ (by decide)
        have f_104 : R 0 18 (mI (wI h 11 0 0) 45 (Int32.toNatClampNeg 85)) := (rd_ne f_105 (by decide))
        exact hp _ _ ok_103 (R_w f_104 (by decide))
      · have f_106 : R 0 0 0 := ⟨by decide, by decide⟩
        have ok_107 := Ok_w ok (k := 11) (j := 0) (v := 0) (lo := (-2147483648)) (hi := 2147483647) (by decide) (R_w f_106 (by decide)) (by decide) (by decide)
        have f_109 : R 0 4 (mI h 45 (Int32.toNatClampNeg 158)) := GI_rd ok.1 45 _ (by decide)
        have f_108 : R 0 4 (mI (wI h 11 0 0) 45 (Int32.toNatClampNeg 158)) := (rd_ne f_109 (by decide))
        exact hp _ _ ok_107 (R_w f_108 (by decide))
      · have f_110 : R 0 0 0 := ⟨by decide, by decide⟩
        have ok_111 := Ok_w ok (k := 11) (j := 0) (v := 0) (lo := (-2147483648)) (hi := 2147483647) (by decide) (R_w f_110 (by decide)) (by decide) (by decide)
        have f_113 : R 0 60 (mI h 45 (Int32.toNatClampNeg 49)) := GI_rd ok.1 45 _ (by decide)
        have f_112 : R 0 60 (mI (wI h 11 0 0) 45 (Int32.toNatClampNeg 49)) := (rd_ne f_113 (by decide))
        exact hp _ _ ok_111 (R_w f_112 (by decide))
      · have f_114 : R 0 0 0 := ⟨by decide, by decide⟩
        have ok_115 := Ok_w ok (k := 11) (j := 0) (v := 0) (lo := (-2147483648)) (hi := 2147483647) (by decide) (R_w f_114 (by decide)) (by decide) (by decide)
        have f_117 : R 0 20 (mI h 11 24) := GI_rd ok.1 11 _ (by decide)
        have f_116 : R 0 20 (mI (wI h 11 0 0) 11 24) := (rd_nj f_117 (by decide))
        exact hp _ _ ok_115 (R_w f_116 (by decide))
      · have f_118 : R 0 0 0 := ⟨by decide, by decide⟩
        have ok_119 := Ok_w ok (k := 11) (j := 0) (v := 0) (lo := (-2147483648)) (hi := 2147483647) (by decide) (R_w f_118 (by decide)) (by decide) (by decide)
        have f_121 : R 0 20 (mI h 11 25) := GI_rd ok.1 11 _ (by decide)
        have f_120 : R 0 20 (mI (wI h 11 0 0) 11 25) := (rd_nj f_121 (by decide))
        exact hp _ _ ok_119 (R_w f_120 (by decide))
      · have f_122 : R 0 0 0 := ⟨by decide, by decide⟩
        have ok_123 := Ok_w ok (k := 11) (j := 0) (v := 0) (lo := (-2147483648)) (hi := 2147483647) (by decide) (R_w f_122 (by decide)) (by decide) (by decide)
        have f_125 : R 0 4 (mI h 11 26) := GI_rd ok.1 11 _ (by decide)
        have f_124 : R 0 4 (mI (wI h 11 0 0) 11 26) := (rd_nj f_125 (by decide))
        exact hp _ _ ok_123 (R_w f_124 (by decide))
    · have f_127 : R 0 1 (mI h 11 14) := GI_rd ok.1 11 _ (by decide)
      have f_126 : R 0 1 (mI (wI h 11 0 0) 11 14) := (rd_nj f_127 (by decide))
      have f_128 : R 0 0 0 := ⟨by decide, by decide⟩
      have f_129 : R 0 0 (mI (wI h 11 0 0) 11 14) := rf_eq f_128 c_78
      have f_130 : R 0 0 0 := ⟨by decide, by decide⟩
      have ok_131 := Ok_w ok (k := 11) (j := 0) (v := 0) (lo := (-2147483648)) (hi := 2147483647) (by decide) (R_w f_130 (by decide)) (by decide) (by decide)
      refine s_X11_within l1 0 9 ok_131.1 (fun r5 f_133 im_132 => ?_)
      refine ⟨fun c_134 => ?_, fun c_134 => ?_⟩
      · have f_135 : R 0 0 0 := ⟨by decide, by decide⟩
        have f_136 : R 0 0 r5 := rf_eq f_135 c_134
        have f_137 : R (-1) (-1) (-1) := ⟨by decide, by decide⟩
        exact hp _ _ ok_131 (R_w f_137 (by decide))
      · have f_138 : R 0 0 0 := ⟨by decide, by decide⟩
        have f_139 : R 0 0 0 := ⟨by decide, by decide⟩
        have f_140 : R 0 2147483647 l1 := rf_le_r f_139 (R_full l1) (im_132 c_134).1 0 (by decide)
        have f_141 : R 9 9 9 := ⟨by decide, by decide⟩
        have f_142 : R 0 9 l1 := rf_le_l f_140 f_141 (im_132 c_134).2 9 (by decide)
        have f_143 : R 1 1 r5 := rf_ne_lo f_133 c_134 (by decide) 1 rfl
        have f_144 : R 0 0 0 := ⟨by decide, by decide⟩
        exact hp _ _ ok_131 (R_w f_144 (by decide))
  · have f_145 : R 10 10 10 := ⟨by decide, by decide⟩
    have f_146 : R 10 10 l1 := rf_eq f_145 c_76
    have f_147 : R 0 0 0 := ⟨by decide, by decide⟩
    have ok_148 := Ok_w ok (k := 11) (j := 0) (v := 0) (lo := (-2147483648)) (hi := 2147483647) (by decide) (R_w f_147 (by decide)) (by decide) (by decide)
    have f_150 : R 0 900 (mI h 11 2) := GI_rd ok.1 11 _ (by decide)
    have f_149 : R 0 900 (mI (wI h 11 0 0) 11 2) := (rd_nj f_150 (by decide))
    exact hp _ _ ok_148 (R_w f_149 (by decide))
set_option maxRecDepth 100000 in
set_option maxHeartbeats 4000000 in
theorem s_X11_trouble {g : gT} {h : mh_T} {P : Int32 → mh_T → Prop}  (hG : GI h)  (hp : ∀ (r : Int32) h', Ok [11] h h' → P r h') : MCi g yX11_trouble uX11_trouble [.ref 11] h P := by
  have ok : Ok [11] h h := Ok_rf hG
  refine e_X11_trouble   ?_
  have f_5 : R 0 0 0 := ⟨by decide, by decide⟩
  have ok_6 := Ok_w ok (k := 11) (j := 0) (v := 0) (lo := (-2147483648)) (hi := 2147483647) (by decide) (R_w f_5 (by decide)) (by decide) (by decide)
  have f_8 : R (-2147483648) 2147483647 (mI h 11 11) := R_full _
  have f_7 : R (-2147483648) 2147483647 (mI (wI h 11 0 0) 11 11) := (rd_nj f_8 (by decide))
  exact hp _ _ ok_6 
