set_option maxRecDepth 100000 in
set_option maxHeartbeats 4000000 in
theorem s_X11_corners {g : gT} {h : mh_T} {P : Int32 → mh_T → Prop}  (hG : GI h)  (hp : ∀ (r : Int32) h', Ok [11, 56, 57] h h' → R (-1) 3060 r → P r h') : MCi g yX11_corners uX11_corners [.ref 11] h P := by
  have ok : Ok [11, 56, 57] h h := Ok_rf hG
  refine e_X11_corners   ?_
  refine s_X11_good ok.1 (fun h1 ko_16 => ?_)
  have ok_17 := Ok_tr ok ko_16 (by decide)
  refine ⟨fun c_18 => ?_, fun c_18 => ?_⟩
  · have f_19 : R 0 1 (mI h1 11 14) := GI_rd ok_17.1 11 _ (by decide)
    have f_20 : R 0 0 0 := ⟨by decide, by decide⟩
    have f_21 : R 1 1 (mI h1 11 14) := rf_ne_lo f_19 c_18 (by decide) 1 rfl
    refine s_X11_layCorners ok_17.1 (fun h3 ko_22 => ?_)
    have ok_23 := Ok_tr ok_17 ko_22 (by decide)
    have f_24 : R 0 3060 (mI h3 11 34) := GI_rd ok_23.1 11 _ (by decide)
    exact hp _ _ ok_23 (R_w f_24 (by decide))
  · have f_25 : R 0 1 (mI h1 11 14) := GI_rd ok_17.1 11 _ (by decide)
    have f_26 : R 0 0 0 := ⟨by decide, by decide⟩
    have f_27 : R 0 0 (mI h1 11 14) := rf_eq f_26 c_18
    refine s_X11_no 1 ok_17.1 (fun r5 h4 ko_28 f_30 => ?_)
    have ok_29 := Ok_tr ok_17 ko_28 (by decide)
    exact hp _ _ ok_29 (R_w f_30 (by decide))
set_option maxRecDepth 100000 in
set_option maxHeartbeats 4000000 in
theorem s_X11_isSoFar_L {g : gT} {h0 : mh_T} {P : Int32 → mh_T → Prop} (hG0 : GI h0) (hp : ∀ r : Int32, R 0 1 r → P r h0) : ∀ n : Nat, (∀ (l1 : Int32) (l2 : Int32) (l3 : Int32) (l4 : Int32) (l5 : Int32), R (-2147483648) 2147483647 l1 → R (-2147483648) 2147483647 l2 → R (-2147483648) 2147483647 l3 → R 0 1 l4 → R 0 3060 l5 → 1 * gap 3060 l5 + 0 < n → ME g uX11_isSoFar 6 [.ref 11, .int l1, .int l2, .int l3, .int l4, .int l5, .retAddr 0, .retAddr 0] [] h0 (qI P)) := by
  intro n
  induction n with
  | zero =>
    exact (fun _ _ _ _ _ _ _ _ _ _ hm => absurd hm (Nat.not_lt_zero _))
  | succ n ih =>
    intro l1 l2 l3 l4 l5  fl1 fl2 fl3 fl4 fl5     hm
    have ok : Ok [] h0 h0 := Ok_rf hG0
    refine r_X11_isSoFar_6 l1 l2 l3 l4 l5  ?_
    refine ⟨fun c_2746 => ?_, fun c_2746 => ?_⟩
    · have f_2747 : R 0 3060 (mI h0 11 34) := GI_rd ok.1 11 _ (by decide)
      exact ⟨R_z (R_w fl4 (by decide)), hp _ (R_w fl4 (by decide))⟩
    · have f_2748 : R 0 3060 (mI h0 11 34) := GI_rd ok.1 11 _ (by decide)
      have f_2749 : R 0 3059 l5 := rf_lt_l fl5 f_2748 (nle c_2746) 3059 (by decide)
      have f_2750 : R 1 3060 (mI h0 11 34) := rf_lt_r fl5 f_2748 (nle c_2746) 1 (by decide)
      refine ⟨fun c_2751 => ?_, fun c_2751 => ?_⟩
      · have f_2752 : R 0 0 0 := ⟨by decide, by decide⟩
        have f_2753 : R 0 0 l4 := rf_eq f_2752 c_2751
        exact ⟨R_z (R_w f_2753 (by decide)), hp _ (R_w f_2753 (by decide))⟩
      · have f_2754 : R 0 0 0 := ⟨by decide, by decide⟩
        have f_2755 : R 1 1 l4 := rf_ne_lo fl4 c_2751 (by decide) 1 rfl
        refine ⟨vin f_2749 (by decide), ?_⟩
        intro x4 ex4
        have f_2756 : R (-2147483648) 2147483647 (mI h0 56 l5.toNatClampNeg) := R_full _
        have f_2757 : R (-2147483648) 2147483647 x4 := rf_eq f_2756 ex4
        refine ⟨fun c_2758 => ?_, fun c_2758 => ?_⟩
        · have f_2760 : R (-2147483648) 2147483647 (l1 ^^^ (-1)) := R_full _
          have f_2759 : R (-2147483648) 2147483647 (x4 &&& (l1 ^^^ (-1))) := R_full _
          have f_2761 : R 0 0 0 := ⟨by decide, by decide⟩
          have f_2762 : R 0 0 (x4 &&& (l1 ^^^ (-1))) := rf_eq f_2761 c_2758
          refine s_X11_bits (x4 &&& l2) ok.1 (fun r7 => ?_)
          refine ⟨fun c_2763 => ?_, fun c_2763 => ?_⟩
          · have f_2764 : R (-2147483648) 2147483647 r7 := R_full _
            have f_2765 : R 2 2 2 := ⟨by decide, by decide⟩
            have f_2766 : R 2 2147483647 r7 := rf_le_r f_2765 f_2764 c_2763 2 (by decide)
            have f_2767 : R 0 0 0 := ⟨by decide, by decide⟩
            have f_2769 : R 1 1 1 := ⟨by decide, by decide⟩
            have f_2768 : R 1 3060 (l5 + 1) := R_add f_2749 f_2769 1 3060 (by decide)
            have g_2770 := gap_inc (N := 3060) f_2749 (by decide)
            exact ih l1 l2 l3 0 (l5 + 1)  (R_w fl1 (by decide)) (R_w fl2 (by decide)) (R_w fl3 (by decide)) (R_w f_2767 (by decide)) (R_w f_2768 (by decide)) (by omega)
          · have f_2771 : R (-2147483648) 2147483647 r7 := R_full _
            have f_2772 : R 2 2 2 := ⟨by decide, by decide⟩
            have f_2773 : R (-2147483648) 1 r7 := rf_lt_l f_2771 f_2772 (nle c_2763) 1 (by decide)
            refine ⟨fun c_2774 => ?_, fun c_2774 => ?_⟩
            · have f_2776 : R (-2147483648) 2147483647 (l3 ^^^ (-1)) := R_full _
              have f_2775 : R (-2147483648) 2147483647 (x4 &&& (l3 ^^^ (-1))) := R_full _
              have f_2777 : R 0 0 0 := ⟨by decide, by decide⟩
              have f_2778 : R 1 1 1 := ⟨by decide, by decide⟩
              have f_2780 : R 1 1 1 := ⟨by decide, by decide⟩
              have f_2779 : R 1 3060 (l5 + 1) := R_add f_2749 f_2780 1 3060 (by decide)
              have g_2781 := gap_inc (N := 3060) f_2749 (by decide)
              exact ih l1 l2 l3 1 (l5 + 1)  (R_w fl1 (by decide)) (R_w fl2 (by decide)) (R_w fl3 (by decide)) (R_w f_2778 (by decide)) (R_w f_2779 (by decide)) (by omega)
            · have f_2783 : R (-2147483648) 2147483647 (l3 ^^^ (-1)) := R_full _
              have f_2782 : R (-2147483648) 2147483647 (x4 &&& (l3 ^^^ (-1))) := R_full _
              have f_2784 : R 0 0 0 := ⟨by decide, by decide⟩
              have f_2785 : R 0 0 (x4 &&& (l3 ^^^ (-1))) := rf_eq f_2784 c_2774
              refine ⟨fun c_2786 => ?_, fun c_2786 => ?_⟩
              · have f_2787 : R 1 1 1 := ⟨by decide, by decide⟩
                have f_2788 : R (-2147483648) 0 r7 := rf_ne_hi f_2773 c_2786 (by decide) 0 rfl
                have f_2789 : R 0 0 0 := ⟨by decide, by decide⟩
                have f_2791 : R 1 1 1 := ⟨by decide, by decide⟩
                have f_2790 : R 1 3060 (l5 + 1) := R_add f_2749 f_2791 1 3060 (by decide)
                have g_2792 := gap_inc (N := 3060) f_2749 (by decide)
                exact ih l1 l2 l3 0 (l5 + 1)  (R_w fl1 (by decide)) (R_w fl2 (by decide)) (R_w fl3 (by decide)) (R_w f_2789 (by decide)) (R_w f_2790 (by decide)) (by omega)
              · have f_2793 : R 1 1 1 := ⟨by decide, by decide⟩
                have f_2794 : R 1 1 r7 := rf_eq f_2793 c_2786
                have f_2795 : R 1 1 1 := ⟨by decide, by decide⟩
                have f_2797 : R 1 1 1 := ⟨by decide, by decide⟩
                have f_2796 : R 1 3060 (l5 + 1) := R_add f_2749 f_2797 1 3060 (by decide)
                have g_2798 := gap_inc (N := 3060) f_2749 (by decide)
                exact ih l1 l2 l3 1 (l5 + 1)  (R_w fl1 (by decide)) (R_w fl2 (by decide)) (R_w fl3 (by decide)) (R_w f_2795 (by decide)) (R_w f_2796 (by decide)) (by omega)
        · have f_2800 : R (-2147483648) 2147483647 (l1 ^^^ (-1)) := R_full _
          have f_2799 : R (-2147483648) 2147483647 (x4 &&& (l1 ^^^ (-1))) := R_full _
          have f_2801 : R 0 0 0 := ⟨by decide, by decide⟩
          have f_2803 : R 1 1 1 := ⟨by decide, by decide⟩
          have f_2802 : R 1 3060 (l5 + 1) := R_add f_2749 f_2803 1 3060 (by decide)
          have g_2804 := gap_inc (N := 3060) f_2749 (by decide)
          exact ih l1 l2 l3 l4 (l5 + 1)  (R_w fl1 (by decide)) (R_w fl2 (by decide)) (R_w fl3 (by decide)) (R_w f_2755 (by decide)) (R_w f_2802 (by decide)) (by omega)
set_option maxRecDepth 100000 in
set_option maxHeartbeats 4000000 in
theorem s_X11_isSoFar {g : gT} {h : mh_T} {P : Int32 → mh_T → Prop} (l1 : Int32) (l2 : Int32) (l3 : Int32) (hG : GI h)  (hp : ∀ r : Int32, R 0 1 r → P r h) : MCi g yX11_isSoFar uX11_isSoFar [.ref 11, .int l1, .int l2, .int l3] h P := by
  have ok : Ok [] h h := Ok_rf hG
  have L0 := s_X11_isSoFar_L (g := g) hG hp 3061
  refine e_X11_isSoFar l1 l2 l3  ?_
  have f_2805 : R 1 1 1 := ⟨by decide, by decide⟩
  have f_2806 : R 0 0 0 := ⟨by decide, by decide⟩
  have f_2807 : R 0 0 0 := ⟨by decide, by decide⟩
  have g_2808 := gap_le (N := 3060) f_2807 (m := 3060) (by decide)
  exact L0 l1 l2 l3 1 0  (R_w (R_full l1) (by decide)) (R_w (R_full l2) (by decide)) (R_w (R_full l3) (by decide)) (R_w f_2805 (by decide)) (R_w f_2806 (by decide)) (by omega)
set_option maxRecDepth 100000 in
set_option maxHeartbeats 4000000 in
theorem s_X11_allRays {g : gT} {h : mh_T} {P : Int32 → mh_T → Prop}  (hG : GI h)  (hp : ∀ r : Int32, R 0 262143 r → P r h) : MCi g yX11_allRays uX11_allRays [.ref 11] h P := by
  have ok : Ok [] h h := Ok_rf hG
  refine e_X11_allRays   ?_
  have f_7 : R 0 18 (mI h 45 (Int32.toNatClampNeg 85)) := GI_rd ok.1 45 _ (by decide)
  have f_6 : R 1 262144 (1 <<< ((mI h 45 (Int32.toNatClampNeg 85)) &&& 31)) := R_shl f_7 1 262144 0 18 (by decide)
  have f_8 : R 1 1 1 := ⟨by decide, by decide⟩
  have f_5 : R 0 262143 ((1 <<< ((mI h 45 (Int32.toNatClampNeg 85)) &&& 31)) - 1) := R_sub f_6 f_8 0 262143 (by decide)
  exact hp _ (R_w f_5 (by decide))
set_option maxRecDepth 100000 in
set_option maxHeartbeats 4000000 in
theorem s_X11_goesAway_L {g : gT} {h0 : mh_T} {P : mh_T → Prop} (hG0 : GI h0) (hp : ∀ h', Ok [45, 47] h0 h' → P h') : ∀ n : Nat, (∀ (l1 : Int32) (l2 : Int32) (h : mh_T), Ok [45, 47] h0 h → R 0 7 l1 → R 0 7 l2 → R 1 8 (mI h 45 (Int32.toNatClampNeg 0)) → 6 * gap 7 l2 + 10 < n → ME g uX11_goesAway 2 [.ref 11, .int l1, .int l2, .retAddr 0] [] h (qV P)) ∧ (∀ (l1 : Int32) (l2 : Int32) (l3 : Int32) (h : mh_T), Ok [45, 47] h0 h → R 0 7 l1 → R 0 6 l2 → R 0 4 l3 → R 1 8 (mI h 45 (Int32.toNatClampNeg 0)) → 1 * gap 4 l3 + 6 * gap 7 l2 + 5 < n → ME g uX11_goesAway 54 [.ref 11, .int l1, .int l2, .int l3] [] h (qV P)) ∧ (∀ (l1 : Int32) (l2 : Int32) (l3 : Int32) (h : mh_T), Ok [45, 47] h0 h → R 0 7 l1 → R 0 7 l2 → R 0 4 l3 → 1 * gap 4 l3 + 0 < n → ME g uX11_goesAway 159 [.ref 11, .int l1, .int l2, .int l3] [] h (qV P)) := by
  intro n
  induction n with
  | zero =>
    exact ⟨(fun _ _ _ _ _ _ _ hm => absurd hm (Nat.not_lt_zero _)), (fun _ _ _ _ _ _ _ _ _ hm => absurd hm (Nat.not_lt_zero _)), (fun _ _ _ _ _ _ _ _ hm => absurd hm (Nat.not_lt_zero _))⟩
  | succ n ih =>
    refine ⟨?_, ?_, ?_⟩
    · intro l1 l2 h  ok fl1 fl2 fi0    hm
      refine r_X11_goesAway_2 l1 l2  ?_
      refine ⟨fun c_311 => ?_, fun c_311 => ?_⟩
      · have f_313 : R 1 1 1 := ⟨by decide, by decide⟩
        have f_312 : R 1 8 (l2 + 1) := R_add fl2 f_313 1 8 (by decide)
        intro x2 ex2
        have f_316 : R 1 1 1 := ⟨by decide, by decide⟩
        have f_315 : R 0 7 ((mI h 45 (Int32.toNatClampNeg 0)) - 1) := R_sub fi0 f_316 0 7 (by decide)
        have f_314 : R 0 7 (mI (wI h 45 (Int32.toNatClampNeg 0) ((mI h 45 (Int32.toNatClampNeg 0)) - 1)) 45 (Int32.toNatClampNeg 0)) := (rd_eq f_315)
        have f_317 : R 0 7 x2 := rf_eq f_314 ex2
        have f_319 : R 1 1 1 := ⟨by decide, by decide⟩
        have f_318 : R 1 8 (1 + x2) := R_add f_319 f_317 1 8 (by decide)
        refine ⟨vin f_318 (by decide), ?_⟩
        have f_321 : R 9 9 9 := ⟨by decide, by decide⟩
        have f_320 : R 9 16 (9 + x2) := R_add f_321 f_317 9 16 (by decide)
        refine ⟨vin f_320 (by decide), ?_⟩
        have f_322 : R 0 0 0 := ⟨by decide, by decide⟩
        have ok_323 := Ok_w ok (k := 45) (j := (Int32.toNatClampNeg 0)) (v := ((mI h 45 (Int32.toNatClampNeg 0)) - 1)) (lo := 0) (hi := 8) (by decide) (R_w f_315 (by decide)) (by decide) (by decide)
        have f_324 : R 0 0 0 := ⟨by decide, by decide⟩
        have ok_325 := Ok_w ok_323 (k := 45) (j := (1 + x2).toNatClampNeg) (v := 0) (lo := 0) (hi := 5) (rgp_45_1 (ix_ge f_318 (by decide)) (ix_le f_318 (by decide))) (R_w f_324 (by decide)) (by decide) (nt_k (by decide))
        have f_326 : R 0 0 0 := ⟨by decide, by decide⟩
        have ok_327 := Ok_w ok_325 (k := 45) (j := (9 + x2).toNatClampNeg) (v := 0) (lo := (-2)) (hi := 5) (rgp_45_2 (ix_ge f_320 (by decide)) (ix_le f_320 (by decide))) (R_w f_326 (by decide)) (by decide) (nt_k (by decide))
        have f_328 : R 0 0 0 := ⟨by decide, by decide⟩
        have g_329 := gap_le (N := 4) f_328 (m := 4) (by decide)
        exact (ih.2.2) l1 x2 0 (wI (wI (wI h 45 (Int32.toNatClampNeg 0) ((mI h 45 (Int32.toNatClampNeg 0)) - 1)) 45 (1 + x2).toNatClampNeg 0) 45 (9 + x2).toNatClampNeg 0)  ok_327 (R_w fl1 (by decide)) (R_w f_317 (by decide)) (R_w f_322 (by decide)) (by omega)
      · have f_331 : R 1 1 1 := ⟨by decide, by decide⟩
        have f_330 : R 1 8 (l2 + 1) := R_add fl2 f_331 1 8 (by decide)
        have f_332 : R 1 7 (l2 + 1) := rf_lt_l f_330 fi0 (nle c_311) 7 (by decide)
        have f_333 : R 0 6 l2 := R_up1 fl2 f_332 0 6 (by decide)
        have f_334 : R 2 8 (mI h 45 (Int32.toNatClampNeg 0)) := rf_lt_r f_330 fi0 (nle c_311) 2 (by decide)
        have f_337 : R 1 1 1 := ⟨by decide, by decide⟩
        have f_336 : R 1 7 (1 + l2) := R_add f_337 f_333 1 7 (by decide)
        have f_338 : R 1 1 1 := ⟨by decide, by decide⟩
        have f_335 : R 2 8 ((1 + l2) + 1) := R_add f_336 f_338 2 8 (by decide)
        refine ⟨vin f_335 (by decide), ?_⟩
        refine ⟨vin f_336 (by decide), ?_⟩
        have f_341 : R 9 9 9 := ⟨by decide, by decide⟩
        have f_340 : R 9 15 (9 + l2) := R_add f_341 f_333 9 15 (by decide)
        have f_342 : R 1 1 1 := ⟨by decide, by decide⟩
        have f_339 : R 10 16 ((9 + l2) + 1) := R_add f_340 f_342 10 16 (by decide)
        refine ⟨vin f_339 (by decide), ?_⟩
        refine ⟨vin f_340 (by decide), ?_⟩
        have f_343 : R 0 0 0 := ⟨by decide, by decide⟩
        have f_344 : R 0 5 (mI h 45 ((1 + l2) + 1).toNatClampNeg) := GI_rd ok.1 45 _ (rgp_45_1 (ix_ge f_335 (by decide)) (ix_le f_335 (by decide)))
        have ok_345 := Ok_w ok (k := 45) (j := (1 + l2).toNatClampNeg) (v := (mI h 45 ((1 + l2) + 1).toNatClampNeg)) (lo := 0) (hi := 5) (rgp_45_1 (ix_ge f_336 (by decide)) (ix_le f_336 (by decide))) f_344 (by decide) (nt_k (by decide))
        have f_346 : R (-2) 5 (mI (wI h 45 (1 + l2).toNatClampNeg (mI h 45 ((1 + l2) + 1).toNatClampNeg)) 45 ((9 + l2) + 1).toNatClampNeg) := GI_rd ok_345.1 45 _ (rgp_45_2 (ix_ge f_339 (by decide)) (ix_le f_339 (by decide)))
        have ok_347 := Ok_w ok_345 (k := 45) (j := (9 + l2).toNatClampNeg) (v := (mI (wI h 45 (1 + l2).toNatClampNeg (mI h 45 ((1 + l2) + 1).toNatClampNeg)) 45 ((9 + l2) + 1).toNatClampNeg)) (lo := (-2)) (hi := 5) (rgp_45_2 (ix_ge f_340 (by decide)) (ix_le f_340 (by decide))) f_346 (by decide) (nt_k (by decide))
        have f_349 : R 2 8 (mI (wI h 45 (1 + l2).toNatClampNeg (mI h 45 ((1 + l2) + 1).toNatClampNeg)) 45 (Int32.toNatClampNeg 0)) := rd_nj f_334 (ix_ne f_336 (by decide))
        have f_348 : R 2 8 (mI (wI (wI h 45 (1 + l2).toNatClampNeg (mI h 45 ((1 + l2) + 1).toNatClampNeg)) 45 (9 + l2).toNatClampNeg (mI (wI h 45 (1 + l2).toNatClampNeg (mI h 45 ((1 + l2) + 1).toNatClampNeg)) 45 ((9 + l2) + 1).toNatClampNeg)) 45 (Int32.toNatClampNeg 0)) := rd_nj f_349 (ix_ne f_340 (by decide))
        have f_350 : R 0 0 0 := ⟨by decide, by decide⟩
        have g_351 := gap_le (N := 4) f_350 (m := 4) (by decide)
        exact (ih.2.1) l1 l2 0 (wI (wI h 45 (1 + l2).toNatClampNeg (mI h 45 ((1 + l2) + 1).toNatClampNeg)) 45 (9 + l2).toNatClampNeg (mI (wI h 45 (1 + l2).toNatClampNeg (mI h 45 ((1 + l2) + 1).toNatClampNeg)) 45 ((9 + l2) + 1).toNatClampNeg))  ok_347 (R_w fl1 (by decide)) (R_w f_333 (by decide)) (R_w f_343 (by decide)) (R_w f_348 (by decide)) (by omega)
    · intro l1 l2 l3 h  ok fl1 fl2 fl3 fi0    hm
      refine r_X11_goesAway_54 l1 l2 l3  ?_
      refine ⟨fun c_352 => ?_, fun c_352 => ?_⟩
      · have f_353 : R 4 4 4 := ⟨by decide, by decide⟩
        have f_354 : R 4 4 l3 := rf_le_r f_353 fl3 c_352 4 (by decide)
        have f_356 : R 1 1 1 := ⟨by decide, by decide⟩
        have f_355 : R 1 7 (l2 + 1) := R_add fl2 f_356 1 7 (by decide)
        have g_357 := gap_inc (N := 7) fl2 (by decide)
        exact (ih.1) l1 (l2 + 1) h  ok (R_w fl1 (by decide)) (R_w f_355 (by decide)) (R_w fi0 (by decide)) (by omega)
      · have f_358 : R 4 4 4 := ⟨by decide, by decide⟩
        have f_359 : R 0 3 l3 := rf_lt_l fl3 f_358 (nle c_352) 3 (by decide)
        have f_363 : R 17 17 17 := ⟨by decide, by decide⟩
        have f_365 : R 4 4 4 := ⟨by decide, by decide⟩
        have f_364 : R 0 24 (4 * l2) := R_mul f_365 fl2 0 24 (by decide)
        have f_362 : R 17 41 (17 + (4 * l2)) := R_add f_363 f_364 17 41 (by decide)
        have f_366 : R 4 4 4 := ⟨by decide, by decide⟩
        have f_361 : R 21 45 ((17 + (4 * l2)) + 4) := R_add f_362 f_366 21 45 (by decide)
        have f_360 : R 21 48 (((17 + (4 * l2)) + 4) + l3) := R_add f_361 f_359 21 48 (by decide)
        refine ⟨vin f_360 (by decide), ?_⟩
        have f_367 : R 17 44 ((17 + (4 * l2)) + l3) := R_add f_362 f_359 17 44 (by decide)
        refine ⟨vin f_367 (by decide), ?_⟩
        have f_370 : R 4 4 4 := ⟨by decide, by decide⟩
        have f_369 : R 4 28 ((4 * l2) + 4) := R_add f_364 f_370 4 28 (by decide)
        have f_368 : R 4 31 (((4 * l2) + 4) + l3) := R_add f_369 f_359 4 31 (by decide)
        refine ⟨vin f_368 (by decide), ?_⟩
        have f_371 : R 0 27 ((4 * l2) + l3) := R_add f_364 f_359 0 27 (by decide)
        refine ⟨vin f_371 (by decide), ?_⟩
        have f_373 : R 1 1 1 := ⟨by decide, by decide⟩
        have f_372 : R 1 4 (l3 + 1) := R_add f_359 f_373 1 4 (by decide)
        have f_374 : R (-2147483648) 2147483647 (mI h 45 (((17 + (4 * l2)) + 4) + l3).toNatClampNeg) := R_full _
        have ok_375 := Ok_w ok (k := 45) (j := ((17 + (4 * l2)) + l3).toNatClampNeg) (v := (mI h 45 (((17 + (4 * l2)) + 4) + l3).toNatClampNeg)) (lo := (-2147483648)) (hi := 2147483647) (rgg_45_0 (ix_ge f_367 (by decide)) (ix_le f_367 (by decide))) f_374 (by decide) (nt_k (by decide))
        have f_377 : R (-2147483648) 2147483647 (mI h 47 (((4 * l2) + 4) + l3).toNatClampNeg) := R_full _
        have f_376 : R (-2147483648) 2147483647 (mI (wI h 45 ((17 + (4 * l2)) + l3).toNatClampNeg (mI h 45 (((17 + (4 * l2)) + 4) + l3).toNatClampNeg)) 47 (((4 * l2) + 4) + l3).toNatClampNeg) := (rd_ne f_377 (by decide))
        have ok_378 := Ok_w ok_375 (k := 47) (j := ((4 * l2) + l3).toNatClampNeg) (v := (mI (wI h 45 ((17 + (4 * l2)) + l3).toNatClampNeg (mI h 45 (((17 + (4 * l2)) + 4) + l3).toNatClampNeg)) 47 (((4 * l2) + 4) + l3).toNatClampNeg)) (lo := (-2147483648)) (hi := 2147483647) (rgc_47 _) f_376 (by decide) (nt_k (by decide))
        have f_380 : R 1 8 (mI (wI h 45 ((17 + (4 * l2)) + l3).toNatClampNeg (mI h 45 (((17 + (4 * l2)) + 4) + l3).toNatClampNeg)) 45 (Int32.toNatClampNeg 0)) := rd_nj fi0 (ix_ne f_367 (by decide))
        have f_379 : R 1 8 (mI (wI (wI h 45 ((17 + (4 * l2)) + l3).toNatClampNeg (mI h 45 (((17 + (4 * l2)) + 4) + l3).toNatClampNeg)) 47 ((4 * l2) + l3).toNatClampNeg (mI (wI h 45 ((17 + (4 * l2)) + l3).toNatClampNeg (mI h 45 (((17 + (4 * l2)) + 4) + l3).toNatClampNeg)) 47 (((4 * l2) + 4) + l3).toNatClampNeg)) 45 (Int32.toNatClampNeg 0)) := (rd_ne f_380 (by decide))
        have g_381 := gap_inc (N := 4) f_359 (by decide)
        exact (ih.2.1) l1 l2 (l3 + 1) (wI (wI h 45 ((17 + (4 * l2)) + l3).toNatClampNeg (mI h 45 (((17 + (4 * l2)) + 4) + l3).toNatClampNeg)) 47 ((4 * l2) + l3).toNatClampNeg (mI (wI h 45 ((17 + (4 * l2)) + l3).toNatClampNeg (mI h 45 (((17 + (4 * l2)) + 4) + l3).toNatClampNeg)) 47 (((4 * l2) + 4) + l3).toNatClampNeg))  ok_378 (R_w fl1 (by decide)) (R_w fl2 (by decide)) (R_w f_372 (by decide)) (R_w f_379 (by decide)) (by omega)
    · intro l1 l2 l3 h  ok fl1 fl2 fl3     hm
      refine r_X11_goesAway_159 l1 l2 l3  ?_
      refine ⟨fun c_382 => ?_, fun c_382 => ?_⟩
      · have f_383 : R 4 4 4 := ⟨by decide, by decide⟩
        have f_384 : R 4 4 l3 := rf_le_r f_383 fl3 c_382 4 (by decide)
        exact hp _ ok
      · have f_385 : R 4 4 4 := ⟨by decide, by decide⟩
        have f_386 : R 0 3 l3 := rf_lt_l fl3 f_385 (nle c_382) 3 (by decide)
        have f_389 : R 17 17 17 := ⟨by decide, by decide⟩
        have f_391 : R 4 4 4 := ⟨by decide, by decide⟩
        have f_390 : R 0 28 (4 * l2) := R_mul f_391 fl2 0 28 (by decide)
        have f_388 : R 17 45 (17 + (4 * l2)) := R_add f_389 f_390 17 45 (by decide)
        have f_387 : R 17 48 ((17 + (4 * l2)) + l3) := R_add f_388 f_386 17 48 (by decide)
        refine ⟨vin f_387 (by decide), ?_⟩
        have f_392 : R 0 31 ((4 * l2) + l3) := R_add f_390 f_386 0 31 (by decide)
        refine ⟨vin f_392 (by decide), ?_⟩
        have f_394 : R 1 1 1 := ⟨by decide, by decide⟩
        have f_393 : R 1 4 (l3 + 1) := R_add f_386 f_394 1 4 (by decide)
        have f_395 : R 0 0 0 := ⟨by decide, by decide⟩
        have ok_396 := Ok_w ok (k := 45) (j := ((17 + (4 * l2)) + l3).toNatClampNeg) (v := 0) (lo := (-2147483648)) (hi := 2147483647) (rgg_45_0 (ix_ge f_387 (by decide)) (ix_le f_387 (by decide))) (R_w f_395 (by decide)) (by decide) (nt_k (by decide))
        have f_397 : R 0 0 0 := ⟨by decide, by decide⟩
        have ok_398 := Ok_w ok_396 (k := 47) (j := ((4 * l2) + l3).toNatClampNeg) (v := 0) (lo := (-2147483648)) (hi := 2147483647) (rgc_47 _) (R_w f_397 (by decide)) (by decide) (nt_k (by decide))
        have g_399 := gap_inc (N := 4) f_386 (by decide)
        exact (ih.2.2) l1 l2 (l3 + 1) (wI (wI h 45 ((17 + (4 * l2)) + l3).toNatClampNeg 0) 47 ((4 * l2) + l3).toNatClampNeg 0)  ok_398 (R_w fl1 (by decide)) (R_w fl2 (by decide)) (R_w f_393 (by decide)) (by omega)
set_option maxRecDepth 100000 in
set_option maxHeartbeats 4000000 in
theorem s_X11_goesAway {g : gT} {h : mh_T} {P : mh_T → Prop} (l1 : Int32) (hG : GI h) (fl1 : R 0 7 l1) (fi0 : R 1 8 (mI h 45 (Int32.toNatClampNeg 0))) (hp : ∀ h', Ok [45, 47] h h' → P h') : MCv g yX11_goesAway uX11_goesAway [.ref 11, .int l1] h P := by
  have ok : Ok [45, 47] h h := Ok_rf hG
  have L0 := s_X11_goesAway_L (g := g) hG hp 53
  refine e_X11_goesAway l1  ?_
  have g_400 := gap_le (N := 7) fl1 (m := 7) (by decide)
  exact (L0.1) l1 l1 h  ok (R_w fl1 (by decide)) (R_w fl1 (by decide)) (R_w fi0 (by decide)) (by omega)
set_option maxRecDepth 100000 in
set_option maxHeartbeats 4000000 in
theorem s_X11_act {g : gT} {h : mh_T} {P : Int32 → mh_T → Prop} (l1 : Int32) (l2 : Int32) (hG : GI h)  (hp : ∀ (r : Int32) h', Ok [11] h h' → P r h') : MCi g yX11_act uX11_act [.ref 11, .int l1, .int l2] h P := by
  have ok : Ok [11] h h := Ok_rf hG
  refine e_X11_act l1 l2  ?_
  refine s_X11_good ok.1 (fun h1 ko_50 => ?_)
  have ok_51 := Ok_tr ok ko_50 (by decide)
  refine ⟨fun c_52 => ?_, fun c_52 => ?_⟩
  · have f_53 : R 0 1 (mI h1 11 14) := GI_rd ok_51.1 11 _ (by decide)
    have f_54 : R 0 0 0 := ⟨by decide, by decide⟩
    have f_55 : R 0 0 (mI h1 11 14) := rf_eq f_54 c_52
    refine s_X11_no 1 ok_51.1 (fun r4 h3 ko_56 f_58 => ?_)
    have ok_57 := Ok_tr ok_51 ko_56 (by decide)
    exact hp _ _ ok_57 
  · have f_59 : R 0 1 (mI h1 11 14) := GI_rd ok_51.1 11 _ (by decide)
    have f_60 : R 0 0 0 := ⟨by decide, by decide⟩
    have f_61 : R 1 1 (mI h1 11 14) := rf_ne_lo f_59 c_52 (by decide) 1 rfl
    refine s_X11_within l1 0 ((mI h1 11 24) - 1) ok_51.1 (fun r6 f_63 im_62 => ?_)
    refine ⟨fun c_64 => ?_, fun c_64 => ?_⟩
    · have f_65 : R 0 0 0 := ⟨by decide, by decide⟩
      have f_66 : R 0 0 r6 := rf_eq f_65 c_64
      refine s_X11_no 1 ok_51.1 (fun r9 h8 ko_67 f_69 => ?_)
      have ok_68 := Ok_tr ok_51 ko_67 (by decide)
      exact hp _ _ ok_68 
    · have f_70 : R 0 0 0 := ⟨by decide, by decide⟩
      have f_71 : R 0 0 0 := ⟨by decide, by decide⟩
      have f_72 : R 0 2147483647 l1 := rf_le_r f_71 (R_full l1) (im_62 c_64).1 0 (by decide)
      have f_74 : R 0 20 (mI h1 11 24) := GI_rd ok_51.1 11 _ (by decide)
      have f_75 : R 1 1 1 := ⟨by decide, by decide⟩
      have f_73 : R (-1) 19 ((mI h1 11 24) - 1) := R_sub f_74 f_75 (-1) 19 (by decide)
      have f_76 : R 0 19 l1 := rf_le_l f_72 f_73 (im_62 c_64).2 19 (by decide)
      have f_77 : R 0 19 ((mI h1 11 24) - 1) := rf_le_r f_72 f_73 (im_62 c_64).2 0 (by decide)
      have f_78 : R 1 20 (mI h1 11 24) := R_um1 f_74 f_77 1 20 (by decide)
      have f_79 : R 1 1 r6 := rf_ne_lo f_63 c_64 (by decide) 1 rfl
      refine s_X11_within l2 0 4 ok_51.1 (fun r11 f_81 im_80 => ?_)
      refine ⟨fun c_82 => ?_, fun c_82 => ?_⟩
      · have f_83 : R 0 0 0 := ⟨by decide, by decide⟩
        have f_84 : R 0 0 r11 := rf_eq f_83 c_82
        refine s_X11_no 1 ok_51.1 (fun r14 h13 ko_85 f_87 => ?_)
        have ok_86 := Ok_tr ok_51 ko_85 (by decide)
        exact hp _ _ ok_86 
      · have f_88 : R 0 0 0 := ⟨by decide, by decide⟩
        have f_89 : R 0 0 0 := ⟨by decide, by decide⟩
        have f_90 : R 0 2147483647 l2 := rf_le_r f_89 (R_full l2) (im_80 c_82).1 0 (by decide)
        have f_91 : R 4 4 4 := ⟨by decide, by decide⟩
        have f_92 : R 0 4 l2 := rf_le_l f_90 f_91 (im_80 c_82).2 4 (by decide)
        have f_93 : R 1 1 r11 := rf_ne_lo f_81 c_82 (by decide) 1 rfl
        have f_96 : R 5 5 5 := ⟨by decide, by decide⟩
        have f_95 : R 0 95 (5 * l1) := R_mul f_96 f_76 0 95 (by decide)
        have f_94 : R 0 99 ((5 * l1) + l2) := R_add f_95 f_92 0 99 (by decide)
        refine ⟨vin f_94 (by decide), ?_⟩
        have f_98 : R (-2147483648) 2147483647 (mI h 52 ((5 * l1) + l2).toNatClampNeg) := R_full _
        have f_97 : R (-2147483648) 2147483647 (mI h1 52 ((5 * l1) + l2).toNatClampNeg) := Ok_rd ko_50 (by decide) f_98
        exact hp _ _ ok_51 
set_option maxRecDepth 100000 in
set_option maxHeartbeats 4000000 in
theorem s_X11_times {g : gT} {h : mh_T} {P : Int32 → mh_T → Prop} (l1 : Int32) (l2 : Int32) (hG : GI h)  (hp : ∀ (r : Int32) h', Ok [11] h h' → P r h') : MCi g yX11_times uX11_times [.ref 11, .int l1, .int l2] h P := by
  have ok : Ok [11] h h := Ok_rf hG
  refine e_X11_times l1 l2  ?_
  refine s_X11_good ok.1 (fun h1 ko_22 => ?_)
  have ok_23 := Ok_tr ok ko_22 (by decide)
  refine s_X11_isOutcome l1 l2 ok_23.1 (fun r3 f_25 im_24 => ?_)
  refine ⟨fun c_26 => ?_, fun c_26 => ?_⟩
  · have f_27 : R 0 0 0 := ⟨by decide, by decide⟩
    have f_28 : R 0 0 r3 := rf_eq f_27 c_26
    refine s_X11_no 1 ok_23.1 (fun r6 h5 ko_29 f_31 => ?_)
    have ok_30 := Ok_tr ok_23 ko_29 (by decide)
    exact hp _ _ ok_30 
  · have f_32 : R 0 0 0 := ⟨by decide, by decide⟩
    have f_33 := (im_24 c_26).1
    have f_34 := (im_24 c_26).2
    have f_35 : R 1 1 r3 := rf_ne_lo f_25 c_26 (by decide) 1 rfl
    have f_38 : R 17 17 17 := ⟨by decide, by decide⟩
    have f_40 : R 4 4 4 := ⟨by decide, by decide⟩
    have f_39 : R 0 28 (4 * l1) := R_mul f_40 f_33 0 28 (by decide)
    have f_37 : R 17 45 (17 + (4 * l1)) := R_add f_38 f_39 17 45 (by decide)
    have f_36 : R 17 48 ((17 + (4 * l1)) + l2) := R_add f_37 f_34 17 48 (by decide)
    refine ⟨vin f_36 (by decide), ?_⟩
    have f_42 : R (-2147483648) 2147483647 (mI h 45 ((17 + (4 * l1)) + l2).toNatClampNeg) := R_full _
    have f_41 : R (-2147483648) 2147483647 (mI h1 45 ((17 + (4 * l1)) + l2).toNatClampNeg) := Ok_rd ko_22 (by decide) f_42
    exact hp _ _ ok_23 
set_option maxRecDepth 100000 in
set_option maxHeartbeats 4000000 in
theorem s_X11_look {g : gT} {h : mh_T} {P : Int32 → mh_T → Prop} (l1 : Int32) (l2 : Int32) (hG : GI h)  (hp : ∀ (r : Int32) h', Ok [11] h h' → R (-2) 5 r → P r h') : MCi g yX11_look uX11_look [.ref 11, .int l1, .int l2] h P := by
  have ok : Ok [11] h h := Ok_rf hG
  refine e_X11_look l1 l2  ?_
  refine s_X11_good ok.1 (fun h1 ko_27 => ?_)
  have ok_28 := Ok_tr ok ko_27 (by decide)
  refine s_X11_isSet l1 ok_28.1 (fun r3 f_30 im_29 => ?_)
  refine ⟨fun c_31 => ?_, fun c_31 => ?_⟩
  · have f_32 : R 0 0 0 := ⟨by decide, by decide⟩
    have f_33 : R 0 0 r3 := rf_eq f_32 c_31
    refine s_X11_no 1 ok_28.1 (fun r6 h5 ko_34 f_36 => ?_)
    have ok_35 := Ok_tr ok_28 ko_34 (by decide)
    exact hp _ _ ok_35 (R_w f_36 (by decide))
  · have f_37 : R 0 0 0 := ⟨by decide, by decide⟩
    have f_38 := (im_29 c_31).1
    have f_39 := (im_29 c_31).2
    have f_40 : R 1 1 r3 := rf_ne_lo f_30 c_31 (by decide) 1 rfl
    refine ⟨fun c_41 => ?_, fun c_41 => ?_⟩
    · have f_42 : R 0 0 0 := ⟨by decide, by decide⟩
      have f_43 : R 0 0 l2 := rf_eq f_42 c_41
      have f_45 : R 1 1 1 := ⟨by decide, by decide⟩
      have f_44 : R 1 8 (1 + l1) := R_add f_45 f_38 1 8 (by decide)
      refine ⟨vin f_44 (by decide), ?_⟩
      have f_47 : R 0 5 (mI h 45 (1 + l1).toNatClampNeg) := GI_rd ok.1 45 _ (rgp_45_1 (ix_ge f_44 (by decide)) (ix_le f_44 (by decide)))
      have f_46 : R 0 5 (mI h1 45 (1 + l1).toNatClampNeg) := Ok_rd ko_27 (by decide) f_47
      exact hp _ _ ok_28 (R_w f_46 (by decide))
    · have f_48 : R 0 0 0 := ⟨by decide, by decide⟩
      have f_50 : R 9 9 9 := ⟨by decide, by decide⟩
      have f_49 : R 9 16 (9 + l1) := R_add f_50 f_38 9 16 (by decide)
      refine ⟨vin f_49 (by decide), ?_⟩
      have f_52 : R (-2) 5 (mI h 45 (9 + l1).toNatClampNeg) := GI_rd ok.1 45 _ (rgp_45_2 (ix_ge f_49 (by decide)) (ix_le f_49 (by decide)))
      have f_51 : R (-2) 5 (mI h1 45 (9 + l1).toNatClampNeg) := Ok_rd ko_27 (by decide) f_52
      exact hp _ _ ok_28 (R_w f_51 (by decide))
set_option maxRecDepth 100000 in
set_option maxHeartbeats 4000000 in
theorem s_X11_coins {g : gT} {h : mh_T} {P : Int32 → mh_T → Prop} (l1 : Int32) (l2 : Int32) (hG : GI h)  (hp : ∀ (r : Int32) h', Ok [11] h h' → P r h') : MCi g yX11_coins uX11_coins [.ref 11, .int l1, .int l2] h P := by
  have ok : Ok [11] h h := Ok_rf hG
  refine e_X11_coins l1 l2  ?_
  refine s_X11_good ok.1 (fun h1 ko_20 => ?_)
  have ok_21 := Ok_tr ok ko_20 (by decide)
  refine s_X11_isOutcome l1 l2 ok_21.1 (fun r3 f_23 im_22 => ?_)
  refine ⟨fun c_24 => ?_, fun c_24 => ?_⟩
  · have f_25 : R 0 0 0 := ⟨by decide, by decide⟩
    have f_26 : R 0 0 r3 := rf_eq f_25 c_24
    refine s_X11_no 1 ok_21.1 (fun r6 h5 ko_27 f_29 => ?_)
    have ok_28 := Ok_tr ok_21 ko_27 (by decide)
    exact hp _ _ ok_28 
  · have f_30 : R 0 0 0 := ⟨by decide, by decide⟩
    have f_31 := (im_22 c_24).1
    have f_32 := (im_22 c_24).2
    have f_33 : R 1 1 r3 := rf_ne_lo f_23 c_24 (by decide) 1 rfl
    have f_36 : R 4 4 4 := ⟨by decide, by decide⟩
    have f_35 : R 0 28 (4 * l1) := R_mul f_36 f_31 0 28 (by decide)
    have f_34 : R 0 31 ((4 * l1) + l2) := R_add f_35 f_32 0 31 (by decide)
    refine ⟨vin f_34 (by decide), ?_⟩
    have f_38 : R (-2147483648) 2147483647 (mI h 47 ((4 * l1) + l2).toNatClampNeg) := R_full _
    have f_37 : R (-2147483648) 2147483647 (mI h1 47 ((4 * l1) + l2).toNatClampNeg) := Ok_rd ko_20 (by decide) f_38
    exact hp _ _ ok_21 
set_option maxRecDepth 100000 in
set_option maxHeartbeats 4000000 in
theorem s_X11_led_L {g : gT} {h0 : mh_T} {P : Int32 → mh_T → Prop} (hG0 : GI h0) (hp : ∀ (r : Int32) h', Ok [11] h0 h' → R 0 31 r → P r h') : ∀ n : Nat, (∀ (l1 : Int32) (l2 : Int32) (l3 : Int32) (h : mh_T), Ok [11] h0 h → R (-2147483648) 2147483647 l1 → R (-2147483648) 2147483647 l2 → R 0 8 l3 → 6 * gap 8 l3 + 5 < n → ME g uX11_led 4 [.ref 11, .int l1, .int l2, .int l3, .retAddr 0] [] h (qI P)) ∧ (∀ (l1 : Int32) (l2 : Int32) (l3 : Int32) (l4 : Int32) (h : mh_T), Ok [11] h0 h → R (-2147483648) 2147483647 l1 → R (-2147483648) 2147483647 l2 → R 0 7 l3 → R 0 4 l4 → 1 * gap 4 l4 + 6 * gap 8 l3 + 0 < n → ME g uX11_led 24 [.ref 11, .int l1, .int l2, .int l3, .int l4] [] h (qI P)) := by
  intro n
  induction n with
  | zero =>
    exact ⟨(fun _ _ _ _ _ _ _ _ hm => absurd hm (Nat.not_lt_zero _)), (fun _ _ _ _ _ _ _ _ _ _ hm => absurd hm (Nat.not_lt_zero _))⟩
  | succ n ih =>
    refine ⟨?_, ?_⟩
    · intro l1 l2 l3 h  ok fl1 fl2 fl3     hm
      refine r_X11_led_4 l1 l2 l3  ?_
      refine ⟨fun c_3208 => ?_, fun c_3208 => ?_⟩
      · have f_3209 : R 0 1 (mI h 11 14) := GI_rd ok.1 11 _ (by decide)
        have f_3210 : R 0 0 0 := ⟨by decide, by decide⟩
        have f_3211 : R 0 0 (mI h 11 14) := rf_eq f_3210 c_3208
        have f_3212 : R 1 1 1 := ⟨by decide, by decide⟩
        have ok_3213 := Ok_w ok (k := 11) (j := 0) (v := 1) (lo := (-2147483648)) (hi := 2147483647) (by decide) (R_w f_3212 (by decide)) (by decide) (by decide)
        have f_3214 : R 0 0 0 := ⟨by decide, by decide⟩
        exact hp _ _ ok_3213 (R_w f_3214 (by decide))
      · have f_3215 : R 0 1 (mI h 11 14) := GI_rd ok.1 11 _ (by decide)
        have f_3216 : R 0 0 0 := ⟨by decide, by decide⟩
        have f_3217 : R 1 1 (mI h 11 14) := rf_ne_lo f_3215 c_3208 (by decide) 1 rfl
        refine ⟨fun c_3218 => ?_, fun c_3218 => ?_⟩
        · have f_3219 : R 0 8 (mI h 45 (Int32.toNatClampNeg 0)) := GI_rd ok.1 45 _ (by decide)
          have f_3220 : R 1 1 1 := ⟨by decide, by decide⟩
          have ok_3221 := Ok_w ok (k := 11) (j := 0) (v := 1) (lo := (-2147483648)) (hi := 2147483647) (by decide) (R_w f_3220 (by decide)) (by decide) (by decide)
          have f_3222 : R 0 0 0 := ⟨by decide, by decide⟩
          exact hp _ _ ok_3221 (R_w f_3222 (by decide))
        · have f_3223 : R 0 8 (mI h 45 (Int32.toNatClampNeg 0)) := GI_rd ok.1 45 _ (by decide)
          have f_3224 : R 0 7 l3 := rf_lt_l fl3 f_3223 (nle c_3218) 7 (by decide)
          have f_3225 : R 1 8 (mI h 45 (Int32.toNatClampNeg 0)) := rf_lt_r fl3 f_3223 (nle c_3218) 1 (by decide)
          have f_3226 : R 0 0 0 := ⟨by decide, by decide⟩
          have f_3227 : R 0 0 0 := ⟨by decide, by decide⟩
          have g_3228 := gap_le (N := 4) f_3227 (m := 4) (by decide)
          exact (ih.2) l1 l2 l3 0 h  ok (R_w fl1 (by decide)) (R_w fl2 (by decide)) (R_w f_3224 (by decide)) (R_w f_3226 (by decide)) (by omega)
    · intro l1 l2 l3 l4 h  ok fl1 fl2 fl3 fl4     hm
      refine r_X11_led_24 l1 l2 l3 l4  ?_
      refine s_X11_outcomes l3 ok.1 (R_w fl3 (by decide)) (fun r2 f_3229 => ?_)
      refine ⟨fun c_3230 => ?_, fun c_3230 => ?_⟩
      · have f_3231 : R 2 4 l4 := rf_le_r f_3229 fl4 c_3230 2 (by decide)
        have f_3233 : R 1 1 1 := ⟨by decide, by decide⟩
        have f_3232 : R 1 8 (l3 + 1) := R_add fl3 f_3233 1 8 (by decide)
        have g_3234 := gap_inc (N := 8) fl3 (by decide)
        exact (ih.1) l1 l2 (l3 + 1) h  ok (R_w fl1 (by decide)) (R_w fl2 (by decide)) (R_w f_3232 (by decide)) (by omega)
      · have f_3235 : R 0 3 l4 := rf_lt_l fl4 f_3229 (nle c_3230) 3 (by decide)
        have f_3238 : R 17 17 17 := ⟨by decide, by decide⟩
        have f_3240 : R 4 4 4 := ⟨by decide, by decide⟩
        have f_3239 : R 0 28 (4 * l3) := R_mul f_3240 fl3 0 28 (by decide)
        have f_3237 : R 17 45 (17 + (4 * l3)) := R_add f_3238 f_3239 17 45 (by decide)
        have f_3236 : R 17 48 ((17 + (4 * l3)) + l4) := R_add f_3237 f_3235 17 48 (by decide)
        refine ⟨vin f_3236 (by decide), ?_⟩
        refine ⟨fun c_3241 => ?_, fun c_3241 => ?_⟩
        · have f_3242 : R (-2147483648) 2147483647 (mI h 45 ((17 + (4 * l3)) + l4).toNatClampNeg) := R_full _
          have f_3243 : R 0 0 0 := ⟨by decide, by decide⟩
          have f_3244 : R 0 0 (mI h 45 ((17 + (4 * l3)) + l4).toNatClampNeg) := rf_eq f_3243 c_3241
          have f_3246 : R 1 1 1 := ⟨by decide, by decide⟩
          have f_3245 : R 1 4 (l4 + 1) := R_add f_3235 f_3246 1 4 (by decide)
          have g_3247 := gap_inc (N := 4) f_3235 (by decide)
          exact (ih.2) l1 l2 l3 (l4 + 1) h  ok (R_w fl1 (by decide)) (R_w fl2 (by decide)) (R_w fl3 (by decide)) (R_w f_3245 (by decide)) (by omega)
        · have f_3248 : R (-2147483648) 2147483647 (mI h 45 ((17 + (4 * l3)) + l4).toNatClampNeg) := R_full _
          have f_3249 : R 0 0 0 := ⟨by decide, by decide⟩
          refine s_X11_doesExtend l3 l4 ok.1 (R_w fl3 (by decide)) (fun r7 f_3250 => ?_)
          refine ⟨fun c_3251 => ?_, fun c_3251 => ?_⟩
          · have f_3252 : R 0 0 0 := ⟨by decide, by decide⟩
            have f_3253 : R 0 0 r7 := rf_eq f_3252 c_3251
            refine ⟨fun c_3254 => ?_, fun c_3254 => ?_⟩
            · have f_3256 : R 1 1 1 := ⟨by decide, by decide⟩
              have f_3255 : R (-2147483648) 2147483647 (l2 + 1) := R_full _
              have f_3258 : R 1 1 1 := ⟨by decide, by decide⟩
              have f_3257 : R 1 4 (l4 + 1) := R_add f_3235 f_3258 1 4 (by decide)
              have g_3259 := gap_inc (N := 4) f_3235 (by decide)
              exact (ih.2) l1 (l2 + 1) l3 (l4 + 1) h  ok (R_w fl1 (by decide)) (R_w f_3255 (by decide)) (R_w fl3 (by decide)) (R_w f_3257 (by decide)) (by omega)
            · have f_3260 : R 0 0 0 := ⟨by decide, by decide⟩
              have ok_3261 := Ok_w ok (k := 11) (j := 0) (v := 0) (lo := (-2147483648)) (hi := 2147483647) (by decide) (R_w f_3260 (by decide)) (by decide) (by decide)
              have f_3262 : R 0 31 ((4 * l3) + l4) := R_add f_3239 f_3235 0 31 (by decide)
              exact hp _ _ ok_3261 (R_w f_3262 (by decide))
          · have f_3263 : R 0 0 0 := ⟨by decide, by decide⟩
            have f_3264 : R 1 1 r7 := rf_ne_lo f_3250 c_3251 (by decide) 1 rfl
            have f_3266 : R 1 1 1 := ⟨by decide, by decide⟩
            have f_3265 : R 1 4 (l4 + 1) := R_add f_3235 f_3266 1 4 (by decide)
            have g_3267 := gap_inc (N := 4) f_3235 (by decide)
            exact (ih.2) l1 l2 l3 (l4 + 1) h  ok (R_w fl1 (by decide)) (R_w fl2 (by decide)) (R_w fl3 (by decide)) (R_w f_3265 (by decide)) (by omega)
set_option maxRecDepth 100000 in
set_option maxHeartbeats 4000000 in
theorem s_X11_led {g : gT} {h : mh_T} {P : Int32 → mh_T → Prop} (l1 : Int32) (hG : GI h)  (hp : ∀ (r : Int32) h', Ok [11] h h' → R 0 31 r → P r h') : MCi g yX11_led uX11_led [.ref 11, .int l1] h P := by
  have ok : Ok [11] h h := Ok_rf hG
  have L0 := s_X11_led_L (g := g) hG hp 54
  refine e_X11_led l1  ?_
  have f_3268 : R 0 0 0 := ⟨by decide, by decide⟩
  have f_3269 : R 0 0 0 := ⟨by decide, by decide⟩
  have f_3270 : R 0 0 0 := ⟨by decide, by decide⟩
  have g_3271 := gap_le (N := 8) f_3270 (m := 8) (by decide)
  exact (L0.1) l1 0 0 h  ok (R_w (R_full l1) (by decide)) (R_w f_3268 (by decide)) (R_w f_3269 (by decide)) (by omega)
set_option maxRecDepth 100000 in
set_option maxHeartbeats 4000000 in
theorem s_X11_size {g : gT} {h : mh_T} {P : Int32 → mh_T → Prop} (l1 : Int32) (hG : GI h)  (hp : ∀ (r : Int32) h', Ok [11] h h' → R (-1) 900 r → P r h') : MCi g yX11_size uX11_size [.ref 11, .int l1] h P := by
  have ok : Ok [11] h h := Ok_rf hG
  refine e_X11_size l1  ?_
  refine ⟨fun c_76 => ?_, fun c_76 => ?_⟩
  · have f_77 : R 10 10 10 := ⟨by decide, by decide⟩
    refine ⟨fun c_78 => ?_, fun c_78 => ?_⟩
    · have f_80 : R 0 1 (mI h 11 14) := GI_rd ok.1 11 _ (by decide)
      have f_79 : R 0 1 (mI (wI h 11 0 0) 11 14) := (rd_nj f_80 (by decide))
      have f_81 : R 0 0 0 := ⟨by decide, by decide⟩
      have f_82 : R 1 1 (mI (wI h 11 0 0) 11 14) := rf_ne_lo f_79 c_78 (by decide) 1 rfl
      refine ⟨fun c => ?_, fun c => ?_, fun c => ?_, fun c => ?_, fun c => ?_, fun c => ?_, fun c => ?_, fun c => ?_, fun c => ?_, fun c => ?_, fun c => ?_⟩
      · have f_83 : R 0 0 0 := ⟨by decide, by decide⟩
        have ok_84 := Ok_w ok (k := 11) (j := 0) (v := 0) (lo := (-2147483648)) (hi := 2147483647) (by decide) (R_w f_83 (by decide)) (by decide) (by decide)
        have f_85 : R (-1) (-1) (-1) := ⟨by decide, by decide⟩
        exact hp _ _ ok_84 (R_w f_85 (by decide))
      · have f_86 : R 0 0 0 := ⟨by decide, by decide⟩
        have ok_87 := Ok_w ok (k := 11) (j := 0) (v := 0) (lo := (-2147483648)) (hi := 2147483647) (by decide) (R_w f_86 (by decide)) (by decide) (by decide)
        have f_89 : R 0 6 (mI h 45 (Int32.toNatClampNeg 50)) := GI_rd ok.1 45 _ (by decide)
        have f_88 : R 0 6 (mI (wI h 11 0 0) 45 (Int32.toNatClampNeg 50)) := (rd_ne f_89 (by decide))
        exact hp _ _ ok_87 (R_w f_88 (by decide))
      · have f_90 : R 0 0 0 := ⟨by decide, by decide⟩
        have ok_91 := Ok_w ok (k := 11) (j := 0) (v := 0) (lo := (-2147483648)) (hi := 2147483647) (by decide) (R_w f_90 (by decide)) (by decide) (by decide)
        have f_93 : R 0 9 (mI h 45 (Int32.toNatClampNeg 51)) := GI_rd ok.1 45 _ (by decide)
        have f_92 : R 0 9 (mI (wI h 11 0 0) 45 (Int32.toNatClampNeg 51)) := (rd_ne f_93 (by decide))
        exact hp _ _ ok_91 (R_w f_92 (by decide))
      · have f_94 : R 0 0 0 := ⟨by decide, by decide⟩
        have ok_95 := Ok_w ok (k := 11) (j := 0) (v := 0) (lo := (-2147483648)) (hi := 2147483647) (by decide) (R_w f_94 (by decide)) (by decide) (by decide)
        have f_97 : R 0 8 (mI h 45 (Int32.toNatClampNeg 0)) := GI_rd ok.1 45 _ (by decide)
        have f_96 : R 0 8 (mI (wI h 11 0 0) 45 (Int32.toNatClampNeg 0)) := (rd_ne f_97 (by decide))
        exact hp _ _ ok_95 (R_w f_96 (by decide))
      · have f_98 : R 0 0 0 := ⟨by decide, by decide⟩
        have ok_99 := Ok_w ok (k := 11) (j := 0) (v := 0) (lo := (-2147483648)) (hi := 2147483647) (by decide) (R_w f_98 (by decide)) (by decide) (by decide)
        have f_101 : R 0 8 (mI h 45 (Int32.toNatClampNeg 52)) := GI_rd ok.1 45 _ (by decide)
        have f_100 : R 0 8 (mI (wI h 11 0 0) 45 (Int32.toNatClampNeg 52)) := (rd_ne f_101 (by decide))
        exact hp _ _ ok_99 (R_w f_100 (by decide))
      · have f_102 : R 0 0 0 := ⟨by decide, by decide⟩
        have ok_103 := Ok_w ok (k := 11) (j := 0) (v := 0) (lo := (-2147483648)) (hi := 2147483647) (by decide) (R_w f_102 (by decide)) (by decide) (by decide)
        have f_105 : R 0 18 (mI h 45 (Int32.toNatClampNeg 85)) := GI_rd ok.1 45 _ (by decide)
        have f_104 : R 0 18 (mI (wI h 11 0 0) 45 (Int32.toNatClampNeg 85)) := (rd_ne f_105 (by decide))
        exact hp _ _ ok_103 (R_w f_104 (by decide))
      · have f_106 : R 0 0 0 := ⟨by decide, by decide⟩
        have ok_107 := Ok_w ok (k := 11) (j := 0) (v := 0) (lo := (-2147483648)) (hi := 2147483647) (by decide) (R_w f_106 (by decide)) (by decide) (by decide)
        have f_109 : R 0 4 (mI h 45 (Int32.toNatClampNeg 158)) := GI_rd ok.1 45 _ (by decide)
        have f_108 : R 0 4 (mI (wI h 11 0 0) 45 (Int32.toNatClampNeg 158)) := (rd_ne f_109 (by decide))
        exact hp _ _ ok_107 (R_w f_108 (by decide))
      · have f_110 : R 0 0 0 := ⟨by decide, by decide⟩
        have ok_111 := Ok_w ok (k := 11) (j := 0) (v := 0) (lo := (-2147483648)) (hi := 2147483647) (by decide) (R_w f_110 (by decide)) (by decide) (by decide)
        have f_113 : R 0 60 (mI h 45 (Int32.toNatClampNeg 49)) := GI_rd ok.1 45 _ (by decide)
        have f_112 : R 0 60 (mI (wI h 11 0 0) 45 (Int32.toNatClampNeg 49)) := (rd_ne f_113 (by decide))
        exact hp _ _ ok_111 (R_w f_112 (by decide))
      · have f_114 : R 0 0 0 := ⟨by decide, by decide⟩
        have ok_115 := Ok_w ok (k := 11) (j := 0) (v := 0) (lo := (-2147483648)) (hi := 2147483647) (by decide) (R_w f_114 (by decide)) (by decide) (by decide)
        have f_117 : R 0 20 (mI h 11 24) := GI_rd ok.1 11 _ (by decide)
        have f_116 : R 0 20 (mI (wI h 11 0 0) 11 24) := (rd_nj f_117 (by decide))
        exact hp _ _ ok_115 (R_w f_116 (by decide))
      · have f_118 : R 0 0 0 := ⟨by decide, by decide⟩
        have ok_119 := Ok_w ok (k := 11) (j := 0) (v := 0) (lo := (-2147483648)) (hi := 2147483647) (by decide) (R_w f_118 (by decide)) (by decide) (by decide)
        have f_121 : R 0 20 (mI h 11 25) := GI_rd ok.1 11 _ (by decide)
        have f_120 : R 0 20 (mI (wI h 11 0 0) 11 25) := (rd_nj f_121 (by decide))
        exact hp _ _ ok_119 (R_w f_120 (by decide))
      · have f_122 : R 0 0 0 := ⟨by decide, by decide⟩
        have ok_123 := Ok_w ok (k := 11) (j := 0) (v := 0) (lo := (-2147483648)) (hi := 2147483647) (by decide) (R_w f_122 (by decide)) (by decide) (by decide)
        have f_125 : R 0 4 (mI h 11 26) := GI_rd ok.1 11 _ (by decide)
        have f_124 : R 0 4 (mI (wI h 11 0 0) 11 26) := (rd_nj f_125 (by decide))
        exact hp _ _ ok_123 (R_w f_124 (by decide))
    · have f_127 : R 0 1 (mI h 11 14) := GI_rd ok.1 11 _ (by decide)
      have f_126 : R 0 1 (mI (wI h 11 0 0) 11 14) := (rd_nj f_127 (by decide))
      have f_128 : R 0 0 0 := ⟨by decide, by decide⟩
      have f_129 : R 0 0 (mI (wI h 11 0 0) 11 14) := rf_eq f_128 c_78
      have f_130 : R 0 0 0 := ⟨by decide, by decide⟩
      have ok_131 := Ok_w ok (k := 11) (j := 0) (v := 0) (lo := (-2147483648)) (hi := 2147483647) (by decide) (R_w f_130 (by decide)) (by decide) (by decide)
      refine s_X11_within l1 0 9 ok_131.1 (fun r5 f_133 im_132 => ?_)
      refine ⟨fun c_134 => ?_, fun c_134 => ?_⟩
      · have f_135 : R 0 0 0 := ⟨by decide, by decide⟩
        have f_136 : R 0 0 r5 := rf_eq f_135 c_134
        have f_137 : R (-1) (-1) (-1) := ⟨by decide, by decide⟩
        exact hp _ _ ok_131 (R_w f_137 (by decide))
      · have f_138 : R 0 0 0 := ⟨by decide, by decide⟩
        have f_139 : R 0 0 0 := ⟨by decide, by decide⟩
        have f_140 : R 0 2147483647 l1 := rf_le_r f_139 (R_full l1) (im_132 c_134).1 0 (by decide)
        have f_141 : R 9 9 9 := ⟨by decide, by decide⟩
        have f_142 : R 0 9 l1 := rf_le_l f_140 f_141 (im_132 c_134).2 9 (by decide)
        have f_143 : R 1 1 r5 := rf_ne_lo f_133 c_134 (by decide) 1 rfl
        have f_144 : R 0 0 0 := ⟨by decide, by decide⟩
        exact hp _ _ ok_131 (R_w f_144 (by decide))
  · have f_145 : R 10 10 10 := ⟨by decide, by decide⟩
    have f_146 : R 10 10 l1 := rf_eq f_145 c_76
    have f_147 : R 0 0 0 := ⟨by decide, by decide⟩
    have ok_148 := Ok_w ok (k := 11) (j := 0) (v := 0) (lo := (-2147483648)) (hi := 2147483647) (by decide) (R_w f_147 (by decide)) (by decide) (by decide)
    have f_150 : R 0 900 (mI h 11 2) := GI_rd ok.1 11 _ (by decide)
    have f_149 : R 0 900 (mI (wI h 11 0 0) 11 2) := (rd_nj f_150 (by decide))
    exact hp _ _ ok_148 (R_w f_149 (by decide))
set_option maxRecDepth 100000 in
set_option maxHeartbeats 4000000 in
theorem s_X11_trouble {g : gT} {h : mh_T} {P : Int32 → mh_T → Prop}  (hG : GI h)  (hp : ∀ (r : Int32) h', Ok [11] h h' → P r h') : MCi g yX11_trouble uX11_trouble [.ref 11] h P := by
  have ok : Ok [11] h h := Ok_rf hG
  refine e_X11_trouble   ?_
  have f_5 : R 0 0 0 := ⟨by decide, by decide⟩
  have ok_6 := Ok_w ok (k := 11) (j := 0) (v := 0) (lo := (-2147483648)) (hi := 2147483647) (by decide) (R_w f_5 (by decide)) (by decide) (by decide)
  have f_8 : R (-2147483648) 2147483647 (mI h 11 11) := R_full _
  have f_7 : R (-2147483648) 2147483647 (mI (wI h 11 0 0) 11 11) := (rd_nj f_8 (by decide))
  exact hp _ _ ok_6 
