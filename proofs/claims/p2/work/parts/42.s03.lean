set_option maxRecDepth 100000 in
set_option maxHeartbeats 4000000 in
theorem s_X11_isRay {g : gT} {h : mh_T} {P : Int32 → mh_T → Prop} (l1 : Int32) (hG : GI h)  (hp : ∀ r : Int32, R 0 1 r → (¬ r = 0 → R 0 17 l1) → P r h) : MCi g yX11_isRay uX11_isRay [.ref 11, .int l1] h P := by
  have ok : OkM h h := OkM_rf hG
  refine e_X11_isRay l1  ?_
  refine ⟨fun c_25 => ?_, fun c_25 => ?_⟩
  · have f_26 : R 0 1 (mI h 11 14) := GI_rd ok.1 11 _ (by decide)
    have f_27 : R 0 0 0 := ⟨by decide, by decide⟩
    have f_28 : R 0 0 (mI h 11 14) := rf_eq f_27 c_25
    have f_29 : R 0 0 0 := ⟨by decide, by decide⟩
    exact hp _ (R_w f_29 (by decide)) (fun z => absurd rfl z)
  · have f_30 : R 0 1 (mI h 11 14) := GI_rd ok.1 11 _ (by decide)
    have f_31 : R 0 0 0 := ⟨by decide, by decide⟩
    have f_32 : R 1 1 (mI h 11 14) := rf_ne_lo f_30 c_25 (by decide) 1 rfl
    refine s_X11_within l1 0 ((mI h 45 (Int32.toNatClampNeg 85)) - 1) ok.1 (fun r3 f_34 im_33 => ?_)
    refine ⟨fun c_35 => ?_, fun c_35 => ?_⟩
    · have f_36 : R 0 0 0 := ⟨by decide, by decide⟩
      have f_37 : R 0 0 r3 := rf_eq f_36 c_35
      have f_38 : R 0 0 0 := ⟨by decide, by decide⟩
      exact hp _ (R_w f_38 (by decide)) (fun z => absurd rfl z)
    · have f_39 : R 0 0 0 := ⟨by decide, by decide⟩
      have f_40 : R 0 0 0 := ⟨by decide, by decide⟩
      have f_41 : R 0 2147483647 l1 := rf_le_r f_40 (R_full l1) (im_33 c_35).1 0 (by decide)
      have f_43 : R 0 18 (mI h 45 (Int32.toNatClampNeg 85)) := GI_rd ok.1 45 _ (by decide)
      have f_44 : R 1 1 1 := ⟨by decide, by decide⟩
      have f_42 : R (-1) 17 ((mI h 45 (Int32.toNatClampNeg 85)) - 1) := R_sub f_43 f_44 (-1) 17 (by decide)
      have f_45 : R 0 17 l1 := rf_le_l f_41 f_42 (im_33 c_35).2 17 (by decide)
      have f_46 : R 0 17 ((mI h 45 (Int32.toNatClampNeg 85)) - 1) := rf_le_r f_41 f_42 (im_33 c_35).2 0 (by decide)
      have f_47 : R 1 1 r3 := rf_ne_lo f_34 c_35 (by decide) 1 rfl
      have f_48 : R 1 1 1 := ⟨by decide, by decide⟩
      exact hp _ (R_w f_48 (by decide)) (fun _ => R_w f_45 (by decide))
set_option maxRecDepth 100000 in
set_option maxHeartbeats 4000000 in
theorem s_X11_square {g : gT} {h : mh_T} {P : Int32 → mh_T → Prop} (l1 : Int32) (l2 : Int32) (hG : GI h)  (hp : ∀ (r : Int32) h', OkM h h' → R (-1) 1 r → P r h') : MCi g yX11_square uX11_square [.ref 11, .int l1, .int l2] h P := by
  have ok : OkM h h := OkM_rf hG
  refine e_X11_square l1 l2  ?_
  refine s_X11_good ok.1 (fun h1 ko_37 => ?_)
  have ok_38 := OkM_tr ok ko_37
  refine s_X11_isRay l1 ok_38.1 (fun r3 f_40 im_39 => ?_)
  refine ⟨fun c_41 => ?_, fun c_41 => ?_⟩
  · have f_42 : R 0 0 0 := ⟨by decide, by decide⟩
    have f_43 : R 0 0 r3 := rf_eq f_42 c_41
    refine s_X11_no 1 ok_38.1 (fun r6 h5 ko_44 f_46 => ?_)
    have ok_45 := OkM_tr ok_38 ko_44
    exact hp _ _ ok_45 (R_w f_46 (by decide))
  · have f_47 : R 0 0 0 := ⟨by decide, by decide⟩
    have f_48 := (im_39 c_41)
    have f_49 : R 1 1 r3 := rf_ne_lo f_40 c_41 (by decide) 1 rfl
    refine s_X11_isRay l2 ok_38.1 (fun r8 f_51 im_50 => ?_)
    refine ⟨fun c_52 => ?_, fun c_52 => ?_⟩
    · have f_53 : R 0 0 0 := ⟨by decide, by decide⟩
      have f_54 : R 0 0 r8 := rf_eq f_53 c_52
      refine s_X11_no 1 ok_38.1 (fun r11 h10 ko_55 f_57 => ?_)
      have ok_56 := OkM_tr ok_38 ko_55
      exact hp _ _ ok_56 (R_w f_57 (by decide))
    · have f_58 : R 0 0 0 := ⟨by decide, by decide⟩
      have f_59 := (im_50 c_52)
      have f_60 : R 1 1 r8 := rf_ne_lo f_51 c_52 (by decide) 1 rfl
      refine ⟨fun c_61 => ?_, fun c_61 => ?_⟩
      · refine s_X11_no 1 ok_38.1 (fun r14 h13 ko_62 f_64 => ?_)
        have ok_63 := OkM_tr ok_38 ko_62
        exact hp _ _ ok_63 (R_w f_64 (by decide))
      · refine s_X11_areSquare l1 l2 ok_38.1 (R_w f_48 (by decide)) (R_w f_59 (by decide)) (fun r16 f_65 => ?_)
        refine ⟨fun c_66 => ?_, fun c_66 => ?_⟩
        · have f_67 : R 0 0 0 := ⟨by decide, by decide⟩
          have f_68 : R 0 0 r16 := rf_eq f_67 c_66
          have f_69 : R 0 0 0 := ⟨by decide, by decide⟩
          exact hp _ _ ok_38 (R_w f_69 (by decide))
        · have f_70 : R 0 0 0 := ⟨by decide, by decide⟩
          have f_71 : R 1 1 r16 := rf_ne_lo f_65 c_66 (by decide) 1 rfl
          have f_72 : R 1 1 1 := ⟨by decide, by decide⟩
          exact hp _ _ ok_38 (R_w f_72 (by decide))
set_option maxRecDepth 100000 in
set_option maxHeartbeats 4000000 in
theorem s_X11_isSoFar_L {g : gT} {h0 : mh_T} {P : Int32 → mh_T → Prop} (hG0 : GI h0) (hp : ∀ r : Int32, R 0 1 r → P r h0) : ∀ n : Nat, (∀ (l1 : Int32) (l2 : Int32) (l3 : Int32) (l4 : Int32) (l5 : Int32), R (-2147483648) 2147483647 l1 → R (-2147483648) 2147483647 l2 → R (-2147483648) 2147483647 l3 → R 0 1 l4 → R 0 3060 l5 → 1 * gap 3060 l5 + 0 < n → ME g uX11_isSoFar 6 [.ref 11, .int l1, .int l2, .int l3, .int l4, .int l5, .retAddr 0, .retAddr 0] [] h0 (qI P)) := by
  intro n
  induction n with
  | zero =>
    exact (fun _ _ _ _ _ _ _ _ _ _ hm => absurd hm (Nat.not_lt_zero _))
  | succ n ih =>
    intro l1 l2 l3 l4 l5  fl1 fl2 fl3 fl4 fl5 hm
    have ok : OkM h0 h0 := OkM_rf hG0
    refine r_X11_isSoFar_6 l1 l2 l3 l4 l5  ?_
    refine ⟨fun c_2746 => ?_, fun c_2746 => ?_⟩
    · have f_2747 : R 0 3060 (mI h0 11 34) := GI_rd ok.1 11 _ (by decide)
      exact ⟨R_z (R_w fl4 (by decide)), hp _ (R_w fl4 (by decide))⟩
    · have f_2748 : R 0 3060 (mI h0 11 34) := GI_rd ok.1 11 _ (by decide)
      have f_2749 : R 0 3059 l5 := rf_lt_l fl5 f_2748 (nle c_2746) 3059 (by decide)
      have f_2750 : R 1 3060 (mI h0 11 34) := rf_lt_r fl5 f_2748 (nle c_2746) 1 (by decide)
      refine ⟨fun c_2751 => ?_, fun c_2751 => ?_⟩
      · have f_2752 : R 0 0 0 := ⟨by decide, by decide⟩
        have f_2753 : R 0 0 l4 := rf_eq f_2752 c_2751
        exact ⟨R_z (R_w f_2753 (by decide)), hp _ (R_w f_2753 (by decide))⟩
      · have f_2754 : R 0 0 0 := ⟨by decide, by decide⟩
        have f_2755 : R 1 1 l4 := rf_ne_lo fl4 c_2751 (by decide) 1 rfl
        refine ⟨vin f_2749 (by decide), ?_⟩
        intro x4 ex4
        have f_2756 : R (-2147483648) 2147483647 (mI h0 56 l5.toNatClampNeg) := R_full _
        have f_2757 : R (-2147483648) 2147483647 x4 := rf_eq f_2756 ex4
        refine ⟨fun c_2758 => ?_, fun c_2758 => ?_⟩
        · have f_2760 : R (-2147483648) 2147483647 (l1 ^^^ (-1)) := R_full _
          have f_2759 : R (-2147483648) 2147483647 (x4 &&& (l1 ^^^ (-1))) := R_full _
          have f_2761 : R 0 0 0 := ⟨by decide, by decide⟩
          have f_2762 : R 0 0 (x4 &&& (l1 ^^^ (-1))) := rf_eq f_2761 c_2758
          refine s_X11_bits (x4 &&& l2) ok.1 (fun r7 => ?_)
          refine ⟨fun c_2763 => ?_, fun c_2763 => ?_⟩
          · have f_2764 : R (-2147483648) 2147483647 r7 := R_full _
            have f_2765 : R 2 2 2 := ⟨by decide, by decide⟩
            have f_2766 : R 2 2147483647 r7 := rf_le_r f_2765 f_2764 c_2763 2 (by decide)
            have f_2767 : R 0 0 0 := ⟨by decide, by decide⟩
            have f_2769 : R 1 1 1 := ⟨by decide, by decide⟩
            have f_2768 : R 1 3060 (l5 + 1) := R_add f_2749 f_2769 1 3060 (by decide)
            have g_2770 := gap_inc (N := 3060) f_2749 (by decide)
            exact ih l1 l2 l3 0 (l5 + 1)  (R_w fl1 (by decide)) (R_w fl2 (by decide)) (R_w fl3 (by decide)) (R_w f_2767 (by decide)) (R_w f_2768 (by decide)) (by omega)
          · have f_2771 : R (-2147483648) 2147483647 r7 := R_full _
            have f_2772 : R 2 2 2 := ⟨by decide, by decide⟩
            have f_2773 : R (-2147483648) 1 r7 := rf_lt_l f_2771 f_2772 (nle c_2763) 1 (by decide)
            refine ⟨fun c_2774 => ?_, fun c_2774 => ?_⟩
            · have f_2776 : R (-2147483648) 2147483647 (l3 ^^^ (-1)) := R_full _
              have f_2775 : R (-2147483648) 2147483647 (x4 &&& (l3 ^^^ (-1))) := R_full _
              have f_2777 : R 0 0 0 := ⟨by decide, by decide⟩
              have f_2778 : R 1 1 1 := ⟨by decide, by decide⟩
              have f_2780 : R 1 1 1 := ⟨by decide, by decide⟩
              have f_2779 : R 1 3060 (l5 + 1) := R_add f_2749 f_2780 1 3060 (by decide)
              have g_2781 := gap_inc (N := 3060) f_2749 (by decide)
              exact ih l1 l2 l3 1 (l5 + 1)  (R_w fl1 (by decide)) (R_w fl2 (by decide)) (R_w fl3 (by decide)) (R_w f_2778 (by decide)) (R_w f_2779 (by decide)) (by omega)
            · have f_2783 : R (-2147483648) 2147483647 (l3 ^^^ (-1)) := R_full _
              have f_2782 : R (-2147483648) 2147483647 (x4 &&& (l3 ^^^ (-1))) := R_full _
              have f_2784 : R 0 0 0 := ⟨by decide, by decide⟩
              have f_2785 : R 0 0 (x4 &&& (l3 ^^^ (-1))) := rf_eq f_2784 c_2774
              refine ⟨fun c_2786 => ?_, fun c_2786 => ?_⟩
              · have f_2787 : R 1 1 1 := ⟨by decide, by decide⟩
                have f_2788 : R (-2147483648) 0 r7 := rf_ne_hi f_2773 c_2786 (by decide) 0 rfl
                have f_2789 : R 0 0 0 := ⟨by decide, by decide⟩
                have f_2791 : R 1 1 1 := ⟨by decide, by decide⟩
                have f_2790 : R 1 3060 (l5 + 1) := R_add f_2749 f_2791 1 3060 (by decide)
                have g_2792 := gap_inc (N := 3060) f_2749 (by decide)
                exact ih l1 l2 l3 0 (l5 + 1)  (R_w fl1 (by decide)) (R_w fl2 (by decide)) (R_w fl3 (by decide)) (R_w f_2789 (by decide)) (R_w f_2790 (by decide)) (by omega)
              · have f_2793 : R 1 1 1 := ⟨by decide, by decide⟩
                have f_2794 : R 1 1 r7 := rf_eq f_2793 c_2786
                have f_2795 : R 1 1 1 := ⟨by decide, by decide⟩
                have f_2797 : R 1 1 1 := ⟨by decide, by decide⟩
                have f_2796 : R 1 3060 (l5 + 1) := R_add f_2749 f_2797 1 3060 (by decide)
                have g_2798 := gap_inc (N := 3060) f_2749 (by decide)
                exact ih l1 l2 l3 1 (l5 + 1)  (R_w fl1 (by decide)) (R_w fl2 (by decide)) (R_w fl3 (by decide)) (R_w f_2795 (by decide)) (R_w f_2796 (by decide)) (by omega)
        · have f_2800 : R (-2147483648) 2147483647 (l1 ^^^ (-1)) := R_full _
          have f_2799 : R (-2147483648) 2147483647 (x4 &&& (l1 ^^^ (-1))) := R_full _
          have f_2801 : R 0 0 0 := ⟨by decide, by decide⟩
          have f_2803 : R 1 1 1 := ⟨by decide, by decide⟩
          have f_2802 : R 1 3060 (l5 + 1) := R_add f_2749 f_2803 1 3060 (by decide)
          have g_2804 := gap_inc (N := 3060) f_2749 (by decide)
          exact ih l1 l2 l3 l4 (l5 + 1)  (R_w fl1 (by decide)) (R_w fl2 (by decide)) (R_w fl3 (by decide)) (R_w f_2755 (by decide)) (R_w f_2802 (by decide)) (by omega)
set_option maxRecDepth 100000 in
set_option maxHeartbeats 4000000 in
theorem s_X11_isSoFar {g : gT} {h : mh_T} {P : Int32 → mh_T → Prop} (l1 : Int32) (l2 : Int32) (l3 : Int32) (hG : GI h)  (hp : ∀ r : Int32, R 0 1 r → P r h) : MCi g yX11_isSoFar uX11_isSoFar [.ref 11, .int l1, .int l2, .int l3] h P := by
  have ok : OkM h h := OkM_rf hG
  have L0 := s_X11_isSoFar_L (g := g) hG hp 3061
  refine e_X11_isSoFar l1 l2 l3  ?_
  have f_2805 : R 1 1 1 := ⟨by decide, by decide⟩
  have f_2806 : R 0 0 0 := ⟨by decide, by decide⟩
  have f_2807 : R 0 0 0 := ⟨by decide, by decide⟩
  have g_2808 := gap_le (N := 3060) f_2807 (m := 3060) (by decide)
  exact L0 l1 l2 l3 1 0  (R_w (R_full l1) (by decide)) (R_w (R_full l2) (by decide)) (R_w (R_full l3) (by decide)) (R_w f_2805 (by decide)) (R_w f_2806 (by decide)) (by omega)
set_option maxRecDepth 100000 in
set_option maxHeartbeats 4000000 in
theorem s_X11_allRays {g : gT} {h : mh_T} {P : Int32 → mh_T → Prop}  (hG : GI h)  (hp : ∀ r : Int32, R 0 262143 r → P r h) : MCi g yX11_allRays uX11_allRays [.ref 11] h P := by
  have ok : OkM h h := OkM_rf hG
  refine e_X11_allRays   ?_
  have f_7 : R 0 18 (mI h 45 (Int32.toNatClampNeg 85)) := GI_rd ok.1 45 _ (by decide)
  have f_6 : R 1 262144 (1 <<< ((mI h 45 (Int32.toNatClampNeg 85)) &&& 31)) := R_shl f_7 1 262144 0 18 (by decide)
  have f_8 : R 1 1 1 := ⟨by decide, by decide⟩
  have f_5 : R 0 262143 ((1 <<< ((mI h 45 (Int32.toNatClampNeg 85)) &&& 31)) - 1) := R_sub f_6 f_8 0 262143 (by decide)
  exact hp _ (R_w f_5 (by decide))
set_option maxRecDepth 100000 in
set_option maxHeartbeats 4000000 in
theorem s_X11_act {g : gT} {h : mh_T} {P : Int32 → mh_T → Prop} (l1 : Int32) (l2 : Int32) (hG : GI h)  (hp : ∀ (r : Int32) h', OkM h h' → P r h') : MCi g yX11_act uX11_act [.ref 11, .int l1, .int l2] h P := by
  have ok : OkM h h := OkM_rf hG
  refine e_X11_act l1 l2  ?_
  refine s_X11_good ok.1 (fun h1 ko_48 => ?_)
  have ok_49 := OkM_tr ok ko_48
  refine ⟨fun c_50 => ?_, fun c_50 => ?_⟩
  · have f_51 : R 0 1 (mI h1 11 14) := GI_rd ok_49.1 11 _ (by decide)
    have f_52 : R 0 0 0 := ⟨by decide, by decide⟩
    have f_53 : R 0 0 (mI h1 11 14) := rf_eq f_52 c_50
    refine s_X11_no 1 ok_49.1 (fun r4 h3 ko_54 f_56 => ?_)
    have ok_55 := OkM_tr ok_49 ko_54
    exact hp _ _ ok_55 
  · have f_57 : R 0 1 (mI h1 11 14) := GI_rd ok_49.1 11 _ (by decide)
    have f_58 : R 0 0 0 := ⟨by decide, by decide⟩
    have f_59 : R 1 1 (mI h1 11 14) := rf_ne_lo f_57 c_50 (by decide) 1 rfl
    refine s_X11_within l1 0 ((mI h1 11 24) - 1) ok_49.1 (fun r6 f_61 im_60 => ?_)
    refine ⟨fun c_62 => ?_, fun c_62 => ?_⟩
    · have f_63 : R 0 0 0 := ⟨by decide, by decide⟩
      have f_64 : R 0 0 r6 := rf_eq f_63 c_62
      refine s_X11_no 1 ok_49.1 (fun r9 h8 ko_65 f_67 => ?_)
      have ok_66 := OkM_tr ok_49 ko_65
      exact hp _ _ ok_66 
    · have f_68 : R 0 0 0 := ⟨by decide, by decide⟩
      have f_69 : R 0 0 0 := ⟨by decide, by decide⟩
      have f_70 : R 0 2147483647 l1 := rf_le_r f_69 (R_full l1) (im_60 c_62).1 0 (by decide)
      have f_72 : R 0 20 (mI h1 11 24) := GI_rd ok_49.1 11 _ (by decide)
      have f_73 : R 1 1 1 := ⟨by decide, by decide⟩
      have f_71 : R (-1) 19 ((mI h1 11 24) - 1) := R_sub f_72 f_73 (-1) 19 (by decide)
      have f_74 : R 0 19 l1 := rf_le_l f_70 f_71 (im_60 c_62).2 19 (by decide)
      have f_75 : R 0 19 ((mI h1 11 24) - 1) := rf_le_r f_70 f_71 (im_60 c_62).2 0 (by decide)
      have f_76 : R 1 1 r6 := rf_ne_lo f_61 c_62 (by decide) 1 rfl
      refine s_X11_within l2 0 4 ok_49.1 (fun r11 f_78 im_77 => ?_)
      refine ⟨fun c_79 => ?_, fun c_79 => ?_⟩
      · have f_80 : R 0 0 0 := ⟨by decide, by decide⟩
        have f_81 : R 0 0 r11 := rf_eq f_80 c_79
        refine s_X11_no 1 ok_49.1 (fun r14 h13 ko_82 f_84 => ?_)
        have ok_83 := OkM_tr ok_49 ko_82
        exact hp _ _ ok_83 
      · have f_85 : R 0 0 0 := ⟨by decide, by decide⟩
        have f_86 : R 0 0 0 := ⟨by decide, by decide⟩
        have f_87 : R 0 2147483647 l2 := rf_le_r f_86 (R_full l2) (im_77 c_79).1 0 (by decide)
        have f_88 : R 4 4 4 := ⟨by decide, by decide⟩
        have f_89 : R 0 4 l2 := rf_le_l f_87 f_88 (im_77 c_79).2 4 (by decide)
        have f_90 : R 1 1 r11 := rf_ne_lo f_78 c_79 (by decide) 1 rfl
        have f_93 : R 5 5 5 := ⟨by decide, by decide⟩
        have f_92 : R 0 95 (5 * l1) := R_mul f_93 f_74 0 95 (by decide)
        have f_91 : R 0 99 ((5 * l1) + l2) := R_add f_92 f_89 0 99 (by decide)
        refine ⟨vin f_91 (by decide), ?_⟩
        have f_94 : R (-2147483648) 2147483647 (mI h1 52 ((5 * l1) + l2).toNatClampNeg) := R_full _
        exact hp _ _ ok_49 
set_option maxRecDepth 100000 in
set_option maxHeartbeats 4000000 in
theorem s_X11_times {g : gT} {h : mh_T} {P : Int32 → mh_T → Prop} (l1 : Int32) (l2 : Int32) (hG : GI h)  (hp : ∀ (r : Int32) h', OkM h h' → P r h') : MCi g yX11_times uX11_times [.ref 11, .int l1, .int l2] h P := by
  have ok : OkM h h := OkM_rf hG
  refine e_X11_times l1 l2  ?_
  refine s_X11_good ok.1 (fun h1 ko_21 => ?_)
  have ok_22 := OkM_tr ok ko_21
  refine s_X11_isOutcome l1 l2 ok_22.1 (fun r3 f_24 im_23 => ?_)
  refine ⟨fun c_25 => ?_, fun c_25 => ?_⟩
  · have f_26 : R 0 0 0 := ⟨by decide, by decide⟩
    have f_27 : R 0 0 r3 := rf_eq f_26 c_25
    refine s_X11_no 1 ok_22.1 (fun r6 h5 ko_28 f_30 => ?_)
    have ok_29 := OkM_tr ok_22 ko_28
    exact hp _ _ ok_29 
  · have f_31 : R 0 0 0 := ⟨by decide, by decide⟩
    have f_32 := (im_23 c_25).1
    have f_33 := (im_23 c_25).2
    have f_34 : R 1 1 r3 := rf_ne_lo f_24 c_25 (by decide) 1 rfl
    have f_37 : R 17 17 17 := ⟨by decide, by decide⟩
    have f_39 : R 4 4 4 := ⟨by decide, by decide⟩
    have f_38 : R 0 28 (4 * l1) := R_mul f_39 f_32 0 28 (by decide)
    have f_36 : R 17 45 (17 + (4 * l1)) := R_add f_37 f_38 17 45 (by decide)
    have f_35 : R 17 48 ((17 + (4 * l1)) + l2) := R_add f_36 f_33 17 48 (by decide)
    refine ⟨vin f_35 (by decide), ?_⟩
    have f_40 : R (-2147483648) 2147483647 (mI h1 45 ((17 + (4 * l1)) + l2).toNatClampNeg) := R_full _
    exact hp _ _ ok_22 
set_option maxRecDepth 100000 in
set_option maxHeartbeats 4000000 in
theorem s_X11_look {g : gT} {h : mh_T} {P : Int32 → mh_T → Prop} (l1 : Int32) (l2 : Int32) (hG : GI h)  (hp : ∀ (r : Int32) h', OkM h h' → R (-2) 5 r → P r h') : MCi g yX11_look uX11_look [.ref 11, .int l1, .int l2] h P := by
  have ok : OkM h h := OkM_rf hG
  refine e_X11_look l1 l2  ?_
  refine s_X11_good ok.1 (fun h1 ko_24 => ?_)
  have ok_25 := OkM_tr ok ko_24
  refine s_X11_isSet l1 ok_25.1 (fun r3 f_27 im_26 => ?_)
  refine ⟨fun c_28 => ?_, fun c_28 => ?_⟩
  · have f_29 : R 0 0 0 := ⟨by decide, by decide⟩
    have f_30 : R 0 0 r3 := rf_eq f_29 c_28
    refine s_X11_no 1 ok_25.1 (fun r6 h5 ko_31 f_33 => ?_)
    have ok_32 := OkM_tr ok_25 ko_31
    exact hp _ _ ok_32 (R_w f_33 (by decide))
  · have f_34 : R 0 0 0 := ⟨by decide, by decide⟩
    have f_35 := (im_26 c_28)
    have f_36 : R 1 1 r3 := rf_ne_lo f_27 c_28 (by decide) 1 rfl
    refine ⟨fun c_37 => ?_, fun c_37 => ?_⟩
    · have f_38 : R 0 0 0 := ⟨by decide, by decide⟩
      have f_39 : R 0 0 l2 := rf_eq f_38 c_37
      have f_41 : R 1 1 1 := ⟨by decide, by decide⟩
      have f_40 : R 1 8 (1 + l1) := R_add f_41 f_35 1 8 (by decide)
      refine ⟨vin f_40 (by decide), ?_⟩
      have f_42 : R 0 5 (mI h1 45 (1 + l1).toNatClampNeg) := GI_rd ok_25.1 45 _ (rgp_45_1 (ix_ge f_40 (by decide)) (ix_le f_40 (by decide)))
      exact hp _ _ ok_25 (R_w f_42 (by decide))
    · have f_43 : R 0 0 0 := ⟨by decide, by decide⟩
      have f_45 : R 9 9 9 := ⟨by decide, by decide⟩
      have f_44 : R 9 16 (9 + l1) := R_add f_45 f_35 9 16 (by decide)
      refine ⟨vin f_44 (by decide), ?_⟩
      have f_46 : R (-2) 5 (mI h1 45 (9 + l1).toNatClampNeg) := GI_rd ok_25.1 45 _ (rgp_45_2 (ix_ge f_44 (by decide)) (ix_le f_44 (by decide)))
      exact hp _ _ ok_25 (R_w f_46 (by decide))
set_option maxRecDepth 100000 in
set_option maxHeartbeats 4000000 in
theorem s_X11_coins {g : gT} {h : mh_T} {P : Int32 → mh_T → Prop} (l1 : Int32) (l2 : Int32) (hG : GI h)  (hp : ∀ (r : Int32) h', OkM h h' → P r h') : MCi g yX11_coins uX11_coins [.ref 11, .int l1, .int l2] h P := by
  have ok : OkM h h := OkM_rf hG
  refine e_X11_coins l1 l2  ?_
  refine s_X11_good ok.1 (fun h1 ko_19 => ?_)
  have ok_20 := OkM_tr ok ko_19
  refine s_X11_isOutcome l1 l2 ok_20.1 (fun r3 f_22 im_21 => ?_)
  refine ⟨fun c_23 => ?_, fun c_23 => ?_⟩
  · have f_24 : R 0 0 0 := ⟨by decide, by decide⟩
    have f_25 : R 0 0 r3 := rf_eq f_24 c_23
    refine s_X11_no 1 ok_20.1 (fun r6 h5 ko_26 f_28 => ?_)
    have ok_27 := OkM_tr ok_20 ko_26
    exact hp _ _ ok_27 
  · have f_29 : R 0 0 0 := ⟨by decide, by decide⟩
    have f_30 := (im_21 c_23).1
    have f_31 := (im_21 c_23).2
    have f_32 : R 1 1 r3 := rf_ne_lo f_22 c_23 (by decide) 1 rfl
    have f_35 : R 4 4 4 := ⟨by decide, by decide⟩
    have f_34 : R 0 28 (4 * l1) := R_mul f_35 f_30 0 28 (by decide)
    have f_33 : R 0 31 ((4 * l1) + l2) := R_add f_34 f_31 0 31 (by decide)
    refine ⟨vin f_33 (by decide), ?_⟩
    have f_36 : R (-2147483648) 2147483647 (mI h1 47 ((4 * l1) + l2).toNatClampNeg) := R_full _
    exact hp _ _ ok_20 
set_option maxRecDepth 100000 in
set_option maxHeartbeats 4000000 in
theorem s_X11_size {g : gT} {h : mh_T} {P : Int32 → mh_T → Prop} (l1 : Int32) (hG : GI h)  (hp : ∀ (r : Int32) h', OkM h h' → R (-1) 900 r → P r h') : MCi g yX11_size uX11_size [.ref 11, .int l1] h P := by
  have ok : OkM h h := OkM_rf hG
  refine e_X11_size l1  ?_
  refine ⟨fun c_76 => ?_, fun c_76 => ?_⟩
  · have f_77 : R 10 10 10 := ⟨by decide, by decide⟩
    refine ⟨fun c_78 => ?_, fun c_78 => ?_⟩
    · have f_80 : R 0 1 (mI h 11 14) := GI_rd ok.1 11 _ (by decide)
      have f_79 : R 0 1 (mI (wI h 11 0 0) 11 14) := f_80
      have f_81 : R 0 0 0 := ⟨by decide, by decide⟩
      have f_82 : R 1 1 (mI (wI h 11 0 0) 11 14) := rf_ne_lo f_79 c_78 (by decide) 1 rfl
      refine ⟨fun c => ?_, fun c => ?_, fun c => ?_, fun c => ?_, fun c => ?_, fun c => ?_, fun c => ?_, fun c => ?_, fun c => ?_, fun c => ?_, fun c => ?_⟩
      · have f_83 : R 0 0 0 := ⟨by decide, by decide⟩
        have ok_84 := OkM_w ok (k := 11) (j := 0) (v := 0) (lo := (-2147483648)) (hi := 2147483647) (by decide) (R_w f_83 (by decide)) rfl (by decide)
        have f_85 : R (-1) (-1) (-1) := ⟨by decide, by decide⟩
        exact hp _ _ ok_84 (R_w f_85 (by decide))
      · have f_86 : R 0 0 0 := ⟨by decide, by decide⟩
        have ok_87 := OkM_w ok (k := 11) (j := 0) (v := 0) (lo := (-2147483648)) (hi := 2147483647) (by decide) (R_w f_86 (by decide)) rfl (by decide)
        have f_89 : R 0 6 (mI h 45 (Int32.toNatClampNeg 50)) := GI_rd ok.1 45 _ (by decide)
        have f_88 : R 0 6 (mI (wI h 11 0 0) 45 (Int32.toNatClampNeg 50)) := f_89
        exact hp _ _ ok_87 (R_w f_88 (by decide))
      · have f_90 : R 0 0 0 := ⟨by decide, by decide⟩
        have ok_91 := OkM_w ok (k := 11) (j := 0) (v := 0) (lo := (-2147483648)) (hi := 2147483647) (by decide) (R_w f_90 (by decide)) rfl (by decide)
        have f_93 : R 0 9 (mI h 45 (Int32.toNatClampNeg 51)) := GI_rd ok.1 45 _ (by decide)
        have f_92 : R 0 9 (mI (wI h 11 0 0) 45 (Int32.toNatClampNeg 51)) := f_93
        exact hp _ _ ok_91 (R_w f_92 (by decide))
      · have f_94 : R 0 0 0 := ⟨by decide, by decide⟩
        have ok_95 := OkM_w ok (k := 11) (j := 0) (v := 0) (lo := (-2147483648)) (hi := 2147483647) (by decide) (R_w f_94 (by decide)) rfl (by decide)
        have f_97 : R 0 8 (mI h 45 (Int32.toNatClampNeg 0)) := GI_rd ok.1 45 _ (by decide)
        have f_96 : R 0 8 (mI (wI h 11 0 0) 45 (Int32.toNatClampNeg 0)) := f_97
        exact hp _ _ ok_95 (R_w f_96 (by decide))
      · have f_98 : R 0 0 0 := ⟨by decide, by decide⟩
        have ok_99 := OkM_w ok (k := 11) (j := 0) (v := 0) (lo := (-2147483648)) (hi := 2147483647) (by decide) (R_w f_98 (by decide)) rfl (by decide)
        have f_101 : R 0 8 (mI h 45 (Int32.toNatClampNeg 52)) := GI_rd ok.1 45 _ (by decide)
        have f_100 : R 0 8 (mI (wI h 11 0 0) 45 (Int32.toNatClampNeg 52)) := f_101
        exact hp _ _ ok_99 (R_w f_100 (by decide))
      · have f_102 : R 0 0 0 := ⟨by decide, by decide⟩
        have ok_103 := OkM_w ok (k := 11) (j := 0) (v := 0) (lo := (-2147483648)) (hi := 2147483647) (by decide) (R_w f_102 (by decide)) rfl (by decide)
        have f_105 : R 0 18 (mI h 45 (Int32.toNatClampNeg 85)) := GI_rd ok.1 45 _ (by decide)
        have f_104 : R 0 18 (mI (wI h 11 0 0) 45 (Int32.toNatClampNeg 85)) := f_105
        exact hp _ _ ok_103 (R_w f_104 (by decide))
      · have f_106 : R 0 0 0 := ⟨by decide, by decide⟩
        have ok_107 := OkM_w ok (k := 11) (j := 0) (v := 0) (lo := (-2147483648)) (hi := 2147483647) (by decide) (R_w f_106 (by decide)) rfl (by decide)
        have f_109 : R 0 4 (mI h 45 (Int32.toNatClampNeg 158)) := GI_rd ok.1 45 _ (by decide)
        have f_108 : R 0 4 (mI (wI h 11 0 0) 45 (Int32.toNatClampNeg 158)) := f_109
        exact hp _ _ ok_107 (R_w f_108 (by decide))
      · have f_110 : R 0 0 0 := ⟨by decide, by decide⟩
        have ok_111 := OkM_w ok (k := 11) (j := 0) (v := 0) (lo := (-2147483648)) (hi := 2147483647) (by decide) (R_w f_110 (by decide)) rfl (by decide)
        have f_113 : R 0 60 (mI h 45 (Int32.toNatClampNeg 49)) := GI_rd ok.1 45 _ (by decide)
        have f_112 : R 0 60 (mI (wI h 11 0 0) 45 (Int32.toNatClampNeg 49)) := f_113
        exact hp _ _ ok_111 (R_w f_112 (by decide))
      · have f_114 : R 0 0 0 := ⟨by decide, by decide⟩
        have ok_115 := OkM_w ok (k := 11) (j := 0) (v := 0) (lo := (-2147483648)) (hi := 2147483647) (by decide) (R_w f_114 (by decide)) rfl (by decide)
        have f_117 : R 0 20 (mI h 11 24) := GI_rd ok.1 11 _ (by decide)
        have f_116 : R 0 20 (mI (wI h 11 0 0) 11 24) := f_117
        exact hp _ _ ok_115 (R_w f_116 (by decide))
      · have f_118 : R 0 0 0 := ⟨by decide, by decide⟩
        have ok_119 := OkM_w ok (k := 11) (j := 0) (v := 0) (lo := (-2147483648)) (hi := 2147483647) (by decide) (R_w f_118 (by decide)) rfl (by decide)
        have f_121 : R 0 20 (mI h 11 25) := GI_rd ok.1 11 _ (by decide)
        have f_120 : R 0 20 (mI (wI h 11 0 0) 11 25) := f_121
        exact hp _ _ ok_119 (R_w f_120 (by decide))
      · have f_122 : R 0 0 0 := ⟨by decide, by decide⟩
        have ok_123 := OkM_w ok (k := 11) (j := 0) (v := 0) (lo := (-2147483648)) (hi := 2147483647) (by decide) (R_w f_122 (by decide)) rfl (by decide)
        have f_125 : R 0 4 (mI h 11 26) := GI_rd ok.1 11 _ (by decide)
        have f_124 : R 0 4 (mI (wI h 11 0 0) 11 26) := f_125
        exact hp _ _ ok_123 (R_w f_124 (by decide))
    · have f_127 : R 0 1 (mI h 11 14) := GI_rd ok.1 11 _ (by decide)
      have f_126 : R 0 1 (mI (wI h 11 0 0) 11 14) := f_127
      have f_128 : R 0 0 0 := ⟨by decide, by decide⟩
      have f_129 : R 0 0 (mI (wI h 11 0 0) 11 14) := rf_eq f_128 c_78
      have f_130 : R 0 0 0 := ⟨by decide, by decide⟩
      have ok_131 := OkM_w ok (k := 11) (j := 0) (v := 0) (lo := (-2147483648)) (hi := 2147483647) (by decide) (R_w f_130 (by decide)) rfl (by decide)
      refine s_X11_within l1 0 9 ok_131.1 (fun r5 f_133 im_132 => ?_)
      refine ⟨fun c_134 => ?_, fun c_134 => ?_⟩
      · have f_135 : R 0 0 0 := ⟨by decide, by decide⟩
        have f_136 : R 0 0 r5 := rf_eq f_135 c_134
        have f_137 : R (-1) (-1) (-1) := ⟨by decide, by decide⟩
        exact hp _ _ ok_131 (R_w f_137 (by decide))
      · have f_138 : R 0 0 0 := ⟨by decide, by decide⟩
        have f_139 : R 0 0 0 := ⟨by decide, by decide⟩
        have f_140 : R 0 2147483647 l1 := rf_le_r f_139 (R_full l1) (im_132 c_134).1 0 (by decide)
        have f_141 : R 9 9 9 := ⟨by decide, by decide⟩
        have f_142 : R 0 9 l1 := rf_le_l f_140 f_141 (im_132 c_134).2 9 (by decide)
        have f_143 : R 1 1 r5 := rf_ne_lo f_133 c_134 (by decide) 1 rfl
        have f_144 : R 0 0 0 := ⟨by decide, by decide⟩
        exact hp _ _ ok_131 (R_w f_144 (by decide))
  · have f_145 : R 10 10 10 := ⟨by decide, by decide⟩
    have f_146 : R 10 10 l1 := rf_eq f_145 c_76
    have f_147 : R 0 0 0 := ⟨by decide, by decide⟩
    have ok_148 := OkM_w ok (k := 11) (j := 0) (v := 0) (lo := (-2147483648)) (hi := 2147483647) (by decide) (R_w f_147 (by decide)) rfl (by decide)
    have f_150 : R 0 900 (mI h 11 2) := GI_rd ok.1 11 _ (by decide)
    have f_149 : R 0 900 (mI (wI h 11 0 0) 11 2) := f_150
    exact hp _ _ ok_148 (R_w f_149 (by decide))
set_option maxRecDepth 100000 in
set_option maxHeartbeats 4000000 in
theorem s_X11_trouble {g : gT} {h : mh_T} {P : Int32 → mh_T → Prop}  (hG : GI h)  (hp : ∀ (r : Int32) h', OkM h h' → P r h') : MCi g yX11_trouble uX11_trouble [.ref 11] h P := by
  have ok : OkM h h := OkM_rf hG
  refine e_X11_trouble   ?_
  have f_5 : R 0 0 0 := ⟨by decide, by decide⟩
  have ok_6 := OkM_w ok (k := 11) (j := 0) (v := 0) (lo := (-2147483648)) (hi := 2147483647) (by decide) (R_w f_5 (by decide)) rfl (by decide)
  have f_8 : R (-2147483648) 2147483647 (mI h 11 11) := R_full _
  have f_7 : R (-2147483648) 2147483647 (mI (wI h 11 0 0) 11 11) := f_8
  exact hp _ _ ok_6 
