set_option maxRecDepth 100000 in
set_option maxHeartbeats 4000000 in
theorem s_X11_runLine_v0_L {g : gT} {h0 : mh_T} {P : mh_T → Prop} (hG0 : GI h0) (hp : ∀ h', Ok [11, 44, 46] h0 h' → P h') : ∀ n : Nat, (∀ (l1 : Int32) (l2 : Int32) (l3 : Int32) (h : mh_T), Ok [11, 44, 46] h0 h → R 0 3 l1 → R 0 6 l2 → R 0 1 l3 → R 0 3 (mI h 46 (Int32.toNatClampNeg 158)) → 1 * gap 6 l2 + 0 < n → ME g uX11_runLine 21 [.ref 11, .int l1, .int l2, .int l3, .retAddr 0] [] h (qV P)) := by
  intro n
  induction n with
  | zero =>
    exact (fun _ _ _ _ _ _ _ _ _ hm => absurd hm (Nat.not_lt_zero _))
  | succ n ih =>
    intro l1 l2 l3 h  ok fl1 fl2 fl3 fi0    hm
    refine r_X11_runLine_21 l1 l2 l3  ?_
    refine ⟨fun c_547 => ?_, fun c_547 => ?_⟩
    · have f_548 : R 0 0 0 := ⟨by decide, by decide⟩
      have f_549 : R 0 0 l3 := rf_eq f_548 c_547
      have f_551 : R 159 159 159 := ⟨by decide, by decide⟩
      have f_550 : R 159 162 (159 + l1) := R_add f_551 fl1 159 162 (by decide)
      refine ⟨vin f_550 (by decide), ?_⟩
      have ok_552 := Ok_w ok (k := 46) (j := (159 + l1).toNatClampNeg) (v := l2) (lo := 0) (hi := 6) (rgp_46_11 (ix_ge f_550 (by decide)) (ix_le f_550 (by decide))) fl2 (by decide) (nt_k (by decide))
      have f_554 : R 0 3 (mI (wI h 46 (159 + l1).toNatClampNeg l2) 46 (Int32.toNatClampNeg 158)) := rd_nj fi0 (ix_ne f_550 (by decide))
      have f_555 : R 1 1 1 := ⟨by decide, by decide⟩
      have f_553 : R 1 4 ((mI (wI h 46 (159 + l1).toNatClampNeg l2) 46 (Int32.toNatClampNeg 158)) + 1) := R_add f_554 f_555 1 4 (by decide)
      have ok_556 := Ok_w ok_552 (k := 46) (j := (Int32.toNatClampNeg 158)) (v := ((mI (wI h 46 (159 + l1).toNatClampNeg l2) 46 (Int32.toNatClampNeg 158)) + 1)) (lo := 0) (hi := 4) (by decide) (R_w f_553 (by decide)) (by decide) (by decide)
      exact hp _ ok_556
    · have f_557 : R 0 0 0 := ⟨by decide, by decide⟩
      have f_558 : R 1 1 l3 := rf_ne_lo fl3 c_547 (by decide) 1 rfl
      have f_559 : R 1 1 1 := ⟨by decide, by decide⟩
      have f_560 : R 1 1 1 := ⟨by decide, by decide⟩
      refine s_X11_named_v0 1 0 ok.1 (R_w f_560 (by decide)) (fun r4 h3 ko_561 f_563 => ?_)
      have ok_562 := Ok_tr ok ko_561 (by decide)
      refine ⟨fun c_564 => ?_, fun c_564 => ?_⟩
      · have f_565 : R 0 1 (mI h3 11 13) := GI_rd ok_562.1 11 _ (by decide)
        have f_566 : R 0 0 0 := ⟨by decide, by decide⟩
        have f_567 : R 1 1 (mI h3 11 13) := rf_ne_lo f_565 c_564 (by decide) 1 rfl
        refine ⟨fun c_568 => ?_, fun c_568 => ?_⟩
        · have f_569 : R 0 0 0 := ⟨by decide, by decide⟩
          have f_570 : R 0 0 (mI h3 11 13) := rf_eq f_569 c_568
          exact (R_abs2 f_567 f_570 (by decide)).elim
        · have f_571 : R 0 0 0 := ⟨by decide, by decide⟩
          exact hp _ ok_562
      · have f_572 : R 0 1 (mI h3 11 13) := GI_rd ok_562.1 11 _ (by decide)
        have f_573 : R 0 0 0 := ⟨by decide, by decide⟩
        have f_574 : R 0 0 (mI h3 11 13) := rf_eq f_573 c_564
        refine ⟨fun c_575 => ?_, fun c_575 => ?_⟩
        · have f_576 : R 6 6 6 := ⟨by decide, by decide⟩
          have f_577 : R 0 5 l2 := rf_ne_hi fl2 c_575 (by decide) 5 rfl
          refine ⟨fun c_578 => ?_, fun c_578 => ?_⟩
          · have f_579 : R 0 0 0 := ⟨by decide, by decide⟩
            refine s_X11_next ok_562.1 (fun h16 ko_580 => ?_)
            have ok_581 := Ok_tr ok_562 ko_580 (by decide)
            have f_584 : R 163 163 163 := ⟨by decide, by decide⟩
            have f_586 : R 6 6 6 := ⟨by decide, by decide⟩
            have f_585 : R 0 18 (6 * l1) := R_mul f_586 fl1 0 18 (by decide)
            have f_583 : R 163 181 (163 + (6 * l1)) := R_add f_584 f_585 163 181 (by decide)
            have f_582 : R 163 186 ((163 + (6 * l1)) + l2) := R_add f_583 f_577 163 186 (by decide)
            refine ⟨vin f_582 (by decide), ?_⟩
            have f_587 : R 0 0 0 := ⟨by decide, by decide⟩
            have f_588 : R 1 1 1 := ⟨by decide, by decide⟩
            have f_589 : R 0 0 0 := ⟨by decide, by decide⟩
            have f_590 : R 1 1 1 := ⟨by decide, by decide⟩
            have f_591 : R 0 0 0 := ⟨by decide, by decide⟩
            have f_592 : R 1 1 1 := ⟨by decide, by decide⟩
            have f_593 : R 0 0 0 := ⟨by decide, by decide⟩
            have f_594 : R 1 1 1 := ⟨by decide, by decide⟩
            have ok_595 := Ok_w ok_581 (k := 46) (j := ((163 + (6 * l1)) + l2).toNatClampNeg) (v := r4) (lo := 0) (hi := 5) (rgp_46_12 (ix_ge f_582 (by decide)) (ix_le f_582 (by decide))) f_563 (by decide) (nt_k (by decide))
            have f_596 : R 0 0 0 := ⟨by decide, by decide⟩
            have f_597 : R 1 1 1 := ⟨by decide, by decide⟩
            refine s_X11_number_v3 0 1 ok_595.1 (R_w f_596 (by decide)) (R_w f_597 (by decide)) (fun r19 h18 ko_598 f_600 => ?_)
            have ok_599 := Ok_tr ok_595 ko_598 (by decide)
            have f_603 : R 187 187 187 := ⟨by decide, by decide⟩
            have f_602 : R 187 205 (187 + (6 * l1)) := R_add f_603 f_585 187 205 (by decide)
            have f_601 : R 187 210 ((187 + (6 * l1)) + l2) := R_add f_602 f_577 187 210 (by decide)
            refine ⟨vin f_601 (by decide), ?_⟩
            have ok_604 := Ok_w ok_599 (k := 46) (j := ((187 + (6 * l1)) + l2).toNatClampNeg) (v := r19) (lo := 0) (hi := 1) (rgp_46_13 (ix_ge f_601 (by decide)) (ix_le f_601 (by decide))) f_600 (by decide) (nt_k (by decide))
            refine s_X11_comma ok_604.1 (fun r22 h21 ko_605 f_607 => ?_)
            have ok_606 := Ok_tr ok_604 ko_605 (by decide)
            have f_609 : R 1 1 1 := ⟨by decide, by decide⟩
            have f_608 : R 1 6 (l2 + 1) := R_add f_577 f_609 1 6 (by decide)
            have f_615 : R 0 3 (mI h3 46 (Int32.toNatClampNeg 158)) := Ok_rd ko_561 (by decide) fi0
            have f_614 : R 0 3 (mI h16 46 (Int32.toNatClampNeg 158)) := Ok_rd ko_580 (by decide) f_615
            have f_613 : R 0 3 (mI (wI h16 46 ((163 + (6 * l1)) + l2).toNatClampNeg r4) 46 (Int32.toNatClampNeg 158)) := rd_nj f_614 (ix_ne f_582 (by decide))
            have f_612 : R 0 3 (mI h18 46 (Int32.toNatClampNeg 158)) := Ok_rd ko_598 (by decide) f_613
            have f_611 : R 0 3 (mI (wI h18 46 ((187 + (6 * l1)) + l2).toNatClampNeg r19) 46 (Int32.toNatClampNeg 158)) := rd_nj f_612 (ix_ne f_601 (by decide))
            have f_610 : R 0 3 (mI h21 46 (Int32.toNatClampNeg 158)) := Ok_rd ko_605 (by decide) f_611
            have g_616 := gap_inc (N := 6) f_577 (by decide)
            exact ih l1 (l2 + 1) r22 h21  ok_606 (R_w fl1 (by decide)) (R_w f_608 (by decide)) (R_w f_607 (by decide)) (R_w f_610 (by decide)) (by omega)
          · have f_617 : R 0 0 0 := ⟨by decide, by decide⟩
            have f_618 : R 1 0 (mI h3 11 13) := rf_ne_lo f_574 c_578 (by decide) 1 rfl
            exact (R_abs f_618 (by decide)).elim
        · have f_619 : R 6 6 6 := ⟨by decide, by decide⟩
          have f_620 : R 6 6 l2 := rf_eq f_619 c_575
          refine s_X11_wrong 5 (mI h3 11 4) ok_562.1 (fun h23 ko_621 po_623 => ?_)
          have ok_622 := Ok_tr ok_562 ko_621 (by decide)
          refine ⟨fun c_624 => ?_, fun c_624 => ?_⟩
          · have f_626 : R 1 1 1 := ⟨by decide, by decide⟩
            have f_625 : R 1 1 (mI h23 11 13) := rf_eq f_626 po_623
            have f_627 : R 0 0 0 := ⟨by decide, by decide⟩
            have f_628 : R 0 0 (mI h23 11 13) := rf_eq f_627 c_624
            exact (R_abs2 f_625 f_628 (by decide)).elim
          · have f_630 : R 1 1 1 := ⟨by decide, by decide⟩
            have f_629 : R 1 1 (mI h23 11 13) := rf_eq f_630 po_623
            have f_631 : R 0 0 0 := ⟨by decide, by decide⟩
            exact hp _ ok_622
set_option maxRecDepth 100000 in
set_option maxHeartbeats 4000000 in
theorem s_X11_runLine_v0 {g : gT} {h : mh_T} {P : mh_T → Prop}  (hG : GI h) (fi0 : R 0 3 (mI h 46 (Int32.toNatClampNeg 158))) (hp : ∀ h', Ok [11, 44, 46] h h' → P h') : MCv g yX11_runLine uX11_runLine [.ref 11] h P := by
  have ok : Ok [11, 44, 46] h h := Ok_rf hG
  have L0 := s_X11_runLine_v0_L (g := g) hG hp 7
  refine e_X11_runLine   ?_
  refine ⟨fun c_632 => ?_, fun c_632 => ?_⟩
  · have f_633 : R 0 1 (mI h 11 13) := GI_rd ok.1 11 _ (by decide)
    have f_634 : R 0 0 0 := ⟨by decide, by decide⟩
    have f_635 : R 0 0 (mI h 11 13) := rf_eq f_634 c_632
    intro x2 ex2
    have f_636 : R 0 3 x2 := rf_eq fi0 ex2
    have f_637 : R 0 0 0 := ⟨by decide, by decide⟩
    have f_638 : R 1 1 1 := ⟨by decide, by decide⟩
    have f_639 : R 0 0 0 := ⟨by decide, by decide⟩
    have g_640 := gap_le (N := 6) f_639 (m := 6) (by decide)
    exact L0 x2 0 1 h  ok (R_w f_636 (by decide)) (R_w f_637 (by decide)) (R_w f_638 (by decide)) (R_w fi0 (by decide)) (by omega)
  · have f_641 : R 0 1 (mI h 11 13) := GI_rd ok.1 11 _ (by decide)
    have f_642 : R 0 0 0 := ⟨by decide, by decide⟩
    have f_643 : R 1 1 (mI h 11 13) := rf_ne_lo f_641 c_632 (by decide) 1 rfl
    exact hp _ ok
set_option maxRecDepth 100000 in
set_option maxHeartbeats 4000000 in
theorem s_X11_runLine_v1 {g : gT} {h : mh_T} {P : mh_T → Prop}  (hG : GI h) (fi0 : R 1 1 (mI h 11 13)) (hp : ∀ h', Ok [11, 44, 46] h h' → P h') : MCv g yX11_runLine uX11_runLine [.ref 11] h P := by
  have ok : Ok [11, 44, 46] h h := Ok_rf hG
  refine e_X11_runLine   ?_
  refine ⟨fun c_5 => ?_, fun c_5 => ?_⟩
  · have f_6 : R 0 0 0 := ⟨by decide, by decide⟩
    have f_7 : R 0 0 (mI h 11 13) := rf_eq f_6 c_5
    exact (R_abs2 fi0 f_7 (by decide)).elim
  · have f_8 : R 0 0 0 := ⟨by decide, by decide⟩
    exact hp _ ok
set_option maxRecDepth 100000 in
set_option maxHeartbeats 4000000 in
theorem s_X11_readLine {g : gT} {h : mh_T} {P : mh_T → Prop}  (hG : GI h)  (hp : ∀ h', Ok [11, 44, 46] h h' → P h') : MCv g yX11_readLine uX11_readLine [.ref 11] h P := by
  have ok : Ok [11, 44, 46] h h := Ok_rf hG
  refine e_X11_readLine   ?_
  refine ⟨fun c_856 => ?_, fun c_856 => ?_⟩
  · have f_857 : R 0 60 (mI h 46 (Int32.toNatClampNeg 49)) := GI_rd ok.1 46 _ (by decide)
    have f_858 : R 0 0 0 := ⟨by decide, by decide⟩
    have f_859 : R 1 60 (mI h 46 (Int32.toNatClampNeg 49)) := rf_ne_lo f_857 c_856 (by decide) 1 rfl
    have f_860 : R 0 0 0 := ⟨by decide, by decide⟩
    have f_861 : R 0 0 0 := ⟨by decide, by decide⟩
    refine s_X11_begins_v0 0 0 3 (by decide) ok.1 (R_w f_861 (by decide)) (fun r3 h2 ko_863 f_865 im_862 => ?_)
    have ok_864 := Ok_tr ok ko_863 (by decide)
    refine ⟨fun c_866 => ?_, fun c_866 => ?_⟩
    · have f_867 : R 0 0 0 := ⟨by decide, by decide⟩
      have f_868 : R 0 0 r3 := rf_eq f_867 c_866
      have f_869 : R 1 1 1 := ⟨by decide, by decide⟩
      have f_870 : R 1 1 1 := ⟨by decide, by decide⟩
      have f_871 : R 1 1 1 := ⟨by decide, by decide⟩
      refine s_X11_begins_v1 1 1 1 (by decide) ok_864.1 (R_w f_871 (by decide)) (fun r6 h5 ko_873 f_875 im_872 => ?_)
      have ok_874 := Ok_tr ok_864 ko_873 (by decide)
      refine ⟨fun c_876 => ?_, fun c_876 => ?_⟩
      · have f_877 : R 0 0 0 := ⟨by decide, by decide⟩
        have f_878 : R 0 0 r6 := rf_eq f_877 c_876
        have f_879 : R 1 1 1 := ⟨by decide, by decide⟩
        have f_880 : R 1 1 1 := ⟨by decide, by decide⟩
        have f_881 : R 1 1 1 := ⟨by decide, by decide⟩
        refine s_X11_begins_v1 2 1 1 (by decide) ok_874.1 (R_w f_881 (by decide)) (fun r9 h8 ko_883 f_885 im_882 => ?_)
        have ok_884 := Ok_tr ok_874 ko_883 (by decide)
        refine ⟨fun c_886 => ?_, fun c_886 => ?_⟩
        · have f_887 : R 0 0 0 := ⟨by decide, by decide⟩
          have f_888 : R 0 0 r9 := rf_eq f_887 c_886
          refine s_X11_isWord 3 (by decide) ok_884.1 (fun r12 f_889 => ?_)
          refine ⟨fun c_890 => ?_, fun c_890 => ?_⟩
          · have f_891 : R 0 0 0 := ⟨by decide, by decide⟩
            have f_892 : R 0 0 r12 := rf_eq f_891 c_890
            refine ⟨fun c_893 => ?_, fun c_893 => ?_⟩
            · have f_897 : R 0 8 (mI h 46 (Int32.toNatClampNeg 52)) := GI_rd ok.1 46 _ (by decide)
              have f_896 : R 0 8 (mI h2 46 (Int32.toNatClampNeg 52)) := Ok_rd ko_863 (by decide) f_897
              have f_895 : R 0 8 (mI h5 46 (Int32.toNatClampNeg 52)) := Ok_rd ko_873 (by decide) f_896
              have f_894 : R 0 8 (mI h8 46 (Int32.toNatClampNeg 52)) := Ok_rd ko_883 (by decide) f_895
              have f_898 : R 8 8 8 := ⟨by decide, by decide⟩
              have f_899 : R 8 8 (mI h8 46 (Int32.toNatClampNeg 52)) := rf_le_r f_898 f_894 c_893 8 (by decide)
              have f_900 : R 0 0 0 := ⟨by decide, by decide⟩
              have f_901 : R 0 0 0 := ⟨by decide, by decide⟩
              refine s_X11_begins_v0 4 0 5 (by decide) ok_884.1 (R_w f_901 (by decide)) (fun r16 h15 ko_903 f_905 im_902 => ?_)
              have ok_904 := Ok_tr ok_884 ko_903 (by decide)
              refine ⟨fun c_906 => ?_, fun c_906 => ?_⟩
              · have f_907 : R 0 0 0 := ⟨by decide, by decide⟩
                have f_908 : R 0 0 r16 := rf_eq f_907 c_906
                refine ⟨fun c_909 => ?_, fun c_909 => ?_⟩
                · have f_914 : R 0 18 (mI h 46 (Int32.toNatClampNeg 85)) := GI_rd ok.1 46 _ (by decide)
                  have f_913 : R 0 18 (mI h2 46 (Int32.toNatClampNeg 85)) := Ok_rd ko_863 (by decide) f_914
                  have f_912 : R 0 18 (mI h5 46 (Int32.toNatClampNeg 85)) := Ok_rd ko_873 (by decide) f_913
                  have f_911 : R 0 18 (mI h8 46 (Int32.toNatClampNeg 85)) := Ok_rd ko_883 (by decide) f_912
                  have f_910 : R 0 18 (mI h15 46 (Int32.toNatClampNeg 85)) := Ok_rd ko_903 (by decide) f_911
                  have f_915 : R 18 18 18 := ⟨by decide, by decide⟩
                  have f_916 : R 18 18 (mI h15 46 (Int32.toNatClampNeg 85)) := rf_le_r f_915 f_910 c_909 18 (by decide)
                  have f_917 : R 0 0 0 := ⟨by decide, by decide⟩
                  have f_918 : R 0 0 0 := ⟨by decide, by decide⟩
                  refine s_X11_begins_v0 5 0 5 (by decide) ok_904.1 (R_w f_918 (by decide)) (fun r20 h19 ko_920 f_922 im_919 => ?_)
                  have ok_921 := Ok_tr ok_904 ko_920 (by decide)
                  refine ⟨fun c_923 => ?_, fun c_923 => ?_⟩
                  · have f_924 : R 0 0 0 := ⟨by decide, by decide⟩
                    have f_925 : R 0 0 r20 := rf_eq f_924 c_923
                    refine ⟨fun c_926 => ?_, fun c_926 => ?_⟩
                    · have f_932 : R 0 4 (mI h 46 (Int32.toNatClampNeg 158)) := GI_rd ok.1 46 _ (by decide)
                      have f_931 : R 0 4 (mI h2 46 (Int32.toNatClampNeg 158)) := Ok_rd ko_863 (by decide) f_932
                      have f_930 : R 0 4 (mI h5 46 (Int32.toNatClampNeg 158)) := Ok_rd ko_873 (by decide) f_931
                      have f_929 : R 0 4 (mI h8 46 (Int32.toNatClampNeg 158)) := Ok_rd ko_883 (by decide) f_930
                      have f_928 : R 0 4 (mI h15 46 (Int32.toNatClampNeg 158)) := Ok_rd ko_903 (by decide) f_929
                      have f_927 : R 0 4 (mI h19 46 (Int32.toNatClampNeg 158)) := Ok_rd ko_920 (by decide) f_928
                      have f_933 : R 4 4 4 := ⟨by decide, by decide⟩
                      have f_934 : R 4 4 (mI h19 46 (Int32.toNatClampNeg 158)) := rf_le_r f_933 f_927 c_926 4 (by decide)
                      have f_935 : R 0 0 0 := ⟨by decide, by decide⟩
                      have f_936 : R 0 0 0 := ⟨by decide, by decide⟩
                      refine s_X11_begins_v0 6 0 5 (by decide) ok_921.1 (R_w f_936 (by decide)) (fun r24 h23 ko_938 f_940 im_937 => ?_)
                      have ok_939 := Ok_tr ok_921 ko_938 (by decide)
                      refine ⟨fun c_941 => ?_, fun c_941 => ?_⟩
                      · have f_942 : R 0 0 0 := ⟨by decide, by decide⟩
                        have f_943 : R 0 0 r24 := rf_eq f_942 c_941
                        refine s_X11_wrong 1 (mI h23 11 4) ok_939.1 (fun h26 ko_944 po_946 => ?_)
                        have ok_945 := Ok_tr ok_939 ko_944 (by decide)
                        exact hp _ ok_945
                      · have f_947 : R 0 0 0 := ⟨by decide, by decide⟩
                        have f_948 := (im_937 c_941)
                        have f_949 : R 1 1 r24 := rf_ne_lo f_940 c_941 (by decide) 1 rfl
                        have f_951 : R 4 4 4 := ⟨by decide, by decide⟩
                        have f_950 : R 4 4 (mI h23 46 (Int32.toNatClampNeg 158)) := Ok_rd ko_938 (by decide) f_934
                        refine s_X11_runLine_v1 ok_939.1 (R_w f_948 (by decide)) (fun h27 ko_952 => ?_)
                        have ok_953 := Ok_tr ok_939 ko_952 (by decide)
                        exact hp _ ok_953
                    · have f_959 : R 0 4 (mI h 46 (Int32.toNatClampNeg 158)) := GI_rd ok.1 46 _ (by decide)
                      have f_958 : R 0 4 (mI h2 46 (Int32.toNatClampNeg 158)) := Ok_rd ko_863 (by decide) f_959
                      have f_957 : R 0 4 (mI h5 46 (Int32.toNatClampNeg 158)) := Ok_rd ko_873 (by decide) f_958
                      have f_956 : R 0 4 (mI h8 46 (Int32.toNatClampNeg 158)) := Ok_rd ko_883 (by decide) f_957
                      have f_955 : R 0 4 (mI h15 46 (Int32.toNatClampNeg 158)) := Ok_rd ko_903 (by decide) f_956
                      have f_954 : R 0 4 (mI h19 46 (Int32.toNatClampNeg 158)) := Ok_rd ko_920 (by decide) f_955
                      have f_960 : R 4 4 4 := ⟨by decide, by decide⟩
                      have f_961 : R 0 3 (mI h19 46 (Int32.toNatClampNeg 158)) := rf_lt_l f_954 f_960 (nle c_926) 3 (by decide)
                      have f_962 : R 1 1 1 := ⟨by decide, by decide⟩
                      have f_963 : R 1 1 1 := ⟨by decide, by decide⟩
                      have f_964 : R 1 1 1 := ⟨by decide, by decide⟩
                      refine s_X11_begins_v1 6 1 5 (by decide) ok_921.1 (R_w f_964 (by decide)) (fun r29 h28 ko_966 f_968 im_965 => ?_)
                      have ok_967 := Ok_tr ok_921 ko_966 (by decide)
                      refine ⟨fun c_969 => ?_, fun c_969 => ?_⟩
                      · have f_970 : R 0 0 0 := ⟨by decide, by decide⟩
                        have f_971 : R 0 0 r29 := rf_eq f_970 c_969
                        refine s_X11_wrong 1 (mI h28 11 4) ok_967.1 (fun h31 ko_972 po_974 => ?_)
                        have ok_973 := Ok_tr ok_967 ko_972 (by decide)
                        exact hp _ ok_973
                      · have f_975 : R 0 0 0 := ⟨by decide, by decide⟩
                        have f_976 : R 1 1 r29 := rf_ne_lo f_968 c_969 (by decide) 1 rfl
                        have f_978 : R 4 4 4 := ⟨by decide, by decide⟩
                        have f_977 : R 0 3 (mI h28 46 (Int32.toNatClampNeg 158)) := Ok_rd ko_966 (by decide) f_961
                        refine s_X11_runLine_v0 ok_967.1 (R_w f_977 (by decide)) (fun h32 ko_979 => ?_)
                        have ok_980 := Ok_tr ok_967 ko_979 (by decide)
                        exact hp _ ok_980
                  · have f_981 : R 0 0 0 := ⟨by decide, by decide⟩
                    have f_982 := (im_919 c_923)
                    have f_983 : R 1 1 r20 := rf_ne_lo f_922 c_923 (by decide) 1 rfl
                    have f_985 : R 18 18 18 := ⟨by decide, by decide⟩
                    have f_984 : R 18 18 (mI h19 46 (Int32.toNatClampNeg 85)) := Ok_rd ko_920 (by decide) f_916
                    refine s_X11_rayLine_v1 ok_921.1 (R_w f_982 (by decide)) (fun h33 ko_986 => ?_)
                    have ok_987 := Ok_tr ok_921 ko_986 (by decide)
                    exact hp _ ok_987
                · have f_992 : R 0 18 (mI h 46 (Int32.toNatClampNeg 85)) := GI_rd ok.1 46 _ (by decide)
                  have f_991 : R 0 18 (mI h2 46 (Int32.toNatClampNeg 85)) := Ok_rd ko_863 (by decide) f_992
                  have f_990 : R 0 18 (mI h5 46 (Int32.toNatClampNeg 85)) := Ok_rd ko_873 (by decide) f_991
                  have f_989 : R 0 18 (mI h8 46 (Int32.toNatClampNeg 85)) := Ok_rd ko_883 (by decide) f_990
                  have f_988 : R 0 18 (mI h15 46 (Int32.toNatClampNeg 85)) := Ok_rd ko_903 (by decide) f_989
                  have f_993 : R 18 18 18 := ⟨by decide, by decide⟩
                  have f_994 : R 0 17 (mI h15 46 (Int32.toNatClampNeg 85)) := rf_lt_l f_988 f_993 (nle c_909) 17 (by decide)
                  have f_995 : R 1 1 1 := ⟨by decide, by decide⟩
                  have f_996 : R 1 1 1 := ⟨by decide, by decide⟩
                  have f_997 : R 1 1 1 := ⟨by decide, by decide⟩
                  refine s_X11_begins_v1 5 1 5 (by decide) ok_904.1 (R_w f_997 (by decide)) (fun r35 h34 ko_999 f_1001 im_998 => ?_)
                  have ok_1000 := Ok_tr ok_904 ko_999 (by decide)
                  refine ⟨fun c_1002 => ?_, fun c_1002 => ?_⟩
                  · have f_1003 : R 0 0 0 := ⟨by decide, by decide⟩
                    have f_1004 : R 0 0 r35 := rf_eq f_1003 c_1002
                    refine ⟨fun c_1005 => ?_, fun c_1005 => ?_⟩
                    · have f_1011 : R 0 4 (mI h 46 (Int32.toNatClampNeg 158)) := GI_rd ok.1 46 _ (by decide)
                      have f_1010 : R 0 4 (mI h2 46 (Int32.toNatClampNeg 158)) := Ok_rd ko_863 (by decide) f_1011
                      have f_1009 : R 0 4 (mI h5 46 (Int32.toNatClampNeg 158)) := Ok_rd ko_873 (by decide) f_1010
                      have f_1008 : R 0 4 (mI h8 46 (Int32.toNatClampNeg 158)) := Ok_rd ko_883 (by decide) f_1009
                      have f_1007 : R 0 4 (mI h15 46 (Int32.toNatClampNeg 158)) := Ok_rd ko_903 (by decide) f_1008
                      have f_1006 : R 0 4 (mI h34 46 (Int32.toNatClampNeg 158)) := Ok_rd ko_999 (by decide) f_1007
                      have f_1012 : R 4 4 4 := ⟨by decide, by decide⟩
                      have f_1013 : R 4 4 (mI h34 46 (Int32.toNatClampNeg 158)) := rf_le_r f_1012 f_1006 c_1005 4 (by decide)
                      have f_1014 : R 0 0 0 := ⟨by decide, by decide⟩
                      have f_1015 : R 0 0 0 := ⟨by decide, by decide⟩
                      refine s_X11_begins_v0 6 0 5 (by decide) ok_1000.1 (R_w f_1015 (by decide)) (fun r39 h38 ko_1017 f_1019 im_1016 => ?_)
                      have ok_1018 := Ok_tr ok_1000 ko_1017 (by decide)
                      refine ⟨fun c_1020 => ?_, fun c_1020 => ?_⟩
                      · have f_1021 : R 0 0 0 := ⟨by decide, by decide⟩
                        have f_1022 : R 0 0 r39 := rf_eq f_1021 c_1020
                        refine s_X11_wrong 1 (mI h38 11 4) ok_1018.1 (fun h41 ko_1023 po_1025 => ?_)
                        have ok_1024 := Ok_tr ok_1018 ko_1023 (by decide)
                        exact hp _ ok_1024
                      · have f_1026 : R 0 0 0 := ⟨by decide, by decide⟩
                        have f_1027 := (im_1016 c_1020)
                        have f_1028 : R 1 1 r39 := rf_ne_lo f_1019 c_1020 (by decide) 1 rfl
                        have f_1030 : R 4 4 4 := ⟨by decide, by decide⟩
                        have f_1029 : R 4 4 (mI h38 46 (Int32.toNatClampNeg 158)) := Ok_rd ko_1017 (by decide) f_1013
                        refine s_X11_runLine_v1 ok_1018.1 (R_w f_1027 (by decide)) (fun h42 ko_1031 => ?_)
                        have ok_1032 := Ok_tr ok_1018 ko_1031 (by decide)
                        exact hp _ ok_1032
                    · have f_1038 : R 0 4 (mI h 46 (Int32.toNatClampNeg 158)) := GI_rd ok.1 46 _ (by decide)
                      have f_1037 : R 0 4 (mI h2 46 (Int32.toNatClampNeg 158)) := Ok_rd ko_863 (by decide) f_1038
                      have f_1036 : R 0 4 (mI h5 46 (Int32.toNatClampNeg 158)) := Ok_rd ko_873 (by decide) f_1037
                      have f_1035 : R 0 4 (mI h8 46 (Int32.toNatClampNeg 158)) := Ok_rd ko_883 (by decide) f_1036
                      have f_1034 : R 0 4 (mI h15 46 (Int32.toNatClampNeg 158)) := Ok_rd ko_903 (by decide) f_1035
                      have f_1033 : R 0 4 (mI h34 46 (Int32.toNatClampNeg 158)) := Ok_rd ko_999 (by decide) f_1034
                      have f_1039 : R 4 4 4 := ⟨by decide, by decide⟩
                      have f_1040 : R 0 3 (mI h34 46 (Int32.toNatClampNeg 158)) := rf_lt_l f_1033 f_1039 (nle c_1005) 3 (by decide)
                      have f_1041 : R 1 1 1 := ⟨by decide, by decide⟩
                      have f_1042 : R 1 1 1 := ⟨by decide, by decide⟩
                      have f_1043 : R 1 1 1 := ⟨by decide, by decide⟩
                      refine s_X11_begins_v1 6 1 5 (by decide) ok_1000.1 (R_w f_1043 (by decide)) (fun r44 h43 ko_1045 f_1047 im_1044 => ?_)
                      have ok_1046 := Ok_tr ok_1000 ko_1045 (by decide)
                      refine ⟨fun c_1048 => ?_, fun c_1048 => ?_⟩
                      · have f_1049 : R 0 0 0 := ⟨by decide, by decide⟩
                        have f_1050 : R 0 0 r44 := rf_eq f_1049 c_1048
                        refine s_X11_wrong 1 (mI h43 11 4) ok_1046.1 (fun h46 ko_1051 po_1053 => ?_)
                        have ok_1052 := Ok_tr ok_1046 ko_1051 (by decide)
                        exact hp _ ok_1052
                      · have f_1054 : R 0 0 0 := ⟨by decide, by decide⟩
                        have f_1055 : R 1 1 r44 := rf_ne_lo f_1047 c_1048 (by decide) 1 rfl
                        have f_1057 : R 4 4 4 := ⟨by decide, by decide⟩
                        have f_1056 : R 0 3 (mI h43 46 (Int32.toNatClampNeg 158)) := Ok_rd ko_1045 (by decide) f_1040
                        refine s_X11_runLine_v0 ok_1046.1 (R_w f_1056 (by decide)) (fun h47 ko_1058 => ?_)
                        have ok_1059 := Ok_tr ok_1046 ko_1058 (by decide)
                        exact hp _ ok_1059
                  · have f_1060 : R 0 0 0 := ⟨by decide, by decide⟩
                    have f_1061 : R 1 1 r35 := rf_ne_lo f_1001 c_1002 (by decide) 1 rfl
                    have f_1063 : R 18 18 18 := ⟨by decide, by decide⟩
                    have f_1062 : R 0 17 (mI h34 46 (Int32.toNatClampNeg 85)) := Ok_rd ko_999 (by decide) f_994
                    refine s_X11_rayLine_v0 ok_1000.1 (R_w f_1062 (by decide)) (fun h48 ko_1064 => ?_)
                    have ok_1065 := Ok_tr ok_1000 ko_1064 (by decide)
                    exact hp _ ok_1065
              · have f_1066 : R 0 0 0 := ⟨by decide, by decide⟩
                have f_1067 := (im_902 c_906)
                have f_1068 : R 1 1 r16 := rf_ne_lo f_905 c_906 (by decide) 1 rfl
                have f_1070 : R 8 8 8 := ⟨by decide, by decide⟩
                have f_1069 : R 8 8 (mI h15 46 (Int32.toNatClampNeg 52)) := Ok_rd ko_903 (by decide) f_899
                refine s_X11_lineLine_v1 ok_904.1 (R_w f_1067 (by decide)) (fun h49 ko_1071 => ?_)
                have ok_1072 := Ok_tr ok_904 ko_1071 (by decide)
                exact hp _ ok_1072
            · have f_1076 : R 0 8 (mI h 46 (Int32.toNatClampNeg 52)) := GI_rd ok.1 46 _ (by decide)
              have f_1075 : R 0 8 (mI h2 46 (Int32.toNatClampNeg 52)) := Ok_rd ko_863 (by decide) f_1076
              have f_1074 : R 0 8 (mI h5 46 (Int32.toNatClampNeg 52)) := Ok_rd ko_873 (by decide) f_1075
              have f_1073 : R 0 8 (mI h8 46 (Int32.toNatClampNeg 52)) := Ok_rd ko_883 (by decide) f_1074
              have f_1077 : R 8 8 8 := ⟨by decide, by decide⟩
              have f_1078 : R 0 7 (mI h8 46 (Int32.toNatClampNeg 52)) := rf_lt_l f_1073 f_1077 (nle c_893) 7 (by decide)
              have f_1079 : R 1 1 1 := ⟨by decide, by decide⟩
              have f_1080 : R 1 1 1 := ⟨by decide, by decide⟩
              have f_1081 : R 1 1 1 := ⟨by decide, by decide⟩
              refine s_X11_begins_v1 4 1 5 (by decide) ok_884.1 (R_w f_1081 (by decide)) (fun r51 h50 ko_1083 f_1085 im_1082 => ?_)
              have ok_1084 := Ok_tr ok_884 ko_1083 (by decide)
              refine ⟨fun c_1086 => ?_, fun c_1086 => ?_⟩
              · have f_1087 : R 0 0 0 := ⟨by decide, by decide⟩
                have f_1088 : R 0 0 r51 := rf_eq f_1087 c_1086
                refine ⟨fun c_1089 => ?_, fun c_1089 => ?_⟩
                · have f_1094 : R 0 18 (mI h 46 (Int32.toNatClampNeg 85)) := GI_rd ok.1 46 _ (by decide)
                  have f_1093 : R 0 18 (mI h2 46 (Int32.toNatClampNeg 85)) := Ok_rd ko_863 (by decide) f_1094
                  have f_1092 : R 0 18 (mI h5 46 (Int32.toNatClampNeg 85)) := Ok_rd ko_873 (by decide) f_1093
                  have f_1091 : R 0 18 (mI h8 46 (Int32.toNatClampNeg 85)) := Ok_rd ko_883 (by decide) f_1092
                  have f_1090 : R 0 18 (mI h50 46 (Int32.toNatClampNeg 85)) := Ok_rd ko_1083 (by decide) f_1091
                  have f_1095 : R 18 18 18 := ⟨by decide, by decide⟩
                  have f_1096 : R 18 18 (mI h50 46 (Int32.toNatClampNeg 85)) := rf_le_r f_1095 f_1090 c_1089 18 (by decide)
                  have f_1097 : R 0 0 0 := ⟨by decide, by decide⟩
                  have f_1098 : R 0 0 0 := ⟨by decide, by decide⟩
                  refine s_X11_begins_v0 5 0 5 (by decide) ok_1084.1 (R_w f_1098 (by decide)) (fun r55 h54 ko_1100 f_1102 im_1099 => ?_)
                  have ok_1101 := Ok_tr ok_1084 ko_1100 (by decide)
                  refine ⟨fun c_1103 => ?_, fun c_1103 => ?_⟩
                  · have f_1104 : R 0 0 0 := ⟨by decide, by decide⟩
                    have f_1105 : R 0 0 r55 := rf_eq f_1104 c_1103
                    refine ⟨fun c_1106 => ?_, fun c_1106 => ?_⟩
                    · have f_1112 : R 0 4 (mI h 46 (Int32.toNatClampNeg 158)) := GI_rd ok.1 46 _ (by decide)
                      have f_1111 : R 0 4 (mI h2 46 (Int32.toNatClampNeg 158)) := Ok_rd ko_863 (by decide) f_1112
                      have f_1110 : R 0 4 (mI h5 46 (Int32.toNatClampNeg 158)) := Ok_rd ko_873 (by decide) f_1111
                      have f_1109 : R 0 4 (mI h8 46 (Int32.toNatClampNeg 158)) := Ok_rd ko_883 (by decide) f_1110
                      have f_1108 : R 0 4 (mI h50 46 (Int32.toNatClampNeg 158)) := Ok_rd ko_1083 (by decide) f_1109
                      have f_1107 : R 0 4 (mI h54 46 (Int32.toNatClampNeg 158)) := Ok_rd ko_1100 (by decide) f_1108
                      have f_1113 : R 4 4 4 := ⟨by decide, by decide⟩
                      have f_1114 : R 4 4 (mI h54 46 (Int32.toNatClampNeg 158)) := rf_le_r f_1113 f_1107 c_1106 4 (by decide)
                      have f_1115 : R 0 0 0 := ⟨by decide, by decide⟩
                      have f_1116 : R 0 0 0 := ⟨by decide, by decide⟩
                      refine s_X11_begins_v0 6 0 5 (by decide) ok_1101.1 (R_w f_1116 (by decide)) (fun r59 h58 ko_1118 f_1120 im_1117 => ?_)
                      have ok_1119 := Ok_tr ok_1101 ko_1118 (by decide)
                      refine ⟨fun c_1121 => ?_, fun c_1121 => ?_⟩
                      · have f_1122 : R 0 0 0 := ⟨by decide, by decide⟩
                        have f_1123 : R 0 0 r59 := rf_eq f_1122 c_1121
                        refine s_X11_wrong 1 (mI h58 11 4) ok_1119.1 (fun h61 ko_1124 po_1126 => ?_)
                        have ok_1125 := Ok_tr ok_1119 ko_1124 (by decide)
                        exact hp _ ok_1125
                      · have f_1127 : R 0 0 0 := ⟨by decide, by decide⟩
                        have f_1128 := (im_1117 c_1121)
                        have f_1129 : R 1 1 r59 := rf_ne_lo f_1120 c_1121 (by decide) 1 rfl
                        have f_1131 : R 4 4 4 := ⟨by decide, by decide⟩
                        have f_1130 : R 4 4 (mI h58 46 (Int32.toNatClampNeg 158)) := Ok_rd ko_1118 (by decide) f_1114
                        refine s_X11_runLine_v1 ok_1119.1 (R_w f_1128 (by decide)) (fun h62 ko_1132 => ?_)
                        have ok_1133 := Ok_tr ok_1119 ko_1132 (by decide)
                        exact hp _ ok_1133
                    · have f_1139 : R 0 4 (mI h 46 (Int32.toNatClampNeg 158)) := GI_rd ok.1 46 _ (by decide)
                      have f_1138 : R 0 4 (mI h2 46 (Int32.toNatClampNeg 158)) := Ok_rd ko_863 (by decide) f_1139
                      have f_1137 : R 0 4 (mI h5 46 (Int32.toNatClampNeg 158)) := Ok_rd ko_873 (by decide) f_1138
                      have f_1136 : R 0 4 (mI h8 46 (Int32.toNatClampNeg 158)) := Ok_rd ko_883 (by decide) f_1137
                      have f_1135 : R 0 4 (mI h50 46 (Int32.toNatClampNeg 158)) := Ok_rd ko_1083 (by decide) f_1136
                      have f_1134 : R 0 4 (mI h54 46 (Int32.toNatClampNeg 158)) := Ok_rd ko_1100 (by decide) f_1135
                      have f_1140 : R 4 4 4 := ⟨by decide, by decide⟩
                      have f_1141 : R 0 3 (mI h54 46 (Int32.toNatClampNeg 158)) := rf_lt_l f_1134 f_1140 (nle c_1106) 3 (by decide)
                      have f_1142 : R 1 1 1 := ⟨by decide, by decide⟩
                      have f_1143 : R 1 1 1 := ⟨by decide, by decide⟩
                      have f_1144 : R 1 1 1 := ⟨by decide, by decide⟩
                      refine s_X11_begins_v1 6 1 5 (by decide) ok_1101.1 (R_w f_1144 (by decide)) (fun r64 h63 ko_1146 f_1148 im_1145 => ?_)
                      have ok_1147 := Ok_tr ok_1101 ko_1146 (by decide)
                      refine ⟨fun c_1149 => ?_, fun c_1149 => ?_⟩
                      · have f_1150 : R 0 0 0 := ⟨by decide, by decide⟩
                        have f_1151 : R 0 0 r64 := rf_eq f_1150 c_1149
                        refine s_X11_wrong 1 (mI h63 11 4) ok_1147.1 (fun h66 ko_1152 po_1154 => ?_)
                        have ok_1153 := Ok_tr ok_1147 ko_1152 (by decide)
                        exact hp _ ok_1153
                      · have f_1155 : R 0 0 0 := ⟨by decide, by decide⟩
                        have f_1156 : R 1 1 r64 := rf_ne_lo f_1148 c_1149 (by decide) 1 rfl
                        have f_1158 : R 4 4 4 := ⟨by decide, by decide⟩
                        have f_1157 : R 0 3 (mI h63 46 (Int32.toNatClampNeg 158)) := Ok_rd ko_1146 (by decide) f_1141
                        refine s_X11_runLine_v0 ok_1147.1 (R_w f_1157 (by decide)) (fun h67 ko_1159 => ?_)
                        have ok_1160 := Ok_tr ok_1147 ko_1159 (by decide)
                        exact hp _ ok_1160
                  · have f_1161 : R 0 0 0 := ⟨by decide, by decide⟩
                    have f_1162 := (im_1099 c_1103)
                    have f_1163 : R 1 1 r55 := rf_ne_lo f_1102 c_1103 (by decide) 1 rfl
                    have f_1165 : R 18 18 18 := ⟨by decide, by decide⟩
                    have f_1164 : R 18 18 (mI h54 46 (Int32.toNatClampNeg 85)) := Ok_rd ko_1100 (by decide) f_1096
                    refine s_X11_rayLine_v1 ok_1101.1 (R_w f_1162 (by decide)) (fun h68 ko_1166 => ?_)
                    have ok_1167 := Ok_tr ok_1101 ko_1166 (by decide)
                    exact hp _ ok_1167
                · have f_1172 : R 0 18 (mI h 46 (Int32.toNatClampNeg 85)) := GI_rd ok.1 46 _ (by decide)
                  have f_1171 : R 0 18 (mI h2 46 (Int32.toNatClampNeg 85)) := Ok_rd ko_863 (by decide) f_1172
                  have f_1170 : R 0 18 (mI h5 46 (Int32.toNatClampNeg 85)) := Ok_rd ko_873 (by decide) f_1171
                  have f_1169 : R 0 18 (mI h8 46 (Int32.toNatClampNeg 85)) := Ok_rd ko_883 (by decide) f_1170
                  have f_1168 : R 0 18 (mI h50 46 (Int32.toNatClampNeg 85)) := Ok_rd ko_1083 (by decide) f_1169
                  have f_1173 : R 18 18 18 := ⟨by decide, by decide⟩
                  have f_1174 : R 0 17 (mI h50 46 (Int32.toNatClampNeg 85)) := rf_lt_l f_1168 f_1173 (nle c_1089) 17 (by decide)
                  have f_1175 : R 1 1 1 := ⟨by decide, by decide⟩
                  have f_1176 : R 1 1 1 := ⟨by decide, by decide⟩
                  have f_1177 : R 1 1 1 := ⟨by decide, by decide⟩
                  refine s_X11_begins_v1 5 1 5 (by decide) ok_1084.1 (R_w f_1177 (by decide)) (fun r70 h69 ko_1179 f_1181 im_1178 => ?_)
                  have ok_1180 := Ok_tr ok_1084 ko_1179 (by decide)
                  refine ⟨fun c_1182 => ?_, fun c_1182 => ?_⟩
                  · have f_1183 : R 0 0 0 := ⟨by decide, by decide⟩
                    have f_1184 : R 0 0 r70 := rf_eq f_1183 c_1182
                    refine ⟨fun c_1185 => ?_, fun c_1185 => ?_⟩
                    · have f_1191 : R 0 4 (mI h 46 (Int32.toNatClampNeg 158)) := GI_rd ok.1 46 _ (by decide)
                      have f_1190 : R 0 4 (mI h2 46 (Int32.toNatClampNeg 158)) := Ok_rd ko_863 (by decide) f_1191
                      have f_1189 : R 0 4 (mI h5 46 (Int32.toNatClampNeg 158)) := Ok_rd ko_873 (by decide) f_1190
                      have f_1188 : R 0 4 (mI h8 46 (Int32.toNatClampNeg 158)) := Ok_rd ko_883 (by decide) f_1189
                      have f_1187 : R 0 4 (mI h50 46 (Int32.toNatClampNeg 158)) := Ok_rd ko_1083 (by decide) f_1188
                      have f_1186 : R 0 4 (mI h69 46 (Int32.toNatClampNeg 158)) := Ok_rd ko_1179 (by decide) f_1187
                      have f_1192 : R 4 4 4 := ⟨by decide, by decide⟩
                      have f_1193 : R 4 4 (mI h69 46 (Int32.toNatClampNeg 158)) := rf_le_r f_1192 f_1186 c_1185 4 (by decide)
                      have f_1194 : R 0 0 0 := ⟨by decide, by decide⟩
                      have f_1195 : R 0 0 0 := ⟨by decide, by decide⟩
                      refine s_X11_begins_v0 6 0 5 (by decide) ok_1180.1 (R_w f_1195 (by decide)) (fun r74 h73 ko_1197 f_1199 im_1196 => ?_)
                      have ok_1198 := Ok_tr ok_1180 ko_1197 (by decide)
                      refine ⟨fun c_1200 => ?_, fun c_1200 => ?_⟩
                      · have f_1201 : R 0 0 0 := ⟨by decide, by decide⟩
                        have f_1202 : R 0 0 r74 := rf_eq f_1201 c_1200
                        refine s_X11_wrong 1 (mI h73 11 4) ok_1198.1 (fun h76 ko_1203 po_1205 => ?_)
                        have ok_1204 := Ok_tr ok_1198 ko_1203 (by decide)
                        exact hp _ ok_1204
                      · have f_1206 : R 0 0 0 := ⟨by decide, by decide⟩
                        have f_1207 := (im_1196 c_1200)
                        have f_1208 : R 1 1 r74 := rf_ne_lo f_1199 c_1200 (by decide) 1 rfl
                        have f_1210 : R 4 4 4 := ⟨by decide, by decide⟩
                        have f_1209 : R 4 4 (mI h73 46 (Int32.toNatClampNeg 158)) := Ok_rd ko_1197 (by decide) f_1193
                        refine s_X11_runLine_v1 ok_1198.1 (R_w f_1207 (by decide)) (fun h77 ko_1211 => ?_)
                        have ok_1212 := Ok_tr ok_1198 ko_1211 (by decide)
                        exact hp _ ok_1212
                    · have f_1218 : R 0 4 (mI h 46 (Int32.toNatClampNeg 158)) := GI_rd ok.1 46 _ (by decide)
                      have f_1217 : R 0 4 (mI h2 46 (Int32.toNatClampNeg 158)) := Ok_rd ko_863 (by decide) f_1218
                      have f_1216 : R 0 4 (mI h5 46 (Int32.toNatClampNeg 158)) := Ok_rd ko_873 (by decide) f_1217
                      have f_1215 : R 0 4 (mI h8 46 (Int32.toNatClampNeg 158)) := Ok_rd ko_883 (by decide) f_1216
                      have f_1214 : R 0 4 (mI h50 46 (Int32.toNatClampNeg 158)) := Ok_rd ko_1083 (by decide) f_1215
                      have f_1213 : R 0 4 (mI h69 46 (Int32.toNatClampNeg 158)) := Ok_rd ko_1179 (by decide) f_1214
                      have f_1219 : R 4 4 4 := ⟨by decide, by decide⟩
                      have f_1220 : R 0 3 (mI h69 46 (Int32.toNatClampNeg 158)) := rf_lt_l f_1213 f_1219 (nle c_1185) 3 (by decide)
                      have f_1221 : R 1 1 1 := ⟨by decide, by decide⟩
                      have f_1222 : R 1 1 1 := ⟨by decide, by decide⟩
                      have f_1223 : R 1 1 1 := ⟨by decide, by decide⟩
                      refine s_X11_begins_v1 6 1 5 (by decide) ok_1180.1 (R_w f_1223 (by decide)) (fun r79 h78 ko_1225 f_1227 im_1224 => ?_)
                      have ok_1226 := Ok_tr ok_1180 ko_1225 (by decide)
                      refine ⟨fun c_1228 => ?_, fun c_1228 => ?_⟩
                      · have f_1229 : R 0 0 0 := ⟨by decide, by decide⟩
                        have f_1230 : R 0 0 r79 := rf_eq f_1229 c_1228
                        refine s_X11_wrong 1 (mI h78 11 4) ok_1226.1 (fun h81 ko_1231 po_1233 => ?_)
                        have ok_1232 := Ok_tr ok_1226 ko_1231 (by decide)
                        exact hp _ ok_1232
                      · have f_1234 : R 0 0 0 := ⟨by decide, by decide⟩
                        have f_1235 : R 1 1 r79 := rf_ne_lo f_1227 c_1228 (by decide) 1 rfl
                        have f_1237 : R 4 4 4 := ⟨by decide, by decide⟩
                        have f_1236 : R 0 3 (mI h78 46 (Int32.toNatClampNeg 158)) := Ok_rd ko_1225 (by decide) f_1220
                        refine s_X11_runLine_v0 ok_1226.1 (R_w f_1236 (by decide)) (fun h82 ko_1238 => ?_)
                        have ok_1239 := Ok_tr ok_1226 ko_1238 (by decide)
                        exact hp _ ok_1239
                  · have f_1240 : R 0 0 0 := ⟨by decide, by decide⟩
                    have f_1241 : R 1 1 r70 := rf_ne_lo f_1181 c_1182 (by decide) 1 rfl
                    have f_1243 : R 18 18 18 := ⟨by decide, by decide⟩
                    have f_1242 : R 0 17 (mI h69 46 (Int32.toNatClampNeg 85)) := Ok_rd ko_1179 (by decide) f_1174
                    refine s_X11_rayLine_v0 ok_1180.1 (R_w f_1242 (by decide)) (fun h83 ko_1244 => ?_)
                    have ok_1245 := Ok_tr ok_1180 ko_1244 (by decide)
                    exact hp _ ok_1245
              · have f_1246 : R 0 0 0 := ⟨by decide, by decide⟩
                have f_1247 : R 1 1 r51 := rf_ne_lo f_1085 c_1086 (by decide) 1 rfl
                have f_1249 : R 8 8 8 := ⟨by decide, by decide⟩
                have f_1248 : R 0 7 (mI h50 46 (Int32.toNatClampNeg 52)) := Ok_rd ko_1083 (by decide) f_1078
                refine s_X11_lineLine_v0 ok_1084.1 (R_w f_1248 (by decide)) (fun h84 ko_1250 => ?_)
                have ok_1251 := Ok_tr ok_1084 ko_1250 (by decide)
                exact hp _ ok_1251
          · have f_1252 : R 0 0 0 := ⟨by decide, by decide⟩
            have f_1253 : R 1 1 r12 := rf_ne_lo f_889 c_890 (by decide) 1 rfl
            refine s_X11_setLine ok_884.1 (fun h85 ko_1254 => ?_)
            have ok_1255 := Ok_tr ok_884 ko_1254 (by decide)
            exact hp _ ok_1255
        · have f_1256 : R 0 0 0 := ⟨by decide, by decide⟩
          have f_1257 : R 1 1 r9 := rf_ne_lo f_885 c_886 (by decide) 1 rfl
          have f_1258 : R 51 51 51 := ⟨by decide, by decide⟩
          have f_1259 : R 6 6 6 := ⟨by decide, by decide⟩
          have f_1260 : R 9 9 9 := ⟨by decide, by decide⟩
          have f_1261 : R 51 51 51 := ⟨by decide, by decide⟩
          have f_1262 : R 6 6 6 := ⟨by decide, by decide⟩
          have f_1263 : R 9 9 9 := ⟨by decide, by decide⟩
          have f_1264 : R 51 51 51 := ⟨by decide, by decide⟩
          have f_1265 : R 6 6 6 := ⟨by decide, by decide⟩
          have f_1266 : R 9 9 9 := ⟨by decide, by decide⟩
          refine s_X11_newNames_v1 51 6 9 ok_884.1 (R_w f_1264 (by decide)) (R_w f_1265 (by decide)) (R_w f_1266 (by decide)) ((im_882 c_886)) (fun h86 ko_1267 => ?_)
          have ok_1268 := Ok_tr ok_884 ko_1267 (by decide)
          exact hp _ ok_1268
      · have f_1269 : R 0 0 0 := ⟨by decide, by decide⟩
        have f_1270 : R 1 1 r6 := rf_ne_lo f_875 c_876 (by decide) 1 rfl
        have f_1271 : R 50 50 50 := ⟨by decide, by decide⟩
        have f_1272 : R 0 0 0 := ⟨by decide, by decide⟩
        have f_1273 : R 6 6 6 := ⟨by decide, by decide⟩
        have f_1274 : R 50 50 50 := ⟨by decide, by decide⟩
        have f_1275 : R 0 0 0 := ⟨by decide, by decide⟩
        have f_1276 : R 6 6 6 := ⟨by decide, by decide⟩
        refine s_X11_newNames_v0 50 0 6 ok_874.1 (R_w f_1274 (by decide)) (R_w f_1275 (by decide)) (R_w f_1276 (by decide)) ((im_872 c_876)) (fun h87 ko_1277 => ?_)
        have ok_1278 := Ok_tr ok_874 ko_1277 (by decide)
        exact hp _ ok_1278
    · have f_1279 : R 0 0 0 := ⟨by decide, by decide⟩
      have f_1280 := (im_862 c_866)
      have f_1281 : R 1 1 r3 := rf_ne_lo f_865 c_866 (by decide) 1 rfl
      refine s_X11_lawLine ok_864.1 (fun h88 ko_1282 => ?_)
      have ok_1283 := Ok_tr ok_864 ko_1282 (by decide)
      exact hp _ ok_1283
  · have f_1284 : R 0 60 (mI h 46 (Int32.toNatClampNeg 49)) := GI_rd ok.1 46 _ (by decide)
    have f_1285 : R 0 0 0 := ⟨by decide, by decide⟩
    have f_1286 : R 0 0 (mI h 46 (Int32.toNatClampNeg 49)) := rf_eq f_1285 c_856
    have f_1287 : R 1 1 1 := ⟨by decide, by decide⟩
    have f_1288 : R 1 1 1 := ⟨by decide, by decide⟩
    have f_1289 : R 1 1 1 := ⟨by decide, by decide⟩
    refine s_X11_begins_v1 0 1 3 (by decide) ok.1 (R_w f_1289 (by decide)) (fun r90 h89 ko_1291 f_1293 im_1290 => ?_)
    have ok_1292 := Ok_tr ok ko_1291 (by decide)
    refine ⟨fun c_1294 => ?_, fun c_1294 => ?_⟩
    · have f_1295 : R 0 0 0 := ⟨by decide, by decide⟩
      have f_1296 : R 0 0 r90 := rf_eq f_1295 c_1294
      have f_1297 : R 1 1 1 := ⟨by decide, by decide⟩
      have f_1298 : R 1 1 1 := ⟨by decide, by decide⟩
      have f_1299 : R 1 1 1 := ⟨by decide, by decide⟩
      refine s_X11_begins_v1 1 1 1 (by decide) ok_1292.1 (R_w f_1299 (by decide)) (fun r93 h92 ko_1301 f_1303 im_1300 => ?_)
      have ok_1302 := Ok_tr ok_1292 ko_1301 (by decide)
      refine ⟨fun c_1304 => ?_, fun c_1304 => ?_⟩
      · have f_1305 : R 0 0 0 := ⟨by decide, by decide⟩
        have f_1306 : R 0 0 r93 := rf_eq f_1305 c_1304
        have f_1307 : R 1 1 1 := ⟨by decide, by decide⟩
        have f_1308 : R 1 1 1 := ⟨by decide, by decide⟩
        have f_1309 : R 1 1 1 := ⟨by decide, by decide⟩
        refine s_X11_begins_v1 2 1 1 (by decide) ok_1302.1 (R_w f_1309 (by decide)) (fun r96 h95 ko_1311 f_1313 im_1310 => ?_)
        have ok_1312 := Ok_tr ok_1302 ko_1311 (by decide)
        refine ⟨fun c_1314 => ?_, fun c_1314 => ?_⟩
        · have f_1315 : R 0 0 0 := ⟨by decide, by decide⟩
          have f_1316 : R 0 0 r96 := rf_eq f_1315 c_1314
          refine s_X11_isWord 3 (by decide) ok_1312.1 (fun r99 f_1317 => ?_)
          refine ⟨fun c_1318 => ?_, fun c_1318 => ?_⟩
          · have f_1319 : R 0 0 0 := ⟨by decide, by decide⟩
            have f_1320 : R 0 0 r99 := rf_eq f_1319 c_1318
            refine ⟨fun c_1321 => ?_, fun c_1321 => ?_⟩
            · have f_1325 : R 0 8 (mI h 46 (Int32.toNatClampNeg 52)) := GI_rd ok.1 46 _ (by decide)
              have f_1324 : R 0 8 (mI h89 46 (Int32.toNatClampNeg 52)) := Ok_rd ko_1291 (by decide) f_1325
              have f_1323 : R 0 8 (mI h92 46 (Int32.toNatClampNeg 52)) := Ok_rd ko_1301 (by decide) f_1324
              have f_1322 : R 0 8 (mI h95 46 (Int32.toNatClampNeg 52)) := Ok_rd ko_1311 (by decide) f_1323
              have f_1326 : R 8 8 8 := ⟨by decide, by decide⟩
              have f_1327 : R 8 8 (mI h95 46 (Int32.toNatClampNeg 52)) := rf_le_r f_1326 f_1322 c_1321 8 (by decide)
              have f_1328 : R 0 0 0 := ⟨by decide, by decide⟩
              have f_1329 : R 0 0 0 := ⟨by decide, by decide⟩
              refine s_X11_begins_v0 4 0 5 (by decide) ok_1312.1 (R_w f_1329 (by decide)) (fun r103 h102 ko_1331 f_1333 im_1330 => ?_)
              have ok_1332 := Ok_tr ok_1312 ko_1331 (by decide)
              refine ⟨fun c_1334 => ?_, fun c_1334 => ?_⟩
              · have f_1335 : R 0 0 0 := ⟨by decide, by decide⟩
                have f_1336 : R 0 0 r103 := rf_eq f_1335 c_1334
                refine ⟨fun c_1337 => ?_, fun c_1337 => ?_⟩
                · have f_1342 : R 0 18 (mI h 46 (Int32.toNatClampNeg 85)) := GI_rd ok.1 46 _ (by decide)
                  have f_1341 : R 0 18 (mI h89 46 (Int32.toNatClampNeg 85)) := Ok_rd ko_1291 (by decide) f_1342
                  have f_1340 : R 0 18 (mI h92 46 (Int32.toNatClampNeg 85)) := Ok_rd ko_1301 (by decide) f_1341
                  have f_1339 : R 0 18 (mI h95 46 (Int32.toNatClampNeg 85)) := Ok_rd ko_1311 (by decide) f_1340
                  have f_1338 : R 0 18 (mI h102 46 (Int32.toNatClampNeg 85)) := Ok_rd ko_1331 (by decide) f_1339
                  have f_1343 : R 18 18 18 := ⟨by decide, by decide⟩
                  have f_1344 : R 18 18 (mI h102 46 (Int32.toNatClampNeg 85)) := rf_le_r f_1343 f_1338 c_1337 18 (by decide)
                  have f_1345 : R 0 0 0 := ⟨by decide, by decide⟩
                  have f_1346 : R 0 0 0 := ⟨by decide, by decide⟩
                  refine s_X11_begins_v0 5 0 5 (by decide) ok_1332.1 (R_w f_1346 (by decide)) (fun r107 h106 ko_1348 f_1350 im_1347 => ?_)
                  have ok_1349 := Ok_tr ok_1332 ko_1348 (by decide)
                  refine ⟨fun c_1351 => ?_, fun c_1351 => ?_⟩
                  · have f_1352 : R 0 0 0 := ⟨by decide, by decide⟩
                    have f_1353 : R 0 0 r107 := rf_eq f_1352 c_1351
                    refine ⟨fun c_1354 => ?_, fun c_1354 => ?_⟩
                    · have f_1360 : R 0 4 (mI h 46 (Int32.toNatClampNeg 158)) := GI_rd ok.1 46 _ (by decide)
                      have f_1359 : R 0 4 (mI h89 46 (Int32.toNatClampNeg 158)) := Ok_rd ko_1291 (by decide) f_1360
                      have f_1358 : R 0 4 (mI h92 46 (Int32.toNatClampNeg 158)) := Ok_rd ko_1301 (by decide) f_1359
                      have f_1357 : R 0 4 (mI h95 46 (Int32.toNatClampNeg 158)) := Ok_rd ko_1311 (by decide) f_1358
                      have f_1356 : R 0 4 (mI h102 46 (Int32.toNatClampNeg 158)) := Ok_rd ko_1331 (by decide) f_1357
                      have f_1355 : R 0 4 (mI h106 46 (Int32.toNatClampNeg 158)) := Ok_rd ko_1348 (by decide) f_1356
                      have f_1361 : R 4 4 4 := ⟨by decide, by decide⟩
                      have f_1362 : R 4 4 (mI h106 46 (Int32.toNatClampNeg 158)) := rf_le_r f_1361 f_1355 c_1354 4 (by decide)
                      have f_1363 : R 0 0 0 := ⟨by decide, by decide⟩
                      have f_1364 : R 0 0 0 := ⟨by decide, by decide⟩
                      refine s_X11_begins_v0 6 0 5 (by decide) ok_1349.1 (R_w f_1364 (by decide)) (fun r111 h110 ko_1366 f_1368 im_1365 => ?_)
                      have ok_1367 := Ok_tr ok_1349 ko_1366 (by decide)
                      refine ⟨fun c_1369 => ?_, fun c_1369 => ?_⟩
                      · have f_1370 : R 0 0 0 := ⟨by decide, by decide⟩
                        have f_1371 : R 0 0 r111 := rf_eq f_1370 c_1369
                        refine s_X11_wrong 1 (mI h110 11 4) ok_1367.1 (fun h113 ko_1372 po_1374 => ?_)
                        have ok_1373 := Ok_tr ok_1367 ko_1372 (by decide)
                        exact hp _ ok_1373
                      · have f_1375 : R 0 0 0 := ⟨by decide, by decide⟩
                        have f_1376 := (im_1365 c_1369)
                        have f_1377 : R 1 1 r111 := rf_ne_lo f_1368 c_1369 (by decide) 1 rfl
                        have f_1379 : R 4 4 4 := ⟨by decide, by decide⟩
                        have f_1378 : R 4 4 (mI h110 46 (Int32.toNatClampNeg 158)) := Ok_rd ko_1366 (by decide) f_1362
                        refine s_X11_runLine_v1 ok_1367.1 (R_w f_1376 (by decide)) (fun h114 ko_1380 => ?_)
                        have ok_1381 := Ok_tr ok_1367 ko_1380 (by decide)
                        exact hp _ ok_1381
                    · have f_1387 : R 0 4 (mI h 46 (Int32.toNatClampNeg 158)) := GI_rd ok.1 46 _ (by decide)
                      have f_1386 : R 0 4 (mI h89 46 (Int32.toNatClampNeg 158)) := Ok_rd ko_1291 (by decide) f_1387
                      have f_1385 : R 0 4 (mI h92 46 (Int32.toNatClampNeg 158)) := Ok_rd ko_1301 (by decide) f_1386
                      have f_1384 : R 0 4 (mI h95 46 (Int32.toNatClampNeg 158)) := Ok_rd ko_1311 (by decide) f_1385
                      have f_1383 : R 0 4 (mI h102 46 (Int32.toNatClampNeg 158)) := Ok_rd ko_1331 (by decide) f_1384
                      have f_1382 : R 0 4 (mI h106 46 (Int32.toNatClampNeg 158)) := Ok_rd ko_1348 (by decide) f_1383
                      have f_1388 : R 4 4 4 := ⟨by decide, by decide⟩
                      have f_1389 : R 0 3 (mI h106 46 (Int32.toNatClampNeg 158)) := rf_lt_l f_1382 f_1388 (nle c_1354) 3 (by decide)
                      have f_1390 : R 1 1 1 := ⟨by decide, by decide⟩
                      have f_1391 : R 1 1 1 := ⟨by decide, by decide⟩
                      have f_1392 : R 1 1 1 := ⟨by decide, by decide⟩
                      refine s_X11_begins_v1 6 1 5 (by decide) ok_1349.1 (R_w f_1392 (by decide)) (fun r116 h115 ko_1394 f_1396 im_1393 => ?_)
                      have ok_1395 := Ok_tr ok_1349 ko_1394 (by decide)
                      refine ⟨fun c_1397 => ?_, fun c_1397 => ?_⟩
                      · have f_1398 : R 0 0 0 := ⟨by decide, by decide⟩
                        have f_1399 : R 0 0 r116 := rf_eq f_1398 c_1397
                        refine s_X11_wrong 1 (mI h115 11 4) ok_1395.1 (fun h118 ko_1400 po_1402 => ?_)
                        have ok_1401 := Ok_tr ok_1395 ko_1400 (by decide)
                        exact hp _ ok_1401
                      · have f_1403 : R 0 0 0 := ⟨by decide, by decide⟩
                        have f_1404 : R 1 1 r116 := rf_ne_lo f_1396 c_1397 (by decide) 1 rfl
                        have f_1406 : R 4 4 4 := ⟨by decide, by decide⟩
                        have f_1405 : R 0 3 (mI h115 46 (Int32.toNatClampNeg 158)) := Ok_rd ko_1394 (by decide) f_1389
                        refine s_X11_runLine_v0 ok_1395.1 (R_w f_1405 (by decide)) (fun h119 ko_1407 => ?_)
                        have ok_1408 := Ok_tr ok_1395 ko_1407 (by decide)
                        exact hp _ ok_1408
                  · have f_1409 : R 0 0 0 := ⟨by decide, by decide⟩
                    have f_1410 := (im_1347 c_1351)
                    have f_1411 : R 1 1 r107 := rf_ne_lo f_1350 c_1351 (by decide) 1 rfl
                    have f_1413 : R 18 18 18 := ⟨by decide, by decide⟩
                    have f_1412 : R 18 18 (mI h106 46 (Int32.toNatClampNeg 85)) := Ok_rd ko_1348 (by decide) f_1344
                    refine s_X11_rayLine_v1 ok_1349.1 (R_w f_1410 (by decide)) (fun h120 ko_1414 => ?_)
                    have ok_1415 := Ok_tr ok_1349 ko_1414 (by decide)
                    exact hp _ ok_1415
                · have f_1420 : R 0 18 (mI h 46 (Int32.toNatClampNeg 85)) := GI_rd ok.1 46 _ (by decide)
                  have f_1419 : R 0 18 (mI h89 46 (Int32.toNatClampNeg 85)) := Ok_rd ko_1291 (by decide) f_1420
                  have f_1418 : R 0 18 (mI h92 46 (Int32.toNatClampNeg 85)) := Ok_rd ko_1301 (by decide) f_1419
                  have f_1417 : R 0 18 (mI h95 46 (Int32.toNatClampNeg 85)) := Ok_rd ko_1311 (by decide) f_1418
                  have f_1416 : R 0 18 (mI h102 46 (Int32.toNatClampNeg 85)) := Ok_rd ko_1331 (by decide) f_1417
                  have f_1421 : R 18 18 18 := ⟨by decide, by decide⟩
                  have f_1422 : R 0 17 (mI h102 46 (Int32.toNatClampNeg 85)) := rf_lt_l f_1416 f_1421 (nle c_1337) 17 (by decide)
                  have f_1423 : R 1 1 1 := ⟨by decide, by decide⟩
                  have f_1424 : R 1 1 1 := ⟨by decide, by decide⟩
                  have f_1425 : R 1 1 1 := ⟨by decide, by decide⟩
                  refine s_X11_begins_v1 5 1 5 (by decide) ok_1332.1 (R_w f_1425 (by decide)) (fun r122 h121 ko_1427 f_1429 im_1426 => ?_)
                  have ok_1428 := Ok_tr ok_1332 ko_1427 (by decide)
                  refine ⟨fun c_1430 => ?_, fun c_1430 => ?_⟩
                  · have f_1431 : R 0 0 0 := ⟨by decide, by decide⟩
                    have f_1432 : R 0 0 r122 := rf_eq f_1431 c_1430
                    refine ⟨fun c_1433 => ?_, fun c_1433 => ?_⟩
                    · have f_1439 : R 0 4 (mI h 46 (Int32.toNatClampNeg 158)) := GI_rd ok.1 46 _ (by decide)
                      have f_1438 : R 0 4 (mI h89 46 (Int32.toNatClampNeg 158)) := Ok_rd ko_1291 (by decide) f_1439
                      have f_1437 : R 0 4 (mI h92 46 (Int32.toNatClampNeg 158)) := Ok_rd ko_1301 (by decide) f_1438
                      have f_1436 : R 0 4 (mI h95 46 (Int32.toNatClampNeg 158)) := Ok_rd ko_1311 (by decide) f_1437
                      have f_1435 : R 0 4 (mI h102 46 (Int32.toNatClampNeg 158)) := Ok_rd ko_1331 (by decide) f_1436
                      have f_1434 : R 0 4 (mI h121 46 (Int32.toNatClampNeg 158)) := Ok_rd ko_1427 (by decide) f_1435
                      have f_1440 : R 4 4 4 := ⟨by decide, by decide⟩
                      have f_1441 : R 4 4 (mI h121 46 (Int32.toNatClampNeg 158)) := rf_le_r f_1440 f_1434 c_1433 4 (by decide)
                      have f_1442 : R 0 0 0 := ⟨by decide, by decide⟩
                      have f_1443 : R 0 0 0 := ⟨by decide, by decide⟩
                      refine s_X11_begins_v0 6 0 5 (by decide) ok_1428.1 (R_w f_1443 (by decide)) (fun r126 h125 ko_1445 f_1447 im_1444 => ?_)
                      have ok_1446 := Ok_tr ok_1428 ko_1445 (by decide)
                      refine ⟨fun c_1448 => ?_, fun c_1448 => ?_⟩
                      · have f_1449 : R 0 0 0 := ⟨by decide, by decide⟩
                        have f_1450 : R 0 0 r126 := rf_eq f_1449 c_1448
                        refine s_X11_wrong 1 (mI h125 11 4) ok_1446.1 (fun h128 ko_1451 po_1453 => ?_)
                        have ok_1452 := Ok_tr ok_1446 ko_1451 (by decide)
                        exact hp _ ok_1452
                      · have f_1454 : R 0 0 0 := ⟨by decide, by decide⟩
                        have f_1455 := (im_1444 c_1448)
                        have f_1456 : R 1 1 r126 := rf_ne_lo f_1447 c_1448 (by decide) 1 rfl
                        have f_1458 : R 4 4 4 := ⟨by decide, by decide⟩
                        have f_1457 : R 4 4 (mI h125 46 (Int32.toNatClampNeg 158)) := Ok_rd ko_1445 (by decide) f_1441
                        refine s_X11_runLine_v1 ok_1446.1 (R_w f_1455 (by decide)) (fun h129 ko_1459 => ?_)
                        have ok_1460 := Ok_tr ok_1446 ko_1459 (by decide)
                        exact hp _ ok_1460
                    · have f_1466 : R 0 4 (mI h 46 (Int32.toNatClampNeg 158)) := GI_rd ok.1 46 _ (by decide)
                      have f_1465 : R 0 4 (mI h89 46 (Int32.toNatClampNeg 158)) := Ok_rd ko_1291 (by decide) f_1466
                      have f_1464 : R 0 4 (mI h92 46 (Int32.toNatClampNeg 158)) := Ok_rd ko_1301 (by decide) f_1465
                      have f_1463 : R 0 4 (mI h95 46 (Int32.toNatClampNeg 158)) := Ok_rd ko_1311 (by decide) f_1464
                      have f_1462 : R 0 4 (mI h102 46 (Int32.toNatClampNeg 158)) := Ok_rd ko_1331 (by decide) f_1463
                      have f_1461 : R 0 4 (mI h121 46 (Int32.toNatClampNeg 158)) := Ok_rd ko_1427 (by decide) f_1462
                      have f_1467 : R 4 4 4 := ⟨by decide, by decide⟩
                      have f_1468 : R 0 3 (mI h121 46 (Int32.toNatClampNeg 158)) := rf_lt_l f_1461 f_1467 (nle c_1433) 3 (by decide)
                      have f_1469 : R 1 1 1 := ⟨by decide, by decide⟩
                      have f_1470 : R 1 1 1 := ⟨by decide, by decide⟩
                      have f_1471 : R 1 1 1 := ⟨by decide, by decide⟩
                      refine s_X11_begins_v1 6 1 5 (by decide) ok_1428.1 (R_w f_1471 (by decide)) (fun r131 h130 ko_1473 f_1475 im_1472 => ?_)
                      have ok_1474 := Ok_tr ok_1428 ko_1473 (by decide)
                      refine ⟨fun c_1476 => ?_, fun c_1476 => ?_⟩
                      · have f_1477 : R 0 0 0 := ⟨by decide, by decide⟩
                        have f_1478 : R 0 0 r131 := rf_eq f_1477 c_1476
                        refine s_X11_wrong 1 (mI h130 11 4) ok_1474.1 (fun h133 ko_1479 po_1481 => ?_)
                        have ok_1480 := Ok_tr ok_1474 ko_1479 (by decide)
                        exact hp _ ok_1480
                      · have f_1482 : R 0 0 0 := ⟨by decide, by decide⟩
                        have f_1483 : R 1 1 r131 := rf_ne_lo f_1475 c_1476 (by decide) 1 rfl
                        have f_1485 : R 4 4 4 := ⟨by decide, by decide⟩
                        have f_1484 : R 0 3 (mI h130 46 (Int32.toNatClampNeg 158)) := Ok_rd ko_1473 (by decide) f_1468
                        refine s_X11_runLine_v0 ok_1474.1 (R_w f_1484 (by decide)) (fun h134 ko_1486 => ?_)
                        have ok_1487 := Ok_tr ok_1474 ko_1486 (by decide)
                        exact hp _ ok_1487
                  · have f_1488 : R 0 0 0 := ⟨by decide, by decide⟩
                    have f_1489 : R 1 1 r122 := rf_ne_lo f_1429 c_1430 (by decide) 1 rfl
                    have f_1491 : R 18 18 18 := ⟨by decide, by decide⟩
                    have f_1490 : R 0 17 (mI h121 46 (Int32.toNatClampNeg 85)) := Ok_rd ko_1427 (by decide) f_1422
                    refine s_X11_rayLine_v0 ok_1428.1 (R_w f_1490 (by decide)) (fun h135 ko_1492 => ?_)
                    have ok_1493 := Ok_tr ok_1428 ko_1492 (by decide)
                    exact hp _ ok_1493
              · have f_1494 : R 0 0 0 := ⟨by decide, by decide⟩
                have f_1495 := (im_1330 c_1334)
                have f_1496 : R 1 1 r103 := rf_ne_lo f_1333 c_1334 (by decide) 1 rfl
                have f_1498 : R 8 8 8 := ⟨by decide, by decide⟩
                have f_1497 : R 8 8 (mI h102 46 (Int32.toNatClampNeg 52)) := Ok_rd ko_1331 (by decide) f_1327
                refine s_X11_lineLine_v1 ok_1332.1 (R_w f_1495 (by decide)) (fun h136 ko_1499 => ?_)
                have ok_1500 := Ok_tr ok_1332 ko_1499 (by decide)
                exact hp _ ok_1500
            · have f_1504 : R 0 8 (mI h 46 (Int32.toNatClampNeg 52)) := GI_rd ok.1 46 _ (by decide)
              have f_1503 : R 0 8 (mI h89 46 (Int32.toNatClampNeg 52)) := Ok_rd ko_1291 (by decide) f_1504
              have f_1502 : R 0 8 (mI h92 46 (Int32.toNatClampNeg 52)) := Ok_rd ko_1301 (by decide) f_1503
              have f_1501 : R 0 8 (mI h95 46 (Int32.toNatClampNeg 52)) := Ok_rd ko_1311 (by decide) f_1502
              have f_1505 : R 8 8 8 := ⟨by decide, by decide⟩
              have f_1506 : R 0 7 (mI h95 46 (Int32.toNatClampNeg 52)) := rf_lt_l f_1501 f_1505 (nle c_1321) 7 (by decide)
              have f_1507 : R 1 1 1 := ⟨by decide, by decide⟩
              have f_1508 : R 1 1 1 := ⟨by decide, by decide⟩
              have f_1509 : R 1 1 1 := ⟨by decide, by decide⟩
              refine s_X11_begins_v1 4 1 5 (by decide) ok_1312.1 (R_w f_1509 (by decide)) (fun r138 h137 ko_1511 f_1513 im_1510 => ?_)
              have ok_1512 := Ok_tr ok_1312 ko_1511 (by decide)
              refine ⟨fun c_1514 => ?_, fun c_1514 => ?_⟩
              · have f_1515 : R 0 0 0 := ⟨by decide, by decide⟩
                have f_1516 : R 0 0 r138 := rf_eq f_1515 c_1514
                refine ⟨fun c_1517 => ?_, fun c_1517 => ?_⟩
                · have f_1522 : R 0 18 (mI h 46 (Int32.toNatClampNeg 85)) := GI_rd ok.1 46 _ (by decide)
                  have f_1521 : R 0 18 (mI h89 46 (Int32.toNatClampNeg 85)) := Ok_rd ko_1291 (by decide) f_1522
                  have f_1520 : R 0 18 (mI h92 46 (Int32.toNatClampNeg 85)) := Ok_rd ko_1301 (by decide) f_1521
                  have f_1519 : R 0 18 (mI h95 46 (Int32.toNatClampNeg 85)) := Ok_rd ko_1311 (by decide) f_1520
                  have f_1518 : R 0 18 (mI h137 46 (Int32.toNatClampNeg 85)) := Ok_rd ko_1511 (by decide) f_1519
                  have f_1523 : R 18 18 18 := ⟨by decide, by decide⟩
                  have f_1524 : R 18 18 (mI h137 46 (Int32.toNatClampNeg 85)) := rf_le_r f_1523 f_1518 c_1517 18 (by decide)
                  have f_1525 : R 0 0 0 := ⟨by decide, by decide⟩
                  have f_1526 : R 0 0 0 := ⟨by decide, by decide⟩
                  refine s_X11_begins_v0 5 0 5 (by decide) ok_1512.1 (R_w f_1526 (by decide)) (fun r142 h141 ko_1528 f_1530 im_1527 => ?_)
                  have ok_1529 := Ok_tr ok_1512 ko_1528 (by decide)
                  refine ⟨fun c_1531 => ?_, fun c_1531 => ?_⟩
                  · have f_1532 : R 0 0 0 := ⟨by decide, by decide⟩
                    have f_1533 : R 0 0 r142 := rf_eq f_1532 c_1531
                    refine ⟨fun c_1534 => ?_, fun c_1534 => ?_⟩
                    · have f_1540 : R 0 4 (mI h 46 (Int32.toNatClampNeg 158)) := GI_rd ok.1 46 _ (by decide)
                      have f_1539 : R 0 4 (mI h89 46 (Int32.toNatClampNeg 158)) := Ok_rd ko_1291 (by decide) f_1540
                      have f_1538 : R 0 4 (mI h92 46 (Int32.toNatClampNeg 158)) := Ok_rd ko_1301 (by decide) f_1539
                      have f_1537 : R 0 4 (mI h95 46 (Int32.toNatClampNeg 158)) := Ok_rd ko_1311 (by decide) f_1538
                      have f_1536 : R 0 4 (mI h137 46 (Int32.toNatClampNeg 158)) := Ok_rd ko_1511 (by decide) f_1537
                      have f_1535 : R 0 4 (mI h141 46 (Int32.toNatClampNeg 158)) := Ok_rd ko_1528 (by decide) f_1536
                      have f_1541 : R 4 4 4 := ⟨by decide, by decide⟩
                      have f_1542 : R 4 4 (mI h141 46 (Int32.toNatClampNeg 158)) := rf_le_r f_1541 f_1535 c_1534 4 (by decide)
                      have f_1543 : R 0 0 0 := ⟨by decide, by decide⟩
                      have f_1544 : R 0 0 0 := ⟨by decide, by decide⟩
                      refine s_X11_begins_v0 6 0 5 (by decide) ok_1529.1 (R_w f_1544 (by decide)) (fun r146 h145 ko_1546 f_1548 im_1545 => ?_)
                      have ok_1547 := Ok_tr ok_1529 ko_1546 (by decide)
                      refine ⟨fun c_1549 => ?_, fun c_1549 => ?_⟩
                      · have f_1550 : R 0 0 0 := ⟨by decide, by decide⟩
                        have f_1551 : R 0 0 r146 := rf_eq f_1550 c_1549
                        refine s_X11_wrong 1 (mI h145 11 4) ok_1547.1 (fun h148 ko_1552 po_1554 => ?_)
                        have ok_1553 := Ok_tr ok_1547 ko_1552 (by decide)
                        exact hp _ ok_1553
                      · have f_1555 : R 0 0 0 := ⟨by decide, by decide⟩
                        have f_1556 := (im_1545 c_1549)
                        have f_1557 : R 1 1 r146 := rf_ne_lo f_1548 c_1549 (by decide) 1 rfl
                        have f_1559 : R 4 4 4 := ⟨by decide, by decide⟩
                        have f_1558 : R 4 4 (mI h145 46 (Int32.toNatClampNeg 158)) := Ok_rd ko_1546 (by decide) f_1542
                        refine s_X11_runLine_v1 ok_1547.1 (R_w f_1556 (by decide)) (fun h149 ko_1560 => ?_)
                        have ok_1561 := Ok_tr ok_1547 ko_1560 (by decide)
                        exact hp _ ok_1561
                    · have f_1567 : R 0 4 (mI h 46 (Int32.toNatClampNeg 158)) := GI_rd ok.1 46 _ (by decide)
                      have f_1566 : R 0 4 (mI h89 46 (Int32.toNatClampNeg 158)) := Ok_rd ko_1291 (by decide) f_1567
                      have f_1565 : R 0 4 (mI h92 46 (Int32.toNatClampNeg 158)) := Ok_rd ko_1301 (by decide) f_1566
                      have f_1564 : R 0 4 (mI h95 46 (Int32.toNatClampNeg 158)) := Ok_rd ko_1311 (by decide) f_1565
                      have f_1563 : R 0 4 (mI h137 46 (Int32.toNatClampNeg 158)) := Ok_rd ko_1511 (by decide) f_1564
                      have f_1562 : R 0 4 (mI h141 46 (Int32.toNatClampNeg 158)) := Ok_rd ko_1528 (by decide) f_1563
                      have f_1568 : R 4 4 4 := ⟨by decide, by decide⟩
                      have f_1569 : R 0 3 (mI h141 46 (Int32.toNatClampNeg 158)) := rf_lt_l f_1562 f_1568 (nle c_1534) 3 (by decide)
                      have f_1570 : R 1 1 1 := ⟨by decide, by decide⟩
                      have f_1571 : R 1 1 1 := ⟨by decide, by decide⟩
                      have f_1572 : R 1 1 1 := ⟨by decide, by decide⟩
                      refine s_X11_begins_v1 6 1 5 (by decide) ok_1529.1 (R_w f_1572 (by decide)) (fun r151 h150 ko_1574 f_1576 im_1573 => ?_)
                      have ok_1575 := Ok_tr ok_1529 ko_1574 (by decide)
                      refine ⟨fun c_1577 => ?_, fun c_1577 => ?_⟩
                      · have f_1578 : R 0 0 0 := ⟨by decide, by decide⟩
                        have f_1579 : R 0 0 r151 := rf_eq f_1578 c_1577
                        refine s_X11_wrong 1 (mI h150 11 4) ok_1575.1 (fun h153 ko_1580 po_1582 => ?_)
                        have ok_1581 := Ok_tr ok_1575 ko_1580 (by decide)
                        exact hp _ ok_1581
                      · have f_1583 : R 0 0 0 := ⟨by decide, by decide⟩
                        have f_1584 : R 1 1 r151 := rf_ne_lo f_1576 c_1577 (by decide) 1 rfl
                        have f_1586 : R 4 4 4 := ⟨by decide, by decide⟩
                        have f_1585 : R 0 3 (mI h150 46 (Int32.toNatClampNeg 158)) := Ok_rd ko_1574 (by decide) f_1569
                        refine s_X11_runLine_v0 ok_1575.1 (R_w f_1585 (by decide)) (fun h154 ko_1587 => ?_)
                        have ok_1588 := Ok_tr ok_1575 ko_1587 (by decide)
                        exact hp _ ok_1588
                  · have f_1589 : R 0 0 0 := ⟨by decide, by decide⟩
                    have f_1590 := (im_1527 c_1531)
                    have f_1591 : R 1 1 r142 := rf_ne_lo f_1530 c_1531 (by decide) 1 rfl
                    have f_1593 : R 18 18 18 := ⟨by decide, by decide⟩
                    have f_1592 : R 18 18 (mI h141 46 (Int32.toNatClampNeg 85)) := Ok_rd ko_1528 (by decide) f_1524
                    refine s_X11_rayLine_v1 ok_1529.1 (R_w f_1590 (by decide)) (fun h155 ko_1594 => ?_)
                    have ok_1595 := Ok_tr ok_1529 ko_1594 (by decide)
                    exact hp _ ok_1595
                · have f_1600 : R 0 18 (mI h 46 (Int32.toNatClampNeg 85)) := GI_rd ok.1 46 _ (by decide)
                  have f_1599 : R 0 18 (mI h89 46 (Int32.toNatClampNeg 85)) := Ok_rd ko_1291 (by decide) f_1600
                  have f_1598 : R 0 18 (mI h92 46 (Int32.toNatClampNeg 85)) := Ok_rd ko_1301 (by decide) f_1599
                  have f_1597 : R 0 18 (mI h95 46 (Int32.toNatClampNeg 85)) := Ok_rd ko_1311 (by decide) f_1598
                  have f_1596 : R 0 18 (mI h137 46 (Int32.toNatClampNeg 85)) := Ok_rd ko_1511 (by decide) f_1597
                  have f_1601 : R 18 18 18 := ⟨by decide, by decide⟩
                  have f_1602 : R 0 17 (mI h137 46 (Int32.toNatClampNeg 85)) := rf_lt_l f_1596 f_1601 (nle c_1517) 17 (by decide)
                  have f_1603 : R 1 1 1 := ⟨by decide, by decide⟩
                  have f_1604 : R 1 1 1 := ⟨by decide, by decide⟩
                  have f_1605 : R 1 1 1 := ⟨by decide, by decide⟩
                  refine s_X11_begins_v1 5 1 5 (by decide) ok_1512.1 (R_w f_1605 (by decide)) (fun r157 h156 ko_1607 f_1609 im_1606 => ?_)
                  have ok_1608 := Ok_tr ok_1512 ko_1607 (by decide)
                  refine ⟨fun c_1610 => ?_, fun c_1610 => ?_⟩
                  · have f_1611 : R 0 0 0 := ⟨by decide, by decide⟩
                    have f_1612 : R 0 0 r157 := rf_eq f_1611 c_1610
                    refine ⟨fun c_1613 => ?_, fun c_1613 => ?_⟩
                    · have f_1619 : R 0 4 (mI h 46 (Int32.toNatClampNeg 158)) := GI_rd ok.1 46 _ (by decide)
                      have f_1618 : R 0 4 (mI h89 46 (Int32.toNatClampNeg 158)) := Ok_rd ko_1291 (by decide) f_1619
                      have f_1617 : R 0 4 (mI h92 46 (Int32.toNatClampNeg 158)) := Ok_rd ko_1301 (by decide) f_1618
                      have f_1616 : R 0 4 (mI h95 46 (Int32.toNatClampNeg 158)) := Ok_rd ko_1311 (by decide) f_1617
                      have f_1615 : R 0 4 (mI h137 46 (Int32.toNatClampNeg 158)) := Ok_rd ko_1511 (by decide) f_1616
                      have f_1614 : R 0 4 (mI h156 46 (Int32.toNatClampNeg 158)) := Ok_rd ko_1607 (by decide) f_1615
                      have f_1620 : R 4 4 4 := ⟨by decide, by decide⟩
                      have f_1621 : R 4 4 (mI h156 46 (Int32.toNatClampNeg 158)) := rf_le_r f_1620 f_1614 c_1613 4 (by decide)
                      have f_1622 : R 0 0 0 := ⟨by decide, by decide⟩
                      have f_1623 : R 0 0 0 := ⟨by decide, by decide⟩
                      refine s_X11_begins_v0 6 0 5 (by decide) ok_1608.1 (R_w f_1623 (by decide)) (fun r161 h160 ko_1625 f_1627 im_1624 => ?_)
                      have ok_1626 := Ok_tr ok_1608 ko_1625 (by decide)
                      refine ⟨fun c_1628 => ?_, fun c_1628 => ?_⟩
                      · have f_1629 : R 0 0 0 := ⟨by decide, by decide⟩
                        have f_1630 : R 0 0 r161 := rf_eq f_1629 c_1628
                        refine s_X11_wrong 1 (mI h160 11 4) ok_1626.1 (fun h163 ko_1631 po_1633 => ?_)
                        have ok_1632 := Ok_tr ok_1626 ko_1631 (by decide)
                        exact hp _ ok_1632
                      · have f_1634 : R 0 0 0 := ⟨by decide, by decide⟩
                        have f_1635 := (im_1624 c_1628)
                        have f_1636 : R 1 1 r161 := rf_ne_lo f_1627 c_1628 (by decide) 1 rfl
                        have f_1638 : R 4 4 4 := ⟨by decide, by decide⟩
                        have f_1637 : R 4 4 (mI h160 46 (Int32.toNatClampNeg 158)) := Ok_rd ko_1625 (by decide) f_1621
                        refine s_X11_runLine_v1 ok_1626.1 (R_w f_1635 (by decide)) (fun h164 ko_1639 => ?_)
                        have ok_1640 := Ok_tr ok_1626 ko_1639 (by decide)
                        exact hp _ ok_1640
                    · have f_1646 : R 0 4 (mI h 46 (Int32.toNatClampNeg 158)) := GI_rd ok.1 46 _ (by decide)
                      have f_1645 : R 0 4 (mI h89 46 (Int32.toNatClampNeg 158)) := Ok_rd ko_1291 (by decide) f_1646
                      have f_1644 : R 0 4 (mI h92 46 (Int32.toNatClampNeg 158)) := Ok_rd ko_1301 (by decide) f_1645
                      have f_1643 : R 0 4 (mI h95 46 (Int32.toNatClampNeg 158)) := Ok_rd ko_1311 (by decide) f_1644
                      have f_1642 : R 0 4 (mI h137 46 (Int32.toNatClampNeg 158)) := Ok_rd ko_1511 (by decide) f_1643
                      have f_1641 : R 0 4 (mI h156 46 (Int32.toNatClampNeg 158)) := Ok_rd ko_1607 (by decide) f_1642
                      have f_1647 : R 4 4 4 := ⟨by decide, by decide⟩
                      have f_1648 : R 0 3 (mI h156 46 (Int32.toNatClampNeg 158)) := rf_lt_l f_1641 f_1647 (nle c_1613) 3 (by decide)
                      have f_1649 : R 1 1 1 := ⟨by decide, by decide⟩
                      have f_1650 : R 1 1 1 := ⟨by decide, by decide⟩
                      have f_1651 : R 1 1 1 := ⟨by decide, by decide⟩
                      refine s_X11_begins_v1 6 1 5 (by decide) ok_1608.1 (R_w f_1651 (by decide)) (fun r166 h165 ko_1653 f_1655 im_1652 => ?_)
                      have ok_1654 := Ok_tr ok_1608 ko_1653 (by decide)
                      refine ⟨fun c_1656 => ?_, fun c_1656 => ?_⟩
                      · have f_1657 : R 0 0 0 := ⟨by decide, by decide⟩
                        have f_1658 : R 0 0 r166 := rf_eq f_1657 c_1656
                        refine s_X11_wrong 1 (mI h165 11 4) ok_1654.1 (fun h168 ko_1659 po_1661 => ?_)
                        have ok_1660 := Ok_tr ok_1654 ko_1659 (by decide)
                        exact hp _ ok_1660
                      · have f_1662 : R 0 0 0 := ⟨by decide, by decide⟩
                        have f_1663 : R 1 1 r166 := rf_ne_lo f_1655 c_1656 (by decide) 1 rfl
                        have f_1665 : R 4 4 4 := ⟨by decide, by decide⟩
                        have f_1664 : R 0 3 (mI h165 46 (Int32.toNatClampNeg 158)) := Ok_rd ko_1653 (by decide) f_1648
                        refine s_X11_runLine_v0 ok_1654.1 (R_w f_1664 (by decide)) (fun h169 ko_1666 => ?_)
                        have ok_1667 := Ok_tr ok_1654 ko_1666 (by decide)
                        exact hp _ ok_1667
                  · have f_1668 : R 0 0 0 := ⟨by decide, by decide⟩
                    have f_1669 : R 1 1 r157 := rf_ne_lo f_1609 c_1610 (by decide) 1 rfl
                    have f_1671 : R 18 18 18 := ⟨by decide, by decide⟩
                    have f_1670 : R 0 17 (mI h156 46 (Int32.toNatClampNeg 85)) := Ok_rd ko_1607 (by decide) f_1602
                    refine s_X11_rayLine_v0 ok_1608.1 (R_w f_1670 (by decide)) (fun h170 ko_1672 => ?_)
                    have ok_1673 := Ok_tr ok_1608 ko_1672 (by decide)
                    exact hp _ ok_1673
              · have f_1674 : R 0 0 0 := ⟨by decide, by decide⟩
                have f_1675 : R 1 1 r138 := rf_ne_lo f_1513 c_1514 (by decide) 1 rfl
                have f_1677 : R 8 8 8 := ⟨by decide, by decide⟩
                have f_1676 : R 0 7 (mI h137 46 (Int32.toNatClampNeg 52)) := Ok_rd ko_1511 (by decide) f_1506
                refine s_X11_lineLine_v0 ok_1512.1 (R_w f_1676 (by decide)) (fun h171 ko_1678 => ?_)
                have ok_1679 := Ok_tr ok_1512 ko_1678 (by decide)
                exact hp _ ok_1679
          · have f_1680 : R 0 0 0 := ⟨by decide, by decide⟩
            have f_1681 : R 1 1 r99 := rf_ne_lo f_1317 c_1318 (by decide) 1 rfl
            refine s_X11_setLine ok_1312.1 (fun h172 ko_1682 => ?_)
            have ok_1683 := Ok_tr ok_1312 ko_1682 (by decide)
            exact hp _ ok_1683
        · have f_1684 : R 0 0 0 := ⟨by decide, by decide⟩
          have f_1685 : R 1 1 r96 := rf_ne_lo f_1313 c_1314 (by decide) 1 rfl
          have f_1686 : R 51 51 51 := ⟨by decide, by decide⟩
          have f_1687 : R 6 6 6 := ⟨by decide, by decide⟩
          have f_1688 : R 9 9 9 := ⟨by decide, by decide⟩
          have f_1689 : R 51 51 51 := ⟨by decide, by decide⟩
          have f_1690 : R 6 6 6 := ⟨by decide, by decide⟩
          have f_1691 : R 9 9 9 := ⟨by decide, by decide⟩
          have f_1692 : R 51 51 51 := ⟨by decide, by decide⟩
          have f_1693 : R 6 6 6 := ⟨by decide, by decide⟩
          have f_1694 : R 9 9 9 := ⟨by decide, by decide⟩
          refine s_X11_newNames_v1 51 6 9 ok_1312.1 (R_w f_1692 (by decide)) (R_w f_1693 (by decide)) (R_w f_1694 (by decide)) ((im_1310 c_1314)) (fun h173 ko_1695 => ?_)
          have ok_1696 := Ok_tr ok_1312 ko_1695 (by decide)
          exact hp _ ok_1696
      · have f_1697 : R 0 0 0 := ⟨by decide, by decide⟩
        have f_1698 : R 1 1 r93 := rf_ne_lo f_1303 c_1304 (by decide) 1 rfl
        have f_1699 : R 50 50 50 := ⟨by decide, by decide⟩
        have f_1700 : R 0 0 0 := ⟨by decide, by decide⟩
        have f_1701 : R 6 6 6 := ⟨by decide, by decide⟩
        have f_1702 : R 50 50 50 := ⟨by decide, by decide⟩
        have f_1703 : R 0 0 0 := ⟨by decide, by decide⟩
        have f_1704 : R 6 6 6 := ⟨by decide, by decide⟩
        refine s_X11_newNames_v0 50 0 6 ok_1302.1 (R_w f_1702 (by decide)) (R_w f_1703 (by decide)) (R_w f_1704 (by decide)) ((im_1300 c_1304)) (fun h174 ko_1705 => ?_)
        have ok_1706 := Ok_tr ok_1302 ko_1705 (by decide)
        exact hp _ ok_1706
    · have f_1707 : R 0 0 0 := ⟨by decide, by decide⟩
      have f_1708 : R 1 1 r90 := rf_ne_lo f_1293 c_1294 (by decide) 1 rfl
      refine s_X11_lawLine ok_1292.1 (fun h175 ko_1709 => ?_)
      have ok_1710 := Ok_tr ok_1292 ko_1709 (by decide)
      exact hp _ ok_1710
set_option maxRecDepth 100000 in
set_option maxHeartbeats 4000000 in
theorem s_X11_noCoins_L {g : gT} {h0 : mh_T} {P : mh_T → Prop} (hG0 : GI h0) (hp : ∀ h', Ok [47] h0 h' → P h') : ∀ n : Nat, (∀ (l1 : Int32) (h : mh_T), Ok [47] h0 h → R 0 32 l1 → 1 * gap 32 l1 + 0 < n → ME g uX11_noCoins 2 [.ref 11, .int l1] [] h (qV P)) := by
  intro n
  induction n with
  | zero =>
    exact (fun _ _ _ _ hm => absurd hm (Nat.not_lt_zero _))
  | succ n ih =>
    intro l1 h  ok fl1     hm
    refine r_X11_noCoins_2 l1  ?_
    refine ⟨fun c_187 => ?_, fun c_187 => ?_⟩
    · have f_188 : R 32 32 32 := ⟨by decide, by decide⟩
      have f_189 : R 32 32 l1 := rf_le_r f_188 fl1 c_187 32 (by decide)
      exact hp _ ok
    · have f_190 : R 32 32 32 := ⟨by decide, by decide⟩
      have f_191 : R 0 31 l1 := rf_lt_l fl1 f_190 (nle c_187) 31 (by decide)
      have f_192 : R 32 32 32 := ⟨by decide, by decide⟩
      refine ⟨vin f_191 (by decide), ?_⟩
      have f_194 : R 1 1 1 := ⟨by decide, by decide⟩
      have f_193 : R 1 32 (l1 + 1) := R_add f_191 f_194 1 32 (by decide)
      have f_195 : R 0 0 0 := ⟨by decide, by decide⟩
      have ok_196 := Ok_w ok (k := 47) (j := l1.toNatClampNeg) (v := 0) (lo := (-2147483648)) (hi := 2147483647) (rgc_47 _) (R_w f_195 (by decide)) (by decide) (nt_k (by decide))
      have g_197 := gap_inc (N := 32) f_191 (by decide)
      exact ih (l1 + 1) (wI h 47 l1.toNatClampNeg 0)  ok_196 (R_w f_193 (by decide)) (by omega)
set_option maxRecDepth 100000 in
set_option maxHeartbeats 4000000 in
theorem s_X11_noCoins {g : gT} {h : mh_T} {P : mh_T → Prop}  (hG : GI h)  (hp : ∀ h', Ok [47] h h' → P h') : MCv g yX11_noCoins uX11_noCoins [.ref 11] h P := by
  have ok : Ok [47] h h := Ok_rf hG
  have L0 := s_X11_noCoins_L (g := g) hG hp 33
  refine e_X11_noCoins   ?_
  have f_198 : R 0 0 0 := ⟨by decide, by decide⟩
  have f_199 : R 0 0 0 := ⟨by decide, by decide⟩
  have g_200 := gap_le (N := 32) f_199 (m := 32) (by decide)
  exact L0 0 h  ok (R_w f_198 (by decide)) (by omega)
abbrev msM : List Nat := [11, 44, 45, 46, 47]
theorem rg4645 : ∀ j, j < 346 → (rgT 45 j).1 ≤ (rgT 46 j).1 ∧ (rgT 46 j).2 ≤ (rgT 45 j).2 := by decide +kernel
theorem rg46_0 : ∀ j, j < 346 → (rgT 46 j).1 ≤ 0 ∧ 0 ≤ (rgT 46 j).2 := by decide +kernel
set_option maxRecDepth 100000 in
theorem s_X11_book_179 {g : gT} {h0 : mh_T} {P : Int32 → mh_T → Prop} (l1 : Int32) (hp : ∀ r k, Ok msM h0 k → P r k) : ∀ (n : Nat) (l2 : Int32) (k : mh_T), Ok msM h0 k → R 0 346 l2 → gap 346 l2 < n → ME g uX11_book 179 [.ref 11, .int l1, .int l2] [] k (qI P) := by
  intro n
  induction n with
  | zero => intro l2 k _ _ hn; exact absurd hn (Nat.not_lt_zero _)
  | succ n ih =>
    intro l2 k kO f2 hn
    have c1 : R 1 1 1 := ⟨by decide, by decide⟩
    have z0 : R 0 0 0 := ⟨by decide, by decide⟩
    refine r_X11_book_179 l1 l2 ⟨fun _ => ?_, fun c => ?_⟩
    · have o1 := Ok_w kO (k := 11) (j := 14) (v := 1) (lo := 0) (hi := 1) (by decide) (R_w c1 (by decide)) (by decide) (by decide)
      refine s_X11_noCoins o1.1 (fun h2 k2 => ?_)
      have o2 := Ok_tr o1 k2 (by decide)
      have o3 := Ok_w o2 (k := 11) (j := 24) (v := 0) (lo := 0) (hi := 20) (by decide) (R_w z0 (by decide)) (by decide) (by decide)
      have o4 := Ok_w o3 (k := 11) (j := 25) (v := 0) (lo := 0) (hi := 20) (by decide) (R_w z0 (by decide)) (by decide) (by decide)
      have o5 := Ok_w o4 (k := 11) (j := 26) (v := 0) (lo := 0) (hi := 4) (by decide) (R_w z0 (by decide)) (by decide) (by decide)
      exact hp _ _ o5
    · have c := lt_ti (nle c)
      have z6 : (346 : Int32).toInt = 346 := by decide
      have g2 : R 0 345 l2 := ⟨f2.1, by omega⟩
      have gi := gap_inc (N := 346) g2 (by decide)
      have o1 := Ok_w kO (k := 45) (j := l2.toNatClampNeg) (v := mI k 46 l2.toNatClampNeg) (lo := (rgT 45 l2.toNatClampNeg).1) (hi := (rgT 45 l2.toNatClampNeg).2) rfl (R_w (kO.1.1 46 _) (rg4645 _ (ix_lt g2 (by decide)))) (by decide) (nt_k (by decide))
      exact ⟨vin g2 (by decide), vin g2 (by decide), ih (l2 + 1) _ o1 (R_add g2 c1 0 346 (by decide)) (by omega)⟩
set_option maxRecDepth 100000 in
set_option maxHeartbeats 4000000 in
theorem s_X11_book_77 {g : gT} {h0 : mh_T} {P : Int32 → mh_T → Prop} (l1 l2 : Int32) (hp : ∀ r k, Ok msM h0 k → P r k) : ∀ (n : Nat) (k : mh_T), Ok msM h0 k → (Mz k).toNat < n → ME g uX11_book 77 [.ref 11, .int l1, .int l2] [] k (qI P) := by
  intro n
  induction n with
  | zero => intro k _ hn; exact absurd hn (Nat.not_lt_zero _)
  | succ n ih =>
    intro k kO hn
    have no : ∀ k, Ok msM h0 k → MCi g yX11_no uX11_no [.ref 11, .int 4] k (fun r6 h5 => P r6 h5) := fun k kO => s_X11_no 4 kO.1 (fun r h' k' _ => hp r h' (Ok_tr kO k' (by decide)))
    have leaf : ∀ k, Ok msM h0 k → ((mI k 11 13) = 0 → ME g uX11_book 179 [.ref 11, .int l1, .int 0] [] k (qI P)) ∧ (¬ (mI k 11 13) = 0 → MCi g yX11_no uX11_no [.ref 11, .int 4] k (fun r6 h5 => P r6 h5)) := fun k kO => ⟨fun _ => s_X11_book_179 l1 hp 347 0 k kO ⟨by decide, by decide⟩ (by decide), fun _ => no k kO⟩
    have w6 : ∀ k, Ok msM h0 k → MCv g yX11_wrong uX11_wrong [.ref 11, .int 6, .int (mI k 11 4)] k (fun h8 => ((mI h8 11 13) = 0 → ME g uX11_book 179 [.ref 11, .int l1, .int 0] [] h8 (qI P)) ∧ (¬ (mI h8 11 13) = 0 → MCi g yX11_no uX11_no [.ref 11, .int 4] h8 (fun r11 h10 => P r11 h10))) := fun k kO => s_X11_wrong _ _ kO.1 (fun h' k' _ => leaf h' (Ok_tr kO k' (by decide)))
    have mid : ∀ k, Ok msM h0 k → (¬ (mI k 11 13) = 0 → ((mI k 11 13) = 0 → ME g uX11_book 179 [.ref 11, .int l1, .int 0] [] k (qI P)) ∧ (¬ (mI k 11 13) = 0 → MCi g yX11_no uX11_no [.ref 11, .int 4] k (fun r6 h5 => P r6 h5))) ∧ ((mI k 11 13) = 0 → ((mI k 46 (Int32.toNatClampNeg 49)) = 0 → MCv g yX11_wrong uX11_wrong [.ref 11, .int 6, .int (mI k 11 4)] k (fun h8 => ((mI h8 11 13) = 0 → ME g uX11_book 179 [.ref 11, .int l1, .int 0] [] h8 (qI P)) ∧ (¬ (mI h8 11 13) = 0 → MCi g yX11_no uX11_no [.ref 11, .int 4] h8 (fun r11 h10 => P r11 h10)))) ∧ (¬ (mI k 46 (Int32.toNatClampNeg 49)) = 0 → (¬ (mI k 46 (Int32.toNatClampNeg 50)) = 0 → ((mI k 11 13) = 0 → ME g uX11_book 179 [.ref 11, .int l1, .int 0] [] k (qI P)) ∧ (¬ (mI k 11 13) = 0 → MCi g yX11_no uX11_no [.ref 11, .int 4] k (fun r15 h14 => P r15 h14))) ∧ ((mI k 46 (Int32.toNatClampNeg 50)) = 0 → MCv g yX11_wrong uX11_wrong [.ref 11, .int 6, .int (mI k 11 4)] k (fun h16 => ((mI h16 11 13) = 0 → ME g uX11_book 179 [.ref 11, .int l1, .int 0] [] h16 (qI P)) ∧ (¬ (mI h16 11 13) = 0 → MCi g yX11_no uX11_no [.ref 11, .int 4] h16 (fun r19 h18 => P r19 h18)))))) := fun k kO => ⟨fun _ => leaf k kO, fun _ => ⟨fun _ => w6 k kO, fun _ => ⟨fun _ => leaf k kO, fun _ => w6 k kO⟩⟩⟩
    refine r_X11_book_77 l1 l2 ⟨fun _ => ⟨fun _ => mid k kO, fun _ => ⟨fun _ => mid k kO, fun _ => ?_⟩⟩, fun _ => ⟨fun _ => ⟨fun _ => mid k kO, fun _ => ⟨fun _ => mid k kO, fun _ => ?_⟩⟩, fun c => ?_⟩⟩
    · exact s_X11_wrong _ _ kO.1 (fun h' k' _ => mid h' (Ok_tr kO k' (by decide)))
    · exact s_X11_wrong _ _ kO.1 (fun h' k' _ => mid h' (Ok_tr kO k' (by decide)))
    · refine s_X11_next_N kO.1 (fun h2 k2 _ m2 => ?_)
      have o2 := Ok_tr kO k2 (by decide)
      have m2 := m2 (by rw [c]; decide)
      refine s_X11_readLine o2.1 (fun h3 k3 => ?_)
      have o3 := Ok_tr o2 k3 (by decide)
      have m3 := k3.2.2.2.2
      have := Mz_nn o3.1
      exact ih h3 o3 (by omega)
set_option maxRecDepth 100000 in
theorem s_X11_book_39 {g : gT} {h0 : mh_T} {P : Int32 → mh_T → Prop} (l1 : Int32) (f1 : R 0 900 l1) (hp : ∀ r k, GI k → Fr msM h0 k → mI k 0 10 = mI h0 0 10 → mI k 11 2 = mI h0 11 2 → P r k) : ∀ (n : Nat) (l2 : Int32) (k : mh_T), Ok msM h0 k → R 0 346 l2 → gap 346 l2 < n → ME g uX11_book 39 [.ref 11, .int l1, .int l2] [] k (qI P) := by
  intro n
  induction n with
  | zero => intro l2 k _ _ hn; exact absurd hn (Nat.not_lt_zero _)
  | succ n ih =>
    intro l2 k kO f2 hn
    have c1 : R 1 1 1 := ⟨by decide, by decide⟩
    refine r_X11_book_39 l1 l2 ⟨fun _ => ?_, fun c => ?_⟩
    · have o1 := Ok_w kO (k := 11) (j := 3) (v := l1) (lo := 0) (hi := 900) (by decide) f1 (by decide) (by decide)
      have g5 : GI (wI (wI k 11 3 l1) 11 5 0) := GI_w o1.1 (k := 11) (j := 5) (lo := 0) (hi := 900) (by decide) ⟨by decide, by decide⟩
      have fr5 : Fr msM h0 (wI (wI k 11 3 l1) 11 5 0) := Fr_w o1.2.1 (by decide)
      have e1 : mI (wI (wI k 11 3 l1) 11 5 0) 0 10 = mI h0 0 10 := by
        rw [mI_wI, if_neg (by decide)]
        exact o1.2.2.1
      have e2 : mI (wI (wI k 11 3 l1) 11 5 0) 11 2 = mI h0 11 2 := by
        rw [mI_wI, if_neg (by decide)]
        exact o1.2.2.2.1
      generalize wI (wI k 11 3 l1) 11 5 0 = k5 at g5 fr5 e1 e2
      have ok5 : Ok msM k5 k5 := Ok_rf g5
      refine s_X11_next g5 (fun h2 k2 => ?_)
      have ok2 := Ok_tr ok5 k2 (by decide)
      refine s_X11_readLine ok2.1 (fun h3 k3 => ?_)
      have ok3 := Ok_tr ok2 k3 (by decide)
      exact s_X11_book_77 l1 l2 (fun r q qO => hp r q qO.1 (Fr_tr fr5 qO.2.1) (qO.2.2.1.trans e1) (qO.2.2.2.1.trans e2)) _ h3 ok3 (Nat.lt_succ_self _)
    · have c := lt_ti (nle c)
      have z6 : (346 : Int32).toInt = 346 := by decide
      have z0 : (0 : Int32).toInt = 0 := by decide
      have g2 : R 0 345 l2 := ⟨f2.1, by omega⟩
      have gi := gap_inc (N := 346) g2 (by decide)
      have r0 := rg46_0 l2.toNatClampNeg (ix_lt g2 (by decide))
      have o1 := Ok_w kO (k := 46) (j := l2.toNatClampNeg) (v := 0) (lo := (rgT 46 l2.toNatClampNeg).1) (hi := (rgT 46 l2.toNatClampNeg).2) rfl (by unfold R; rw [z0]; exact r0) (by decide) (nt_k (by decide))
      exact ⟨vin g2 (by decide), ih (l2 + 1) _ o1 (R_add g2 c1 0 346 (by decide)) (by omega)⟩
set_option maxRecDepth 100000 in
theorem s_X11_book {g : gT} {h : mh_T} {P : Int32 → mh_T → Prop} (l1 : Int32) (hG : GI h) (hp : ∀ r h', GI h' → Fr msM h h' → mI h' 0 10 = mI h 0 10 → ((0 ≤ l1.toInt ∧ l1.toInt ≤ (mI h 11 2).toInt) → mI h' 11 2 = 0) → (¬ (0 ≤ l1.toInt ∧ l1.toInt ≤ (mI h 11 2).toInt) → mI h' 11 2 = mI h 11 2) → P r h') : MCi g yX11_book uX11_book [.ref 11, .int l1] h P := by
  refine e_X11_book l1 (s_X11_good hG (fun h1 k1 => ?_))
  have ok1 : Ok msM h h1 := Ok_mono k1 (by decide)
  have e2 : mI h1 11 2 = mI h 11 2 := k1.2.2.2.1
  have z0 : (0 : Int32).toInt = 0 := by decide
  have f2 : R 0 900 (mI h 11 2) := GI_rd hG 11 2 (by decide)
  have no : ¬ (0 ≤ l1.toInt ∧ l1.toInt ≤ (mI h 11 2).toInt) → MCi g yX11_no uX11_no [.ref 11, .int 2] h1 (fun r6 h5 => P r6 h5) := fun z => s_X11_no 2 ok1.1 (fun r h' k' _ => by
    have o := Ok_tr ok1 k' (by decide)
    exact hp r h' o.1 o.2.1 o.2.2.1 (fun y => absurd y z) (fun _ => o.2.2.2.1))
  refine e_X11_within _ _ _ ⟨fun c => ⟨fun z => absurd rfl z, fun _ => no (fun y => ?_)⟩, fun c => ⟨fun c2 => ⟨fun z => absurd rfl z, fun _ => no (fun y => ?_)⟩, fun c2 => ⟨fun _ => ?_, fun z => absurd z (by decide)⟩⟩⟩
  · have := lt_ti c
    omega
  · have := lt_ti c2
    rw [e2] at this
    omega
  · have a1 := le_ti (nlt c)
    have a2 := le_ti (nlt c2)
    rw [e2] at a2
    have g3 : GI (wI (wI (wI h1 11 2 0) 11 9 0) 11 13 0) := GI_w (GI_w (GI_w ok1.1 (k := 11) (j := 2) (lo := 0) (hi := 900) (by decide) ⟨by decide, by decide⟩) (k := 11) (j := 9) (lo := -2147483648) (hi := 2147483647) (by decide) (R_full _)) (k := 11) (j := 13) (lo := 0) (hi := 1) (by decide) ⟨by decide, by decide⟩
    have fr3 : Fr msM h (wI (wI (wI h1 11 2 0) 11 9 0) 11 13 0) := Fr_w (Fr_w (Fr_w ok1.2.1 (by decide)) (by decide)) (by decide)
    have e10 : mI (wI (wI (wI h1 11 2 0) 11 9 0) 11 13 0) 0 10 = mI h 0 10 := by
      rw [mI_wI, if_neg (by decide), mI_wI, if_neg (by decide), mI_wI, if_neg (by decide)]
      exact ok1.2.2.1
    have e11 : mI (wI (wI (wI h1 11 2 0) 11 9 0) 11 13 0) 11 2 = 0 := by
      rw [mI_wI, if_neg (by decide), mI_wI, if_neg (by decide), mI_wI, if_pos ⟨rfl, rfl⟩]
    generalize wI (wI (wI h1 11 2 0) 11 9 0) 11 13 0 = k3 at g3 fr3 e10 e11
    refine s_X11_book_39 l1 ⟨by omega, by have := f2.2; omega⟩ (fun r k kG kF k10 k11 => hp r k kG (Fr_tr fr3 kF) (k10.trans e10) (fun _ => k11.trans e11) (fun z => absurd (by omega) z)) 347 0 k3 (Ok_rf g3) ⟨by decide, by decide⟩ (by decide)
set_option maxRecDepth 100000 in
set_option maxHeartbeats 4000000 in
theorem s_X11_fault {g : gT} {h : mh_T} {P : Int32 → mh_T → Prop}  (hG : GI h)  (hp : ∀ (r : Int32) h', Ok [11] h h' → P r h') : MCi g yX11_fault uX11_fault [.ref 11] h P := by
  have ok : Ok [11] h h := Ok_rf hG
  refine e_X11_fault   ?_
  have f_5 : R 0 0 0 := ⟨by decide, by decide⟩
  have ok_6 := Ok_w ok (k := 11) (j := 0) (v := 0) (lo := (-2147483648)) (hi := 2147483647) (by decide) (R_w f_5 (by decide)) (by decide) (by decide)
  have f_8 : R (-2147483648) 2147483647 (mI h 11 9) := R_full _
  have f_7 : R (-2147483648) 2147483647 (mI (wI h 11 0 0) 11 9) := (rd_nj f_8 (by decide))
  exact hp _ _ ok_6 
set_option maxRecDepth 100000 in
set_option maxHeartbeats 4000000 in
theorem s_X11_where {g : gT} {h : mh_T} {P : Int32 → mh_T → Prop}  (hG : GI h)  (hp : ∀ (r : Int32) h', Ok [11] h h' → P r h') : MCi g yX11_where uX11_where [.ref 11] h P := by
  have ok : Ok [11] h h := Ok_rf hG
  refine e_X11_where   ?_
  refine ⟨fun c_16 => ?_, fun c_16 => ?_⟩
  · have f_18 : R (-2147483648) 2147483647 (mI h 11 11) := R_full _
    have f_17 : R (-2147483648) 2147483647 (mI (wI h 11 0 0) 11 11) := (rd_nj f_18 (by decide))
    have f_19 : R 4 4 4 := ⟨by decide, by decide⟩
    have f_20 : R 0 0 0 := ⟨by decide, by decide⟩
    have ok_21 := Ok_w ok (k := 11) (j := 0) (v := 0) (lo := (-2147483648)) (hi := 2147483647) (by decide) (R_w f_20 (by decide)) (by decide) (by decide)
    have f_22 : R (-1) (-1) (-1) := ⟨by decide, by decide⟩
    exact hp _ _ ok_21 
  · have f_24 : R (-2147483648) 2147483647 (mI h 11 11) := R_full _
    have f_23 : R (-2147483648) 2147483647 (mI (wI h 11 0 0) 11 11) := (rd_nj f_24 (by decide))
    have f_25 : R 4 4 4 := ⟨by decide, by decide⟩
    have f_26 : R 4 4 (mI (wI h 11 0 0) 11 11) := rf_eq f_25 c_16
    have f_27 : R 0 0 0 := ⟨by decide, by decide⟩
    have ok_28 := Ok_w ok (k := 11) (j := 0) (v := 0) (lo := (-2147483648)) (hi := 2147483647) (by decide) (R_w f_27 (by decide)) (by decide) (by decide)
    have f_30 : R (-2147483648) 2147483647 (mI h 11 10) := R_full _
    have f_29 : R (-2147483648) 2147483647 (mI (wI h 11 0 0) 11 10) := (rd_nj f_30 (by decide))
    exact hp _ _ ok_28 
set_option maxRecDepth 100000 in
set_option maxHeartbeats 4000000 in
theorem s_X11_isSet {g : gT} {h : mh_T} {P : Int32 → mh_T → Prop} (l1 : Int32) (hG : GI h)  (hp : ∀ r : Int32, R 0 1 r → (¬ r = 0 → R 0 7 l1 ∧ R 1 8 (mI h 45 (Int32.toNatClampNeg 0))) → P r h) : MCi g yX11_isSet uX11_isSet [.ref 11, .int l1] h P := by
  have ok : Ok [] h h := Ok_rf hG
  refine e_X11_isSet l1  ?_
  refine ⟨fun c_28 => ?_, fun c_28 => ?_⟩
  · have f_29 : R 0 1 (mI h 11 14) := GI_rd ok.1 11 _ (by decide)
    have f_30 : R 0 0 0 := ⟨by decide, by decide⟩
    have f_31 : R 0 0 (mI h 11 14) := rf_eq f_30 c_28
    have f_32 : R 0 0 0 := ⟨by decide, by decide⟩
    exact hp _ (R_w f_32 (by decide)) (fun z => absurd rfl z)
  · have f_33 : R 0 1 (mI h 11 14) := GI_rd ok.1 11 _ (by decide)
    have f_34 : R 0 0 0 := ⟨by decide, by decide⟩
    have f_35 : R 1 1 (mI h 11 14) := rf_ne_lo f_33 c_28 (by decide) 1 rfl
    refine s_X11_within l1 0 ((mI h 45 (Int32.toNatClampNeg 0)) - 1) ok.1 (fun r3 f_37 im_36 => ?_)
    refine ⟨fun c_38 => ?_, fun c_38 => ?_⟩
    · have f_39 : R 0 0 0 := ⟨by decide, by decide⟩
      have f_40 : R 0 0 r3 := rf_eq f_39 c_38
      have f_41 : R 0 0 0 := ⟨by decide, by decide⟩
      exact hp _ (R_w f_41 (by decide)) (fun z => absurd rfl z)
    · have f_42 : R 0 0 0 := ⟨by decide, by decide⟩
      have f_43 : R 0 0 0 := ⟨by decide, by decide⟩
      have f_44 : R 0 2147483647 l1 := rf_le_r f_43 (R_full l1) (im_36 c_38).1 0 (by decide)
      have f_46 : R 0 8 (mI h 45 (Int32.toNatClampNeg 0)) := GI_rd ok.1 45 _ (by decide)
      have f_47 : R 1 1 1 := ⟨by decide, by decide⟩
      have f_45 : R (-1) 7 ((mI h 45 (Int32.toNatClampNeg 0)) - 1) := R_sub f_46 f_47 (-1) 7 (by decide)
      have f_48 : R 0 7 l1 := rf_le_l f_44 f_45 (im_36 c_38).2 7 (by decide)
      have f_49 : R 0 7 ((mI h 45 (Int32.toNatClampNeg 0)) - 1) := rf_le_r f_44 f_45 (im_36 c_38).2 0 (by decide)
      have f_50 : R 1 8 (mI h 45 (Int32.toNatClampNeg 0)) := R_um1 f_46 f_49 1 8 (by decide)
      have f_51 : R 1 1 r3 := rf_ne_lo f_37 c_38 (by decide) 1 rfl
      have f_52 : R 1 1 1 := ⟨by decide, by decide⟩
      have f_53 : R 1 1 1 := ⟨by decide, by decide⟩
      have f_54 : R 0 0 0 := ⟨by decide, by decide⟩
      exact hp _ (R_w f_52 (by decide)) (fun _ => ⟨R_w f_48 (by decide), R_w f_50 (by decide)⟩)
set_option maxRecDepth 100000 in
set_option maxHeartbeats 4000000 in
theorem s_X11_isLook {g : gT} {h : mh_T} {P : Int32 → mh_T → Prop} (l1 : Int32) (hG : GI h)  (hp : ∀ r : Int32, R 0 1 r → (¬ r = 0 → R 0 5 l1) → P r h) : MCi g yX11_isLook uX11_isLook [.ref 11, .int l1] h P := by
  have ok : Ok [] h h := Ok_rf hG
  refine e_X11_isLook l1  ?_
  refine ⟨fun c_28 => ?_, fun c_28 => ?_⟩
  · have f_29 : R 0 1 (mI h 11 14) := GI_rd ok.1 11 _ (by decide)
    have f_30 : R 0 0 0 := ⟨by decide, by decide⟩
    have f_31 : R 0 0 (mI h 11 14) := rf_eq f_30 c_28
    have f_32 : R 0 0 0 := ⟨by decide, by decide⟩
    exact hp _ (R_w f_32 (by decide)) (fun z => absurd rfl z)
  · have f_33 : R 0 1 (mI h 11 14) := GI_rd ok.1 11 _ (by decide)
    have f_34 : R 0 0 0 := ⟨by decide, by decide⟩
    have f_35 : R 1 1 (mI h 11 14) := rf_ne_lo f_33 c_28 (by decide) 1 rfl
    refine s_X11_within l1 0 ((mI h 45 (Int32.toNatClampNeg 50)) - 1) ok.1 (fun r3 f_37 im_36 => ?_)
    refine ⟨fun c_38 => ?_, fun c_38 => ?_⟩
    · have f_39 : R 0 0 0 := ⟨by decide, by decide⟩
      have f_40 : R 0 0 r3 := rf_eq f_39 c_38
      have f_41 : R 0 0 0 := ⟨by decide, by decide⟩
      exact hp _ (R_w f_41 (by decide)) (fun z => absurd rfl z)
    · have f_42 : R 0 0 0 := ⟨by decide, by decide⟩
      have f_43 : R 0 0 0 := ⟨by decide, by decide⟩
      have f_44 : R 0 2147483647 l1 := rf_le_r f_43 (R_full l1) (im_36 c_38).1 0 (by decide)
      have f_46 : R 0 6 (mI h 45 (Int32.toNatClampNeg 50)) := GI_rd ok.1 45 _ (by decide)
      have f_47 : R 1 1 1 := ⟨by decide, by decide⟩
      have f_45 : R (-1) 5 ((mI h 45 (Int32.toNatClampNeg 50)) - 1) := R_sub f_46 f_47 (-1) 5 (by decide)
      have f_48 : R 0 5 l1 := rf_le_l f_44 f_45 (im_36 c_38).2 5 (by decide)
      have f_49 : R 0 5 ((mI h 45 (Int32.toNatClampNeg 50)) - 1) := rf_le_r f_44 f_45 (im_36 c_38).2 0 (by decide)
      have f_50 : R 1 6 (mI h 45 (Int32.toNatClampNeg 50)) := R_um1 f_46 f_49 1 6 (by decide)
      have f_51 : R 1 1 r3 := rf_ne_lo f_37 c_38 (by decide) 1 rfl
      have f_52 : R 1 1 1 := ⟨by decide, by decide⟩
      have f_53 : R 1 1 1 := ⟨by decide, by decide⟩
      have f_54 : R 0 0 0 := ⟨by decide, by decide⟩
      exact hp _ (R_w f_52 (by decide)) (fun _ => R_w f_48 (by decide))
set_option maxRecDepth 100000 in
set_option maxHeartbeats 4000000 in
theorem s_X11_outcomes {g : gT} {h : mh_T} {P : Int32 → mh_T → Prop} (l1 : Int32) (hG : GI h) (fl1 : R 0 7 l1) (hp : ∀ r : Int32, R 2 4 r → P r h) : MCi g yX11_outcomes uX11_outcomes [.ref 45, .int l1] h P := by
  have ok : Ok [] h h := Ok_rf hG
  refine e_X11_outcomes l1  ?_
  have f_13 : R 9 9 9 := ⟨by decide, by decide⟩
  have f_12 : R 9 16 (9 + l1) := R_add f_13 fl1 9 16 (by decide)
  refine ⟨vin f_12 (by decide), ?_⟩
  refine ⟨fun c_14 => ?_, fun c_14 => ?_⟩
  · have f_15 : R (-2) 5 (mI h 45 (9 + l1).toNatClampNeg) := GI_rd ok.1 45 _ (rgp_45_2 (ix_ge f_12 (by decide)) (ix_le f_12 (by decide)))
    have f_16 : R (-2) (-2) (-2) := ⟨by decide, by decide⟩
    have f_17 : R (-1) 5 (mI h 45 (9 + l1).toNatClampNeg) := rf_ne_lo f_15 c_14 (by decide) (-1) rfl
    have f_18 : R 4 4 4 := ⟨by decide, by decide⟩
    exact hp _ (R_w f_18 (by decide))
  · have f_19 : R (-2) 5 (mI h 45 (9 + l1).toNatClampNeg) := GI_rd ok.1 45 _ (rgp_45_2 (ix_ge f_12 (by decide)) (ix_le f_12 (by decide)))
    have f_20 : R (-2) (-2) (-2) := ⟨by decide, by decide⟩
    have f_21 : R (-2) (-2) (mI h 45 (9 + l1).toNatClampNeg) := rf_eq f_20 c_14
    have f_22 : R 2 2 2 := ⟨by decide, by decide⟩
    exact hp _ (R_w f_22 (by decide))
set_option maxRecDepth 100000 in
set_option maxHeartbeats 4000000 in
theorem s_X11_isOutcome {g : gT} {h : mh_T} {P : Int32 → mh_T → Prop} (l1 : Int32) (l2 : Int32) (hG : GI h)  (hp : ∀ r : Int32, R 0 1 r → (¬ r = 0 → R 0 7 l1 ∧ R 0 3 l2) → P r h) : MCi g yX11_isOutcome uX11_isOutcome [.ref 11, .int l1, .int l2] h P := by
  have ok : Ok [] h h := Ok_rf hG
  refine e_X11_isOutcome l1 l2  ?_
  refine s_X11_isSet l1 ok.1 (fun r2 f_29 im_28 => ?_)
  refine ⟨fun c_30 => ?_, fun c_30 => ?_⟩
  · have f_31 : R 0 0 0 := ⟨by decide, by decide⟩
    have f_32 : R 0 0 r2 := rf_eq f_31 c_30
    have f_33 : R 0 0 0 := ⟨by decide, by decide⟩
    exact hp _ (R_w f_33 (by decide)) (fun z => absurd rfl z)
  · have f_34 : R 0 0 0 := ⟨by decide, by decide⟩
    have f_35 := (im_28 c_30).1
    have f_36 := (im_28 c_30).2
    have f_37 : R 1 1 r2 := rf_ne_lo f_29 c_30 (by decide) 1 rfl
    refine s_X11_outcomes l1 ok.1 (R_w f_35 (by decide)) (fun r5 f_38 => ?_)
    refine s_X11_within l2 0 (r5 - 1) ok.1 (fun r7 f_40 im_39 => ?_)
    refine ⟨fun c_41 => ?_, fun c_41 => ?_⟩
    · have f_42 : R 0 0 0 := ⟨by decide, by decide⟩
      have f_43 : R 0 0 r7 := rf_eq f_42 c_41
      have f_44 : R 0 0 0 := ⟨by decide, by decide⟩
      exact hp _ (R_w f_44 (by decide)) (fun z => absurd rfl z)
    · have f_45 : R 0 0 0 := ⟨by decide, by decide⟩
      have f_46 : R 0 0 0 := ⟨by decide, by decide⟩
      have f_47 : R 0 2147483647 l2 := rf_le_r f_46 (R_full l2) (im_39 c_41).1 0 (by decide)
      have f_49 : R 1 1 1 := ⟨by decide, by decide⟩
      have f_48 : R 1 3 (r5 - 1) := R_sub f_38 f_49 1 3 (by decide)
      have f_50 : R 0 3 l2 := rf_le_l f_47 f_48 (im_39 c_41).2 3 (by decide)
      have f_51 : R 1 1 r7 := rf_ne_lo f_40 c_41 (by decide) 1 rfl
      have f_52 : R 1 1 1 := ⟨by decide, by decide⟩
      have f_53 : R 1 1 1 := ⟨by decide, by decide⟩
      have f_54 : R 0 0 0 := ⟨by decide, by decide⟩
      exact hp _ (R_w f_52 (by decide)) (fun _ => ⟨R_w f_35 (by decide), R_w f_50 (by decide)⟩)
set_option maxRecDepth 100000 in
set_option maxHeartbeats 4000000 in
theorem s_X11_hiddenMany {g : gT} {h : mh_T} {P : Int32 → mh_T → Prop}  (hG : GI h)  (hp : ∀ r : Int32, R 1 64 r → P r h) : MCi g yX11_hiddenMany uX11_hiddenMany [.ref 11] h P := by
  have ok : Ok [] h h := Ok_rf hG
  refine e_X11_hiddenMany   ?_
  have f_4 : R 0 6 (mI h 45 (Int32.toNatClampNeg 50)) := GI_rd ok.1 45 _ (by decide)
  have f_3 : R 1 64 (1 <<< ((mI h 45 (Int32.toNatClampNeg 50)) &&& 31)) := R_shl f_4 1 64 0 6 (by decide)
  exact hp _ (R_w f_3 (by decide))
set_option maxRecDepth 100000 in
set_option maxHeartbeats 4000000 in
theorem s_X11_fitted {g : gT} {h : mh_T} {P : Int32 → mh_T → Prop} (l1 : Int32) (l2 : Int32) (hG : GI h) (fl1 : R 0 7 l1) (hp : ∀ r : Int32, R 0 3 r → P r h) : MCi g yX11_fitted uX11_fitted [.ref 11, .int l1, .int l2] h P := by
  have ok : Ok [] h h := Ok_rf hG
  refine e_X11_fitted l1 l2  ?_
  have f_21 : R 1 1 1 := ⟨by decide, by decide⟩
  have f_20 : R 1 8 (1 + l1) := R_add f_21 fl1 1 8 (by decide)
  refine ⟨vin f_20 (by decide), ?_⟩
  intro x2 ex2
  have f_23 : R 1 1 1 := ⟨by decide, by decide⟩
  have f_22 : R 0 1 ((l2 >>> ((mI h 45 (1 + l1).toNatClampNeg) &&& 31)) &&& 1) := R_and f_23 (by decide)
  have f_24 : R 0 1 x2 := rf_eq f_22 ex2
  have f_26 : R 9 9 9 := ⟨by decide, by decide⟩
  have f_25 : R 9 16 (9 + l1) := R_add f_26 fl1 9 16 (by decide)
  refine ⟨vin f_25 (by decide), ?_⟩
  refine ⟨fun c_27 => ?_, fun c_27 => ?_⟩
  · have f_28 : R (-2) 5 (mI h 45 (9 + l1).toNatClampNeg) := GI_rd ok.1 45 _ (rgp_45_2 (ix_ge f_25 (by decide)) (ix_le f_25 (by decide)))
    have f_29 : R (-2) (-2) (-2) := ⟨by decide, by decide⟩
    have f_30 : R (-1) 5 (mI h 45 (9 + l1).toNatClampNeg) := rf_ne_lo f_28 c_27 (by decide) (-1) rfl
    refine ⟨vin f_25 (by decide), ?_⟩
    have f_33 : R 2 2 2 := ⟨by decide, by decide⟩
    have f_32 : R 0 2 (2 * x2) := R_mul f_33 f_24 0 2 (by decide)
    have f_35 : R 1 1 1 := ⟨by decide, by decide⟩
    have f_34 : R 0 1 ((l2 >>> ((mI h 45 (9 + l1).toNatClampNeg) &&& 31)) &&& 1) := R_and f_35 (by decide)
    have f_31 : R 0 3 ((2 * x2) + ((l2 >>> ((mI h 45 (9 + l1).toNatClampNeg) &&& 31)) &&& 1)) := R_add f_32 f_34 0 3 (by decide)
    exact hp _ (R_w f_31 (by decide))
  · have f_36 : R (-2) 5 (mI h 45 (9 + l1).toNatClampNeg) := GI_rd ok.1 45 _ (rgp_45_2 (ix_ge f_25 (by decide)) (ix_le f_25 (by decide)))
    have f_37 : R (-2) (-2) (-2) := ⟨by decide, by decide⟩
    have f_38 : R (-2) (-2) (mI h 45 (9 + l1).toNatClampNeg) := rf_eq f_37 c_27
    exact hp _ (R_w f_24 (by decide))
set_option maxRecDepth 100000 in
set_option maxHeartbeats 4000000 in
theorem s_X11_cell {g : gT} {h : mh_T} {P : Int32 → mh_T → Prop} (l0 : Int32) (l1 : Int32) (hG : GI h) (fl0 : R 0 33 l0) (fl1 : R 0 96 l1) (hp : ∀ r : Int32, R 0 3297 r → P r h) : MCi g yX11_cell uX11_cell [.int l0, .int l1] h P := by
  have ok : Ok [] h h := Ok_rf hG
  refine e_X11_cell l0 l1  ?_
  have f_6 : R 97 97 97 := ⟨by decide, by decide⟩
  have f_5 : R 0 3201 (97 * l0) := R_mul f_6 fl0 0 3201 (by decide)
  have f_4 : R 0 3297 ((97 * l0) + l1) := R_add f_5 fl1 0 3297 (by decide)
  exact hp _ (R_w f_4 (by decide))
set_option maxRecDepth 100000 in
set_option maxHeartbeats 4000000 in
theorem s_X11_bounding_L {g : gT} {h0 : mh_T} {P : Int32 → mh_T → Prop} (hG0 : GI h0) (hp : ∀ r : Int32, R (-1) 31 r → P r h0) : ∀ n : Nat, (∀ (l1 : Int32) (l2 : Int32) (l3 : Int32), R 0 95 l1 → R (-1) 31 l2 → R 0 32 l3 → R 1 97 (mI h0 11 31) → 1 * gap 32 l3 + 0 < n → ME g uX11_bounding 4 [.ref 11, .int l1, .int l2, .int l3, .retAddr 0, .retAddr 0, .retAddr 0, .retAddr 0, .retAddr 0, .retAddr 0, .retAddr 0, .retAddr 0] [] h0 (qI P)) := by
  intro n
  induction n with
  | zero =>
    exact (fun _ _ _ _ _ _ _ hm => absurd hm (Nat.not_lt_zero _))
  | succ n ih =>
    intro l1 l2 l3  fl1 fl2 fl3 fi0    hm
    have ok : Ok [] h0 h0 := Ok_rf hG0
    refine r_X11_bounding_4 l1 l2 l3  ?_
    refine ⟨fun c_1280 => ?_, fun c_1280 => ?_⟩
    · have f_1281 : R 0 32 (mI h0 11 30) := GI_rd ok.1 11 _ (by decide)
      exact hp _ (R_w fl2 (by decide))
    · have f_1282 : R 0 32 (mI h0 11 30) := GI_rd ok.1 11 _ (by decide)
      have f_1283 : R 0 31 l3 := rf_lt_l fl3 f_1282 (nle c_1280) 31 (by decide)
      have f_1284 : R 1 32 (mI h0 11 30) := rf_lt_r fl3 f_1282 (nle c_1280) 1 (by decide)
      refine s_X11_cell l3 l1 ok.1 (R_w f_1283 (by decide)) (R_w fl1 (by decide)) (fun r3 f_1285 => ?_)
      refine ⟨vin f_1285 (by decide), ?_⟩
      intro x5 ex5
      refine ⟨fun c_1286 => ?_, fun c_1286 => ?_⟩
      · have f_1287 : R (-2147483648) 2147483647 (lg_cmp x5 0) := R_full _
        have f_1288 : R 0 0 0 := ⟨by decide, by decide⟩
        have f_1289 : R 1 2147483647 (lg_cmp x5 0) := rf_lt_r f_1288 f_1287 c_1286 1 (by decide)
        refine ⟨fun c_1290 => ?_, fun c_1290 => ?_⟩
        · have f_1291 : R 0 0 0 := ⟨by decide, by decide⟩
          have f_1292 : R 0 31 l2 := rf_le_r f_1291 fl2 c_1290 0 (by decide)
          refine s_X11_cell l2 l1 ok.1 (R_w f_1292 (by decide)) (R_w fl1 (by decide)) (fun r9 f_1293 => ?_)
          refine ⟨vin f_1293 (by decide), ?_⟩
          intro x11 ex11
          have f_1295 : R 1 1 1 := ⟨by decide, by decide⟩
          have f_1294 : R 0 96 ((mI h0 11 31) - 1) := R_sub fi0 f_1295 0 96 (by decide)
          refine s_X11_cell l3 ((mI h0 11 31) - 1) ok.1 (R_w f_1283 (by decide)) (R_w f_1294 (by decide)) (fun r13 f_1296 => ?_)
          refine ⟨vin f_1296 (by decide), ?_⟩
          intro x15 ex15
          refine s_X11_cell l2 ((mI h0 11 31) - 1) ok.1 (R_w f_1292 (by decide)) (R_w f_1294 (by decide)) (fun r17 f_1297 => ?_)
          refine ⟨vin f_1297 (by decide), ?_⟩
          intro x19 ex19
          refine ⟨fun c_1298 => ?_, fun c_1298 => ?_⟩
          · have f_1299 : R (-2147483648) 2147483647 (lg_cmp x15 x19) := R_full _
            have f_1300 : R 0 0 0 := ⟨by decide, by decide⟩
            have f_1301 : R (-2147483648) (-1) (lg_cmp x15 x19) := rf_lt_l f_1299 f_1300 c_1298 (-1) (by decide)
            have f_1303 : R 1 1 1 := ⟨by decide, by decide⟩
            have f_1302 : R 1 32 (l3 + 1) := R_add f_1283 f_1303 1 32 (by decide)
            have g_1304 := gap_inc (N := 32) f_1283 (by decide)
            exact ih l1 l3 (l3 + 1)  (R_w fl1 (by decide)) (R_w f_1283 (by decide)) (R_w f_1302 (by decide)) (R_w fi0 (by decide)) (by omega)
          · have f_1305 : R (-2147483648) 2147483647 (lg_cmp x15 x19) := R_full _
            have f_1306 : R 0 0 0 := ⟨by decide, by decide⟩
            have f_1307 : R 0 2147483647 (lg_cmp x15 x19) := rf_le_r f_1306 f_1305 (nlt c_1298) 0 (by decide)
            refine ⟨fun c_1308 => ?_, fun c_1308 => ?_⟩
            · have f_1309 : R 0 0 0 := ⟨by decide, by decide⟩
              have f_1310 : R 1 2147483647 (lg_cmp x15 x19) := rf_ne_lo f_1307 c_1308 (by decide) 1 rfl
              have f_1312 : R 1 1 1 := ⟨by decide, by decide⟩
              have f_1311 : R 1 32 (l3 + 1) := R_add f_1283 f_1312 1 32 (by decide)
              have g_1313 := gap_inc (N := 32) f_1283 (by decide)
              exact ih l1 l2 (l3 + 1)  (R_w fl1 (by decide)) (R_w f_1292 (by decide)) (R_w f_1311 (by decide)) (R_w fi0 (by decide)) (by omega)
            · have f_1314 : R 0 0 0 := ⟨by decide, by decide⟩
              have f_1315 : R 0 0 (lg_cmp x15 x19) := rf_eq f_1314 c_1308
              refine ⟨vin f_1283 (by decide), ?_⟩
              have f_1316 : R 0 0 0 := ⟨by decide, by decide⟩
              refine ⟨vin f_1292 (by decide), ?_⟩
              refine ⟨fun c_1317 => ?_, fun c_1317 => ?_⟩
              · have f_1318 : R 0 96 (mI h0 55 l3.toNatClampNeg) := GI_rd ok.1 55 _ rfl
                have f_1319 : R 0 96 (mI h0 55 l2.toNatClampNeg) := GI_rd ok.1 55 _ rfl
                have f_1321 : R 1 1 1 := ⟨by decide, by decide⟩
                have f_1320 : R 1 32 (l3 + 1) := R_add f_1283 f_1321 1 32 (by decide)
                have g_1322 := gap_inc (N := 32) f_1283 (by decide)
                exact ih l1 l2 (l3 + 1)  (R_w fl1 (by decide)) (R_w f_1292 (by decide)) (R_w f_1320 (by decide)) (R_w fi0 (by decide)) (by omega)
              · have f_1323 : R 0 96 (mI h0 55 l3.toNatClampNeg) := GI_rd ok.1 55 _ rfl
                have f_1324 : R 0 96 (mI h0 55 l2.toNatClampNeg) := GI_rd ok.1 55 _ rfl
                have f_1325 : R 0 95 (mI h0 55 l3.toNatClampNeg) := rf_lt_l f_1323 f_1324 (nle c_1317) 95 (by decide)
                have f_1326 : R 1 96 (mI h0 55 l2.toNatClampNeg) := rf_lt_r f_1323 f_1324 (nle c_1317) 1 (by decide)
                have f_1328 : R 1 1 1 := ⟨by decide, by decide⟩
                have f_1327 : R 1 32 (l3 + 1) := R_add f_1283 f_1328 1 32 (by decide)
                have g_1329 := gap_inc (N := 32) f_1283 (by decide)
                exact ih l1 l3 (l3 + 1)  (R_w fl1 (by decide)) (R_w f_1283 (by decide)) (R_w f_1327 (by decide)) (R_w fi0 (by decide)) (by omega)
        · have f_1330 : R 0 0 0 := ⟨by decide, by decide⟩
          have f_1331 : R (-1) (-1) l2 := rf_lt_l fl2 f_1330 (nle c_1290) (-1) (by decide)
          have f_1333 : R 1 1 1 := ⟨by decide, by decide⟩
          have f_1332 : R 1 32 (l3 + 1) := R_add f_1283 f_1333 1 32 (by decide)
          have g_1334 := gap_inc (N := 32) f_1283 (by decide)
          exact ih l1 l3 (l3 + 1)  (R_w fl1 (by decide)) (R_w f_1283 (by decide)) (R_w f_1332 (by decide)) (R_w fi0 (by decide)) (by omega)
      · have f_1335 : R (-2147483648) 2147483647 (lg_cmp x5 0) := R_full _
        have f_1336 : R 0 0 0 := ⟨by decide, by decide⟩
        have f_1337 : R (-2147483648) 0 (lg_cmp x5 0) := rf_le_l f_1335 f_1336 (nlt c_1286) 0 (by decide)
        have f_1339 : R 1 1 1 := ⟨by decide, by decide⟩
        have f_1338 : R 1 32 (l3 + 1) := R_add f_1283 f_1339 1 32 (by decide)
        have g_1340 := gap_inc (N := 32) f_1283 (by decide)
        exact ih l1 l2 (l3 + 1)  (R_w fl1 (by decide)) (R_w fl2 (by decide)) (R_w f_1338 (by decide)) (R_w fi0 (by decide)) (by omega)
set_option maxRecDepth 100000 in
set_option maxHeartbeats 4000000 in
theorem s_X11_bounding {g : gT} {h : mh_T} {P : Int32 → mh_T → Prop} (l1 : Int32) (hG : GI h) (fl1 : R 0 95 l1) (fi0 : R 1 97 (mI h 11 31)) (hp : ∀ r : Int32, R (-1) 31 r → P r h) : MCi g yX11_bounding uX11_bounding [.ref 11, .int l1] h P := by
  have ok : Ok [] h h := Ok_rf hG
  have L0 := s_X11_bounding_L (g := g) hG hp 33
  refine e_X11_bounding l1  ?_
  have f_1341 : R (-1) (-1) (-1) := ⟨by decide, by decide⟩
  have f_1342 : R 0 0 0 := ⟨by decide, by decide⟩
  have f_1343 : R 0 0 0 := ⟨by decide, by decide⟩
  have g_1344 := gap_le (N := 32) f_1343 (m := 32) (by decide)
  exact L0 l1 (-1) 0  (R_w fl1 (by decide)) (R_w f_1341 (by decide)) (R_w f_1342 (by decide)) (R_w fi0 (by decide)) (by omega)
theorem lg_eq {x y : Int64} (h : lg_cmp x y = 0) : x = y := by
  unfold lg_cmp at h
  split at h
  · cases h
  · split at h
    · assumption
    · cases h
theorem rem_ti {x y : Int64} (h : ¬ y = 0) : (x - x / y * y).toInt = x.toInt.tmod y.toInt := by
  have hy : y.toInt ≠ 0 := fun z => h (Int64.toInt_inj.mp (by rw [z]; decide))
  have e : x.toInt - x.toInt.tdiv y.toInt * y.toInt = x.toInt.tmod y.toInt := by
    rw [Int.tmod_def, Int.mul_comm]
  have l1 := Int64.le_toInt y
  have l2 := Int64.toInt_le y
  have m1 : (x.toInt.tmod y.toInt).natAbs < y.toInt.natAbs := by
    rw [Int.natAbs_tmod]
    exact Nat.mod_lt _ (by omega)
  have q1 : Int64.minValue.toInt = -9223372036854775808 := by decide
  have q2 : Int64.maxValue.toInt = 9223372036854775807 := by decide
  rw [Int64.toInt_sub, Int64.toInt_mul, Int64.toInt_div]
  simp only [Int.bmod_mul_bmod, Int.sub_bmod_bmod]
  rw [e]
  exact Int.bmod_eq_of_le (by omega) (by omega)
theorem rem_abs {x y : Int64} (h : ¬ y = 0) : (x - x / y * y).toInt.natAbs < y.toInt.natAbs := by
  have hy : y.toInt ≠ 0 := fun z => h (Int64.toInt_inj.mp (by rw [z]; decide))
  rw [rem_ti h, Int.natAbs_tmod]
  exact Nat.mod_lt _ (by omega)
set_option maxRecDepth 100000 in
theorem s_X11_common_L {g : gT} {h : mh_T} {P : Int64 → mh_T → Prop} (hp : ∀ r, ¬ r = 0 → P r h) : ∀ (n : Nat) (l0 l2 l4 l6 : Int64), ¬ (l4 = 0 ∧ l6 = 0) → l6.toInt.natAbs < n → ME g uX11_common 6 [.long l0, .retAddr 0, .long l2, .retAddr 0, .long l4, .retAddr 0, .long l6, .retAddr 0, .retAddr 0, .retAddr 0] [] h (qL P) := by
  intro n
  induction n with
  | zero => intro l0 l2 l4 l6 _ hm; omega
  | succ n ih =>
    intro l0 l2 l4 l6 h0 hm
    refine r_X11_common_6 l0 l2 l4 l6 ⟨fun c => hp _ (fun z => h0 ⟨z, lg_eq c⟩), fun c => ⟨lg_ne c, fun x3 e3 => ?_⟩⟩
    have := rem_abs (x := l4) (lg_ne c)
    rw [← e3] at this
    exact ih l0 l2 l6 x3 (fun z => lg_ne c z.1) (by omega)
theorem s_X11_common {g : gT} {h : mh_T} {P : Int64 → mh_T → Prop} (l0 l2 : Int64) (hG : GI h) (h0 : ¬ (l0 = 0 ∧ l2 = 0)) (hp : ∀ r, ¬ r = 0 → P r h) : MCl g yX11_common uX11_common [.long l0, .long l2] h P := e_X11_common l0 l2 (s_X11_common_L hp _ l0 l2 l0 l2 h0 (Nat.lt_succ_self _))
theorem s_X11_lowest {g : gT} {h : mh_T} {P : Int32 → mh_T → Prop} (l0 l2 : Int64) (l4 : Int32) (hG : GI h) (h0 : ¬ l2 = 0) (hp : ∀ r, P r h) : MCi g yX11_lowest uX11_lowest [.long l0, .long l2, .int l4] h P := by
  refine e_X11_lowest l0 l2 l4 ?_
  refine s_X11_common l0 l2 hG (fun z => h0 z.2) (fun r hr => ?_)
  first
    | exact ⟨fun _ => ⟨hr, hp _⟩, fun _ => ⟨hr, hp _⟩⟩
    | (intros; exact ⟨fun _ => ⟨hr, hp _⟩, fun _ => ⟨hr, hp _⟩⟩)
set_option maxRecDepth 100000 in
set_option maxHeartbeats 4000000 in
theorem s_X11_isBit {g : gT} {h : mh_T} {P : Int32 → mh_T → Prop} (l0 : Int32) (hG : GI h)  (hp : ∀ r : Int32, R 0 1 r → P r h) : MCi g yX11_isBit uX11_isBit [.int l0] h P := by
  have ok : Ok [] h h := Ok_rf hG
  refine e_X11_isBit l0  ?_
  refine ⟨fun c_12 => ?_, fun c_12 => ?_⟩
  · have f_13 : R 0 0 0 := ⟨by decide, by decide⟩
    have f_14 : R 0 0 l0 := rf_eq f_13 c_12
    have f_15 : R 1 1 1 := ⟨by decide, by decide⟩
    exact hp _ (R_w f_15 (by decide))
  · have f_16 : R 0 0 0 := ⟨by decide, by decide⟩
    refine ⟨fun c_17 => ?_, fun c_17 => ?_⟩
    · have f_18 : R 1 1 1 := ⟨by decide, by decide⟩
      have f_19 : R 0 0 0 := ⟨by decide, by decide⟩
      exact hp _ (R_w f_19 (by decide))
    · have f_20 : R 1 1 1 := ⟨by decide, by decide⟩
      have f_21 : R 1 1 l0 := rf_eq f_20 c_17
      have f_22 : R 1 1 1 := ⟨by decide, by decide⟩
      exact hp _ (R_w f_22 (by decide))
set_option maxRecDepth 100000 in
set_option maxHeartbeats 4000000 in
theorem s_X11_fitsAll_L {g : gT} {h0 : mh_T} {P : Int32 → mh_T → Prop} (hG0 : GI h0) (hp : ∀ r : Int32, R 0 1 r → P r h0) : ∀ n : Nat, (∀ (l1 : Int32) (l2 : Int32) (l3 : Int32) (l4 : Int32), R (-2147483648) 2147483647 l1 → R (-2147483648) 2147483647 l2 → R 0 1 l3 → R 0 8 l4 → 1 * gap 8 l4 + 0 < n → ME g uX11_fitsAll 5 [.ref 11, .int l1, .int l2, .int l3, .int l4] [] h0 (qI P)) := by
  intro n
  induction n with
  | zero =>
    exact (fun _ _ _ _ _ _ _ _ hm => absurd hm (Nat.not_lt_zero _))
  | succ n ih =>
    intro l1 l2 l3 l4  fl1 fl2 fl3 fl4     hm
    have ok : Ok [] h0 h0 := Ok_rf hG0
    refine r_X11_fitsAll_5 l1 l2 l3 l4  ?_
    refine ⟨fun c_350 => ?_, fun c_350 => ?_⟩
    · have f_351 : R 0 8 (mI h0 45 (Int32.toNatClampNeg 0)) := GI_rd ok.1 45 _ (by decide)
      exact ⟨R_z (R_w fl3 (by decide)), hp _ (R_w fl3 (by decide))⟩
    · have f_352 : R 0 8 (mI h0 45 (Int32.toNatClampNeg 0)) := GI_rd ok.1 45 _ (by decide)
      have f_353 : R 0 7 l4 := rf_lt_l fl4 f_352 (nle c_350) 7 (by decide)
      have f_354 : R 1 8 (mI h0 45 (Int32.toNatClampNeg 0)) := rf_lt_r fl4 f_352 (nle c_350) 1 (by decide)
      refine ⟨fun c_355 => ?_, fun c_355 => ?_⟩
      · have f_356 : R 0 0 0 := ⟨by decide, by decide⟩
        have f_357 : R 0 0 l3 := rf_eq f_356 c_355
        have f_358 : R 0 0 0 := ⟨by decide, by decide⟩
        have f_360 : R 1 1 1 := ⟨by decide, by decide⟩
        have f_359 : R 1 8 (l4 + 1) := R_add f_353 f_360 1 8 (by decide)
        have g_361 := gap_inc (N := 8) f_353 (by decide)
        exact ih l1 l2 0 (l4 + 1)  (R_w fl1 (by decide)) (R_w fl2 (by decide)) (R_w f_358 (by decide)) (R_w f_359 (by decide)) (by omega)
      · have f_362 : R 0 0 0 := ⟨by decide, by decide⟩
        have f_363 : R 1 1 l3 := rf_ne_lo fl3 c_355 (by decide) 1 rfl
        refine ⟨fun c_364 => ?_, fun c_364 => ?_⟩
        · have f_365 : R 0 7 l2 := rf_eq' f_353 c_364
          have f_366 : R 1 1 1 := ⟨by decide, by decide⟩
          have f_368 : R 1 1 1 := ⟨by decide, by decide⟩
          have f_367 : R 1 8 (l4 + 1) := R_add f_353 f_368 1 8 (by decide)
          have g_369 := gap_inc (N := 8) f_353 (by decide)
          exact ih l1 l2 1 (l4 + 1)  (R_w fl1 (by decide)) (R_w f_365 (by decide)) (R_w f_366 (by decide)) (R_w f_367 (by decide)) (by omega)
        · refine s_X11_fitted l4 l1 ok.1 (R_w f_353 (by decide)) (fun r5 f_370 => ?_)
          have f_373 : R 17 17 17 := ⟨by decide, by decide⟩
          have f_375 : R 4 4 4 := ⟨by decide, by decide⟩
          have f_374 : R 0 28 (4 * l4) := R_mul f_375 f_353 0 28 (by decide)
          have f_372 : R 17 45 (17 + (4 * l4)) := R_add f_373 f_374 17 45 (by decide)
          have f_371 : R 17 48 ((17 + (4 * l4)) + r5) := R_add f_372 f_370 17 48 (by decide)
          refine ⟨vin f_371 (by decide), ?_⟩
          refine ⟨fun c_376 => ?_, fun c_376 => ?_⟩
          · have f_377 : R (-2147483648) 2147483647 (mI h0 45 ((17 + (4 * l4)) + r5).toNatClampNeg) := R_full _
            have f_378 : R 0 0 0 := ⟨by decide, by decide⟩
            have f_379 : R (-2147483648) 0 (mI h0 45 ((17 + (4 * l4)) + r5).toNatClampNeg) := rf_le_l f_377 f_378 c_376 0 (by decide)
            have f_380 : R 0 0 0 := ⟨by decide, by decide⟩
            have f_382 : R 1 1 1 := ⟨by decide, by decide⟩
            have f_381 : R 1 8 (l4 + 1) := R_add f_353 f_382 1 8 (by decide)
            have g_383 := gap_inc (N := 8) f_353 (by decide)
            exact ih l1 l2 0 (l4 + 1)  (R_w fl1 (by decide)) (R_w fl2 (by decide)) (R_w f_380 (by decide)) (R_w f_381 (by decide)) (by omega)
          · have f_384 : R (-2147483648) 2147483647 (mI h0 45 ((17 + (4 * l4)) + r5).toNatClampNeg) := R_full _
            have f_385 : R 0 0 0 := ⟨by decide, by decide⟩
            have f_386 : R 1 2147483647 (mI h0 45 ((17 + (4 * l4)) + r5).toNatClampNeg) := rf_lt_r f_385 f_384 (nle c_376) 1 (by decide)
            have f_387 : R 1 1 1 := ⟨by decide, by decide⟩
            have f_389 : R 1 1 1 := ⟨by decide, by decide⟩
            have f_388 : R 1 8 (l4 + 1) := R_add f_353 f_389 1 8 (by decide)
            have g_390 := gap_inc (N := 8) f_353 (by decide)
            exact ih l1 l2 1 (l4 + 1)  (R_w fl1 (by decide)) (R_w fl2 (by decide)) (R_w f_387 (by decide)) (R_w f_388 (by decide)) (by omega)
set_option maxRecDepth 100000 in
set_option maxHeartbeats 4000000 in
theorem s_X11_fitsAll {g : gT} {h : mh_T} {P : Int32 → mh_T → Prop} (l1 : Int32) (l2 : Int32) (hG : GI h)  (hp : ∀ r : Int32, R 0 1 r → P r h) : MCi g yX11_fitsAll uX11_fitsAll [.ref 11, .int l1, .int l2] h P := by
  have ok : Ok [] h h := Ok_rf hG
  have L0 := s_X11_fitsAll_L (g := g) hG hp 9
  refine e_X11_fitsAll l1 l2  ?_
  have f_391 : R 1 1 1 := ⟨by decide, by decide⟩
  have f_392 : R 0 0 0 := ⟨by decide, by decide⟩
  have f_393 : R 0 0 0 := ⟨by decide, by decide⟩
  have g_394 := gap_le (N := 8) f_393 (m := 8) (by decide)
  exact L0 l1 l2 1 0  (R_w (R_full l1) (by decide)) (R_w (R_full l2) (by decide)) (R_w f_391 (by decide)) (R_w f_392 (by decide)) (by omega)
set_option maxRecDepth 100000 in
set_option maxHeartbeats 4000000 in
theorem s_X11_doesExtend_L {g : gT} {h0 : mh_T} {P : Int32 → mh_T → Prop} (hG0 : GI h0) (hp : ∀ r : Int32, R 0 1 r → P r h0) : ∀ n : Nat, (∀ (l1 : Int32) (l2 : Int32) (l3 : Int32) (l4 : Int32), R 0 7 l1 → R (-2147483648) 2147483647 l2 → R 0 1 l3 → R 0 64 l4 → 1 * gap 64 l4 + 0 < n → ME g uX11_doesExtend 5 [.ref 11, .int l1, .int l2, .int l3, .int l4] [] h0 (qI P)) := by
  intro n
  induction n with
  | zero =>
    exact (fun _ _ _ _ _ _ _ _ hm => absurd hm (Nat.not_lt_zero _))
  | succ n ih =>
    intro l1 l2 l3 l4  fl1 fl2 fl3 fl4     hm
    have ok : Ok [] h0 h0 := Ok_rf hG0
    refine r_X11_doesExtend_5 l1 l2 l3 l4  ?_
    refine s_X11_hiddenMany ok.1 (fun r2 f_926 => ?_)
    refine ⟨fun c_927 => ?_, fun c_927 => ?_⟩
    · have f_928 : R 1 64 l4 := rf_le_r f_926 fl4 c_927 1 (by decide)
      exact ⟨R_z (R_w fl3 (by decide)), hp _ (R_w fl3 (by decide))⟩
    · have f_929 : R 0 63 l4 := rf_lt_l fl4 f_926 (nle c_927) 63 (by decide)
      refine ⟨fun c_930 => ?_, fun c_930 => ?_⟩
      · have f_931 : R 0 0 0 := ⟨by decide, by decide⟩
        have f_932 : R 1 1 l3 := rf_ne_lo fl3 c_930 (by decide) 1 rfl
        have f_933 : R 1 1 1 := ⟨by decide, by decide⟩
        have f_935 : R 1 1 1 := ⟨by decide, by decide⟩
        have f_934 : R 1 64 (l4 + 1) := R_add f_929 f_935 1 64 (by decide)
        have g_936 := gap_inc (N := 64) f_929 (by decide)
        exact ih l1 l2 1 (l4 + 1)  (R_w fl1 (by decide)) (R_w fl2 (by decide)) (R_w f_933 (by decide)) (R_w f_934 (by decide)) (by omega)
      · have f_937 : R 0 0 0 := ⟨by decide, by decide⟩
        have f_938 : R 0 0 l3 := rf_eq f_937 c_930
        refine s_X11_fitted l1 l4 ok.1 (R_w fl1 (by decide)) (fun r6 f_939 => ?_)
        refine ⟨fun c_940 => ?_, fun c_940 => ?_⟩
        · have f_941 : R 0 0 0 := ⟨by decide, by decide⟩
          have f_943 : R 1 1 1 := ⟨by decide, by decide⟩
          have f_942 : R 1 64 (l4 + 1) := R_add f_929 f_943 1 64 (by decide)
          have g_944 := gap_inc (N := 64) f_929 (by decide)
          exact ih l1 l2 0 (l4 + 1)  (R_w fl1 (by decide)) (R_w fl2 (by decide)) (R_w f_941 (by decide)) (R_w f_942 (by decide)) (by omega)
        · have f_945 : R 0 3 l2 := rf_eq' f_939 c_940
          refine s_X11_fitsAll l4 l1 ok.1 (fun r9 f_946 => ?_)
          refine ⟨fun c_947 => ?_, fun c_947 => ?_⟩
          · have f_948 : R 0 0 0 := ⟨by decide, by decide⟩
            have f_949 : R 0 0 r9 := rf_eq f_948 c_947
            have f_950 : R 0 0 0 := ⟨by decide, by decide⟩
            have f_952 : R 1 1 1 := ⟨by decide, by decide⟩
            have f_951 : R 1 64 (l4 + 1) := R_add f_929 f_952 1 64 (by decide)
            have g_953 := gap_inc (N := 64) f_929 (by decide)
            exact ih l1 l2 0 (l4 + 1)  (R_w fl1 (by decide)) (R_w f_945 (by decide)) (R_w f_950 (by decide)) (R_w f_951 (by decide)) (by omega)
          · have f_954 : R 0 0 0 := ⟨by decide, by decide⟩
            have f_955 : R 1 1 r9 := rf_ne_lo f_946 c_947 (by decide) 1 rfl
            have f_956 : R 1 1 1 := ⟨by decide, by decide⟩
            have f_958 : R 1 1 1 := ⟨by decide, by decide⟩
            have f_957 : R 1 64 (l4 + 1) := R_add f_929 f_958 1 64 (by decide)
            have g_959 := gap_inc (N := 64) f_929 (by decide)
            exact ih l1 l2 1 (l4 + 1)  (R_w fl1 (by decide)) (R_w f_945 (by decide)) (R_w f_956 (by decide)) (R_w f_957 (by decide)) (by omega)
set_option maxRecDepth 100000 in
set_option maxHeartbeats 4000000 in
theorem s_X11_doesExtend {g : gT} {h : mh_T} {P : Int32 → mh_T → Prop} (l1 : Int32) (l2 : Int32) (hG : GI h) (fl1 : R 0 7 l1) (hp : ∀ r : Int32, R 0 1 r → P r h) : MCi g yX11_doesExtend uX11_doesExtend [.ref 11, .int l1, .int l2] h P := by
  have ok : Ok [] h h := Ok_rf hG
  have L0 := s_X11_doesExtend_L (g := g) hG hp 65
  refine e_X11_doesExtend l1 l2  ?_
  have f_960 : R 0 0 0 := ⟨by decide, by decide⟩
  have f_961 : R 0 0 0 := ⟨by decide, by decide⟩
  have f_962 : R 0 0 0 := ⟨by decide, by decide⟩
  have g_963 := gap_le (N := 64) f_962 (m := 64) (by decide)
  exact L0 l1 l2 0 0  (R_w fl1 (by decide)) (R_w (R_full l2) (by decide)) (R_w f_960 (by decide)) (R_w f_961 (by decide)) (by omega)
