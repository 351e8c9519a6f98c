set_option maxRecDepth 100000 in
set_option maxHeartbeats 4000000 in
theorem s_X11_corners {g : gT} {h : mh_T} {P : Int32 → mh_T → Prop}  (hG : GI h)  (hp : ∀ (r : Int32) h', Ok [300, 11, 56, 57] h h' → R (-1) 3060 r → ¬ mI h' 11 11 = 4 → P r h') : MCi g yX11_corners uX11_corners [.ref 11] h P := by
  have ok : Ok [300, 11, 56, 57] h h := Ok_rf hG
  refine e_X11_corners   ?_
  refine s_X11_good ok.1 (fun h1 ko_16 t4 => ?_)
  have ok_17 := Ok_tr ok ko_16 (by decide)
  have hp : ∀ (r : Int32) h', Ok [300, 11, 56, 57] h1 h' → R (-1) 3060 r → P r h' := fun r h' k x0 => hp r h' (Ok_tr ok_17 k (by decide)) x0 (k.2.2.2.2.2.2 t4)
  have ok_17 : Ok [300, 11, 56, 57] h1 h1 := Ok_rf ok_17.1
  refine ⟨fun c_18 => ?_, fun c_18 => ?_⟩
  · have f_19 : R 0 1 (mI h1 11 14) := GI_rd ok_17.1 11 _ (by decide)
    have f_20 : R 0 0 0 := ⟨by decide, by decide⟩
    have f_21 : R 1 1 (mI h1 11 14) := rf_ne_lo f_19 c_18 (by decide) 1 rfl
    refine s_X11_layCorners ok_17.1 (fun h3 ko_22 => ?_)
    have ok_23 := Ok_tr ok_17 ko_22 (by decide)
    have f_24 : R 0 3060 (mI h3 11 34) := GI_rd ok_23.1 11 _ (by decide)
    exact hp _ _ ok_23 (R_w f_24 (by decide))
  · have f_25 : R 0 1 (mI h1 11 14) := GI_rd ok_17.1 11 _ (by decide)
    have f_26 : R 0 0 0 := ⟨by decide, by decide⟩
    have f_27 : R 0 0 (mI h1 11 14) := rf_eq f_26 c_18
    refine s_X11_no 1 ok_17.1 (fun r5 h4 ko_28 f_30 => ?_)
    have ok_29 := Ok_tr ok_17 ko_28 (by decide)
    exact hp _ _ ok_29 (R_w f_30 (by decide))
set_option maxRecDepth 100000 in
set_option maxHeartbeats 4000000 in
theorem s_X11_isSoFar_L {g : gT} {h0 : mh_T} {P : Int32 → mh_T → Prop} (hG0 : GI h0) (hp : ∀ r : Int32, R 0 1 r → P r h0) : ∀ n : Nat, (∀ (l1 : Int32) (l2 : Int32) (l3 : Int32) (l4 : Int32) (l5 : Int32), R (-2147483648) 2147483647 l1 → R (-2147483648) 2147483647 l2 → R (-2147483648) 2147483647 l3 → R 0 1 l4 → R 0 3060 l5 → 1 * gap 3060 l5 + 0 < n → ME g uX11_isSoFar 6 [.ref 11, .int l1, .int l2, .int l3, .int l4, .int l5, .retAddr 0, .retAddr 0] [] h0 (qI P)) := by
  intro n
  induction n with
  | zero =>
    exact (fun _ _ _ _ _ _ _ _ _ _ hm => absurd hm (Nat.not_lt_zero _))
  | succ n ih =>
    intro l1 l2 l3 l4 l5  fl1 fl2 fl3 fl4 fl5     hm
    have ok : Ok [] h0 h0 := Ok_rf hG0
    refine r_X11_isSoFar_6 l1 l2 l3 l4 l5  ?_
    refine ⟨fun c_2942 => ?_, fun c_2942 => ?_⟩
    · have f_2943 : R 0 3060 (mI h0 11 34) := GI_rd ok.1 11 _ (by decide)
      exact ⟨R_z (R_w fl4 (by decide)), hp _ (R_w fl4 (by decide))⟩
    · have f_2944 : R 0 3060 (mI h0 11 34) := GI_rd ok.1 11 _ (by decide)
      have f_2945 : R 0 3059 l5 := rf_lt_l fl5 f_2944 (nle c_2942) 3059 (by decide)
      have f_2946 : R 1 3060 (mI h0 11 34) := rf_lt_r fl5 f_2944 (nle c_2942) 1 (by decide)
      refine ⟨fun c_2947 => ?_, fun c_2947 => ?_⟩
      · have f_2948 : R 0 0 0 := ⟨by decide, by decide⟩
        have f_2949 : R 0 0 l4 := rf_eq f_2948 c_2947
        exact ⟨R_z (R_w f_2949 (by decide)), hp _ (R_w f_2949 (by decide))⟩
      · have f_2950 : R 0 0 0 := ⟨by decide, by decide⟩
        have f_2951 : R 1 1 l4 := rf_ne_lo fl4 c_2947 (by decide) 1 rfl
        refine ⟨vin f_2945 (by decide), ?_⟩
        intro x4 ex4
        have f_2952 : R (-2147483648) 2147483647 (mI h0 56 l5.toNatClampNeg) := R_full _
        have f_2953 : R (-2147483648) 2147483647 x4 := rf_eq f_2952 ex4
        refine ⟨fun c_2954 => ?_, fun c_2954 => ?_⟩
        · have f_2957 : R (-1) (-1) (-1) := ⟨by decide, by decide⟩
          have f_2956 : R (-2147483648) 2147483647 (l1 ^^^ (-1)) := R_full _
          have f_2955 : R (-2147483648) 2147483647 (x4 &&& (l1 ^^^ (-1))) := R_full _
          have f_2958 : R 0 0 0 := ⟨by decide, by decide⟩
          have f_2959 : R 0 0 (x4 &&& (l1 ^^^ (-1))) := rf_eq f_2958 c_2954
          refine s_X11_bits (x4 &&& l2) ok.1 (fun r7 => ?_)
          refine ⟨fun c_2960 => ?_, fun c_2960 => ?_⟩
          · have f_2961 : R (-2147483648) 2147483647 r7 := R_full _
            have f_2962 : R 2 2 2 := ⟨by decide, by decide⟩
            have f_2963 : R 2 2147483647 r7 := rf_le_r f_2962 f_2961 c_2960 2 (by decide)
            have f_2964 : R 0 0 0 := ⟨by decide, by decide⟩
            have f_2966 : R 1 1 1 := ⟨by decide, by decide⟩
            have f_2965 : R 1 3060 (l5 + 1) := R_add f_2945 f_2966 1 3060 (by decide)
            have g_2967 := gap_inc (N := 3060) f_2945 (by decide)
            exact ih l1 l2 l3 0 (l5 + 1)  (R_w fl1 (by decide)) (R_w fl2 (by decide)) (R_w fl3 (by decide)) (R_w f_2964 (by decide)) (R_w f_2965 (by decide)) (by omega)
          · have f_2968 : R (-2147483648) 2147483647 r7 := R_full _
            have f_2969 : R 2 2 2 := ⟨by decide, by decide⟩
            have f_2970 : R (-2147483648) 1 r7 := rf_lt_l f_2968 f_2969 (nle c_2960) 1 (by decide)
            refine ⟨fun c_2971 => ?_, fun c_2971 => ?_⟩
            · have f_2974 : R (-1) (-1) (-1) := ⟨by decide, by decide⟩
              have f_2973 : R (-2147483648) 2147483647 (l3 ^^^ (-1)) := R_full _
              have f_2972 : R (-2147483648) 2147483647 (x4 &&& (l3 ^^^ (-1))) := R_full _
              have f_2975 : R 0 0 0 := ⟨by decide, by decide⟩
              have f_2976 : R 1 1 1 := ⟨by decide, by decide⟩
              have f_2978 : R 1 1 1 := ⟨by decide, by decide⟩
              have f_2977 : R 1 3060 (l5 + 1) := R_add f_2945 f_2978 1 3060 (by decide)
              have g_2979 := gap_inc (N := 3060) f_2945 (by decide)
              exact ih l1 l2 l3 1 (l5 + 1)  (R_w fl1 (by decide)) (R_w fl2 (by decide)) (R_w fl3 (by decide)) (R_w f_2976 (by decide)) (R_w f_2977 (by decide)) (by omega)
            · have f_2982 : R (-1) (-1) (-1) := ⟨by decide, by decide⟩
              have f_2981 : R (-2147483648) 2147483647 (l3 ^^^ (-1)) := R_full _
              have f_2980 : R (-2147483648) 2147483647 (x4 &&& (l3 ^^^ (-1))) := R_full _
              have f_2983 : R 0 0 0 := ⟨by decide, by decide⟩
              have f_2984 : R 0 0 (x4 &&& (l3 ^^^ (-1))) := rf_eq f_2983 c_2971
              refine ⟨fun c_2985 => ?_, fun c_2985 => ?_⟩
              · have f_2986 : R 1 1 1 := ⟨by decide, by decide⟩
                have f_2987 : R (-2147483648) 0 r7 := rf_ne_hi f_2970 c_2985 (by decide) 0 rfl
                have f_2988 : R 0 0 0 := ⟨by decide, by decide⟩
                have f_2990 : R 1 1 1 := ⟨by decide, by decide⟩
                have f_2989 : R 1 3060 (l5 + 1) := R_add f_2945 f_2990 1 3060 (by decide)
                have g_2991 := gap_inc (N := 3060) f_2945 (by decide)
                exact ih l1 l2 l3 0 (l5 + 1)  (R_w fl1 (by decide)) (R_w fl2 (by decide)) (R_w fl3 (by decide)) (R_w f_2988 (by decide)) (R_w f_2989 (by decide)) (by omega)
              · have f_2992 : R 1 1 1 := ⟨by decide, by decide⟩
                have f_2993 : R 1 1 r7 := rf_eq f_2992 c_2985
                have f_2994 : R 1 1 1 := ⟨by decide, by decide⟩
                have f_2996 : R 1 1 1 := ⟨by decide, by decide⟩
                have f_2995 : R 1 3060 (l5 + 1) := R_add f_2945 f_2996 1 3060 (by decide)
                have g_2997 := gap_inc (N := 3060) f_2945 (by decide)
                exact ih l1 l2 l3 1 (l5 + 1)  (R_w fl1 (by decide)) (R_w fl2 (by decide)) (R_w fl3 (by decide)) (R_w f_2994 (by decide)) (R_w f_2995 (by decide)) (by omega)
        · have f_3000 : R (-1) (-1) (-1) := ⟨by decide, by decide⟩
          have f_2999 : R (-2147483648) 2147483647 (l1 ^^^ (-1)) := R_full _
          have f_2998 : R (-2147483648) 2147483647 (x4 &&& (l1 ^^^ (-1))) := R_full _
          have f_3001 : R 0 0 0 := ⟨by decide, by decide⟩
          have f_3003 : R 1 1 1 := ⟨by decide, by decide⟩
          have f_3002 : R 1 3060 (l5 + 1) := R_add f_2945 f_3003 1 3060 (by decide)
          have g_3004 := gap_inc (N := 3060) f_2945 (by decide)
          exact ih l1 l2 l3 l4 (l5 + 1)  (R_w fl1 (by decide)) (R_w fl2 (by decide)) (R_w fl3 (by decide)) (R_w f_2951 (by decide)) (R_w f_3002 (by decide)) (by omega)
set_option maxRecDepth 100000 in
set_option maxHeartbeats 4000000 in
theorem s_X11_isSoFar {g : gT} {h : mh_T} {P : Int32 → mh_T → Prop} (l1 : Int32) (l2 : Int32) (l3 : Int32) (hG : GI h)  (hp : ∀ r : Int32, R 0 1 r → P r h) : MCi g yX11_isSoFar uX11_isSoFar [.ref 11, .int l1, .int l2, .int l3] h P := by
  have ok : Ok [] h h := Ok_rf hG
  have L0 := s_X11_isSoFar_L (g := g) hG hp 3061
  refine e_X11_isSoFar l1 l2 l3  ?_
  have f_3005 : R 1 1 1 := ⟨by decide, by decide⟩
  have f_3006 : R 0 0 0 := ⟨by decide, by decide⟩
  have f_3007 : R 0 0 0 := ⟨by decide, by decide⟩
  have g_3008 := gap_le (N := 3060) f_3007 (m := 3060) (by decide)
  exact L0 l1 l2 l3 1 0  (R_w (R_full l1) (by decide)) (R_w (R_full l2) (by decide)) (R_w (R_full l3) (by decide)) (R_w f_3005 (by decide)) (R_w f_3006 (by decide)) (by omega)
def cS : Nat → Nat
  | 0 => 1
  | j + 1 => 3 + 2 * cS j
def cR (a k c : Nat) : Nat := 1 + (2 - c) * (1 + cS (a - k - 1))
def cT (a : Nat) (f : Nat → Nat) : Nat → Nat
  | 0 => 0
  | d + 1 => cT a f d + cR a d (f d)
theorem cT_congr {a : Nat} {f f' : Nat → Nat} : ∀ d, (∀ k, k < d → f k = f' k) → cT a f d = cT a f' d := by
  intro d
  induction d with
  | zero => intro _; rfl
  | succ d ih =>
    intro h
    show cT a f d + cR a d (f d) = cT a f' d + cR a d (f' d)
    rw [ih (fun k hk => h k (by omega)), h d (by omega)]
def cF (h : mh_T) (k : Nat) : Nat := (mI h 58 k).toNatClampNeg
def cM (a : Nat) (h : mh_T) (x : Int) : Nat := if x < 0 then 0 else if x = a then cT a (cF h) a + 1 else cT a (cF h) (x.toNat + 1)
set_option maxRecDepth 100000 in
set_option maxHeartbeats 8000000 in
theorem s_X11_colour_47 {g : gT} {h0 : mh_T} {P : mh_T → Prop} (l1 l2 l3 : Int32) (a : Nat) (ha : l3.toInt = a) (ha18 : a ≤ 18) (hp : ∀ h', Ok [300, 11, 58] h0 h' → P h') : ∀ (n : Nat) (l4 l5 : Int32) (h : mh_T), Ok [300, 11, 58] h0 h → R (-1) 18 l4 → l4.toInt ≤ a → (∀ j : Nat, l4.toInt < j → j < a → mI h 58 j = 0) → cM a h l4.toInt < n → ME g uX11_colour 47 [.ref 11, .int l1, .int l2, .int l3, .int l4, .int l5, .retAddr 0, .retAddr 0, .retAddr 0] [] h (qV P) := by
  intro n
  induction n with
  | zero => intro l4 l5 h _ _ _ _ hn; exact absurd hn (Nat.not_lt_zero _)
  | succ n ih =>
    intro l4 l5 h ok f4 h4a hz hn
    have c1 : R 1 1 1 := ⟨by decide, by decide⟩
    have z0 : (0 : Int32).toInt = 0 := by decide
    refine r_X11_colour_47 l1 l2 l3 l4 l5 ⟨fun _ => hp h ok, fun c => ?_⟩
    have c := le_ti (nlt c)
    rw [z0] at c
    obtain ⟨d, hd⟩ : ∃ d : Nat, l4.toInt = d := ⟨l4.toInt.toNat, by omega⟩
    have f4' : R 0 18 l4 := ⟨c, f4.2⟩
    have em := ti_dec (x := l4) (a := 0) (b := 18) f4' (by decide)
    have ed : l4.toNatClampNeg = d := by
      show l4.toInt.toNat = d
      omega
    refine ⟨fun c2 => fun x3 _ x4 _ => ?_, fun c2 => ?_⟩
    · have hda : d < a := by
        have : l4.toInt ≠ l3.toInt := fun z => c2 (Int32.toInt_inj.mp z)
        omega
      have hM : cM a h l4.toInt = cT a (cF h) d + cR a d (cF h d) := by
        unfold cM
        rw [if_neg (by omega), if_neg (by omega), show l4.toInt.toNat + 1 = d + 1 by omega]
        rfl
      have g4 : R 0 17 l4 := ⟨c, by omega⟩
      have ei := ti_inc g4 (by decide)
      have v19 : vp_in l4 19 := vin g4 (by decide)
      rw [ed]
      have fc : R 0 2 (mI h 58 d) := GI_rd ok.1 58 d rfl
      have ef : (mI h 58 d).toInt = (cF h d : Int) := by
        have := fc.1
        show _ = (((mI h 58 d).toInt.toNat : Nat) : Int)
        omega
      have fF : ∀ (v : Int32) (j : Nat), cF (wI h 58 d v) j = if j = d then v.toNatClampNeg else cF h j := by
        intro v j
        show (mI (wI h 58 d v) 58 j).toNatClampNeg = _
        rw [mI_wI]
        by_cases q : j = d
        · rw [if_pos ⟨rfl, q⟩, if_pos q]
        · rw [if_neg (fun z => q z.2), if_neg q]
          rfl
      have cTw : ∀ v : Int32, cT a (cF (wI h 58 d v)) d = cT a (cF h) d := fun v => cT_congr d (fun k hk => by rw [fF, if_neg (by omega)])
      have hzw : ∀ (v : Int32) (j : Nat), d < j → j < a → mI (wI h 58 d v) 58 j = 0 := by
        intro v j h1 h2
        rw [mI_wI, if_neg (fun z => by omega)]
        exact hz j (by omega) h2
      -- one more try
      have stay : ¬ mI h 58 d = 2 → ∀ x : Int32, ME g uX11_colour 47 [.ref 11, .int l1, .int l2, .int l3, .int l4, .int x, .retAddr 0, .retAddr 0, .retAddr 0] [] (wI h 58 d (mI h 58 d + 1)) (qV P) ∧ ME g uX11_colour 47 [.ref 11, .int l1, .int l2, .int l3, .int (l4 + 1), .int x, .retAddr 0, .retAddr 0, .retAddr 0] [] (wI h 58 d (mI h 58 d + 1)) (qV P) ∧ Ok [300, 11, 58] h0 (wI h 58 d (mI h 58 d + 1)) := by
        intro c3 x
        have n2 : (mI h 58 d).toInt ≠ 2 := fun z => c3 (Int32.toInt_inj.mp (by rw [z]; decide))
        have fc' : R 0 1 (mI h 58 d) := ⟨fc.1, by have := fc.2; omega⟩
        have e1 := ti_inc fc' (by decide)
        have hc2 : cF h d ≤ 1 := by have := fc'.2; omega
        have ev : (mI h 58 d + 1).toNatClampNeg = cF h d + 1 := by
          show (mI h 58 d + 1).toInt.toNat = _
          omega
        have o1 := Ok_w ok (k := 58) (j := d) (v := mI h 58 d + 1) (lo := 0) (hi := 2) rfl (R_add fc' c1 0 2 (by decide)) (by decide) (nt_k (by decide))
        have hcd : cF (wI h 58 d (mI h 58 d + 1)) d = cF h d + 1 := by rw [fF, if_pos rfl, ev]
        have key : cR a d (cF h d) = cR a d (cF h d + 1) + (1 + cS (a - d - 1)) := by
          unfold cR
          rcases (show cF h d = 0 ∨ cF h d = 1 by omega) with q | q <;> rw [q] <;> omega
        refine ⟨ih l4 x _ o1 f4 h4a (fun j h1 h2 => hzw _ j (by omega) h2) ?_, ih (l4 + 1) x _ o1 (R_w (R_add g4 c1 0 18 (by decide)) (by decide)) (by omega) (fun j h1 h2 => hzw _ j (by omega) h2) ?_, o1⟩
        · have : cM a (wI h 58 d (mI h 58 d + 1)) l4.toInt = cT a (cF h) d + cR a d (cF h d + 1) := by
            unfold cM
            rw [if_neg (by omega), if_neg (by omega), show l4.toInt.toNat + 1 = d + 1 by omega]
            show cT a (cF (wI h 58 d (mI h 58 d + 1))) d + cR a d (cF (wI h 58 d (mI h 58 d + 1)) d) = _
            rw [cTw, hcd]
          omega
        · by_cases q : d + 1 = a
          · have : cM a (wI h 58 d (mI h 58 d + 1)) (l4 + 1).toInt = cT a (cF h) d + cR a d (cF h d + 1) + 1 := by
              unfold cM
              rw [if_neg (by omega), if_pos (by omega)]
              show cT a (cF (wI h 58 d (mI h 58 d + 1))) a + 1 = _
              rw [show cT a (cF (wI h 58 d (mI h 58 d + 1))) a = cT a (cF (wI h 58 d (mI h 58 d + 1))) (d + 1) by rw [q]]
              show cT a (cF (wI h 58 d (mI h 58 d + 1))) d + cR a d (cF (wI h 58 d (mI h 58 d + 1)) d) + 1 = _
              rw [cTw, hcd]
            have s1 : cS (a - d - 1) = 1 := by rw [show a - d - 1 = 0 by omega]; rfl
            omega
          · have e0 : cF (wI h 58 d (mI h 58 d + 1)) (d + 1) = 0 := by
              show (mI (wI h 58 d (mI h 58 d + 1)) 58 (d + 1)).toNatClampNeg = 0
              rw [hzw _ (d + 1) (by omega) (by omega)]
              rfl
            have : cM a (wI h 58 d (mI h 58 d + 1)) (l4 + 1).toInt = cT a (cF h) d + cR a d (cF h d + 1) + cR a (d + 1) 0 := by
              unfold cM
              rw [if_neg (by omega), if_neg (by omega), show (l4 + 1).toInt.toNat + 1 = d + 1 + 1 by omega]
              show cT a (cF (wI h 58 d (mI h 58 d + 1))) d + cR a d (cF (wI h 58 d (mI h 58 d + 1)) d) + cR a (d + 1) (cF (wI h 58 d (mI h 58 d + 1)) (d + 1)) = _
              rw [cTw, hcd, e0]
            have s1 : cR a (d + 1) 0 = cS (a - d - 1) := by
              unfold cR
              rw [show a - d - 1 = (a - (d + 1) - 1) + 1 by omega]
              show _ = 3 + 2 * cS (a - (d + 1) - 1)
              omega
            omega
      refine ⟨v19, fun c3 => ⟨v19, fun c4 => ⟨v19, v19, ?_⟩, fun c4 => ⟨v19, v19, fun _ => (stay c3 _).1, fun _ => ⟨vin g4 (by decide), fun _ x23 _ => ?_, fun _ => (stay c3 _).1⟩⟩⟩, fun c3 => ⟨v19, ?_⟩⟩
      · exact s_X11_isSoFar _ _ _ (stay c3 0).2.2.1 (fun r14 _ => ⟨fun _ => (stay c3 _).2.1, fun _ => (stay c3 _).1⟩)
      · exact s_X11_isSoFar _ _ _ (stay c3 0).2.2.1 (fun r14 _ => ⟨fun _ => (stay c3 _).2.1, fun _ => (stay c3 _).1⟩)
      · have o1 := Ok_w ok (k := 58) (j := d) (v := 0) (lo := 0) (hi := 2) rfl ⟨by decide, by decide⟩ (by decide) (nt_k (by decide))
        refine ih (l4 + (-1)) x4 _ o1 ⟨by omega, by omega⟩ (by omega) (fun j h1 h2 => ?_) ?_
        · by_cases q : j = d
          · rw [mI_wI, if_pos ⟨rfl, q⟩]
          · exact hzw _ j (by omega) h2
        · have e2 : cR a d (cF h d) = 1 := by
            have : cF h d = 2 := by
              show (mI h 58 d).toNatClampNeg = 2
              rw [c3]
              rfl
            unfold cR
            rw [this]
            omega
          by_cases q : d = 0
          · have : cM a (wI h 58 d 0) (l4 + (-1)).toInt = 0 := by
              unfold cM
              rw [em]
              rw [if_pos (by omega)]
            omega
          · have : cM a (wI h 58 d 0) (l4 + (-1)).toInt = cT a (cF h) d := by
              unfold cM
              rw [em]
              rw [if_neg (by omega), if_neg (by omega), show (l4.toInt - 1).toNat + 1 = d by omega, cTw]
            omega
    · -- a whole colouring
      have hda : d = a := by
        rw [c2] at hd
        omega
      have hM : cM a h l4.toInt = cT a (cF h) a + 1 := by
        unfold cM
        rw [if_neg (by omega), if_pos (by omega)]
      have back : ∀ (k : mh_T) (x : Int32), Ok [300, 11, 58] h0 k → (∀ j, mI k 58 j = mI h 58 j) → ME g uX11_colour 47 [.ref 11, .int l1, .int l2, .int l3, .int (l4 + (-1)), .int x, .retAddr 0, .retAddr 0, .retAddr 0] [] k (qV P) := by
        intro k x kO ke
        refine ih (l4 + (-1)) x k kO ⟨by omega, by omega⟩ (by omega) (fun j h1 h2 => by omega) ?_
        have eF : cF k = cF h := by
          funext j
          show (mI k 58 j).toNatClampNeg = _
          rw [ke]
          rfl
        by_cases q : a = 0
        · have : cM a k (l4 + (-1)).toInt = 0 := by
            unfold cM
            rw [em]
            rw [if_pos (by omega)]
          omega
        · have : cM a k (l4 + (-1)).toInt = cT a (cF h) a := by
            unfold cM
            rw [em]
            rw [if_neg (by omega), if_neg (by omega), show (l4.toInt - 1).toNat + 1 = a by omega, eF]
          omega
      have o1 := Ok_w ok (k := 11) (j := 36) (v := mI h 11 36 + 1) (lo := -2147483648) (hi := 2147483647) (by decide) (R_full _) (by decide) (by decide)
      have w : ∀ v : Int32, Ok [300, 11, 58] h0 (wI (wI h 11 36 (mI h 11 36 + 1)) 11 37 v) := fun v => Ok_w o1 (k := 11) (j := 37) (v := v) (lo := -2147483648) (hi := 2147483647) (by decide) (R_full _) (by decide) (by decide)
      have ws : ∀ (v : Int32) (j : Nat), mI (wI (wI h 11 36 (mI h 11 36 + 1)) 11 37 v) 58 j = mI h 58 j := fun v j => by rw [mI_wI, if_neg (fun z => absurd z.1 (by decide)), mI_wI, if_neg (fun z => absurd z.1 (by decide))]
      refine s_X11_bits _ o1.1 (fun r29 => ⟨fun _ => ⟨fun _ => back _ _ (w _) (ws _), fun _ => hp _ (w _)⟩, fun _ => ?_⟩)
      exact s_X11_bits _ o1.1 (fun r33 => ⟨fun _ => back _ _ (w _) (ws _), fun _ => hp _ (w _)⟩)
set_option maxRecDepth 100000 in
theorem s_X11_colour_21 {g : gT} {h0 : mh_T} {P : mh_T → Prop} (l1 l2 l3 : Int32) (f3 : R 0 18 l3) (hp : ∀ h', Ok [300, 11, 58] h0 h' → P h') : ∀ (n : Nat) (l4 : Int32) (h : mh_T), Ok [300, 11, 58] h0 h → R 0 19 l4 → (∀ j : Nat, j < l4.toInt → mI h 58 j = 0) → gap 19 l4 < n → ME g uX11_colour 21 [.ref 11, .int l1, .int l2, .int l3, .int l4, .retAddr 0, .retAddr 0, .retAddr 0, .retAddr 0] [] h (qV P) := by
  intro n
  induction n with
  | zero => intro l4 h _ _ _ hn; exact absurd hn (Nat.not_lt_zero _)
  | succ n ih =>
    intro l4 h ok f4 hz hn
    have c1 : R 1 1 1 := ⟨by decide, by decide⟩
    have z0 : (0 : Int32).toInt = 0 := by decide
    refine r_X11_colour_21 l1 l2 l3 l4 ⟨fun c => ?_, fun c => ?_⟩
    · have c := lt_ti c
      have a1 := f3.1
      have a2 := f3.2
      refine s_X11_colour_47 l1 l2 l3 l3.toInt.toNat (by omega) (by omega) hp _ 0 0 h ok ⟨by decide, by decide⟩ (by omega) (fun j _ h2 => hz j (by omega)) (Nat.lt_succ_self _)
    · have c := le_ti (nlt c)
      have a2 := f3.2
      have g4 : R 0 18 l4 := ⟨f4.1, by omega⟩
      have gi := gap_inc (N := 19) g4 (by decide)
      have ei := ti_inc g4 (by decide)
      have o1 := Ok_w ok (k := 58) (j := l4.toNatClampNeg) (v := 0) (lo := 0) (hi := 2) rfl ⟨by decide, by decide⟩ (by decide) (nt_k (by decide))
      refine ⟨vin g4 (by decide), ih (l4 + 1) _ o1 (R_add g4 c1 0 19 (by decide)) (fun j hj => ?_) (by omega)⟩
      rw [mI_wI]
      by_cases q : j = l4.toNatClampNeg
      · rw [if_pos ⟨rfl, q⟩]
      · rw [if_neg (fun z => q z.2)]
        have q : j ≠ l4.toInt.toNat := q
        have := g4.1
        exact hz j (by omega)
theorem s_X11_colour {g : gT} {h : mh_T} {P : mh_T → Prop} (l1 l2 : Int32) (hG : GI h) (hp : ∀ h', Ok [300, 11, 58] h h' → P h') : MCv g yX11_colour uX11_colour [.ref 11, .int l1, .int l2] h P := by
  refine e_X11_colour l1 l2 (fun x1 e1 => ?_)
  have o1 := Ok_w (ms := [300, 11, 58]) (Ok_rf hG) (k := 11) (j := 36) (v := 0) (lo := -2147483648) (hi := 2147483647) (by decide) (R_full _) (by decide) (by decide)
  have o2 := Ok_w o1 (k := 11) (j := 37) (v := 0) (lo := -2147483648) (hi := 2147483647) (by decide) (R_full _) (by decide) (by decide)
  have z0 : (0 : Int32).toInt = 0 := by decide
  exact s_X11_colour_21 l1 l2 x1 (rf_eq (GI_rd hG 45 _ (by decide)) e1) hp 20 0 _ o2 ⟨by decide, by decide⟩ (fun j hj => by omega) (by decide)
set_option maxRecDepth 100000 in
set_option maxHeartbeats 4000000 in
theorem s_X11_allRays {g : gT} {h : mh_T} {P : Int32 → mh_T → Prop}  (hG : GI h)  (hp : ∀ r : Int32, R 0 262143 r → P r h) : MCi g yX11_allRays uX11_allRays [.ref 11] h P := by
  have ok : Ok [] h h := Ok_rf hG
  refine e_X11_allRays   ?_
  have f_7 : R 0 18 (mI h 45 (Int32.toNatClampNeg 85)) := GI_rd ok.1 45 _ (by decide)
  have f_6 : R 1 262144 (1 <<< ((mI h 45 (Int32.toNatClampNeg 85)) &&& 31)) := R_shl f_7 1 262144 0 18 (by decide)
  have f_8 : R 1 1 1 := ⟨by decide, by decide⟩
  have f_5 : R 0 262143 ((1 <<< ((mI h 45 (Int32.toNatClampNeg 85)) &&& 31)) - 1) := R_sub f_6 f_8 0 262143 (by decide)
  exact hp _ (R_w f_5 (by decide))
set_option maxRecDepth 100000 in
set_option maxHeartbeats 4000000 in
theorem s_X11_hasColour {g : gT} {h : mh_T} {P : Int32 → mh_T → Prop} (l1 : Int32) (hG : GI h)  (hp : ∀ (r : Int32) h', Ok [300, 11, 58] h h' → R 0 1 r → P r h') : MCi g yX11_hasColour uX11_hasColour [.ref 11, .int l1] h P := by
  have ok : Ok [300, 11, 58] h h := Ok_rf hG
  refine e_X11_hasColour l1  ?_
  refine s_X11_colour l1 1 ok.1 (fun h1 ko_12 => ?_)
  have ok_13 := Ok_tr ok ko_12 (by decide)
  refine ⟨fun c_14 => ?_, fun c_14 => ?_⟩
  · have f_15 : R (-2147483648) 2147483647 (mI h1 11 36) := R_full _
    have f_16 : R 0 0 0 := ⟨by decide, by decide⟩
    have f_17 : R (-2147483648) 0 (mI h1 11 36) := rf_le_l f_15 f_16 c_14 0 (by decide)
    have f_18 : R 0 0 0 := ⟨by decide, by decide⟩
    exact hp _ _ ok_13 (R_w f_18 (by decide))
  · have f_19 : R (-2147483648) 2147483647 (mI h1 11 36) := R_full _
    have f_20 : R 0 0 0 := ⟨by decide, by decide⟩
    have f_21 : R 1 2147483647 (mI h1 11 36) := rf_lt_r f_20 f_19 (nle c_14) 1 (by decide)
    have f_22 : R 1 1 1 := ⟨by decide, by decide⟩
    exact hp _ _ ok_13 (R_w f_22 (by decide))
set_option maxRecDepth 100000 in
set_option maxHeartbeats 4000000 in
theorem s_X11_colours {g : gT} {h : mh_T} {P : Int32 → mh_T → Prop}  (hG : GI h)  (hp : ∀ (r : Int32) h', Ok [300, 11, 56, 57, 58] h h' → ¬ mI h' 11 11 = 4 → P r h') : MCi g yX11_colours uX11_colours [.ref 11] h P := by
  have ok : Ok [300, 11, 56, 57, 58] h h := Ok_rf hG
  refine e_X11_colours   ?_
  refine s_X11_good ok.1 (fun h1 ko_19 t4 => ?_)
  have ok_20 := Ok_tr ok ko_19 (by decide)
  have hp : ∀ (r : Int32) h', Ok [300, 11, 56, 57, 58] h1 h' → P r h' := fun r h' k => hp r h' (Ok_tr ok_20 k (by decide)) (k.2.2.2.2.2.2 t4)
  have ok_20 : Ok [300, 11, 56, 57, 58] h1 h1 := Ok_rf ok_20.1
  refine ⟨fun c_21 => ?_, fun c_21 => ?_⟩
  · have f_22 : R 0 1 (mI h1 11 14) := GI_rd ok_20.1 11 _ (by decide)
    have f_23 : R 0 0 0 := ⟨by decide, by decide⟩
    have f_24 : R 1 1 (mI h1 11 14) := rf_ne_lo f_22 c_21 (by decide) 1 rfl
    refine s_X11_layCorners ok_20.1 (fun h3 ko_25 => ?_)
    have ok_26 := Ok_tr ok_20 ko_25 (by decide)
    refine s_X11_allRays ok_26.1 (fun r5 f_27 => ?_)
    refine s_X11_colour r5 1048576 ok_26.1 (fun h6 ko_28 => ?_)
    have ok_29 := Ok_tr ok_26 ko_28 (by decide)
    have f_30 : R (-2147483648) 2147483647 (mI h6 11 36) := R_full _
    exact hp _ _ ok_29 
  · have f_31 : R 0 1 (mI h1 11 14) := GI_rd ok_20.1 11 _ (by decide)
    have f_32 : R 0 0 0 := ⟨by decide, by decide⟩
    have f_33 : R 0 0 (mI h1 11 14) := rf_eq f_32 c_21
    refine s_X11_no 1 ok_20.1 (fun r8 h7 ko_34 f_36 => ?_)
    have ok_35 := Ok_tr ok_20 ko_34 (by decide)
    exact hp _ _ ok_35 
set_option maxRecDepth 100000 in
set_option maxHeartbeats 4000000 in
theorem s_X11_ones {g : gT} {h : mh_T} {P : Int32 → mh_T → Prop}  (hG : GI h)  (hp : ∀ (r : Int32) h', Ok [300, 11, 56, 57, 58] h h' → ¬ mI h' 11 11 = 4 → P r h') : MCi g yX11_ones uX11_ones [.ref 11] h P := by
  have ok : Ok [300, 11, 56, 57, 58] h h := Ok_rf hG
  refine e_X11_ones   ?_
  refine s_X11_good ok.1 (fun h1 ko_28 t4 => ?_)
  have ok_29 := Ok_tr ok ko_28 (by decide)
  have hp : ∀ (r : Int32) h', Ok [300, 11, 56, 57, 58] h1 h' → P r h' := fun r h' k => hp r h' (Ok_tr ok_29 k (by decide)) (k.2.2.2.2.2.2 t4)
  have ok_29 : Ok [300, 11, 56, 57, 58] h1 h1 := Ok_rf ok_29.1
  refine ⟨fun c_30 => ?_, fun c_30 => ?_⟩
  · have f_31 : R 0 1 (mI h1 11 14) := GI_rd ok_29.1 11 _ (by decide)
    have f_32 : R 0 0 0 := ⟨by decide, by decide⟩
    have f_33 : R 1 1 (mI h1 11 14) := rf_ne_lo f_31 c_30 (by decide) 1 rfl
    refine s_X11_layCorners ok_29.1 (fun h3 ko_34 => ?_)
    have ok_35 := Ok_tr ok_29 ko_34 (by decide)
    refine s_X11_allRays ok_35.1 (fun r5 f_36 => ?_)
    refine s_X11_colour r5 1048576 ok_35.1 (fun h6 ko_37 => ?_)
    have ok_38 := Ok_tr ok_35 ko_37 (by decide)
    refine ⟨fun c_39 => ?_, fun c_39 => ?_⟩
    · have f_40 : R (-2147483648) 2147483647 (mI h6 11 36) := R_full _
      have f_41 : R 0 0 0 := ⟨by decide, by decide⟩
      have f_42 : R (-2147483648) 2147483647 (mI h6 11 37) := R_full _
      exact hp _ _ ok_38 
    · have f_43 : R (-2147483648) 2147483647 (mI h6 11 36) := R_full _
      have f_44 : R 0 0 0 := ⟨by decide, by decide⟩
      have f_45 : R 0 0 (mI h6 11 36) := rf_eq f_44 c_39
      refine s_X11_no 6 ok_38.1 (fun r9 h8 ko_46 f_48 => ?_)
      have ok_47 := Ok_tr ok_38 ko_46 (by decide)
      exact hp _ _ ok_47 
  · have f_49 : R 0 1 (mI h1 11 14) := GI_rd ok_29.1 11 _ (by decide)
    have f_50 : R 0 0 0 := ⟨by decide, by decide⟩
    have f_51 : R 0 0 (mI h1 11 14) := rf_eq f_50 c_30
    refine s_X11_no 1 ok_29.1 (fun r11 h10 ko_52 f_54 => ?_)
    have ok_53 := Ok_tr ok_29 ko_52 (by decide)
    exact hp _ _ ok_53 
set_option maxRecDepth 100000 in
set_option maxHeartbeats 4000000 in
theorem s_X11_spare_L {g : gT} {h0 : mh_T} {P : Int32 → mh_T → Prop} (hG0 : GI h0) (hp : ∀ (r : Int32) h', Ok [300, 11, 56, 57, 58] h0 h' → R (-1) 262143 r → P r h') : ∀ n : Nat, (∀ (l1 : Int32) (l2 : Int32) (h : mh_T), Ok [300, 11, 56, 57, 58] h0 h → R 0 262143 l1 → R 0 18 l2 → 1 * gap 18 l2 + 0 < n → ME g uX11_spare 38 [.ref 11, .int l1, .int l2] [] h (qI P)) := by
  intro n
  induction n with
  | zero =>
    exact (fun _ _ _ _ _ _ hm => absurd hm (Nat.not_lt_zero _))
  | succ n ih =>
    intro l1 l2 h  ok fl1 fl2     hm
    refine r_X11_spare_38 l1 l2  ?_
    refine ⟨fun c_777 => ?_, fun c_777 => ?_⟩
    · have f_778 : R 0 18 (mI h 45 (Int32.toNatClampNeg 85)) := GI_rd ok.1 45 _ (by decide)
      exact hp _ _ ok (R_w fl1 (by decide))
    · have f_779 : R 0 18 (mI h 45 (Int32.toNatClampNeg 85)) := GI_rd ok.1 45 _ (by decide)
      have f_780 : R 0 17 l2 := rf_lt_l fl2 f_779 (nle c_777) 17 (by decide)
      have f_781 : R 1 18 (mI h 45 (Int32.toNatClampNeg 85)) := rf_lt_r fl2 f_779 (nle c_777) 1 (by decide)
      refine s_X11_allRays ok.1 (fun r3 f_782 => ?_)
      refine s_X11_hasColour (r3 &&& ((1 <<< (l2 &&& 31)) ^^^ (-1))) ok.1 (fun r5 h4 ko_783 f_785 => ?_)
      have ok_784 := Ok_tr ok ko_783 (by decide)
      refine ⟨fun c_786 => ?_, fun c_786 => ?_⟩
      · have f_787 : R 0 0 0 := ⟨by decide, by decide⟩
        have f_788 : R 0 0 r5 := rf_eq f_787 c_786
        intro x7 ex7
        have f_790 : R 1 131072 (1 <<< (l2 &&& 31)) := R_shl f_780 1 131072 0 17 (by decide)
        have f_789 : R 0 262143 (l1 ||| (1 <<< (l2 &&& 31))) := R_or fl1 f_790 18 262143 (by decide)
        have f_791 : R 0 262143 x7 := rf_eq f_789 ex7
        have f_793 : R 1 1 1 := ⟨by decide, by decide⟩
        have f_792 : R 1 18 (l2 + 1) := R_add f_780 f_793 1 18 (by decide)
        have g_794 := gap_inc (N := 18) f_780 (by decide)
        exact ih x7 (l2 + 1) h4  ok_784 (R_w f_791 (by decide)) (R_w f_792 (by decide)) (by omega)
      · have f_795 : R 0 0 0 := ⟨by decide, by decide⟩
        have f_796 : R 1 1 r5 := rf_ne_lo f_785 c_786 (by decide) 1 rfl
        intro x8 ex8
        have f_798 : R 0 0 0 := ⟨by decide, by decide⟩
        have f_797 : R 0 262143 (l1 ||| 0) := R_or fl1 f_798 18 262143 (by decide)
        have f_799 : R 0 262143 x8 := rf_eq f_797 ex8
        have f_801 : R 1 1 1 := ⟨by decide, by decide⟩
        have f_800 : R 1 18 (l2 + 1) := R_add f_780 f_801 1 18 (by decide)
        have g_802 := gap_inc (N := 18) f_780 (by decide)
        exact ih x8 (l2 + 1) h4  ok_784 (R_w f_799 (by decide)) (R_w f_800 (by decide)) (by omega)
set_option maxRecDepth 100000 in
set_option maxHeartbeats 4000000 in
theorem s_X11_spare {g : gT} {h : mh_T} {P : Int32 → mh_T → Prop}  (hG : GI h)  (hp : ∀ (r : Int32) h', Ok [300, 11, 56, 57, 58] h h' → R (-1) 262143 r → ¬ mI h' 11 11 = 4 → P r h') : MCi g yX11_spare uX11_spare [.ref 11] h P := by
  have ok : Ok [300, 11, 56, 57, 58] h h := Ok_rf hG
  refine e_X11_spare   ?_
  refine s_X11_good ok.1 (fun h1 ko_803 t4 => ?_)
  have ok_804 := Ok_tr ok ko_803 (by decide)
  have hp : ∀ (r : Int32) h', Ok [300, 11, 56, 57, 58] h1 h' → R (-1) 262143 r → P r h' := fun r h' k x0 => hp r h' (Ok_tr ok_804 k (by decide)) x0 (k.2.2.2.2.2.2 t4)
  have L0 := s_X11_spare_L (g := g) ok_804.1 hp 19
  have ok_804 : Ok [300, 11, 56, 57, 58] h1 h1 := Ok_rf ok_804.1
  refine ⟨fun c_805 => ?_, fun c_805 => ?_⟩
  · have f_806 : R 0 1 (mI h1 11 14) := GI_rd ok_804.1 11 _ (by decide)
    have f_807 : R 0 0 0 := ⟨by decide, by decide⟩
    have f_808 : R 1 1 (mI h1 11 14) := rf_ne_lo f_806 c_805 (by decide) 1 rfl
    refine s_X11_layCorners ok_804.1 (fun h3 ko_809 => ?_)
    have ok_810 := Ok_tr ok_804 ko_809 (by decide)
    refine s_X11_allRays ok_810.1 (fun r5 f_811 => ?_)
    refine s_X11_hasColour r5 ok_810.1 (fun r7 h6 ko_812 f_814 => ?_)
    have ok_813 := Ok_tr ok_810 ko_812 (by decide)
    refine ⟨fun c_815 => ?_, fun c_815 => ?_⟩
    · have f_816 : R 0 0 0 := ⟨by decide, by decide⟩
      have f_817 : R 0 0 r7 := rf_eq f_816 c_815
      have f_818 : R 0 0 0 := ⟨by decide, by decide⟩
      have f_819 : R 0 0 0 := ⟨by decide, by decide⟩
      have f_820 : R 0 0 0 := ⟨by decide, by decide⟩
      have g_821 := gap_le (N := 18) f_820 (m := 18) (by decide)
      exact L0 0 0 h6  ok_813 (R_w f_818 (by decide)) (R_w f_819 (by decide)) (by omega)
    · have f_822 : R 0 0 0 := ⟨by decide, by decide⟩
      have f_823 : R 1 1 r7 := rf_ne_lo f_814 c_815 (by decide) 1 rfl
      have f_824 : R 0 0 0 := ⟨by decide, by decide⟩
      exact hp _ _ ok_813 (R_w f_824 (by decide))
  · have f_825 : R 0 1 (mI h1 11 14) := GI_rd ok_804.1 11 _ (by decide)
    have f_826 : R 0 0 0 := ⟨by decide, by decide⟩
    have f_827 : R 0 0 (mI h1 11 14) := rf_eq f_826 c_805
    refine s_X11_no 1 ok_804.1 (fun r10 h9 ko_828 f_830 => ?_)
    have ok_829 := Ok_tr ok_804 ko_828 (by decide)
    exact hp _ _ ok_829 (R_w f_830 (by decide))
set_option maxRecDepth 100000 in
set_option maxHeartbeats 4000000 in
theorem s_X11_critical_L {g : gT} {h0 : mh_T} {P : Int32 → mh_T → Prop} (hG0 : GI h0) (hp : ∀ (r : Int32) h', Ok [300, 11, 56, 57, 58] h0 h' → R (-1) 262143 r → P r h') : ∀ n : Nat, (∀ (l1 : Int32) (l2 : Int32) (h : mh_T), Ok [300, 11, 56, 57, 58] h0 h → R 0 262143 l1 → R 0 18 l2 → 1 * gap 18 l2 + 0 < n → ME g uX11_critical 46 [.ref 11, .int l1, .int l2] [] h (qI P)) := by
  intro n
  induction n with
  | zero =>
    exact (fun _ _ _ _ _ _ hm => absurd hm (Nat.not_lt_zero _))
  | succ n ih =>
    intro l1 l2 h  ok fl1 fl2     hm
    refine r_X11_critical_46 l1 l2  ?_
    refine ⟨fun c_779 => ?_, fun c_779 => ?_⟩
    · have f_780 : R 0 18 (mI h 45 (Int32.toNatClampNeg 85)) := GI_rd ok.1 45 _ (by decide)
      exact hp _ _ ok (R_w fl1 (by decide))
    · have f_781 : R 0 18 (mI h 45 (Int32.toNatClampNeg 85)) := GI_rd ok.1 45 _ (by decide)
      have f_782 : R 0 17 l2 := rf_lt_l fl2 f_781 (nle c_779) 17 (by decide)
      have f_783 : R 1 18 (mI h 45 (Int32.toNatClampNeg 85)) := rf_lt_r fl2 f_781 (nle c_779) 1 (by decide)
      refine s_X11_hasColour (l1 &&& ((1 <<< (l2 &&& 31)) ^^^ (-1))) ok.1 (fun r3 h2 ko_784 f_786 => ?_)
      have ok_785 := Ok_tr ok ko_784 (by decide)
      refine ⟨fun c_787 => ?_, fun c_787 => ?_⟩
      · have f_788 : R 0 0 0 := ⟨by decide, by decide⟩
        have f_789 : R 1 1 r3 := rf_ne_lo f_786 c_787 (by decide) 1 rfl
        have f_791 : R 1 1 1 := ⟨by decide, by decide⟩
        have f_790 : R 1 18 (l2 + 1) := R_add f_782 f_791 1 18 (by decide)
        have g_792 := gap_inc (N := 18) f_782 (by decide)
        exact ih l1 (l2 + 1) h2  ok_785 (R_w fl1 (by decide)) (R_w f_790 (by decide)) (by omega)
      · have f_793 : R 0 0 0 := ⟨by decide, by decide⟩
        have f_794 : R 0 0 r3 := rf_eq f_793 c_787
        intro x5 ex5
        have f_797 : R 1 131072 (1 <<< (l2 &&& 31)) := R_shl f_782 1 131072 0 17 (by decide)
        have f_798 : R (-1) (-1) (-1) := ⟨by decide, by decide⟩
        have f_796 : R (-2147483648) 2147483647 ((1 <<< (l2 &&& 31)) ^^^ (-1)) := R_full _
        have f_795 : R 0 262143 (l1 &&& ((1 <<< (l2 &&& 31)) ^^^ (-1))) := R_andl fl1 (by decide)
        have f_799 : R 0 262143 x5 := rf_eq f_795 ex5
        have f_801 : R 1 1 1 := ⟨by decide, by decide⟩
        have f_800 : R 1 18 (l2 + 1) := R_add f_782 f_801 1 18 (by decide)
        have g_802 := gap_inc (N := 18) f_782 (by decide)
        exact ih x5 (l2 + 1) h2  ok_785 (R_w f_799 (by decide)) (R_w f_800 (by decide)) (by omega)
set_option maxRecDepth 100000 in
set_option maxHeartbeats 4000000 in
theorem s_X11_critical {g : gT} {h : mh_T} {P : Int32 → mh_T → Prop}  (hG : GI h)  (hp : ∀ (r : Int32) h', Ok [300, 11, 56, 57, 58] h h' → R (-1) 262143 r → ¬ mI h' 11 11 = 4 → P r h') : MCi g yX11_critical uX11_critical [.ref 11] h P := by
  have ok : Ok [300, 11, 56, 57, 58] h h := Ok_rf hG
  refine e_X11_critical   ?_
  refine s_X11_good ok.1 (fun h1 ko_803 t4 => ?_)
  have ok_804 := Ok_tr ok ko_803 (by decide)
  have hp : ∀ (r : Int32) h', Ok [300, 11, 56, 57, 58] h1 h' → R (-1) 262143 r → P r h' := fun r h' k x0 => hp r h' (Ok_tr ok_804 k (by decide)) x0 (k.2.2.2.2.2.2 t4)
  have L0 := s_X11_critical_L (g := g) ok_804.1 hp 19
  have ok_804 : Ok [300, 11, 56, 57, 58] h1 h1 := Ok_rf ok_804.1
  refine ⟨fun c_805 => ?_, fun c_805 => ?_⟩
  · have f_806 : R 0 1 (mI h1 11 14) := GI_rd ok_804.1 11 _ (by decide)
    have f_807 : R 0 0 0 := ⟨by decide, by decide⟩
    have f_808 : R 1 1 (mI h1 11 14) := rf_ne_lo f_806 c_805 (by decide) 1 rfl
    refine s_X11_layCorners ok_804.1 (fun h3 ko_809 => ?_)
    have ok_810 := Ok_tr ok_804 ko_809 (by decide)
    refine s_X11_allRays ok_810.1 (fun r5 f_811 => ?_)
    refine s_X11_hasColour r5 ok_810.1 (fun r7 h6 ko_812 f_814 => ?_)
    have ok_813 := Ok_tr ok_810 ko_812 (by decide)
    refine ⟨fun c_815 => ?_, fun c_815 => ?_⟩
    · have f_816 : R 0 0 0 := ⟨by decide, by decide⟩
      have f_817 : R 0 0 r7 := rf_eq f_816 c_815
      refine s_X11_allRays ok_813.1 (fun r10 f_818 => ?_)
      have f_819 : R 0 0 0 := ⟨by decide, by decide⟩
      have f_820 : R 0 0 0 := ⟨by decide, by decide⟩
      have g_821 := gap_le (N := 18) f_820 (m := 18) (by decide)
      exact L0 r10 0 h6  ok_813 (R_w f_818 (by decide)) (R_w f_819 (by decide)) (by omega)
    · have f_822 : R 0 0 0 := ⟨by decide, by decide⟩
      have f_823 : R 1 1 r7 := rf_ne_lo f_814 c_815 (by decide) 1 rfl
      refine s_X11_no 6 ok_813.1 (fun r12 h11 ko_824 f_826 => ?_)
      have ok_825 := Ok_tr ok_813 ko_824 (by decide)
      exact hp _ _ ok_825 (R_w f_826 (by decide))
  · have f_827 : R 0 1 (mI h1 11 14) := GI_rd ok_804.1 11 _ (by decide)
    have f_828 : R 0 0 0 := ⟨by decide, by decide⟩
    have f_829 : R 0 0 (mI h1 11 14) := rf_eq f_828 c_805
    refine s_X11_no 1 ok_804.1 (fun r14 h13 ko_830 f_832 => ?_)
    have ok_831 := Ok_tr ok_804 ko_830 (by decide)
    exact hp _ _ ok_831 (R_w f_832 (by decide))
/-- what the reference tells has a state to go to -/
def TJ (h : mh_T) : Prop := ∀ p, p < 18 → ¬ mI h 59 p = 2 → 0 ≤ (mI h 60 p).toInt
set_option maxRecDepth 100000 in
set_option maxHeartbeats 8000000 in
theorem s_X11_tellsAll_M {g : gT} : ∀ (m : Nat) (K : Nat) (l1 l2 l3 l4 : Int32) (h : mh_T) (P : Int32 → mh_T → Prop), m + 1 ≤ K → R 1 3 l1 → R 0 4 l2 → R 0 6 l3 → 7 * (4 - l2.toInt) + (6 - l3.toInt) ≤ m → l2.toInt ≤ (mI h 45 (Int32.toNatClampNeg 158)).toInt → (l2.toInt < (mI h 45 (Int32.toNatClampNeg 158)).toInt → l3.toInt ≤ (mI h 45 (159 + l2).toNatClampNeg).toInt) → R 0 2 l4 → GI h → TJ h → (∀ r h', Ok [59, 60] h h' → R 0 1 r → TJ h' → P r h') → MCi g yX11_tellsAll (uX11_tellsAll K) [.ref 11, .int l1, .int l2, .int l3, .int l4] h P := by
  intro m
  induction m with
  | zero =>
    intro K l1 l2 l3 l4 h P hK f1 f2 f3 hm hu hl f4 hG hT hp
    obtain ⟨K, rfl⟩ : ∃ q, K = q + 1 := ⟨K - 1, by omega⟩
    have fu : R 0 4 (mI h 45 (Int32.toNatClampNeg 158)) := GI_rd hG 45 _ (by decide)
    refine e_X11_tellsAll l1 l2 l3 l4 ⟨fun c => ?_, fun c => hp 1 h (Ok_rf hG) ⟨by decide, by decide⟩ hT⟩
    have a1 := fu.2
    have a2 := f2.2
    have a3 := f3.2
    exact absurd (Int32.toInt_inj.mp (by omega)) c
  | succ m ih =>
    intro K l1 l2 l3 l4 h P hK f1 f2 f3 hm hu hl f4 hG hT hp
    obtain ⟨K, rfl⟩ : ∃ q, K = q + 1 := ⟨K - 1, by omega⟩
    have fu : R 0 4 (mI h 45 (Int32.toNatClampNeg 158)) := GI_rd hG 45 _ (by decide)
    have c1 : R 1 1 1 := ⟨by decide, by decide⟩
    have c6 : R 6 6 6 := ⟨by decide, by decide⟩
    have c159 : R 159 159 159 := ⟨by decide, by decide⟩
    have c163 : R 163 163 163 := ⟨by decide, by decide⟩
    have c187 : R 187 187 187 := ⟨by decide, by decide⟩
    have z0 : (0 : Int32).toInt = 0 := by decide
    refine e_X11_tellsAll l1 l2 l3 l4 ⟨fun c => ?_, fun c => hp 1 h (Ok_rf hG) ⟨by decide, by decide⟩ hT⟩
    have hlt : l2.toInt < (mI h 45 (Int32.toNatClampNeg 158)).toInt := by
      have : l2.toInt ≠ (mI h 45 (Int32.toNatClampNeg 158)).toInt := fun z => c (Int32.toInt_inj.mp z)
      omega
    have a1 := fu.2
    have g2 : R 0 3 l2 := ⟨f2.1, by omega⟩
    have fx : R 159 162 (159 + l2) := R_add c159 g2 159 162 (by decide)
    have fl : R 0 6 (mI h 45 (159 + l2).toNatClampNeg) := GI_rd hG 45 _ (rgp_45_11 (ix_ge fx (by decide)) (ix_le fx (by decide)))
    have hl' := hl hlt
    have e2 := ti_inc g2 (by decide)
    refine ⟨vin fx (by decide), fun c2 => ?_, fun c2 => ?_⟩
    · have hl2 : l3.toInt < (mI h 45 (159 + l2).toNatClampNeg).toInt := by
        have : l3.toInt ≠ (mI h 45 (159 + l2).toNatClampNeg).toInt := fun z => c2 (Int32.toInt_inj.mp z)
        omega
      have a2 := fl.2
      have g3 : R 0 5 l3 := ⟨f3.1, by omega⟩
      have e3 := ti_inc g3 (by decide)
      have fy : R 163 186 ((163 + (6 * l2)) + l3) := R_add (R_add c163 (R_mul c6 g2 0 18 (by decide)) 163 181 (by decide)) g3 163 186 (by decide)
      have fz : R 187 210 ((187 + (6 * l2)) + l3) := R_add (R_add c187 (R_mul c6 g2 0 18 (by decide)) 187 205 (by decide)) g3 187 210 (by decide)
      have fk : R 0 5 (mI h 45 ((163 + (6 * l2)) + l3).toNatClampNeg) := GI_rd hG 45 _ (rgp_45_12 (ix_ge fy (by decide)) (ix_le fy (by decide)))
      have ft : R 0 1 (mI h 45 ((187 + (6 * l2)) + l3).toNatClampNeg) := GI_rd hG 45 _ (rgp_45_13 (ix_ge fz (by decide)) (ix_le fz (by decide)))
      refine ⟨vin fy (by decide), fun x5 e5 => ?_⟩
      have f5 : R 0 17 x5 := rf_eq (R_add (R_mul c6 f4 0 12 (by decide)) fk 0 17 (by decide)) e5
      have v5 : vp_in x5 18 := vin f5 (by decide)
      refine ⟨vin fz (by decide), fun x7 e7 => ?_⟩
      have f7 : R 0 1 x7 := rf_eq ft e7
      -- the call one step on
      have on : ∀ (s : Int32) (k : mh_T) (Q : Int32 → mh_T → Prop), Ok [59, 60] h k → R 0 2 s → TJ k → (∀ r h', Ok [59, 60] k h' → R 0 1 r → TJ h' → Q r h') → MCi g yX11_tellsAll (uX11_tellsAll K) [.ref 11, .int l1, .int l2, .int (l3 + 1), .int s] k Q := by
        intro s k Q kO fs kT hq
        refine ih K l1 l2 (l3 + 1) s k Q (by omega) f1 f2 (R_add g3 c1 0 6 (by decide)) (by omega) ?_ (fun _ => ?_) fs kO.1 kT hq
        · rw [Ok_eq kO (by decide)]
          exact hu
        · rw [Ok_eq kO (by decide)]
          omega
      refine ⟨v5, fun ct => ⟨v5, ?_⟩, fun ct => ⟨v5, fun _ => hp 0 h (Ok_rf hG) ⟨by decide, by decide⟩ hT, fun _ => ⟨v5, ?_⟩⟩⟩
      · have o1 := Ok_w (ms := [59, 60]) (Ok_rf hG) (k := 59) (j := x5.toNatClampNeg) (v := x7) (lo := 0) (hi := 2) rfl (R_w f7 (by decide)) (by decide) (nt_k (by decide))
        have L : ∀ (n : Nat) (l7 : Int32) (k : mh_T), Ok [59, 60] h k → (∀ p, p < 18 → p ≠ x5.toNatClampNeg → ¬ mI k 59 p = 2 → 0 ≤ (mI k 60 p).toInt) → R 0 3 l7 → gap 3 l7 < n → ME g (uX11_tellsAll (K + 1)) 139 [.ref 11, .int l1, .int l2, .int l3, .int l4, .int x5, .int x7, .int l7] [] k (qI P) := by
          intro n
          induction n with
          | zero => intro l7 k _ _ _ hn; exact absurd hn (Nat.not_lt_zero _)
          | succ n ihn =>
            intro l7 k kO kT g7 hn
            refine r_X11_tellsAll_139 l1 l2 l3 l4 x5 x7 l7 ⟨fun _ => ⟨v5, v5, ?_⟩, fun c4 => ⟨v5, ?_⟩⟩
            · have q1 := Ok_w kO (k := 59) (j := x5.toNatClampNeg) (v := 2) (lo := 0) (hi := 2) rfl ⟨by decide, by decide⟩ (by decide) (nt_k (by decide))
              have q2 := Ok_w q1 (k := 60) (j := x5.toNatClampNeg) (v := -1) (lo := -1) (hi := 2) rfl ⟨by decide, by decide⟩ (by decide) (nt_k (by decide))
              refine hp 0 _ q2 ⟨by decide, by decide⟩ (fun p hp18 hq => ?_)
              rw [mI_wI, if_neg (fun z => absurd z.1 (by decide)), mI_wI] at hq
              by_cases hpx : p = x5.toNatClampNeg
              · rw [if_pos ⟨rfl, hpx⟩] at hq
                exact absurd rfl hq
              · rw [if_neg (fun z => hpx z.2)] at hq
                rw [mI_wI, if_neg (fun z => hpx z.2), mI_wI, if_neg (fun z => absurd z.1 (by decide))]
                exact kT p hp18 hpx hq
            · have c4 := lt_ti (nle c4)
              have b1 := f1.2
              have g7' : R 0 2 l7 := ⟨g7.1, by omega⟩
              have gi := gap_inc (N := 3) g7' (by decide)
              have q1 := Ok_w kO (k := 60) (j := x5.toNatClampNeg) (v := l7) (lo := -1) (hi := 2) rfl (R_w g7' (by decide)) (by decide) (nt_k (by decide))
              refine on l7 _ _ q1 g7' (fun p hp18 hq => ?_) (fun r6 h5 k5 f6 t5 => ?_)
              · rw [mI_wI, if_neg (fun z => absurd z.1 (by decide))] at hq
                rw [mI_wI]
                by_cases hpx : p = x5.toNatClampNeg
                · rw [if_pos ⟨rfl, hpx⟩]
                  exact g7.1
                · rw [if_neg (fun z => hpx z.2)]
                  exact kT p hp18 hpx hq
              · have q5 := Ok_tr q1 k5 (by decide)
                exact ⟨fun _ => ihn (l7 + 1) h5 q5 (fun p hp18 _ hq => t5 p hp18 hq) (R_add g7' c1 0 3 (by decide)) (by omega), fun _ => hp 1 h5 q5 ⟨by decide, by decide⟩ t5⟩
        refine L 4 0 _ o1 (fun p hp18 hpx hq => ?_) ⟨by decide, by decide⟩ (by decide)
        rw [mI_wI, if_neg (fun z => hpx z.2)] at hq
        rw [mI_wI, if_neg (fun z => absurd z.1 (by decide))]
        exact hT p hp18 hq
      · have fg : R (-1) 2 (mI h 60 x5.toNatClampNeg) := GI_rd hG 60 _ rfl
        refine on (mI h 60 x5.toNatClampNeg) h _ (Ok_rf hG) ⟨hT _ (ix_lt f5 (by decide)) ct, fg.2⟩ hT (fun r h' k' _ t' => ⟨fun _ => hp 0 h' k' ⟨by decide, by decide⟩ t', fun _ => hp 1 h' k' ⟨by decide, by decide⟩ t'⟩)
    · have b1 := f3.2
      refine ih K l1 (l2 + 1) 0 0 h _ (by omega) f1 (R_add g2 c1 0 4 (by decide)) ⟨by decide, by decide⟩ (by omega) (by omega) (fun hz => ?_) ⟨by decide, by decide⟩ hG hT (fun r h' k' fr t' => ⟨R_z fr, hp r h' k' fr t'⟩)
      have gz : R 0 3 (l2 + 1) := ⟨by have := g2.1; omega, by omega⟩
      have fw : R 159 162 (159 + (l2 + 1)) := R_add c159 gz 159 162 (by decide)
      have fv : R 0 6 (mI h 45 (159 + (l2 + 1)).toNatClampNeg) := GI_rd hG 45 _ (rgp_45_11 (ix_ge fw (by decide)) (ix_le fw (by decide)))
      have := fv.1
      omega
theorem s_X11_tellsAll {g : gT} {h : mh_T} {P : Int32 → mh_T → Prop} (l1 : Int32) (hG : GI h) (f1 : R 1 3 l1) (hT : TJ h) (hp : ∀ (r : Int32) h', Ok [59, 60] h h' → R 0 1 r → P r h') : MCi g yX11_tellsAll (uX11_tellsAll 60) [.ref 11, .int l1, .int 0, .int 0, .int 0] h P := by
  have z0 : (0 : Int32).toInt = 0 := by decide
  have fu : R 0 4 (mI h 45 (Int32.toNatClampNeg 158)) := GI_rd hG 45 _ (by decide)
  have fw : R 159 159 (159 + 0) := ⟨by decide, by decide⟩
  have fv : R 0 6 (mI h 45 (Int32.toNatClampNeg (159 + 0))) := GI_rd hG 45 _ (rgp_45_11 (ix_ge fw (by decide)) (ix_le fw (by decide)))
  refine s_X11_tellsAll_M 34 60 l1 0 0 0 h P (by decide) f1 ⟨by decide, by decide⟩ ⟨by decide, by decide⟩ (by decide) (by have := fu.1; omega) (fun _ => by have := fv.1; omega) ⟨by decide, by decide⟩ hG hT (fun r h' k f _ => hp r h' k f)
set_option maxRecDepth 100000 in
theorem s_X11_fewestStates_L {g : gT} {h0 : mh_T} {P : Int32 → mh_T → Prop} (hp : ∀ r h', Ok [59, 60] h0 h' → R (-2) 3 r → P r h') : ∀ n : Nat, (∀ (l1 : Int32) (h : mh_T), Ok [59, 60] h0 h → R 1 4 l1 → 20 * gap 4 l1 + 19 < n → ME g uX11_fewestStates 2 [.ref 11, .int l1, .retAddr 0] [] h (qI P)) ∧ (∀ (l1 l2 : Int32) (h : mh_T), Ok [59, 60] h0 h → R 1 3 l1 → R 0 18 l2 → (∀ p : Nat, p < l2.toInt → mI h 59 p = 2) → 20 * gap 4 l1 + gap 18 l2 < n → ME g uX11_fewestStates 9 [.ref 11, .int l1, .int l2] [] h (qI P)) := by
  intro n
  induction n with
  | zero => exact ⟨fun _ _ _ _ hn => absurd hn (Nat.not_lt_zero _), fun _ _ _ _ _ _ _ hn => absurd hn (Nat.not_lt_zero _)⟩
  | succ n ih =>
    have c1 : R 1 1 1 := ⟨by decide, by decide⟩
    have c0 : R 0 18 0 := ⟨by decide, by decide⟩
    have z0 : (0 : Int32).toInt = 0 := by decide
    have z18 : (18 : Int32).toInt = 18 := by decide
    have z3 : (3 : Int32).toInt = 3 := by decide
    have g0 := gap_le (N := 18) c0 (m := 18) (by decide)
    refine ⟨fun l1 h ok f1 hn => ?_, fun l1 l2 h ok f1 f2 hz hn => ?_⟩
    · refine r_X11_fewestStates_2 l1 ⟨fun _ => hp _ h ok ⟨by decide, by decide⟩, fun c => ?_⟩
      have c := le_ti (nlt c)
      have g1 : R 1 3 l1 := ⟨f1.1, by omega⟩
      exact ih.2 l1 0 h ok g1 c0 (fun p hp0 => by omega) (by omega)
    · have gi := gap_inc (N := 4) f1 (by decide)
      refine r_X11_fewestStates_9 l1 l2 ⟨fun c => ?_, fun c => ?_⟩
      · have c := le_ti c
        refine s_X11_tellsAll l1 ok.1 f1 (fun p hp18 hq => absurd (hz p (by omega)) hq) (fun r3 h2 k2 f3 => ?_)
        have o2 := Ok_tr ok k2 (by decide)
        exact ⟨fun _ => ih.1 (l1 + 1) h2 o2 (R_add f1 c1 1 4 (by decide)) (by omega), fun _ => hp _ h2 o2 (R_w f1 (by decide))⟩
      · have c := lt_ti (nle c)
        have g2 : R 0 17 l2 := ⟨f2.1, by omega⟩
        have gj := gap_inc (N := 18) g2 (by decide)
        have e2 := ti_inc g2 (by decide)
        have v2 : vp_in l2 18 := vin g2 (by decide)
        have o1 := Ok_w ok (k := 59) (j := l2.toNatClampNeg) (v := 2) (lo := 0) (hi := 2) rfl ⟨by decide, by decide⟩ (by decide) (nt_k (by decide))
        have o2 := Ok_w o1 (k := 60) (j := l2.toNatClampNeg) (v := -1) (lo := -1) (hi := 2) rfl ⟨by decide, by decide⟩ (by decide) (nt_k (by decide))
        refine ⟨v2, v2, ih.2 l1 (l2 + 1) _ o2 f1 (R_add g2 c1 0 18 (by decide)) (fun p hp => ?_) (by omega)⟩
        rw [mI_wI, if_neg (fun z => absurd z.1 (by decide)), mI_wI]
        by_cases q : p = l2.toNatClampNeg
        · rw [if_pos ⟨rfl, q⟩]
        · rw [if_neg (fun z => q z.2)]
          have q : p ≠ l2.toInt.toNat := q
          have := g2.1
          exact hz p (by omega)
theorem s_X11_fewestStates {g : gT} {h : mh_T} {P : Int32 → mh_T → Prop} (hG : GI h) (hp : ∀ (r : Int32) h', Ok [59, 60] h h' → R (-2) 3 r → P r h') : MCi g yX11_fewestStates uX11_fewestStates [.ref 11] h P :=
  e_X11_fewestStates ((s_X11_fewestStates_L hp 100).1 1 h (Ok_rf hG) ⟨by decide, by decide⟩ (by decide))
set_option maxRecDepth 100000 in
set_option maxHeartbeats 4000000 in
theorem s_X11_memory {g : gT} {h : mh_T} {P : Int32 → mh_T → Prop}  (hG : GI h)  (hp : ∀ (r : Int32) h', Ok [300, 11, 59, 60] h h' → R (-2) 3 r → ¬ mI h' 11 11 = 4 → P r h') : MCi g yX11_memory uX11_memory [.ref 11] h P := by
  have ok : Ok [300, 11, 59, 60] h h := Ok_rf hG
  refine e_X11_memory   ?_
  refine s_X11_good ok.1 (fun h1 ko_16 t4 => ?_)
  have ok_17 := Ok_tr ok ko_16 (by decide)
  have hp : ∀ (r : Int32) h', Ok [300, 11, 59, 60] h1 h' → R (-2) 3 r → P r h' := fun r h' k x0 => hp r h' (Ok_tr ok_17 k (by decide)) x0 (k.2.2.2.2.2.2 t4)
  have ok_17 : Ok [300, 11, 59, 60] h1 h1 := Ok_rf ok_17.1
  refine ⟨fun c_18 => ?_, fun c_18 => ?_⟩
  · have f_19 : R 0 1 (mI h1 11 14) := GI_rd ok_17.1 11 _ (by decide)
    have f_20 : R 0 0 0 := ⟨by decide, by decide⟩
    have f_21 : R 0 0 (mI h1 11 14) := rf_eq f_20 c_18
    refine s_X11_no 1 ok_17.1 (fun r4 h3 ko_22 f_24 => ?_)
    have ok_23 := Ok_tr ok_17 ko_22 (by decide)
    exact hp _ _ ok_23 (R_w f_24 (by decide))
  · have f_25 : R 0 1 (mI h1 11 14) := GI_rd ok_17.1 11 _ (by decide)
    have f_26 : R 0 0 0 := ⟨by decide, by decide⟩
    have f_27 : R 1 1 (mI h1 11 14) := rf_ne_lo f_25 c_18 (by decide) 1 rfl
    refine s_X11_fewestStates ok_17.1 (fun r6 h5 ko_28 f_30 => ?_)
    have ok_29 := Ok_tr ok_17 ko_28 (by decide)
    exact hp _ _ ok_29 (R_w f_30 (by decide))
set_option maxRecDepth 100000 in
set_option maxHeartbeats 4000000 in
theorem s_X11_machine {g : gT} {h : mh_T} {P : Int32 → mh_T → Prop} (l1 : Int32) (l2 : Int32) (l3 : Int32) (hG : GI h)  (hp : ∀ (r : Int32) h', Ok [300, 11, 59, 60] h h' → R (-2) 2 r → ¬ mI h' 11 11 = 4 → P r h') : MCi g yX11_machine uX11_machine [.ref 11, .int l1, .int l2, .int l3] h P := by
  have ok : Ok [300, 11, 59, 60] h h := Ok_rf hG
  refine e_X11_machine l1 l2 l3  ?_
  refine s_X11_good ok.1 (fun h1 ko_56 t4 => ?_)
  have ok_57 := Ok_tr ok ko_56 (by decide)
  have hp : ∀ (r : Int32) h', Ok [300, 11, 59, 60] h1 h' → R (-2) 2 r → P r h' := fun r h' k x0 => hp r h' (Ok_tr ok_57 k (by decide)) x0 (k.2.2.2.2.2.2 t4)
  have ok_57 : Ok [300, 11, 59, 60] h1 h1 := Ok_rf ok_57.1
  refine s_X11_isLook l2 ok_57.1 (fun r3 f_59 im_58 => ?_)
  refine ⟨fun c_60 => ?_, fun c_60 => ?_⟩
  · have f_61 : R 0 0 0 := ⟨by decide, by decide⟩
    have f_62 : R 0 0 r3 := rf_eq f_61 c_60
    refine s_X11_no 1 ok_57.1 (fun r6 h5 ko_63 f_65 => ?_)
    have ok_64 := Ok_tr ok_57 ko_63 (by decide)
    exact hp _ _ ok_64 (R_w f_65 (by decide))
  · have f_66 : R 0 0 0 := ⟨by decide, by decide⟩
    have f_67 := (im_58 c_60)
    have f_68 : R 1 1 r3 := rf_ne_lo f_59 c_60 (by decide) 1 rfl
    refine s_X11_within l1 0 2 ok_57.1 (fun r8 f_70 im_69 => ?_)
    refine ⟨fun c_71 => ?_, fun c_71 => ?_⟩
    · have f_72 : R 0 0 0 := ⟨by decide, by decide⟩
      have f_73 : R 0 0 0 := ⟨by decide, by decide⟩
      have f_74 : R 0 2147483647 l1 := rf_le_r f_73 (R_full l1) (im_69 c_71).1 0 (by decide)
      have f_75 : R 2 2 2 := ⟨by decide, by decide⟩
      have f_76 : R 0 2 l1 := rf_le_l f_74 f_75 (im_69 c_71).2 2 (by decide)
      have f_77 : R 1 1 r8 := rf_ne_lo f_70 c_71 (by decide) 1 rfl
      refine s_X11_fewestStates ok_57.1 (fun r11 h10 ko_78 f_80 => ?_)
      have ok_79 := Ok_tr ok_57 ko_78 (by decide)
      refine ⟨fun c_81 => ?_, fun c_81 => ?_⟩
      · have f_82 : R (-2) (-2) (-2) := ⟨by decide, by decide⟩
        have f_83 : R (-1) 3 r11 := rf_ne_lo f_80 c_81 (by decide) (-1) rfl
        intro x13 ex13
        have f_86 : R 6 6 6 := ⟨by decide, by decide⟩
        have f_85 : R 0 12 (6 * l1) := R_mul f_86 f_76 0 12 (by decide)
        have f_84 : R 0 17 ((6 * l1) + l2) := R_add f_85 f_67 0 17 (by decide)
        have f_87 : R 0 17 x13 := rf_eq f_84 ex13
        refine ⟨vin f_87 (by decide), ?_⟩
        refine ⟨fun c_88 => ?_, fun c_88 => ?_⟩
        · have f_89 : R 0 2 (mI h10 59 x13.toNatClampNeg) := GI_rd ok_79.1 59 _ rfl
          have f_90 : R 2 2 2 := ⟨by decide, by decide⟩
          have f_91 : R 0 1 (mI h10 59 x13.toNatClampNeg) := rf_ne_hi f_89 c_88 (by decide) 1 rfl
          refine ⟨fun c_92 => ?_, fun c_92 => ?_⟩
          · have f_93 : R 0 0 0 := ⟨by decide, by decide⟩
            have f_94 : R 0 0 l3 := rf_eq f_93 c_92
            refine ⟨vin f_87 (by decide), ?_⟩
            exact hp _ _ ok_79 (R_w f_91 (by decide))
          · have f_95 : R 0 0 0 := ⟨by decide, by decide⟩
            refine ⟨vin f_87 (by decide), ?_⟩
            have f_96 : R (-1) 2 (mI h10 60 x13.toNatClampNeg) := GI_rd ok_79.1 60 _ rfl
            exact hp _ _ ok_79 (R_w f_96 (by decide))
        · have f_97 : R 0 2 (mI h10 59 x13.toNatClampNeg) := GI_rd ok_79.1 59 _ rfl
          have f_98 : R 2 2 2 := ⟨by decide, by decide⟩
          have f_99 : R 2 2 (mI h10 59 x13.toNatClampNeg) := rf_eq f_98 c_88
          have f_100 : R (-2) (-2) (-2) := ⟨by decide, by decide⟩
          exact hp _ _ ok_79 (R_w f_100 (by decide))
      · have f_101 : R (-2) (-2) (-2) := ⟨by decide, by decide⟩
        have f_102 : R (-2) (-2) r11 := rf_eq f_101 c_81
        refine s_X11_no 6 ok_79.1 (fun r20 h19 ko_103 f_105 => ?_)
        have ok_104 := Ok_tr ok_79 ko_103 (by decide)
        exact hp _ _ ok_104 (R_w f_105 (by decide))
    · have f_106 : R 0 0 0 := ⟨by decide, by decide⟩
      have f_107 : R 0 0 r8 := rf_eq f_106 c_71
      refine s_X11_no 1 ok_57.1 (fun r22 h21 ko_108 f_110 => ?_)
      have ok_109 := Ok_tr ok_57 ko_108 (by decide)
      exact hp _ _ ok_109 (R_w f_110 (by decide))
set_option maxRecDepth 100000 in
/-- a row of THE TABLE goes over -/
theorem s_X11_copy_L {g : gT} {h0 : mh_T} {P : mh_T → Prop} {ms : List Nat} (l0 nl0 : Nat) (l1 : Int32) (l2 nl2 : Nat) (l3 l4 : Int32) (sl0 : shp l0 = (20, nl0, [])) (sl2 : shp l2 = (20, nl2, [])) (p q : Nat) (e1 : l1.toInt = 49 * p) (e3 : l3.toInt = 49 * q) (e4 : l4.toInt = 49) (b0 : 49 * p + 49 ≤ nl0) (b2 : 49 * q + 49 ≤ nl2) (bp : p ≤ 20) (bq : q ≤ 20) (hr0 : ∀ j, j < 49 → rgT l0 (49 * p + j) = rgRowM j) (hr2 : ∀ j, j < 49 → rgT l2 (49 * q + j) = rgRowM j) (hm : l2 ∈ ms) (hk : l2 ≠ 0 ∧ l2 ≠ 11) (hp : ∀ h', Ok ms h0 h' → P h') : ∀ (n : Nat) (l5 : Int32) (h : mh_T), Ok ms h0 h → R 0 49 l5 → gap 49 l5 < n → ME g uX11_copy 3 [.ref l0, .int l1, .ref l2, .int l3, .int l4, .int l5] [] h (qV P) := by
  intro n
  induction n with
  | zero => intro l5 h _ _ hn; exact absurd hn (Nat.not_lt_zero _)
  | succ n ih =>
    intro l5 h ok f5 hn
    have c1 : R 1 1 1 := ⟨by decide, by decide⟩
    refine r_X11_copy_3 l0 nl0 l1 l2 nl2 l3 l4 l5 sl0 sl2 ⟨fun _ => hp h ok, fun c => ?_⟩
    have c := lt_ti (nle c)
    have g5 : R 0 48 l5 := ⟨f5.1, by omega⟩
    have g51 := g5.1
    have gi := gap_inc (N := 49) g5 (by decide)
    have s1 : (l1 + l5).toInt = 49 * p + l5.toInt := by rw [Int32.toInt_add, bm (by omega) (by omega), e1]
    have s3 : (l3 + l5).toInt = 49 * q + l5.toInt := by rw [Int32.toInt_add, bm (by omega) (by omega), e3]
    have t1 : (l1 + l5).toNatClampNeg = 49 * p + l5.toInt.toNat := by
      show (l1 + l5).toInt.toNat = _
      omega
    have t3 : (l3 + l5).toNatClampNeg = 49 * q + l5.toInt.toNat := by
      show (l3 + l5).toInt.toNat = _
      omega
    have hj : l5.toInt.toNat < 49 := by omega
    refine ⟨vp_in_iff.mpr ⟨by omega, by omega⟩, vp_in_iff.mpr ⟨by omega, by omega⟩, ?_⟩
    rw [t1, t3]
    have fv : R (rgRowM l5.toInt.toNat).1 (rgRowM l5.toInt.toNat).2 (mI h l0 (49 * p + l5.toInt.toNat)) := by
      have := ok.1.1 l0 (49 * p + l5.toInt.toNat)
      rw [hr0 _ hj] at this
      exact this
    exact ih (l5 + 1) _ (Ok_w ok (k := l2) (j := 49 * q + l5.toInt.toNat) (v := mI h l0 (49 * p + l5.toInt.toNat)) (lo := (rgRowM l5.toInt.toNat).1) (hi := (rgRowM l5.toInt.toNat).2) (hr2 _ hj) fv (Or.inl hm) (nt_k hk)) (R_add g5 c1 0 49 (by decide)) (by omega)
theorem s_X11_copy_x {g : gT} {h : mh_T} {P : mh_T → Prop} {ms : List Nat} (l0 nl0 : Nat) (l1 : Int32) (l2 nl2 : Nat) (l3 l4 : Int32) (sl0 : shp l0 = (20, nl0, [])) (sl2 : shp l2 = (20, nl2, [])) (p q : Nat) (e1 : l1.toInt = 49 * p) (e3 : l3.toInt = 49 * q) (e4 : l4.toInt = 49) (b0 : 49 * p + 49 ≤ nl0) (b2 : 49 * q + 49 ≤ nl2) (bp : p ≤ 20) (bq : q ≤ 20) (hr0 : ∀ j, j < 49 → rgT l0 (49 * p + j) = rgRowM j) (hr2 : ∀ j, j < 49 → rgT l2 (49 * q + j) = rgRowM j) (hm : l2 ∈ ms) (hk : l2 ≠ 0 ∧ l2 ≠ 11) (hG : GI h) (hp : ∀ h', Ok ms h h' → P h') : MCv g yX11_copy uX11_copy [.ref l0, .int l1, .ref l2, .int l3, .int l4] h P :=
  e_X11_copy l0 nl0 l1 l2 nl2 l3 l4 sl0 sl2 (s_X11_copy_L l0 nl0 l1 l2 nl2 l3 l4 sl0 sl2 p q e1 e3 e4 b0 b2 bp bq hr0 hr2 hm hk hp 50 0 h (Ok_rf hG) ⟨by decide, by decide⟩ (by decide))
theorem rr45 : ∀ j, j < 49 → rgT 45 (49 * 0 + j) = rgRowM j := by decide +kernel
theorem rr48 : ∀ j, j < 49 → rgT 48 (49 * 0 + j) = rgRowM j := by decide +kernel
theorem rr49 (p : Nat) : ∀ j, j < 49 → rgT 49 (49 * p + j) = rgRowM j := by
  intro j hj
  show rgRowM ((49 * p + j) % 49) = rgRowM j
  rw [show (49 * p + j) % 49 = j by omega]
theorem rr50 (p : Nat) : ∀ j, j < 49 → rgT 50 (49 * p + j) = rgRowM j := by
  intro j hj
  show rgRowM ((49 * p + j) % 49) = rgRowM j
  rw [show (49 * p + j) % 49 = j by omega]
theorem rr51 (p : Nat) : ∀ j, j < 49 → rgT 51 (49 * p + j) = rgRowM j := by
  intro j hj
  show rgRowM ((49 * p + j) % 49) = rgRowM j
  rw [show (49 * p + j) % 49 = j by omega]
/-- a product of 49 -/
theorem m49 {x y : Int32} {hi : Int} (e : x = 49 * y) (f : R 0 hi y) (hh : hi ≤ 20) : ∃ p : Nat, x.toInt = 49 * p ∧ (p : Int) ≤ hi := by
  have f1 := f.1
  have f2 := f.2
  refine ⟨y.toInt.toNat, ?_, by omega⟩
  rw [e, Int32.toInt_mul, show (49 : Int32).toInt = 49 from by decide, bm (by omega) (by omega)]
  omega
theorem s_X11_copy_v0 {g : gT} {h : mh_T} {P : mh_T → Prop} (l0 nl0 : Nat) (l1 : Int32) (l2 nl2 : Nat) (l3 l4 : Int32) (sl0 : shp l0 = (20, nl0, [])) (sl2 : shp l2 = (20, nl2, [])) (hx : l0 = 45 ∧ nl0 = 346 ∧ l2 = 48 ∧ nl2 = 49) (hG : GI h) (f4 : R 49 49 l4) (f1 : R 0 0 l1) (f3 : R 0 0 l3) (hp : ∀ h', Ok [48] h h' → P h') : MCv g yX11_copy uX11_copy [.ref l0, .int l1, .ref l2, .int l3, .int l4] h P := by
  obtain ⟨e0, n0, e2, n2⟩ := hx
  subst e0 n0 e2 n2
  have a1 := f4.1
  have a2 := f4.2
  have b1 := f1.1
  have b2 := f1.2
  have b3 := f3.1
  have b4 := f3.2
  exact s_X11_copy_x 45 346 l1 48 49 l3 l4 sl0 sl2 0 0 (by omega) (by omega) (by omega) (by omega) (by omega) (by omega) (by omega) rr45 rr48 (by decide) (by decide) hG hp
theorem s_X11_copy_v1 {g : gT} {h : mh_T} {P : mh_T → Prop} (l0 nl0 : Nat) (l1 : Int32) (l2 nl2 : Nat) (l3 l4 : Int32) (sl0 : shp l0 = (20, nl0, [])) (sl2 : shp l2 = (20, nl2, [])) (hx : l0 = 45 ∧ nl0 = 346 ∧ l2 = 51 ∧ nl2 = 196) (hG : GI h) (f4 : R 49 49 l4) (f1 : R 0 0 l1) (y3 : ∃ y : Int32, l3 = 49 * y ∧ R 0 3 y) (hp : ∀ h', Ok [51] h h' → P h') : MCv g yX11_copy uX11_copy [.ref l0, .int l1, .ref l2, .int l3, .int l4] h P := by
  obtain ⟨e0, n0, e2, n2⟩ := hx
  subst e0 n0 e2 n2
  have a1 := f4.1
  have a2 := f4.2
  have b1 := f1.1
  have b2 := f1.2
  obtain ⟨w, ew, fw⟩ := y3
  obtain ⟨q, eq, bq⟩ := m49 ew fw (by decide)
  exact s_X11_copy_x 45 346 l1 51 196 l3 l4 sl0 sl2 0 q (by omega) (by omega) (by omega) (by omega) (by omega) (by omega) (by omega) rr45 (rr51 _) (by decide) (by decide) hG hp
theorem s_X11_copy_v2 {g : gT} {h : mh_T} {P : mh_T → Prop} (l0 nl0 : Nat) (l1 : Int32) (l2 nl2 : Nat) (l3 l4 : Int32) (sl0 : shp l0 = (20, nl0, [])) (sl2 : shp l2 = (20, nl2, [])) (hx : l0 = 49 ∧ nl0 = 980 ∧ l2 = 45 ∧ nl2 = 346) (hG : GI h) (f4 : R 49 49 l4) (y1 : ∃ y : Int32, l1 = 49 * y ∧ R 0 19 y) (f3 : R 0 0 l3) (hp : ∀ h', Ok [45] h h' → P h') : MCv g yX11_copy uX11_copy [.ref l0, .int l1, .ref l2, .int l3, .int l4] h P := by
  obtain ⟨e0, n0, e2, n2⟩ := hx
  subst e0 n0 e2 n2
  have a1 := f4.1
  have a2 := f4.2
  obtain ⟨y, ey, fy⟩ := y1
  obtain ⟨p, ep, bp⟩ := m49 ey fy (by decide)
  have b3 := f3.1
  have b4 := f3.2
  exact s_X11_copy_x 49 980 l1 45 346 l3 l4 sl0 sl2 p 0 (by omega) (by omega) (by omega) (by omega) (by omega) (by omega) (by omega) (rr49 _) rr45 (by decide) (by decide) hG hp
theorem s_X11_copy_v3 {g : gT} {h : mh_T} {P : mh_T → Prop} (l0 nl0 : Nat) (l1 : Int32) (l2 nl2 : Nat) (l3 l4 : Int32) (sl0 : shp l0 = (20, nl0, [])) (sl2 : shp l2 = (20, nl2, [])) (hx : l0 = 50 ∧ nl0 = 980 ∧ l2 = 45 ∧ nl2 = 346) (hG : GI h) (f4 : R 49 49 l4) (y1 : ∃ y : Int32, l1 = 49 * y ∧ R 0 19 y) (f3 : R 0 0 l3) (hp : ∀ h', Ok [45] h h' → P h') : MCv g yX11_copy uX11_copy [.ref l0, .int l1, .ref l2, .int l3, .int l4] h P := by
  obtain ⟨e0, n0, e2, n2⟩ := hx
  subst e0 n0 e2 n2
  have a1 := f4.1
  have a2 := f4.2
  obtain ⟨y, ey, fy⟩ := y1
  obtain ⟨p, ep, bp⟩ := m49 ey fy (by decide)
  have b3 := f3.1
  have b4 := f3.2
  exact s_X11_copy_x 50 980 l1 45 346 l3 l4 sl0 sl2 p 0 (by omega) (by omega) (by omega) (by omega) (by omega) (by omega) (by omega) (rr50 _) rr45 (by decide) (by decide) hG hp
theorem s_X11_copy_v4 {g : gT} {h : mh_T} {P : mh_T → Prop} (l0 nl0 : Nat) (l1 : Int32) (l2 nl2 : Nat) (l3 l4 : Int32) (sl0 : shp l0 = (20, nl0, [])) (sl2 : shp l2 = (20, nl2, [])) (hx : l0 = 51 ∧ nl0 = 196 ∧ l2 = 45 ∧ nl2 = 346) (hG : GI h) (f4 : R 49 49 l4) (y1 : ∃ y : Int32, l1 = 49 * y ∧ R 0 3 y) (f3 : R 0 0 l3) (hp : ∀ h', Ok [45] h h' → P h') : MCv g yX11_copy uX11_copy [.ref l0, .int l1, .ref l2, .int l3, .int l4] h P := by
  obtain ⟨e0, n0, e2, n2⟩ := hx
  subst e0 n0 e2 n2
  have a1 := f4.1
  have a2 := f4.2
  obtain ⟨y, ey, fy⟩ := y1
  obtain ⟨p, ep, bp⟩ := m49 ey fy (by decide)
  have b3 := f3.1
  have b4 := f3.2
  exact s_X11_copy_x 51 196 l1 45 346 l3 l4 sl0 sl2 p 0 (by omega) (by omega) (by omega) (by omega) (by omega) (by omega) (by omega) (rr51 _) rr45 (by decide) (by decide) hG hp
set_option maxRecDepth 100000 in
set_option maxHeartbeats 4000000 in
theorem s_X11_keep_x {g : gT} {h0 : mh_T} {P : mh_T → Prop} (l0 l1 : Nat) (l2 l4 l5 l6 l7 l8 : Int32) (sl0 : shp l0 = (20, 980, [])) (sl1 : shp l1 = (20, 100, [])) (k0 : l0 ≠ 0 ∧ l0 ≠ 11) (k1 : l1 ≠ 0 ∧ l1 ≠ 11) (r0 : ∀ j, rgT l0 j = rgRowM (j % 49)) (r1 : ∀ j, rgT l1 j = (-2147483648, 2147483647)) (hG0 : GI h0) (f2 : R 0 20 l2) (hp : ∀ h', Ok [l0, l1] h0 h' → P h') : MCv g yX11_keep uX11_keep [.ref l0, .ref l1, .int l2, .ref 48, .int l4, .int l5, .int l6, .int l7, .int l8] h0 P := by
  have c1 : R 1 1 1 := ⟨by decide, by decide⟩
  have c2 : R 2 2 2 := ⟨by decide, by decide⟩
  have c3 : R 3 3 3 := ⟨by decide, by decide⟩
  have c4 : R 4 4 4 := ⟨by decide, by decide⟩
  have c5 : R 5 5 5 := ⟨by decide, by decide⟩
  have c49 : R 49 49 49 := ⟨by decide, by decide⟩
  have m0 : l0 ∈ [l0, l1] := List.mem_cons_self
  have m1 : l1 ∈ [l0, l1] := List.mem_cons_of_mem _ List.mem_cons_self
  -- what is done at the end
  have fin : ∀ (x : Int32) (h : mh_T), R 0 19 x → Ok [l0, l1] h0 h → MCv g yX11_copy uX11_copy [.ref 48, .int 0, .ref l0, .int (49 * x), .int 49] h (fun h2 => (vp_in (5 * x) 100) ∧ ((vp_in ((5 * x) + 1) 100) ∧ ((vp_in ((5 * x) + 2) 100) ∧ ((vp_in ((5 * x) + 3) 100) ∧ ((vp_in ((5 * x) + 4) 100) ∧ (P (wI (wI (wI (wI (wI h2 l1 (5 * x).toNatClampNeg l4) l1 ((5 * x) + 1).toNatClampNeg l5) l1 ((5 * x) + 2).toNatClampNeg l6) l1 ((5 * x) + 3).toNatClampNeg l7) l1 ((5 * x) + 4).toNatClampNeg l8))))))) := by
    intro x h fx ok
    obtain ⟨q, eq, bq⟩ := m49 (x := 49 * x) rfl fx (by decide)
    have f5 : R 0 95 (5 * x) := R_mul c5 fx 0 95 (by decide)
    refine s_X11_copy_x (ms := [l0, l1]) 48 49 0 l0 980 (49 * x) 49 rfl sl0 0 q (by decide) eq (by decide) (by decide) (by omega) (by decide) (by omega) rr48 (fun j hj => ?_) m0 k0 ok.1 (fun h2 k2 => ?_)
    · rw [r0, show (49 * q + j) % 49 = j by omega]
    · have o2 : Ok [l0, l1] h0 h2 := Ok_tr ok k2 (fun _ z => z)
      have w : ∀ {h : mh_T} (j : Nat) (v : Int32), Ok [l0, l1] h0 h → Ok [l0, l1] h0 (wI h l1 j v) := fun j v o => Ok_w o (k := l1) (j := j) (v := v) (r1 j) (R_full _) (Or.inl m1) (nt_k k1)
      exact ⟨vin f5 (by decide), vin (R_add f5 c1 0 96 (by decide)) (by decide), vin (R_add f5 c2 0 97 (by decide)) (by decide), vin (R_add f5 c3 0 98 (by decide)) (by decide), vin (R_add f5 c4 0 99 (by decide)) (by decide), hp _ (w _ _ (w _ _ (w _ _ (w _ _ (w _ _ o2)))))⟩
  have z20 : (20 : Int32).toInt = 20 := by decide
  have z95 : (95 : Int32).toInt = 95 := by decide
  have z931 : (931 : Int32).toInt = 931 := by decide
  -- the acts go one down
  have L40 : ∀ (n : Nat) (x l10 : Int32) (h : mh_T), R 0 19 (x + (-1)) → Ok [l0, l1] h0 h → R 0 95 l10 → gap 95 l10 < n → ME g uX11_keep 40 [.ref l0, .ref l1, .int l2, .ref 48, .int l4, .int l5, .int l6, .int l7, .int l8, .int x, .int l10] [] h (qV P) := by
    intro n
    induction n with
    | zero => intro x l10 h _ _ _ hn; exact absurd hn (Nat.not_lt_zero _)
    | succ n ih =>
      intro x l10 h fx ok f10 hn
      refine r_X11_keep_40 l0 980 l1 100 l2 48 49 l4 l5 l6 l7 l8 x l10 sl0 sl1 rfl ⟨fun _ => fin (x + (-1)) h fx ok, fun c => ?_⟩
      have c := lt_ti (nle c)
      have g10 : R 0 94 l10 := ⟨f10.1, by omega⟩
      have gi := gap_inc (N := 95) g10 (by decide)
      exact ⟨vin (R_add g10 c5 5 99 (by decide)) (by decide), vin g10 (by decide), ih x (l10 + 1) _ fx (Ok_w ok (k := l1) (j := l10.toNatClampNeg) (v := mI h l1 (l10 + 5).toNatClampNeg) (r1 _) (R_full _) (Or.inl m1) (nt_k k1)) (R_add g10 c1 0 95 (by decide)) (by omega)⟩
  -- the tables go one down
  have L12 : ∀ (n : Nat) (x l10 : Int32) (h : mh_T), R 0 19 (x + (-1)) → Ok [l0, l1] h0 h → R 0 931 l10 → gap 931 l10 < n → ME g uX11_keep 12 [.ref l0, .ref l1, .int l2, .ref 48, .int l4, .int l5, .int l6, .int l7, .int l8, .int x, .int l10] [] h (qV P) := by
    intro n
    induction n with
    | zero => intro x l10 h _ _ _ hn; exact absurd hn (Nat.not_lt_zero _)
    | succ n ih =>
      intro x l10 h fx ok f10 hn
      refine r_X11_keep_12 l0 980 l1 100 l2 48 49 l4 l5 l6 l7 l8 x l10 sl0 sl1 rfl ⟨fun _ => L40 96 x 0 h fx ok ⟨by decide, by decide⟩ (by decide), fun c => ?_⟩
      have c := lt_ti (nle c)
      have g10 : R 0 930 l10 := ⟨f10.1, by omega⟩
      have g101 := g10.1
      have gi := gap_inc (N := 931) g10 (by decide)
      have s1 : (l10 + 49).toInt = l10.toInt + 49 := by rw [Int32.toInt_add, show (49 : Int32).toInt = 49 from by decide, bm (by omega) (by omega)]
      have t1 : (l10 + 49).toNatClampNeg = l10.toInt.toNat + 49 := by
        show (l10 + 49).toInt.toNat = _
        omega
      have fv : R (rgRowM (l10.toInt.toNat % 49)).1 (rgRowM (l10.toInt.toNat % 49)).2 (mI h l0 (l10.toInt.toNat + 49)) := by
        have := ok.1.1 l0 (l10.toInt.toNat + 49)
        rw [r0, show (l10.toInt.toNat + 49) % 49 = l10.toInt.toNat % 49 by omega] at this
        exact this
      refine ⟨vin (R_add g10 c49 49 979 (by decide)) (by decide), vin g10 (by decide), ?_⟩
      rw [t1]
      exact ih x (l10 + 1) _ fx (Ok_w ok (k := l0) (j := l10.toInt.toNat) (v := mI h l0 (l10.toInt.toNat + 49)) (r0 _) fv (Or.inl m0) (nt_k k0)) (R_add g10 c1 0 931 (by decide)) (by omega)
  refine e_X11_keep l0 980 l1 100 l2 48 49 l4 l5 l6 l7 l8 sl0 sl1 rfl ⟨fun c => ?_, fun c => ?_⟩
  · have n2 : l2.toInt ≠ 20 := fun z => c (Int32.toInt_inj.mp (by rw [z, z20]))
    exact fin l2 h0 ⟨f2.1, by have := f2.2; omega⟩ (Ok_rf hG0)
  · subst c
    exact L12 932 20 0 h0 ⟨by decide, by decide⟩ (Ok_rf hG0) ⟨by decide, by decide⟩ (by decide)
theorem s_X11_keep_v0 {g : gT} {h : mh_T} {P : mh_T → Prop} (l0 nl0 l1 nl1 : Nat) (l2 : Int32) (l3 nl3 : Nat) (l4 l5 l6 l7 l8 : Int32) (sl0 : shp l0 = (20, nl0, [])) (sl1 : shp l1 = (20, nl1, [])) (sl3 : shp l3 = (20, nl3, [])) (hx : l0 = 49 ∧ nl0 = 980 ∧ l1 = 52 ∧ nl1 = 100 ∧ l3 = 48 ∧ nl3 = 49) (hG : GI h) (f2 : R 0 20 l2) (hp : ∀ h', Ok [49, 52] h h' → P h') : MCv g yX11_keep uX11_keep [.ref l0, .ref l1, .int l2, .ref l3, .int l4, .int l5, .int l6, .int l7, .int l8] h P := by
  obtain ⟨e0, n0, e1, n1, e3, n3⟩ := hx
  subst e0 n0 e1 n1 e3 n3
  exact s_X11_keep_x 49 52 l2 l4 l5 l6 l7 l8 sl0 sl1 (by decide) (by decide) (fun _ => rfl) (fun _ => rfl) hG f2 hp
theorem s_X11_keep_v1 {g : gT} {h : mh_T} {P : mh_T → Prop} (l0 nl0 l1 nl1 : Nat) (l2 : Int32) (l3 nl3 : Nat) (l4 l5 l6 l7 l8 : Int32) (sl0 : shp l0 = (20, nl0, [])) (sl1 : shp l1 = (20, nl1, [])) (sl3 : shp l3 = (20, nl3, [])) (hx : l0 = 50 ∧ nl0 = 980 ∧ l1 = 53 ∧ nl1 = 100 ∧ l3 = 48 ∧ nl3 = 49) (hG : GI h) (f2 : R 0 20 l2) (hp : ∀ h', Ok [50, 53] h h' → P h') : MCv g yX11_keep uX11_keep [.ref l0, .ref l1, .int l2, .ref l3, .int l4, .int l5, .int l6, .int l7, .int l8] h P := by
  obtain ⟨e0, n0, e1, n1, e3, n3⟩ := hx
  subst e0 n0 e1 n1 e3 n3
  exact s_X11_keep_x 50 53 l2 l4 l5 l6 l7 l8 sl0 sl1 (by decide) (by decide) (fun _ => rfl) (fun _ => rfl) hG f2 hp
set_option maxRecDepth 100000 in
set_option maxHeartbeats 4000000 in
theorem s_X11_did {g : gT} {h : mh_T} {P : Int32 → mh_T → Prop} (l1 : Int32) (l2 : Int32) (l3 : Int32) (l4 : Int32) (l5 : Int32) (hG : GI h)  (hp : ∀ (r : Int32) h', Ok [300, 11, 45, 48, 49, 50, 51, 52, 53] h h' → R 0 1 r → P r h') : MCi g yX11_did uX11_did [.ref 11, .int l1, .int l2, .int l3, .int l4, .int l5] h P := by
  have ok : Ok [300, 11, 45, 48, 49, 50, 51, 52, 53] h h := Ok_rf hG
  refine e_X11_did l1 l2 l3 l4 l5  ?_
  have f_22 : R 0 20 (mI h 11 24) := GI_rd ok.1 11 _ (by decide)
  refine s_X11_keep_v0 49 980 52 100 (mI h 11 24) 48 49 l1 l2 l3 l4 l5 rfl rfl rfl ⟨rfl, rfl, rfl, rfl, rfl, rfl⟩ ok.1 (R_w f_22 (by decide)) (fun h1 ko_23 => ?_)
  have ok_24 := Ok_tr ok ko_23 (by decide)
  refine ⟨fun c_25 => ?_, fun c_25 => ?_⟩
  · have f_26 : R 0 20 (mI h1 11 24) := Ok_rd ko_23 (by decide) f_22
    have f_27 : R 20 20 20 := ⟨by decide, by decide⟩
    have f_28 : R 0 19 (mI h1 11 24) := rf_ne_hi f_26 c_25 (by decide) 19 rfl
    have f_30 : R 1 1 1 := ⟨by decide, by decide⟩
    have f_29 : R 1 20 ((mI h1 11 24) + 1) := R_add f_28 f_30 1 20 (by decide)
    have ok_31 := Ok_w ok_24 (k := 11) (j := 24) (v := ((mI h1 11 24) + 1)) (lo := 0) (hi := 20) (by decide) (R_w f_29 (by decide)) (by decide) (by decide)
    have f_32 : R 0 0 0 := ⟨by decide, by decide⟩
    have ok_33 := Ok_w ok_31 (k := 11) (j := 25) (v := 0) (lo := 0) (hi := 20) (by decide) (R_w f_32 (by decide)) (by decide) (by decide)
    have f_34 : R 1 1 1 := ⟨by decide, by decide⟩
    exact hp _ _ ok_33 (R_w f_34 (by decide))
  · have f_35 : R 0 20 (mI h1 11 24) := Ok_rd ko_23 (by decide) f_22
    have f_36 : R 20 20 20 := ⟨by decide, by decide⟩
    have f_37 : R 20 20 (mI h1 11 24) := rf_eq f_36 c_25
    have f_38 : R 20 20 20 := ⟨by decide, by decide⟩
    have ok_39 := Ok_w ok_24 (k := 11) (j := 24) (v := 20) (lo := 0) (hi := 20) (by decide) (R_w f_38 (by decide)) (by decide) (by decide)
    have f_40 : R 0 0 0 := ⟨by decide, by decide⟩
    have ok_41 := Ok_w ok_39 (k := 11) (j := 25) (v := 0) (lo := 0) (hi := 20) (by decide) (R_w f_40 (by decide)) (by decide) (by decide)
    have f_42 : R 1 1 1 := ⟨by decide, by decide⟩
    exact hp _ _ ok_41 (R_w f_42 (by decide))
set_option maxRecDepth 100000 in
set_option maxHeartbeats 4000000 in
theorem s_X11_flip_L {g : gT} {h0 : mh_T} {P : Int32 → mh_T → Prop} (hG0 : GI h0) (hp : ∀ (r : Int32) h', Ok [300, 11, 45, 47, 48, 49, 50, 51, 52, 53] h0 h' → R 0 1 r → P r h') : ∀ n : Nat, (∀ (l1 : Int32) (l2 : Int32) (h : mh_T), Ok [300, 11, 45, 47, 48, 49, 50, 51, 52, 53] h0 h → R 0 5 l1 → R 0 8 l2 → 6 * gap 8 l2 + 5 < n → ME g uX11_flip 35 [.ref 11, .int l1, .int l2, .retAddr 0, .retAddr 0, .retAddr 0, .retAddr 0, .retAddr 0, .retAddr 0] [] h (qI P)) ∧ (∀ (l1 : Int32) (l2 : Int32) (l3 : Int32) (l4 : Int32) (h : mh_T), Ok [300, 11, 45, 47, 48, 49, 50, 51, 52, 53] h0 h → R 0 5 l1 → R 0 7 l2 → R 1 2 l3 → R 0 4 l4 → 1 * gap 4 l4 + 6 * gap 8 l2 + 0 < n → ME g uX11_flip 124 [.ref 11, .int l1, .int l2, .int l3, .int l4, .retAddr 0, .retAddr 0, .retAddr 0, .retAddr 0] [] h (qI P)) := by
  intro n
  induction n with
  | zero =>
    exact ⟨(fun _ _ _ _ _ _ hm => absurd hm (Nat.not_lt_zero _)), (fun _ _ _ _ _ _ _ _ _ _ hm => absurd hm (Nat.not_lt_zero _))⟩
  | succ n ih =>
    refine ⟨?_, ?_⟩
    · intro l1 l2 h  ok fl1 fl2     hm
      refine r_X11_flip_35 l1 l2  ?_
      refine ⟨fun c_829 => ?_, fun c_829 => ?_⟩
      · have f_830 : R 0 8 (mI h 45 (Int32.toNatClampNeg 0)) := GI_rd ok.1 45 _ (by decide)
        refine s_X11_did 0 l1 (-2) (-2) (-2) ok.1 (fun r3 h2 ko_831 f_833 => ?_)
        have ok_832 := Ok_tr ok ko_831 (by decide)
        exact ⟨R_z (R_w f_833 (by decide)), hp _ _ ok_832 (R_w f_833 (by decide))⟩
      · have f_834 : R 0 8 (mI h 45 (Int32.toNatClampNeg 0)) := GI_rd ok.1 45 _ (by decide)
        have f_835 : R 0 7 l2 := rf_lt_l fl2 f_834 (nle c_829) 7 (by decide)
        have f_836 : R 1 8 (mI h 45 (Int32.toNatClampNeg 0)) := rf_lt_r fl2 f_834 (nle c_829) 1 (by decide)
        have f_838 : R 9 9 9 := ⟨by decide, by decide⟩
        have f_837 : R 9 16 (9 + l2) := R_add f_838 f_835 9 16 (by decide)
        refine ⟨vin f_837 (by decide), ?_⟩
        refine ⟨fun c_839 => ?_, fun c_839 => ?_⟩
        · have f_840 : R (-2) 5 (mI h 45 (9 + l2).toNatClampNeg) := GI_rd ok.1 45 _ (rgp_45_2 (ix_ge f_837 (by decide)) (ix_le f_837 (by decide)))
          have f_841 : R (-2) (-2) (-2) := ⟨by decide, by decide⟩
          have f_842 : R (-1) 5 (mI h 45 (9 + l2).toNatClampNeg) := rf_ne_lo f_840 c_839 (by decide) (-1) rfl
          have f_844 : R 1 1 1 := ⟨by decide, by decide⟩
          have f_843 : R 1 8 (1 + l2) := R_add f_844 f_835 1 8 (by decide)
          refine ⟨vin f_843 (by decide), ?_⟩
          refine ⟨fun c_845 => ?_, fun c_845 => ?_⟩
          · have f_846 : R (-1) 5 (mI h 45 (1 + l2).toNatClampNeg) := GI_rd ok.1 45 _ (rgp_45_1 (ix_ge f_843 (by decide)) (ix_le f_843 (by decide)))
            refine ⟨vin f_837 (by decide), ?_⟩
            refine ⟨fun c_847 => ?_, fun c_847 => ?_⟩
            · have f_849 : R 1 1 1 := ⟨by decide, by decide⟩
              have f_848 : R 1 8 (l2 + 1) := R_add f_835 f_849 1 8 (by decide)
              have g_850 := gap_inc (N := 8) f_835 (by decide)
              exact (ih.1) l1 (l2 + 1) h  ok (R_w fl1 (by decide)) (R_w f_848 (by decide)) (by omega)
            · have f_851 : R 0 5 (mI h 45 (9 + l2).toNatClampNeg) := rf_eq fl1 c_847
              have f_852 : R 1 1 1 := ⟨by decide, by decide⟩
              have f_853 : R 0 0 0 := ⟨by decide, by decide⟩
              have f_854 : R 0 0 0 := ⟨by decide, by decide⟩
              have g_855 := gap_le (N := 4) f_854 (m := 4) (by decide)
              exact (ih.2) l1 l2 1 0 h  ok (R_w fl1 (by decide)) (R_w f_835 (by decide)) (R_w f_852 (by decide)) (R_w f_853 (by decide)) (by omega)
          · have f_856 : R (-1) 5 (mI h 45 (1 + l2).toNatClampNeg) := GI_rd ok.1 45 _ (rgp_45_1 (ix_ge f_843 (by decide)) (ix_le f_843 (by decide)))
            have f_857 : R 0 5 (mI h 45 (1 + l2).toNatClampNeg) := rf_eq fl1 c_845
            have f_858 : R 2 2 2 := ⟨by decide, by decide⟩
            have f_859 : R 0 0 0 := ⟨by decide, by decide⟩
            have f_860 : R 0 0 0 := ⟨by decide, by decide⟩
            have g_861 := gap_le (N := 4) f_860 (m := 4) (by decide)
            exact (ih.2) l1 l2 2 0 h  ok (R_w fl1 (by decide)) (R_w f_835 (by decide)) (R_w f_858 (by decide)) (R_w f_859 (by decide)) (by omega)
        · have f_862 : R (-2) 5 (mI h 45 (9 + l2).toNatClampNeg) := GI_rd ok.1 45 _ (rgp_45_2 (ix_ge f_837 (by decide)) (ix_le f_837 (by decide)))
          have f_863 : R (-2) (-2) (-2) := ⟨by decide, by decide⟩
          have f_864 : R (-2) (-2) (mI h 45 (9 + l2).toNatClampNeg) := rf_eq f_863 c_839
          have f_866 : R 1 1 1 := ⟨by decide, by decide⟩
          have f_865 : R 1 8 (1 + l2) := R_add f_866 f_835 1 8 (by decide)
          refine ⟨vin f_865 (by decide), ?_⟩
          refine ⟨fun c_867 => ?_, fun c_867 => ?_⟩
          · have f_868 : R (-1) 5 (mI h 45 (1 + l2).toNatClampNeg) := GI_rd ok.1 45 _ (rgp_45_1 (ix_ge f_865 (by decide)) (ix_le f_865 (by decide)))
            have f_870 : R 1 1 1 := ⟨by decide, by decide⟩
            have f_869 : R 1 8 (l2 + 1) := R_add f_835 f_870 1 8 (by decide)
            have g_871 := gap_inc (N := 8) f_835 (by decide)
            exact (ih.1) l1 (l2 + 1) h  ok (R_w fl1 (by decide)) (R_w f_869 (by decide)) (by omega)
          · have f_872 : R (-1) 5 (mI h 45 (1 + l2).toNatClampNeg) := GI_rd ok.1 45 _ (rgp_45_1 (ix_ge f_865 (by decide)) (ix_le f_865 (by decide)))
            have f_873 : R 0 5 (mI h 45 (1 + l2).toNatClampNeg) := rf_eq fl1 c_867
            have f_874 : R 1 1 1 := ⟨by decide, by decide⟩
            have f_875 : R 0 0 0 := ⟨by decide, by decide⟩
            have f_876 : R 0 0 0 := ⟨by decide, by decide⟩
            have g_877 := gap_le (N := 4) f_876 (m := 4) (by decide)
            exact (ih.2) l1 l2 1 0 h  ok (R_w fl1 (by decide)) (R_w f_835 (by decide)) (R_w f_874 (by decide)) (R_w f_875 (by decide)) (by omega)
    · intro l1 l2 l3 l4 h  ok fl1 fl2 fl3 fl4     hm
      refine r_X11_flip_124 l1 l2 l3 l4  ?_
      refine s_X11_outcomes l2 ok.1 (R_w fl2 (by decide)) (fun r2 f_878 => ?_)
      refine ⟨fun c_879 => ?_, fun c_879 => ?_⟩
      · have f_880 : R 2 4 l4 := rf_le_r f_878 fl4 c_879 2 (by decide)
        have f_882 : R 1 1 1 := ⟨by decide, by decide⟩
        have f_881 : R 1 8 (l2 + 1) := R_add fl2 f_882 1 8 (by decide)
        have g_883 := gap_inc (N := 8) fl2 (by decide)
        exact (ih.1) l1 (l2 + 1) h  ok (R_w fl1 (by decide)) (R_w f_881 (by decide)) (by omega)
      · have f_884 : R 0 3 l4 := rf_lt_l fl4 f_878 (nle c_879) 3 (by decide)
        intro x4 ex4
        have f_885 : R 0 3 (l4 ^^^ l3) := R_xor f_884 fl3 2 3 (by decide)
        have f_886 : R 0 3 x4 := rf_eq f_885 ex4
        refine ⟨fun c_887 => ?_, fun c_887 => ?_⟩
        · intro x6 ex6
          have f_890 : R 4 4 4 := ⟨by decide, by decide⟩
          have f_889 : R 0 28 (4 * l2) := R_mul f_890 fl2 0 28 (by decide)
          have f_888 : R 0 31 ((4 * l2) + l4) := R_add f_889 f_884 0 31 (by decide)
          have f_891 : R 0 31 x6 := rf_eq f_888 ex6
          intro x7 ex7
          have f_892 : R 0 31 ((4 * l2) + x4) := R_add f_889 f_886 0 31 (by decide)
          have f_893 : R 0 31 x7 := rf_eq f_892 ex7
          have f_895 : R 17 17 17 := ⟨by decide, by decide⟩
          have f_894 : R 17 48 (17 + x6) := R_add f_895 f_891 17 48 (by decide)
          refine ⟨vin f_894 (by decide), ?_⟩
          intro x9 ex9
          have f_896 : R (-2147483648) 2147483647 (mI h 45 (17 + x6).toNatClampNeg) := R_full _
          have f_897 : R (-2147483648) 2147483647 x9 := rf_eq f_896 ex9
          have f_899 : R 17 17 17 := ⟨by decide, by decide⟩
          have f_898 : R 17 48 (17 + x7) := R_add f_899 f_893 17 48 (by decide)
          refine ⟨vin f_898 (by decide), ?_⟩
          refine ⟨vin f_894 (by decide), ?_⟩
          refine ⟨vin f_898 (by decide), ?_⟩
          refine ⟨vin f_891 (by decide), ?_⟩
          intro x14 ex14
          have f_902 : R (-2147483648) 2147483647 (mI h 47 x6.toNatClampNeg) := R_full _
          have f_901 : R (-2147483648) 2147483647 (mI (wI h 45 (17 + x6).toNatClampNeg (mI h 45 (17 + x7).toNatClampNeg)) 47 x6.toNatClampNeg) := (rd_ne f_902 (by decide))
          have f_900 : R (-2147483648) 2147483647 (mI (wI (wI h 45 (17 + x6).toNatClampNeg (mI h 45 (17 + x7).toNatClampNeg)) 45 (17 + x7).toNatClampNeg x9) 47 x6.toNatClampNeg) := (rd_ne f_901 (by decide))
          have f_903 : R (-2147483648) 2147483647 x14 := rf_eq f_900 ex14
          refine ⟨vin f_893 (by decide), ?_⟩
          refine ⟨vin f_891 (by decide), ?_⟩
          refine ⟨vin f_893 (by decide), ?_⟩
          have f_905 : R 1 1 1 := ⟨by decide, by decide⟩
          have f_904 : R 1 4 (l4 + 1) := R_add f_884 f_905 1 4 (by decide)
          have f_906 : R (-2147483648) 2147483647 (mI h 45 (17 + x7).toNatClampNeg) := R_full _
          have ok_907 := Ok_w ok (k := 45) (j := (17 + x6).toNatClampNeg) (v := (mI h 45 (17 + x7).toNatClampNeg)) (lo := (-2147483648)) (hi := 2147483647) (rgg_45_0 (ix_ge f_894 (by decide)) (ix_le f_894 (by decide))) f_906 (by decide) (nt_k (by decide))
          have ok_908 := Ok_w ok_907 (k := 45) (j := (17 + x7).toNatClampNeg) (v := x9) (lo := (-2147483648)) (hi := 2147483647) (rgg_45_0 (ix_ge f_898 (by decide)) (ix_le f_898 (by decide))) f_897 (by decide) (nt_k (by decide))
          have f_911 : R (-2147483648) 2147483647 (mI h 47 x7.toNatClampNeg) := R_full _
          have f_910 : R (-2147483648) 2147483647 (mI (wI h 45 (17 + x6).toNatClampNeg (mI h 45 (17 + x7).toNatClampNeg)) 47 x7.toNatClampNeg) := (rd_ne f_911 (by decide))
          have f_909 : R (-2147483648) 2147483647 (mI (wI (wI h 45 (17 + x6).toNatClampNeg (mI h 45 (17 + x7).toNatClampNeg)) 45 (17 + x7).toNatClampNeg x9) 47 x7.toNatClampNeg) := (rd_ne f_910 (by decide))
          have ok_912 := Ok_w ok_908 (k := 47) (j := x6.toNatClampNeg) (v := (mI (wI (wI h 45 (17 + x6).toNatClampNeg (mI h 45 (17 + x7).toNatClampNeg)) 45 (17 + x7).toNatClampNeg x9) 47 x7.toNatClampNeg)) (lo := (-2147483648)) (hi := 2147483647) (rgc_47 _) f_909 (by decide) (nt_k (by decide))
          have ok_913 := Ok_w ok_912 (k := 47) (j := x7.toNatClampNeg) (v := x14) (lo := (-2147483648)) (hi := 2147483647) (rgc_47 _) f_903 (by decide) (nt_k (by decide))
          have g_914 := gap_inc (N := 4) f_884 (by decide)
          exact (ih.2) l1 l2 l3 (l4 + 1) (wI (wI (wI (wI h 45 (17 + x6).toNatClampNeg (mI h 45 (17 + x7).toNatClampNeg)) 45 (17 + x7).toNatClampNeg x9) 47 x6.toNatClampNeg (mI (wI (wI h 45 (17 + x6).toNatClampNeg (mI h 45 (17 + x7).toNatClampNeg)) 45 (17 + x7).toNatClampNeg x9) 47 x7.toNatClampNeg)) 47 x7.toNatClampNeg x14)  ok_913 (R_w fl1 (by decide)) (R_w fl2 (by decide)) (R_w fl3 (by decide)) (R_w f_904 (by decide)) (by omega)
        · have f_915 : R 0 2 x4 := rf_lt_l f_886 f_884 (nle c_887) 2 (by decide)
          have f_916 : R 1 3 l4 := rf_lt_r f_886 f_884 (nle c_887) 1 (by decide)
          have f_918 : R 1 1 1 := ⟨by decide, by decide⟩
          have f_917 : R 2 4 (l4 + 1) := R_add f_916 f_918 2 4 (by decide)
          have g_919 := gap_inc (N := 4) f_916 (by decide)
          exact (ih.2) l1 l2 l3 (l4 + 1) h  ok (R_w fl1 (by decide)) (R_w fl2 (by decide)) (R_w fl3 (by decide)) (R_w f_917 (by decide)) (by omega)
set_option maxRecDepth 100000 in
set_option maxHeartbeats 4000000 in
theorem s_X11_flip {g : gT} {h : mh_T} {P : Int32 → mh_T → Prop} (l1 : Int32) (hG : GI h)  (hp : ∀ (r : Int32) h', Ok [300, 11, 45, 47, 48, 49, 50, 51, 52, 53] h h' → R 0 1 r → ¬ mI h' 11 11 = 4 → P r h') : MCi g yX11_flip uX11_flip [.ref 11, .int l1] h P := by
  have ok : Ok [300, 11, 45, 47, 48, 49, 50, 51, 52, 53] h h := Ok_rf hG
  refine e_X11_flip l1  ?_
  refine s_X11_good ok.1 (fun h1 ko_920 t4 => ?_)
  have ok_921 := Ok_tr ok ko_920 (by decide)
  have hp : ∀ (r : Int32) h', Ok [300, 11, 45, 47, 48, 49, 50, 51, 52, 53] h1 h' → R 0 1 r → P r h' := fun r h' k x0 => hp r h' (Ok_tr ok_921 k (by decide)) x0 (k.2.2.2.2.2.2 t4)
  have L0 := s_X11_flip_L (g := g) ok_921.1 hp 54
  have ok_921 : Ok [300, 11, 45, 47, 48, 49, 50, 51, 52, 53] h1 h1 := Ok_rf ok_921.1
  refine s_X11_isLook l1 ok_921.1 (fun r3 f_923 im_922 => ?_)
  refine ⟨fun c_924 => ?_, fun c_924 => ?_⟩
  · have f_925 : R 0 0 0 := ⟨by decide, by decide⟩
    have f_926 := (im_922 c_924)
    have f_927 : R 1 1 r3 := rf_ne_lo f_923 c_924 (by decide) 1 rfl
    have f_928 : R 0 0 0 := ⟨by decide, by decide⟩
    have f_929 : R 0 0 0 := ⟨by decide, by decide⟩
    have f_930 : R 49 49 49 := ⟨by decide, by decide⟩
    have f_931 : R 0 0 0 := ⟨by decide, by decide⟩
    have f_932 : R 0 0 0 := ⟨by decide, by decide⟩
    have f_933 : R 49 49 49 := ⟨by decide, by decide⟩
    refine s_X11_copy_v0 45 346 0 48 49 0 49 rfl rfl ⟨rfl, rfl, rfl, rfl⟩ ok_921.1 (R_w f_933 (by decide)) (R_w f_931 (by decide)) (R_w f_932 (by decide)) (fun h5 ko_934 => ?_)
    have ok_935 := Ok_tr ok_921 ko_934 (by decide)
    have f_936 : R 0 0 0 := ⟨by decide, by decide⟩
    have f_937 : R 0 0 0 := ⟨by decide, by decide⟩
    have g_938 := gap_le (N := 8) f_937 (m := 8) (by decide)
    exact (L0.1) l1 0 h5  ok_935 (R_w f_926 (by decide)) (R_w f_936 (by decide)) (by omega)
  · have f_939 : R 0 0 0 := ⟨by decide, by decide⟩
    have f_940 : R 0 0 r3 := rf_eq f_939 c_924
    refine s_X11_isNot 1 ok_921.1 (fun r7 h6 ko_941 f_943 => ?_)
    have ok_942 := Ok_tr ok_921 ko_941 (by decide)
    exact ⟨R_z (R_w f_943 (by decide)), hp _ _ ok_942 (R_w f_943 (by decide))⟩
theorem w45_0 {h : mh_T} {j : Nat} {v m : Int32} (e : mI h 45 (Int32.toNatClampNeg 0) = m) (hj : 1 ≤ j) : mI (wI h 45 j v) 45 (Int32.toNatClampNeg 0) = m := by
  rw [mI_wI, if_neg]
  · exact e
  · intro z
    have z2 : (0 : Nat) = j := z.2
    omega
theorem w47_0 {h : mh_T} {j : Nat} {v m : Int32} (e : mI h 45 (Int32.toNatClampNeg 0) = m) : mI (wI h 47 j v) 45 (Int32.toNatClampNeg 0) = m := by
  rw [mI_wI, if_neg (fun z => absurd z.1 (by decide))]
  exact e
set_option maxRecDepth 100000 in
set_option maxHeartbeats 4000000 in
theorem s_X11_goesAway_159 {g : gT} {h0 : mh_T} {P : mh_T → Prop} (l1 l2 m : Int32) (f2 : R 0 7 l2) (hp : ∀ h', Ok [45, 47] h0 h' → mI h' 45 (Int32.toNatClampNeg 0) = m → P h') : ∀ (n : Nat) (l3 : Int32) (h : mh_T), Ok [45, 47] h0 h → mI h 45 (Int32.toNatClampNeg 0) = m → R 0 4 l3 → gap 4 l3 < n → ME g uX11_goesAway 159 [.ref 11, .int l1, .int l2, .int l3] [] h (qV P) := by
  intro n
  induction n with
  | zero => intro l3 h _ _ _ hn; exact absurd hn (Nat.not_lt_zero _)
  | succ n ih =>
    intro l3 h ok e f3 hn
    have c1 : R 1 1 1 := ⟨by decide, by decide⟩
    have c4 : R 4 4 4 := ⟨by decide, by decide⟩
    have c17 : R 17 17 17 := ⟨by decide, by decide⟩
    refine r_X11_goesAway_159 l1 l2 l3 ⟨fun _ => hp h ok e, fun c => ?_⟩
    have g3 : R 0 3 l3 := rf_lt_l f3 c4 (nle c) 3 (by decide)
    have gi := gap_inc (N := 4) g3 (by decide)
    have fx : R 0 31 ((4 * l2) + l3) := R_add (R_mul c4 f2 0 28 (by decide)) g3 0 31 (by decide)
    have fy : R 17 48 ((17 + (4 * l2)) + l3) := R_add (R_add c17 (R_mul c4 f2 0 28 (by decide)) 17 45 (by decide)) g3 17 48 (by decide)
    have o1 := Ok_w ok (k := 45) (j := ((17 + (4 * l2)) + l3).toNatClampNeg) (v := 0) (lo := -2147483648) (hi := 2147483647) (rgg_45_0 (ix_ge fy (by decide)) (ix_le fy (by decide))) (R_full _) (by decide) (nt_k (by decide))
    have o2 := Ok_w o1 (k := 47) (j := ((4 * l2) + l3).toNatClampNeg) (v := 0) (rgc_47 _) (R_full _) (by decide) (nt_k (by decide))
    exact ⟨vin fy (by decide), vin fx (by decide), ih (l3 + 1) _ o2 (w47_0 (w45_0 e (Nat.le_trans (by decide) (ix_ge fy (m := 17) (by decide))))) (R_add g3 c1 0 4 (by decide)) (by omega)⟩
set_option maxRecDepth 100000 in
set_option maxHeartbeats 4000000 in
theorem s_X11_goesAway_2 {g : gT} {h0 : mh_T} {P : mh_T → Prop} (l1 m : Int32) (fm : R 1 8 m) (hp : ∀ h', Ok [45, 47] h0 h' → mI h' 45 (Int32.toNatClampNeg 0) = m - 1 → P h') : ∀ n : Nat, (∀ (l2 : Int32) (h : mh_T), Ok [45, 47] h0 h → mI h 45 (Int32.toNatClampNeg 0) = m → R 0 7 l2 → 10 * gap 8 l2 + 9 < n → ME g uX11_goesAway 2 [.ref 11, .int l1, .int l2, .retAddr 0] [] h (qV P)) ∧ (∀ (l2 l3 : Int32) (h : mh_T), Ok [45, 47] h0 h → mI h 45 (Int32.toNatClampNeg 0) = m → R 0 6 l2 → R 0 4 l3 → 10 * gap 8 l2 + gap 4 l3 < n → ME g uX11_goesAway 54 [.ref 11, .int l1, .int l2, .int l3] [] h (qV P)) := by
  intro n
  induction n with
  | zero => exact ⟨fun _ _ _ _ _ hn => absurd hn (Nat.not_lt_zero _), fun _ _ _ _ _ _ _ hn => absurd hn (Nat.not_lt_zero _)⟩
  | succ n ih =>
    have c1 : R 1 1 1 := ⟨by decide, by decide⟩
    have c4 : R 4 4 4 := ⟨by decide, by decide⟩
    have c9 : R 9 9 9 := ⟨by decide, by decide⟩
    have c17 : R 17 17 17 := ⟨by decide, by decide⟩
    have z0 : R 0 4 0 := ⟨by decide, by decide⟩
    have g0 := gap_le (N := 4) z0 (m := 4) (by decide)
    refine ⟨fun l2 h ok e f2 hn => ?_, fun l2 l3 h ok e f2 f3 hn => ?_⟩
    · refine r_X11_goesAway_2 l1 l2 ⟨fun _ x2 e2 => ?_, fun c => ?_⟩
      · have e2 : x2 = m - 1 := by rw [e2, mI_wI, if_pos ⟨rfl, rfl⟩, e]
        have fx : R 0 7 x2 := by rw [e2]; exact R_sub fm c1 0 7 (by decide)
        have fa : R 1 8 (1 + x2) := R_add c1 fx 1 8 (by decide)
        have fb : R 9 16 (9 + x2) := R_add c9 fx 9 16 (by decide)
        rw [e, ← e2]
        have o1 := Ok_w ok (k := 45) (j := Int32.toNatClampNeg 0) (v := x2) (lo := 0) (hi := 8) (by decide) (R_w fx (by decide)) (by decide) (nt_k (by decide))
        have o2 := Ok_w o1 (k := 45) (j := (1 + x2).toNatClampNeg) (v := 0) (lo := -1) (hi := 5) (rgp_45_1 (ix_ge fa (by decide)) (ix_le fa (by decide))) ⟨by decide, by decide⟩ (by decide) (nt_k (by decide))
        have o3 := Ok_w o2 (k := 45) (j := (9 + x2).toNatClampNeg) (v := 0) (lo := -2) (hi := 5) (rgp_45_2 (ix_ge fb (by decide)) (ix_le fb (by decide))) ⟨by decide, by decide⟩ (by decide) (nt_k (by decide))
        refine ⟨vin fa (by decide), vin fb (by decide), s_X11_goesAway_159 l1 x2 (m - 1) fx hp 5 0 _ o3 ?_ z0 (by decide)⟩
        refine w45_0 (w45_0 ?_ (ix_ge fa (by decide))) (Nat.le_trans (by decide) (ix_ge fb (m := 9) (by decide)))
        rw [mI_wI, if_pos ⟨rfl, rfl⟩, e2]
      · rw [e] at c
        have c := lt_ti (nle c)
        have e1 := ti_inc f2 (by decide)
        have g2 : R 0 6 l2 := ⟨f2.1, by have := fm.2; omega⟩
        have fa : R 1 7 (1 + l2) := R_add c1 g2 1 7 (by decide)
        have fa1 : R 2 8 ((1 + l2) + 1) := R_add fa c1 2 8 (by decide)
        have fb : R 9 15 (9 + l2) := R_add c9 g2 9 15 (by decide)
        have fb1 : R 10 16 ((9 + l2) + 1) := R_add fb c1 10 16 (by decide)
        have va : R (-1) 5 (mI h 45 ((1 + l2) + 1).toNatClampNeg) := GI_rd ok.1 45 _ (rgp_45_1 (ix_ge fa1 (by decide)) (ix_le fa1 (by decide)))
        have o1 := Ok_w ok (k := 45) (j := (1 + l2).toNatClampNeg) (v := mI h 45 ((1 + l2) + 1).toNatClampNeg) (lo := -1) (hi := 5) (rgp_45_1 (ix_ge fa (by decide)) (ix_le fa (by decide))) va (by decide) (nt_k (by decide))
        have vb : R (-2) 5 (mI (wI h 45 (1 + l2).toNatClampNeg (mI h 45 ((1 + l2) + 1).toNatClampNeg)) 45 ((9 + l2) + 1).toNatClampNeg) := GI_rd o1.1 45 _ (rgp_45_2 (ix_ge fb1 (by decide)) (ix_le fb1 (by decide)))
        have o2 := Ok_w o1 (k := 45) (j := (9 + l2).toNatClampNeg) (v := mI (wI h 45 (1 + l2).toNatClampNeg (mI h 45 ((1 + l2) + 1).toNatClampNeg)) 45 ((9 + l2) + 1).toNatClampNeg) (lo := -2) (hi := 5) (rgp_45_2 (ix_ge fb (by decide)) (ix_le fb (by decide))) vb (by decide) (nt_k (by decide))
        exact ⟨vin fa1 (by decide), vin fa (by decide), vin fb1 (by decide), vin fb (by decide), ih.2 l2 0 _ o2 (w45_0 (w45_0 e (ix_ge fa (by decide))) (Nat.le_trans (by decide) (ix_ge fb (m := 9) (by decide)))) g2 z0 (by omega)⟩
    · have gj := gap_inc (N := 8) f2 (by decide)
      refine r_X11_goesAway_54 l1 l2 l3 ⟨fun _ => ih.1 (l2 + 1) h ok e (R_add f2 c1 0 7 (by decide)) (by omega), fun c => ?_⟩
      have g3 : R 0 3 l3 := rf_lt_l f3 c4 (nle c) 3 (by decide)
      have gi := gap_inc (N := 4) g3 (by decide)
      have f4 : R 0 24 (4 * l2) := R_mul c4 f2 0 24 (by decide)
      have fx : R 0 27 ((4 * l2) + l3) := R_add f4 g3 0 27 (by decide)
      have fx4 : R 4 31 (((4 * l2) + 4) + l3) := R_add (R_add f4 c4 4 28 (by decide)) g3 4 31 (by decide)
      have fy : R 17 44 ((17 + (4 * l2)) + l3) := R_add (R_add c17 f4 17 41 (by decide)) g3 17 44 (by decide)
      have fy4 : R 21 48 (((17 + (4 * l2)) + 4) + l3) := R_add (R_add (R_add c17 f4 17 41 (by decide)) c4 21 45 (by decide)) g3 21 48 (by decide)
      have o1 := Ok_w ok (k := 45) (j := ((17 + (4 * l2)) + l3).toNatClampNeg) (v := mI h 45 (((17 + (4 * l2)) + 4) + l3).toNatClampNeg) (lo := -2147483648) (hi := 2147483647) (rgg_45_0 (ix_ge fy (by decide)) (ix_le fy (by decide))) (R_full _) (by decide) (nt_k (by decide))
      have o2 := Ok_w o1 (k := 47) (j := ((4 * l2) + l3).toNatClampNeg) (v := mI (wI h 45 ((17 + (4 * l2)) + l3).toNatClampNeg (mI h 45 (((17 + (4 * l2)) + 4) + l3).toNatClampNeg)) 47 (((4 * l2) + 4) + l3).toNatClampNeg) (rgc_47 _) (R_full _) (by decide) (nt_k (by decide))
      exact ⟨vin fy4 (by decide), vin fy (by decide), vin fx4 (by decide), vin fx (by decide), ih.2 l2 (l3 + 1) _ o2 (w47_0 (w45_0 e (Nat.le_trans (by decide) (ix_ge fy (m := 17) (by decide))))) f2 (R_add g3 c1 0 4 (by decide)) (by omega)⟩
theorem s_X11_goesAway {g : gT} {h : mh_T} {P : mh_T → Prop} (l1 : Int32) (hG : GI h) (fl1 : R 0 7 l1) (fm : R 1 8 (mI h 45 (Int32.toNatClampNeg 0))) (hp : ∀ h', Ok [45, 47] h h' → mI h' 45 (Int32.toNatClampNeg 0) = (mI h 45 (Int32.toNatClampNeg 0)) - 1 → P h') : MCv g yX11_goesAway uX11_goesAway [.ref 11, .int l1] h P := by
  have := gap_le (N := 8) fl1 (m := 8) (by decide)
  exact e_X11_goesAway l1 ((s_X11_goesAway_2 l1 _ fm hp 100).1 l1 h (Ok_rf hG) rfl fl1 (by omega))
set_option maxRecDepth 100000 in
set_option maxHeartbeats 4000000 in
theorem s_X11_drop {g : gT} {h : mh_T} {P : Int32 → mh_T → Prop} (l1 : Int32) (hG : GI h)  (hp : ∀ (r : Int32) h', Ok [300, 11, 45, 47, 48, 49, 50, 51, 52, 53] h h' → R 0 1 r → ¬ mI h' 11 11 = 4 → P r h') : MCi g yX11_drop uX11_drop [.ref 11, .int l1] h P := by
  have ok : Ok [300, 11, 45, 47, 48, 49, 50, 51, 52, 53] h h := Ok_rf hG
  refine e_X11_drop l1  ?_
  refine s_X11_good ok.1 (fun h1 ko_30 t4 => ?_)
  have ok_31 := Ok_tr ok ko_30 (by decide)
  have hp : ∀ (r : Int32) h', Ok [300, 11, 45, 47, 48, 49, 50, 51, 52, 53] h1 h' → R 0 1 r → P r h' := fun r h' k x0 => hp r h' (Ok_tr ok_31 k (by decide)) x0 (k.2.2.2.2.2.2 t4)
  have ok_31 : Ok [300, 11, 45, 47, 48, 49, 50, 51, 52, 53] h1 h1 := Ok_rf ok_31.1
  refine s_X11_isSet l1 ok_31.1 (fun r3 f_33 im_32 => ?_)
  refine ⟨fun c_34 => ?_, fun c_34 => ?_⟩
  · have f_35 : R 0 0 0 := ⟨by decide, by decide⟩
    have f_36 := (im_32 c_34).1
    have f_37 := (im_32 c_34).2
    have f_38 : R 1 1 r3 := rf_ne_lo f_33 c_34 (by decide) 1 rfl
    have f_39 : R 0 0 0 := ⟨by decide, by decide⟩
    have f_40 : R 0 0 0 := ⟨by decide, by decide⟩
    have f_41 : R 49 49 49 := ⟨by decide, by decide⟩
    have f_42 : R 0 0 0 := ⟨by decide, by decide⟩
    have f_43 : R 0 0 0 := ⟨by decide, by decide⟩
    have f_44 : R 49 49 49 := ⟨by decide, by decide⟩
    refine s_X11_copy_v0 45 346 0 48 49 0 49 rfl rfl ⟨rfl, rfl, rfl, rfl⟩ ok_31.1 (R_w f_44 (by decide)) (R_w f_42 (by decide)) (R_w f_43 (by decide)) (fun h5 ko_45 => ?_)
    have ok_46 := Ok_tr ok_31 ko_45 (by decide)
    have f_47 : R 1 8 (mI h5 45 (Int32.toNatClampNeg 0)) := Ok_rd ko_45 (by decide) f_37
    refine s_X11_goesAway l1 ok_46.1 (R_w f_36 (by decide)) (R_w f_47 (by decide)) (fun h6 ko_48 po_50 => ?_)
    have ok_49 := Ok_tr ok_46 ko_48 (by decide)
    refine s_X11_did 1 l1 (-2) (-2) (-2) ok_49.1 (fun r8 h7 ko_51 f_53 => ?_)
    have ok_52 := Ok_tr ok_49 ko_51 (by decide)
    exact ⟨R_z (R_w f_53 (by decide)), hp _ _ ok_52 (R_w f_53 (by decide))⟩
  · have f_54 : R 0 0 0 := ⟨by decide, by decide⟩
    have f_55 : R 0 0 r3 := rf_eq f_54 c_34
    refine s_X11_isNot 1 ok_31.1 (fun r10 h9 ko_56 f_58 => ?_)
    have ok_57 := Ok_tr ok_31 ko_56 (by decide)
    exact ⟨R_z (R_w f_58 (by decide)), hp _ _ ok_57 (R_w f_58 (by decide))⟩
set_option maxRecDepth 100000 in
set_option maxHeartbeats 4000000 in
theorem s_X11_shift {g : gT} {h : mh_T} {P : Int32 → mh_T → Prop} (l1 : Int32) (l2 : Int32) (l3 : Int32) (l4 : Int32) (hG : GI h)  (hp : ∀ (r : Int32) h', Ok [300, 11, 45, 48, 49, 50, 51, 52, 53] h h' → R 0 1 r → ¬ mI h' 11 11 = 4 → P r h') : MCi g yX11_shift uX11_shift [.ref 11, .int l1, .int l2, .int l3, .int l4] h P := by
  have ok : Ok [300, 11, 45, 48, 49, 50, 51, 52, 53] h h := Ok_rf hG
  refine e_X11_shift l1 l2 l3 l4  ?_
  refine s_X11_good ok.1 (fun h1 ko_78 t4 => ?_)
  have ok_79 := Ok_tr ok ko_78 (by decide)
  have hp : ∀ (r : Int32) h', Ok [300, 11, 45, 48, 49, 50, 51, 52, 53] h1 h' → R 0 1 r → P r h' := fun r h' k x0 => hp r h' (Ok_tr ok_79 k (by decide)) x0 (k.2.2.2.2.2.2 t4)
  have ok_79 : Ok [300, 11, 45, 48, 49, 50, 51, 52, 53] h1 h1 := Ok_rf ok_79.1
  refine s_X11_isOutcome l1 l2 ok_79.1 (fun r3 f_81 im_80 => ?_)
  refine ⟨fun c_82 => ?_, fun c_82 => ?_⟩
  · have f_83 : R 0 0 0 := ⟨by decide, by decide⟩
    have f_84 : R 0 0 r3 := rf_eq f_83 c_82
    refine s_X11_isNot 1 ok_79.1 (fun r6 h5 ko_85 f_87 => ?_)
    have ok_86 := Ok_tr ok_79 ko_85 (by decide)
    exact ⟨R_z (R_w f_87 (by decide)), hp _ _ ok_86 (R_w f_87 (by decide))⟩
  · have f_88 : R 0 0 0 := ⟨by decide, by decide⟩
    have f_89 := (im_80 c_82).1
    have f_90 := (im_80 c_82).2
    have f_91 : R 1 1 r3 := rf_ne_lo f_81 c_82 (by decide) 1 rfl
    refine s_X11_isOutcome l1 l3 ok_79.1 (fun r8 f_93 im_92 => ?_)
    refine ⟨fun c_94 => ?_, fun c_94 => ?_⟩
    · have f_95 : R 0 0 0 := ⟨by decide, by decide⟩
      have f_96 : R 0 0 r8 := rf_eq f_95 c_94
      refine s_X11_isNot 1 ok_79.1 (fun r11 h10 ko_97 f_99 => ?_)
      have ok_98 := Ok_tr ok_79 ko_97 (by decide)
      exact ⟨R_z (R_w f_99 (by decide)), hp _ _ ok_98 (R_w f_99 (by decide))⟩
    · have f_100 : R 0 0 0 := ⟨by decide, by decide⟩
      have f_101 := (im_92 c_94).1
      have f_102 := (im_92 c_94).2
      have f_103 : R 1 1 r8 := rf_ne_lo f_93 c_94 (by decide) 1 rfl
      refine ⟨fun c_104 => ?_, fun c_104 => ?_⟩
      · refine s_X11_within l4 1 60 ok_79.1 (fun r14 f_106 im_105 => ?_)
        refine ⟨fun c_107 => ?_, fun c_107 => ?_⟩
        · have f_108 : R 0 0 0 := ⟨by decide, by decide⟩
          have f_109 : R 1 1 1 := ⟨by decide, by decide⟩
          have f_110 : R 1 2147483647 l4 := rf_le_r f_109 (R_full l4) (im_105 c_107).1 1 (by decide)
          have f_111 : R 60 60 60 := ⟨by decide, by decide⟩
          have f_112 : R 1 60 l4 := rf_le_l f_110 f_111 (im_105 c_107).2 60 (by decide)
          have f_113 : R 1 1 r14 := rf_ne_lo f_106 c_107 (by decide) 1 rfl
          have f_116 : R 17 17 17 := ⟨by decide, by decide⟩
          have f_118 : R 4 4 4 := ⟨by decide, by decide⟩
          have f_117 : R 0 28 (4 * l1) := R_mul f_118 f_89 0 28 (by decide)
          have f_115 : R 17 45 (17 + (4 * l1)) := R_add f_116 f_117 17 45 (by decide)
          have f_114 : R 17 48 ((17 + (4 * l1)) + l2) := R_add f_115 f_90 17 48 (by decide)
          refine ⟨vin f_114 (by decide), ?_⟩
          refine ⟨fun c_119 => ?_, fun c_119 => ?_⟩
          · have f_121 : R (-2147483648) 2147483647 (mI h 45 ((17 + (4 * l1)) + l2).toNatClampNeg) := R_full _
            have f_120 : R (-2147483648) 2147483647 (mI h1 45 ((17 + (4 * l1)) + l2).toNatClampNeg) := Ok_rd ko_78 (by decide) f_121
            have f_122 : R 1 2147483647 (mI h1 45 ((17 + (4 * l1)) + l2).toNatClampNeg) := rf_le_r f_112 f_120 c_119 1 (by decide)
            have f_123 : R 0 0 0 := ⟨by decide, by decide⟩
            have f_124 : R 0 0 0 := ⟨by decide, by decide⟩
            have f_125 : R 49 49 49 := ⟨by decide, by decide⟩
            have f_126 : R 0 0 0 := ⟨by decide, by decide⟩
            have f_127 : R 0 0 0 := ⟨by decide, by decide⟩
            have f_128 : R 49 49 49 := ⟨by decide, by decide⟩
            refine s_X11_copy_v0 45 346 0 48 49 0 49 rfl rfl ⟨rfl, rfl, rfl, rfl⟩ ok_79.1 (R_w f_128 (by decide)) (R_w f_126 (by decide)) (R_w f_127 (by decide)) (fun h18 ko_129 => ?_)
            have ok_130 := Ok_tr ok_79 ko_129 (by decide)
            refine ⟨vin f_114 (by decide), ?_⟩
            refine ⟨vin f_114 (by decide), ?_⟩
            have f_131 : R 17 48 ((17 + (4 * l1)) + l3) := R_add f_115 f_102 17 48 (by decide)
            refine ⟨vin f_131 (by decide), ?_⟩
            refine ⟨vin f_131 (by decide), ?_⟩
            have f_133 : R 1 2147483647 (mI h18 45 ((17 + (4 * l1)) + l2).toNatClampNeg) := Ok_rd ko_129 (by decide) f_122
            have f_132 : R (-59) 2147483646 ((mI h18 45 ((17 + (4 * l1)) + l2).toNatClampNeg) - l4) := R_sub f_133 f_112 (-59) 2147483646 (by decide)
            have ok_134 := Ok_w ok_130 (k := 45) (j := ((17 + (4 * l1)) + l2).toNatClampNeg) (v := ((mI h18 45 ((17 + (4 * l1)) + l2).toNatClampNeg) - l4)) (lo := (-2147483648)) (hi := 2147483647) (rgg_45_0 (ix_ge f_114 (by decide)) (ix_le f_114 (by decide))) (R_w f_132 (by decide)) (by decide) (nt_k (by decide))
            have f_136 : R (-2147483648) 2147483647 (mI (wI h18 45 ((17 + (4 * l1)) + l2).toNatClampNeg ((mI h18 45 ((17 + (4 * l1)) + l2).toNatClampNeg) - l4)) 45 ((17 + (4 * l1)) + l3).toNatClampNeg) := R_full _
            have f_135 : R (-2147483648) 2147483647 ((mI (wI h18 45 ((17 + (4 * l1)) + l2).toNatClampNeg ((mI h18 45 ((17 + (4 * l1)) + l2).toNatClampNeg) - l4)) 45 ((17 + (4 * l1)) + l3).toNatClampNeg) + l4) := R_full _
            have ok_137 := Ok_w ok_134 (k := 45) (j := ((17 + (4 * l1)) + l3).toNatClampNeg) (v := ((mI (wI h18 45 ((17 + (4 * l1)) + l2).toNatClampNeg ((mI h18 45 ((17 + (4 * l1)) + l2).toNatClampNeg) - l4)) 45 ((17 + (4 * l1)) + l3).toNatClampNeg) + l4)) (lo := (-2147483648)) (hi := 2147483647) (rgg_45_0 (ix_ge f_131 (by decide)) (ix_le f_131 (by decide))) f_135 (by decide) (nt_k (by decide))
            refine s_X11_did 3 l1 l2 l3 l4 ok_137.1 (fun r24 h23 ko_138 f_140 => ?_)
            have ok_139 := Ok_tr ok_137 ko_138 (by decide)
            exact ⟨R_z (R_w f_140 (by decide)), hp _ _ ok_139 (R_w f_140 (by decide))⟩
          · have f_142 : R (-2147483648) 2147483647 (mI h 45 ((17 + (4 * l1)) + l2).toNatClampNeg) := R_full _
            have f_141 : R (-2147483648) 2147483647 (mI h1 45 ((17 + (4 * l1)) + l2).toNatClampNeg) := Ok_rd ko_78 (by decide) f_142
            have f_143 : R (-2147483648) 59 (mI h1 45 ((17 + (4 * l1)) + l2).toNatClampNeg) := rf_lt_l f_141 f_112 (nle c_119) 59 (by decide)
            refine s_X11_isNot 5 ok_79.1 (fun r26 h25 ko_144 f_146 => ?_)
            have ok_145 := Ok_tr ok_79 ko_144 (by decide)
            exact ⟨R_z (R_w f_146 (by decide)), hp _ _ ok_145 (R_w f_146 (by decide))⟩
        · have f_147 : R 0 0 0 := ⟨by decide, by decide⟩
          have f_148 : R 0 0 r14 := rf_eq f_147 c_107
          refine s_X11_isNot 2 ok_79.1 (fun r28 h27 ko_149 f_151 => ?_)
          have ok_150 := Ok_tr ok_79 ko_149 (by decide)
          exact ⟨R_z (R_w f_151 (by decide)), hp _ _ ok_150 (R_w f_151 (by decide))⟩
      · refine s_X11_isNot 1 ok_79.1 (fun r30 h29 ko_152 f_154 => ?_)
        have ok_153 := Ok_tr ok_79 ko_152 (by decide)
        exact ⟨R_z (R_w f_154 (by decide)), hp _ _ ok_153 (R_w f_154 (by decide))⟩
set_option maxRecDepth 100000 in
set_option maxHeartbeats 4000000 in
theorem s_X11_undo {g : gT} {h : mh_T} {P : Int32 → mh_T → Prop}  (hG : GI h)  (hp : ∀ (r : Int32) h', Ok [300, 11, 45, 47, 48, 49, 50, 51, 52, 53] h h' → R 0 1 r → ¬ mI h' 11 11 = 4 → P r h') : MCi g yX11_undo uX11_undo [.ref 11] h P := by
  have ok : Ok [300, 11, 45, 47, 48, 49, 50, 51, 52, 53] h h := Ok_rf hG
  refine e_X11_undo   ?_
  refine s_X11_good ok.1 (fun h1 ko_76 t4 => ?_)
  have ok_77 := Ok_tr ok ko_76 (by decide)
  have hp : ∀ (r : Int32) h', Ok [300, 11, 45, 47, 48, 49, 50, 51, 52, 53] h1 h' → R 0 1 r → P r h' := fun r h' k x0 => hp r h' (Ok_tr ok_77 k (by decide)) x0 (k.2.2.2.2.2.2 t4)
  have ok_77 : Ok [300, 11, 45, 47, 48, 49, 50, 51, 52, 53] h1 h1 := Ok_rf ok_77.1
  refine ⟨fun c_78 => ?_, fun c_78 => ?_⟩
  · have f_79 : R 0 20 (mI h1 11 24) := GI_rd ok_77.1 11 _ (by decide)
    have f_80 : R 0 0 0 := ⟨by decide, by decide⟩
    have f_81 : R 1 20 (mI h1 11 24) := rf_ne_lo f_79 c_78 (by decide) 1 rfl
    have f_82 : R 0 0 0 := ⟨by decide, by decide⟩
    have f_83 : R 0 0 0 := ⟨by decide, by decide⟩
    have f_84 : R 49 49 49 := ⟨by decide, by decide⟩
    have f_86 : R 1 1 1 := ⟨by decide, by decide⟩
    have f_85 : R 0 19 ((mI h1 11 24) - 1) := R_sub f_81 f_86 0 19 (by decide)
    have ok_87 := Ok_w ok_77 (k := 11) (j := 24) (v := ((mI h1 11 24) - 1)) (lo := 0) (hi := 20) (by decide) (R_w f_85 (by decide)) (by decide) (by decide)
    have f_88 : R 0 0 0 := ⟨by decide, by decide⟩
    have f_89 : R 0 0 0 := ⟨by decide, by decide⟩
    have f_90 : R 49 49 49 := ⟨by decide, by decide⟩
    refine s_X11_copy_v0 45 346 0 48 49 0 49 rfl rfl ⟨rfl, rfl, rfl, rfl⟩ ok_87.1 (R_w f_90 (by decide)) (R_w f_88 (by decide)) (R_w f_89 (by decide)) (fun h3 ko_91 => ?_)
    have ok_92 := Ok_tr ok_87 ko_91 (by decide)
    intro x4 ex4
    have f_94 : R 5 5 5 := ⟨by decide, by decide⟩
    have f_96 : R 0 19 (mI (wI h1 11 24 ((mI h1 11 24) - 1)) 11 24) := (rd_eq f_85)
    have f_95 : R 0 19 (mI h3 11 24) := Ok_rd ko_91 (by decide) f_96
    have f_93 : R 0 95 (5 * (mI h3 11 24)) := R_mul f_94 f_95 0 95 (by decide)
    have f_97 : R 0 95 x4 := rf_eq f_93 ex4
    refine ⟨vin f_97 (by decide), ?_⟩
    have f_99 : R 1 1 1 := ⟨by decide, by decide⟩
    have f_98 : R 1 96 (x4 + 1) := R_add f_97 f_99 1 96 (by decide)
    refine ⟨vin f_98 (by decide), ?_⟩
    have f_101 : R 2 2 2 := ⟨by decide, by decide⟩
    have f_100 : R 2 97 (x4 + 2) := R_add f_97 f_101 2 97 (by decide)
    refine ⟨vin f_100 (by decide), ?_⟩
    have f_103 : R 3 3 3 := ⟨by decide, by decide⟩
    have f_102 : R 3 98 (x4 + 3) := R_add f_97 f_103 3 98 (by decide)
    refine ⟨vin f_102 (by decide), ?_⟩
    have f_105 : R 4 4 4 := ⟨by decide, by decide⟩
    have f_104 : R 4 99 (x4 + 4) := R_add f_97 f_105 4 99 (by decide)
    refine ⟨vin f_104 (by decide), ?_⟩
    have f_108 : R 0 20 (mI h1 11 25) := GI_rd ok_77.1 11 _ (by decide)
    have f_107 : R 0 20 (mI (wI h1 11 24 ((mI h1 11 24) - 1)) 11 25) := (rd_nj f_108 (by decide))
    have f_106 : R 0 20 (mI h3 11 25) := Ok_rd ko_91 (by decide) f_107
    refine s_X11_keep_v1 50 980 53 100 (mI h3 11 25) 48 49 (mI h3 52 x4.toNatClampNeg) (mI h3 52 (x4 + 1).toNatClampNeg) (mI h3 52 (x4 + 2).toNatClampNeg) (mI h3 52 (x4 + 3).toNatClampNeg) (mI h3 52 (x4 + 4).toNatClampNeg) rfl rfl rfl ⟨rfl, rfl, rfl, rfl, rfl, rfl⟩ ok_92.1 (R_w f_106 (by decide)) (fun h10 ko_109 => ?_)
    have ok_110 := Ok_tr ok_92 ko_109 (by decide)
    refine ⟨fun c_111 => ?_, fun c_111 => ?_⟩
    · have f_112 : R 0 20 (mI h10 11 25) := Ok_rd ko_109 (by decide) f_106
      have f_113 : R 20 20 20 := ⟨by decide, by decide⟩
      have f_114 : R 0 19 (mI h10 11 25) := rf_ne_hi f_112 c_111 (by decide) 19 rfl
      have f_115 : R 0 0 0 := ⟨by decide, by decide⟩
      have f_116 : R 49 49 49 := ⟨by decide, by decide⟩
      have f_118 : R 1 1 1 := ⟨by decide, by decide⟩
      have f_117 : R 1 20 ((mI h10 11 25) + 1) := R_add f_114 f_118 1 20 (by decide)
      have ok_119 := Ok_w ok_110 (k := 11) (j := 25) (v := ((mI h10 11 25) + 1)) (lo := 0) (hi := 20) (by decide) (R_w f_117 (by decide)) (by decide) (by decide)
      have f_120 : R 0 0 0 := ⟨by decide, by decide⟩
      have f_121 : R 49 49 49 := ⟨by decide, by decide⟩
      have f_123 : R 0 19 (mI h10 11 24) := Ok_rd ko_109 (by decide) f_95
      have f_122 : R 0 19 (mI (wI h10 11 25 ((mI h10 11 25) + 1)) 11 24) := (rd_nj f_123 (by decide))
      refine s_X11_copy_v2 49 980 (49 * (mI (wI h10 11 25 ((mI h10 11 25) + 1)) 11 24)) 45 346 0 49 rfl rfl ⟨rfl, rfl, rfl, rfl⟩ ok_119.1 (R_w f_121 (by decide)) ⟨(mI (wI h10 11 25 ((mI h10 11 25) + 1)) 11 24), rfl, R_w f_122 (by decide)⟩ (R_w f_120 (by decide)) (fun h12 ko_124 => ?_)
      have ok_125 := Ok_tr ok_119 ko_124 (by decide)
      refine s_X11_noCoins ok_125.1 (fun h13 ko_126 => ?_)
      have ok_127 := Ok_tr ok_125 ko_126 (by decide)
      have f_128 : R 1 1 1 := ⟨by decide, by decide⟩
      exact hp _ _ ok_127 (R_w f_128 (by decide))
    · have f_129 : R 0 20 (mI h10 11 25) := Ok_rd ko_109 (by decide) f_106
      have f_130 : R 20 20 20 := ⟨by decide, by decide⟩
      have f_131 : R 20 20 (mI h10 11 25) := rf_eq f_130 c_111
      have f_132 : R 0 0 0 := ⟨by decide, by decide⟩
      have f_133 : R 49 49 49 := ⟨by decide, by decide⟩
      have f_134 : R 20 20 20 := ⟨by decide, by decide⟩
      have ok_135 := Ok_w ok_110 (k := 11) (j := 25) (v := 20) (lo := 0) (hi := 20) (by decide) (R_w f_134 (by decide)) (by decide) (by decide)
      have f_136 : R 0 0 0 := ⟨by decide, by decide⟩
      have f_137 : R 49 49 49 := ⟨by decide, by decide⟩
      have f_139 : R 0 19 (mI h10 11 24) := Ok_rd ko_109 (by decide) f_95
      have f_138 : R 0 19 (mI (wI h10 11 25 20) 11 24) := (rd_nj f_139 (by decide))
      refine s_X11_copy_v2 49 980 (49 * (mI (wI h10 11 25 20) 11 24)) 45 346 0 49 rfl rfl ⟨rfl, rfl, rfl, rfl⟩ ok_135.1 (R_w f_137 (by decide)) ⟨(mI (wI h10 11 25 20) 11 24), rfl, R_w f_138 (by decide)⟩ (R_w f_136 (by decide)) (fun h14 ko_140 => ?_)
      have ok_141 := Ok_tr ok_135 ko_140 (by decide)
      refine s_X11_noCoins ok_141.1 (fun h15 ko_142 => ?_)
      have ok_143 := Ok_tr ok_141 ko_142 (by decide)
      have f_144 : R 1 1 1 := ⟨by decide, by decide⟩
      exact hp _ _ ok_143 (R_w f_144 (by decide))
  · have f_145 : R 0 20 (mI h1 11 24) := GI_rd ok_77.1 11 _ (by decide)
    have f_146 : R 0 0 0 := ⟨by decide, by decide⟩
    have f_147 : R 0 0 (mI h1 11 24) := rf_eq f_146 c_78
    refine s_X11_isNot 6 ok_77.1 (fun r17 h16 ko_148 f_150 => ?_)
    have ok_149 := Ok_tr ok_77 ko_148 (by decide)
    exact ⟨R_z (R_w f_150 (by decide)), hp _ _ ok_149 (R_w f_150 (by decide))⟩
set_option maxRecDepth 100000 in
set_option maxHeartbeats 4000000 in
theorem s_X11_redo {g : gT} {h : mh_T} {P : Int32 → mh_T → Prop}  (hG : GI h)  (hp : ∀ (r : Int32) h', Ok [300, 11, 45, 47, 48, 49, 50, 51, 52, 53] h h' → R 0 1 r → ¬ mI h' 11 11 = 4 → P r h') : MCi g yX11_redo uX11_redo [.ref 11] h P := by
  have ok : Ok [300, 11, 45, 47, 48, 49, 50, 51, 52, 53] h h := Ok_rf hG
  refine e_X11_redo   ?_
  refine s_X11_good ok.1 (fun h1 ko_76 t4 => ?_)
  have ok_77 := Ok_tr ok ko_76 (by decide)
  have hp : ∀ (r : Int32) h', Ok [300, 11, 45, 47, 48, 49, 50, 51, 52, 53] h1 h' → R 0 1 r → P r h' := fun r h' k x0 => hp r h' (Ok_tr ok_77 k (by decide)) x0 (k.2.2.2.2.2.2 t4)
  have ok_77 : Ok [300, 11, 45, 47, 48, 49, 50, 51, 52, 53] h1 h1 := Ok_rf ok_77.1
  refine ⟨fun c_78 => ?_, fun c_78 => ?_⟩
  · have f_79 : R 0 20 (mI h1 11 25) := GI_rd ok_77.1 11 _ (by decide)
    have f_80 : R 0 0 0 := ⟨by decide, by decide⟩
    have f_81 : R 1 20 (mI h1 11 25) := rf_ne_lo f_79 c_78 (by decide) 1 rfl
    have f_82 : R 0 0 0 := ⟨by decide, by decide⟩
    have f_83 : R 0 0 0 := ⟨by decide, by decide⟩
    have f_84 : R 49 49 49 := ⟨by decide, by decide⟩
    have f_86 : R 1 1 1 := ⟨by decide, by decide⟩
    have f_85 : R 0 19 ((mI h1 11 25) - 1) := R_sub f_81 f_86 0 19 (by decide)
    have ok_87 := Ok_w ok_77 (k := 11) (j := 25) (v := ((mI h1 11 25) - 1)) (lo := 0) (hi := 20) (by decide) (R_w f_85 (by decide)) (by decide) (by decide)
    have f_88 : R 0 0 0 := ⟨by decide, by decide⟩
    have f_89 : R 0 0 0 := ⟨by decide, by decide⟩
    have f_90 : R 49 49 49 := ⟨by decide, by decide⟩
    refine s_X11_copy_v0 45 346 0 48 49 0 49 rfl rfl ⟨rfl, rfl, rfl, rfl⟩ ok_87.1 (R_w f_90 (by decide)) (R_w f_88 (by decide)) (R_w f_89 (by decide)) (fun h3 ko_91 => ?_)
    have ok_92 := Ok_tr ok_87 ko_91 (by decide)
    intro x4 ex4
    have f_94 : R 5 5 5 := ⟨by decide, by decide⟩
    have f_96 : R 0 19 (mI (wI h1 11 25 ((mI h1 11 25) - 1)) 11 25) := (rd_eq f_85)
    have f_95 : R 0 19 (mI h3 11 25) := Ok_rd ko_91 (by decide) f_96
    have f_93 : R 0 95 (5 * (mI h3 11 25)) := R_mul f_94 f_95 0 95 (by decide)
    have f_97 : R 0 95 x4 := rf_eq f_93 ex4
    refine ⟨vin f_97 (by decide), ?_⟩
    have f_99 : R 1 1 1 := ⟨by decide, by decide⟩
    have f_98 : R 1 96 (x4 + 1) := R_add f_97 f_99 1 96 (by decide)
    refine ⟨vin f_98 (by decide), ?_⟩
    have f_101 : R 2 2 2 := ⟨by decide, by decide⟩
    have f_100 : R 2 97 (x4 + 2) := R_add f_97 f_101 2 97 (by decide)
    refine ⟨vin f_100 (by decide), ?_⟩
    have f_103 : R 3 3 3 := ⟨by decide, by decide⟩
    have f_102 : R 3 98 (x4 + 3) := R_add f_97 f_103 3 98 (by decide)
    refine ⟨vin f_102 (by decide), ?_⟩
    have f_105 : R 4 4 4 := ⟨by decide, by decide⟩
    have f_104 : R 4 99 (x4 + 4) := R_add f_97 f_105 4 99 (by decide)
    refine ⟨vin f_104 (by decide), ?_⟩
    have f_108 : R 0 20 (mI h1 11 24) := GI_rd ok_77.1 11 _ (by decide)
    have f_107 : R 0 20 (mI (wI h1 11 25 ((mI h1 11 25) - 1)) 11 24) := (rd_nj f_108 (by decide))
    have f_106 : R 0 20 (mI h3 11 24) := Ok_rd ko_91 (by decide) f_107
    refine s_X11_keep_v0 49 980 52 100 (mI h3 11 24) 48 49 (mI h3 53 x4.toNatClampNeg) (mI h3 53 (x4 + 1).toNatClampNeg) (mI h3 53 (x4 + 2).toNatClampNeg) (mI h3 53 (x4 + 3).toNatClampNeg) (mI h3 53 (x4 + 4).toNatClampNeg) rfl rfl rfl ⟨rfl, rfl, rfl, rfl, rfl, rfl⟩ ok_92.1 (R_w f_106 (by decide)) (fun h10 ko_109 => ?_)
    have ok_110 := Ok_tr ok_92 ko_109 (by decide)
    refine ⟨fun c_111 => ?_, fun c_111 => ?_⟩
    · have f_112 : R 0 20 (mI h10 11 24) := Ok_rd ko_109 (by decide) f_106
      have f_113 : R 20 20 20 := ⟨by decide, by decide⟩
      have f_114 : R 0 19 (mI h10 11 24) := rf_ne_hi f_112 c_111 (by decide) 19 rfl
      have f_115 : R 0 0 0 := ⟨by decide, by decide⟩
      have f_116 : R 49 49 49 := ⟨by decide, by decide⟩
      have f_118 : R 1 1 1 := ⟨by decide, by decide⟩
      have f_117 : R 1 20 ((mI h10 11 24) + 1) := R_add f_114 f_118 1 20 (by decide)
      have ok_119 := Ok_w ok_110 (k := 11) (j := 24) (v := ((mI h10 11 24) + 1)) (lo := 0) (hi := 20) (by decide) (R_w f_117 (by decide)) (by decide) (by decide)
      have f_120 : R 0 0 0 := ⟨by decide, by decide⟩
      have f_121 : R 49 49 49 := ⟨by decide, by decide⟩
      have f_123 : R 0 19 (mI h10 11 25) := Ok_rd ko_109 (by decide) f_95
      have f_122 : R 0 19 (mI (wI h10 11 24 ((mI h10 11 24) + 1)) 11 25) := (rd_nj f_123 (by decide))
      refine s_X11_copy_v3 50 980 (49 * (mI (wI h10 11 24 ((mI h10 11 24) + 1)) 11 25)) 45 346 0 49 rfl rfl ⟨rfl, rfl, rfl, rfl⟩ ok_119.1 (R_w f_121 (by decide)) ⟨(mI (wI h10 11 24 ((mI h10 11 24) + 1)) 11 25), rfl, R_w f_122 (by decide)⟩ (R_w f_120 (by decide)) (fun h12 ko_124 => ?_)
      have ok_125 := Ok_tr ok_119 ko_124 (by decide)
      refine s_X11_noCoins ok_125.1 (fun h13 ko_126 => ?_)
      have ok_127 := Ok_tr ok_125 ko_126 (by decide)
      have f_128 : R 1 1 1 := ⟨by decide, by decide⟩
      exact hp _ _ ok_127 (R_w f_128 (by decide))
    · have f_129 : R 0 20 (mI h10 11 24) := Ok_rd ko_109 (by decide) f_106
      have f_130 : R 20 20 20 := ⟨by decide, by decide⟩
      have f_131 : R 20 20 (mI h10 11 24) := rf_eq f_130 c_111
      have f_132 : R 0 0 0 := ⟨by decide, by decide⟩
      have f_133 : R 49 49 49 := ⟨by decide, by decide⟩
      have f_134 : R 20 20 20 := ⟨by decide, by decide⟩
      have ok_135 := Ok_w ok_110 (k := 11) (j := 24) (v := 20) (lo := 0) (hi := 20) (by decide) (R_w f_134 (by decide)) (by decide) (by decide)
      have f_136 : R 0 0 0 := ⟨by decide, by decide⟩
      have f_137 : R 49 49 49 := ⟨by decide, by decide⟩
      have f_139 : R 0 19 (mI h10 11 25) := Ok_rd ko_109 (by decide) f_95
      have f_138 : R 0 19 (mI (wI h10 11 24 20) 11 25) := (rd_nj f_139 (by decide))
      refine s_X11_copy_v3 50 980 (49 * (mI (wI h10 11 24 20) 11 25)) 45 346 0 49 rfl rfl ⟨rfl, rfl, rfl, rfl⟩ ok_135.1 (R_w f_137 (by decide)) ⟨(mI (wI h10 11 24 20) 11 25), rfl, R_w f_138 (by decide)⟩ (R_w f_136 (by decide)) (fun h14 ko_140 => ?_)
      have ok_141 := Ok_tr ok_135 ko_140 (by decide)
      refine s_X11_noCoins ok_141.1 (fun h15 ko_142 => ?_)
      have ok_143 := Ok_tr ok_141 ko_142 (by decide)
      have f_144 : R 1 1 1 := ⟨by decide, by decide⟩
      exact hp _ _ ok_143 (R_w f_144 (by decide))
  · have f_145 : R 0 20 (mI h1 11 25) := GI_rd ok_77.1 11 _ (by decide)
    have f_146 : R 0 0 0 := ⟨by decide, by decide⟩
    have f_147 : R 0 0 (mI h1 11 25) := rf_eq f_146 c_78
    refine s_X11_isNot 6 ok_77.1 (fun r17 h16 ko_148 f_150 => ?_)
    have ok_149 := Ok_tr ok_77 ko_148 (by decide)
    exact ⟨R_z (R_w f_150 (by decide)), hp _ _ ok_149 (R_w f_150 (by decide))⟩
set_option maxRecDepth 100000 in
set_option maxHeartbeats 4000000 in
theorem s_X11_mark {g : gT} {h : mh_T} {P : Int32 → mh_T → Prop}  (hG : GI h)  (hp : ∀ (r : Int32) h', Ok [300, 11, 45, 48, 49, 50, 51] h h' → R (-1) 3 r → ¬ mI h' 11 11 = 4 → P r h') : MCi g yX11_mark uX11_mark [.ref 11] h P := by
  have ok : Ok [300, 11, 45, 48, 49, 50, 51] h h := Ok_rf hG
  refine e_X11_mark   ?_
  refine s_X11_good ok.1 (fun h1 ko_36 t4 => ?_)
  have ok_37 := Ok_tr ok ko_36 (by decide)
  have hp : ∀ (r : Int32) h', Ok [300, 11, 45, 48, 49, 50, 51] h1 h' → R (-1) 3 r → P r h' := fun r h' k x0 => hp r h' (Ok_tr ok_37 k (by decide)) x0 (k.2.2.2.2.2.2 t4)
  have ok_37 : Ok [300, 11, 45, 48, 49, 50, 51] h1 h1 := Ok_rf ok_37.1
  refine ⟨fun c_38 => ?_, fun c_38 => ?_⟩
  · have f_39 : R 0 1 (mI h1 11 14) := GI_rd ok_37.1 11 _ (by decide)
    have f_40 : R 0 0 0 := ⟨by decide, by decide⟩
    have f_41 : R 1 1 (mI h1 11 14) := rf_ne_lo f_39 c_38 (by decide) 1 rfl
    refine ⟨fun c_42 => ?_, fun c_42 => ?_⟩
    · have f_43 : R 0 4 (mI h1 11 26) := GI_rd ok_37.1 11 _ (by decide)
      have f_44 : R 4 4 4 := ⟨by decide, by decide⟩
      have f_45 : R 0 3 (mI h1 11 26) := rf_ne_hi f_43 c_42 (by decide) 3 rfl
      have f_46 : R 0 0 0 := ⟨by decide, by decide⟩
      have f_47 : R 49 49 49 := ⟨by decide, by decide⟩
      have f_48 : R 0 0 0 := ⟨by decide, by decide⟩
      have f_49 : R 49 49 49 := ⟨by decide, by decide⟩
      refine s_X11_copy_v1 45 346 0 51 196 (49 * (mI h1 11 26)) 49 rfl rfl ⟨rfl, rfl, rfl, rfl⟩ ok_37.1 (R_w f_49 (by decide)) (R_w f_48 (by decide)) ⟨(mI h1 11 26), rfl, R_w f_45 (by decide)⟩ (fun h4 ko_50 => ?_)
      have ok_51 := Ok_tr ok_37 ko_50 (by decide)
      have f_53 : R 0 3 (mI h4 11 26) := Ok_rd ko_50 (by decide) f_45
      have f_54 : R 1 1 1 := ⟨by decide, by decide⟩
      have f_52 : R 1 4 ((mI h4 11 26) + 1) := R_add f_53 f_54 1 4 (by decide)
      have ok_55 := Ok_w ok_51 (k := 11) (j := 26) (v := ((mI h4 11 26) + 1)) (lo := 0) (hi := 4) (by decide) (R_w f_52 (by decide)) (by decide) (by decide)
      have f_57 : R 1 4 (mI (wI h4 11 26 ((mI h4 11 26) + 1)) 11 26) := (rd_eq f_52)
      have f_58 : R 1 1 1 := ⟨by decide, by decide⟩
      have f_56 : R 0 3 ((mI (wI h4 11 26 ((mI h4 11 26) + 1)) 11 26) - 1) := R_sub f_57 f_58 0 3 (by decide)
      exact hp _ _ ok_55 (R_w f_56 (by decide))
    · have f_59 : R 0 4 (mI h1 11 26) := GI_rd ok_37.1 11 _ (by decide)
      have f_60 : R 4 4 4 := ⟨by decide, by decide⟩
      have f_61 : R 4 4 (mI h1 11 26) := rf_eq f_60 c_42
      refine s_X11_no 3 ok_37.1 (fun r6 h5 ko_62 f_64 => ?_)
      have ok_63 := Ok_tr ok_37 ko_62 (by decide)
      exact hp _ _ ok_63 (R_w f_64 (by decide))
  · have f_65 : R 0 1 (mI h1 11 14) := GI_rd ok_37.1 11 _ (by decide)
    have f_66 : R 0 0 0 := ⟨by decide, by decide⟩
    have f_67 : R 0 0 (mI h1 11 14) := rf_eq f_66 c_38
    refine s_X11_no 1 ok_37.1 (fun r8 h7 ko_68 f_70 => ?_)
    have ok_69 := Ok_tr ok_37 ko_68 (by decide)
    exact hp _ _ ok_69 (R_w f_70 (by decide))
set_option maxRecDepth 100000 in
set_option maxHeartbeats 4000000 in
theorem s_X11_back {g : gT} {h : mh_T} {P : Int32 → mh_T → Prop} (l1 : Int32) (hG : GI h)  (hp : ∀ (r : Int32) h', Ok [300, 11, 45, 47, 48, 49, 50, 51] h h' → R 0 1 r → ¬ mI h' 11 11 = 4 → P r h') : MCi g yX11_back uX11_back [.ref 11, .int l1] h P := by
  have ok : Ok [300, 11, 45, 47, 48, 49, 50, 51] h h := Ok_rf hG
  refine e_X11_back l1  ?_
  refine s_X11_good ok.1 (fun h1 ko_35 t4 => ?_)
  have ok_36 := Ok_tr ok ko_35 (by decide)
  have hp : ∀ (r : Int32) h', Ok [300, 11, 45, 47, 48, 49, 50, 51] h1 h' → R 0 1 r → P r h' := fun r h' k x0 => hp r h' (Ok_tr ok_36 k (by decide)) x0 (k.2.2.2.2.2.2 t4)
  have ok_36 : Ok [300, 11, 45, 47, 48, 49, 50, 51] h1 h1 := Ok_rf ok_36.1
  refine s_X11_within l1 0 ((mI h1 11 26) - 1) ok_36.1 (fun r3 f_38 im_37 => ?_)
  refine ⟨fun c_39 => ?_, fun c_39 => ?_⟩
  · have f_40 : R 0 0 0 := ⟨by decide, by decide⟩
    have f_41 : R 0 0 0 := ⟨by decide, by decide⟩
    have f_42 : R 0 2147483647 l1 := rf_le_r f_41 (R_full l1) (im_37 c_39).1 0 (by decide)
    have f_44 : R 0 4 (mI h1 11 26) := GI_rd ok_36.1 11 _ (by decide)
    have f_45 : R 1 1 1 := ⟨by decide, by decide⟩
    have f_43 : R (-1) 3 ((mI h1 11 26) - 1) := R_sub f_44 f_45 (-1) 3 (by decide)
    have f_46 : R 0 3 l1 := rf_le_l f_42 f_43 (im_37 c_39).2 3 (by decide)
    have f_47 : R 0 3 ((mI h1 11 26) - 1) := rf_le_r f_42 f_43 (im_37 c_39).2 0 (by decide)
    have f_48 : R 1 4 (mI h1 11 26) := R_um1 f_44 f_47 1 4 (by decide)
    have f_49 : R 1 1 r3 := rf_ne_lo f_38 c_39 (by decide) 1 rfl
    have f_50 : R 0 0 0 := ⟨by decide, by decide⟩
    have f_51 : R 49 49 49 := ⟨by decide, by decide⟩
    have f_52 : R 0 0 0 := ⟨by decide, by decide⟩
    have f_53 : R 49 49 49 := ⟨by decide, by decide⟩
    have f_54 : R 0 0 0 := ⟨by decide, by decide⟩
    refine s_X11_copy_v4 51 196 (49 * l1) 45 346 0 49 rfl rfl ⟨rfl, rfl, rfl, rfl⟩ ok_36.1 (R_w f_53 (by decide)) ⟨l1, rfl, R_w f_46 (by decide)⟩ (R_w f_52 (by decide)) (fun h5 ko_55 => ?_)
    have ok_56 := Ok_tr ok_36 ko_55 (by decide)
    have f_57 : R 0 0 0 := ⟨by decide, by decide⟩
    have ok_58 := Ok_w ok_56 (k := 11) (j := 24) (v := 0) (lo := 0) (hi := 20) (by decide) (R_w f_57 (by decide)) (by decide) (by decide)
    have f_59 : R 0 0 0 := ⟨by decide, by decide⟩
    have ok_60 := Ok_w ok_58 (k := 11) (j := 25) (v := 0) (lo := 0) (hi := 20) (by decide) (R_w f_59 (by decide)) (by decide) (by decide)
    refine s_X11_noCoins ok_60.1 (fun h6 ko_61 => ?_)
    have ok_62 := Ok_tr ok_60 ko_61 (by decide)
    have f_63 : R 1 1 1 := ⟨by decide, by decide⟩
    exact hp _ _ ok_62 (R_w f_63 (by decide))
  · have f_64 : R 0 0 0 := ⟨by decide, by decide⟩
    have f_65 : R 0 0 r3 := rf_eq f_64 c_39
    refine s_X11_isNot 1 ok_36.1 (fun r8 h7 ko_66 f_68 => ?_)
    have ok_67 := Ok_tr ok_36 ko_66 (by decide)
    exact ⟨R_z (R_w f_68 (by decide)), hp _ _ ok_67 (R_w f_68 (by decide))⟩
set_option maxRecDepth 100000 in
set_option maxHeartbeats 4000000 in
theorem s_X11_act {g : gT} {h : mh_T} {P : Int32 → mh_T → Prop} (l1 : Int32) (l2 : Int32) (hG : GI h)  (hp : ∀ (r : Int32) h', Ok [300, 11] h h' → ¬ mI h' 11 11 = 4 → P r h') : MCi g yX11_act uX11_act [.ref 11, .int l1, .int l2] h P := by
  have ok : Ok [300, 11] h h := Ok_rf hG
  refine e_X11_act l1 l2  ?_
  refine s_X11_good ok.1 (fun h1 ko_50 t4 => ?_)
  have ok_51 := Ok_tr ok ko_50 (by decide)
  have hp : ∀ (r : Int32) h', Ok [300, 11] h1 h' → P r h' := fun r h' k => hp r h' (Ok_tr ok_51 k (by decide)) (k.2.2.2.2.2.2 t4)
  have ok_51 : Ok [300, 11] h1 h1 := Ok_rf ok_51.1
  refine ⟨fun c_52 => ?_, fun c_52 => ?_⟩
  · have f_53 : R 0 1 (mI h1 11 14) := GI_rd ok_51.1 11 _ (by decide)
    have f_54 : R 0 0 0 := ⟨by decide, by decide⟩
    have f_55 : R 0 0 (mI h1 11 14) := rf_eq f_54 c_52
    refine s_X11_no 1 ok_51.1 (fun r4 h3 ko_56 f_58 => ?_)
    have ok_57 := Ok_tr ok_51 ko_56 (by decide)
    exact hp _ _ ok_57 
  · have f_59 : R 0 1 (mI h1 11 14) := GI_rd ok_51.1 11 _ (by decide)
    have f_60 : R 0 0 0 := ⟨by decide, by decide⟩
    have f_61 : R 1 1 (mI h1 11 14) := rf_ne_lo f_59 c_52 (by decide) 1 rfl
    refine s_X11_within l1 0 ((mI h1 11 24) - 1) ok_51.1 (fun r6 f_63 im_62 => ?_)
    refine ⟨fun c_64 => ?_, fun c_64 => ?_⟩
    · have f_65 : R 0 0 0 := ⟨by decide, by decide⟩
      have f_66 : R 0 0 r6 := rf_eq f_65 c_64
      refine s_X11_no 1 ok_51.1 (fun r9 h8 ko_67 f_69 => ?_)
      have ok_68 := Ok_tr ok_51 ko_67 (by decide)
      exact hp _ _ ok_68 
    · have f_70 : R 0 0 0 := ⟨by decide, by decide⟩
      have f_71 : R 0 0 0 := ⟨by decide, by decide⟩
      have f_72 : R 0 2147483647 l1 := rf_le_r f_71 (R_full l1) (im_62 c_64).1 0 (by decide)
      have f_74 : R 0 20 (mI h1 11 24) := GI_rd ok_51.1 11 _ (by decide)
      have f_75 : R 1 1 1 := ⟨by decide, by decide⟩
      have f_73 : R (-1) 19 ((mI h1 11 24) - 1) := R_sub f_74 f_75 (-1) 19 (by decide)
      have f_76 : R 0 19 l1 := rf_le_l f_72 f_73 (im_62 c_64).2 19 (by decide)
      have f_77 : R 0 19 ((mI h1 11 24) - 1) := rf_le_r f_72 f_73 (im_62 c_64).2 0 (by decide)
      have f_78 : R 1 20 (mI h1 11 24) := R_um1 f_74 f_77 1 20 (by decide)
      have f_79 : R 1 1 r6 := rf_ne_lo f_63 c_64 (by decide) 1 rfl
      refine s_X11_within l2 0 4 ok_51.1 (fun r11 f_81 im_80 => ?_)
      refine ⟨fun c_82 => ?_, fun c_82 => ?_⟩
      · have f_83 : R 0 0 0 := ⟨by decide, by decide⟩
        have f_84 : R 0 0 r11 := rf_eq f_83 c_82
        refine s_X11_no 1 ok_51.1 (fun r14 h13 ko_85 f_87 => ?_)
        have ok_86 := Ok_tr ok_51 ko_85 (by decide)
        exact hp _ _ ok_86 
      · have f_88 : R 0 0 0 := ⟨by decide, by decide⟩
        have f_89 : R 0 0 0 := ⟨by decide, by decide⟩
        have f_90 : R 0 2147483647 l2 := rf_le_r f_89 (R_full l2) (im_80 c_82).1 0 (by decide)
        have f_91 : R 4 4 4 := ⟨by decide, by decide⟩
        have f_92 : R 0 4 l2 := rf_le_l f_90 f_91 (im_80 c_82).2 4 (by decide)
        have f_93 : R 1 1 r11 := rf_ne_lo f_81 c_82 (by decide) 1 rfl
        have f_96 : R 5 5 5 := ⟨by decide, by decide⟩
        have f_95 : R 0 95 (5 * l1) := R_mul f_96 f_76 0 95 (by decide)
        have f_94 : R 0 99 ((5 * l1) + l2) := R_add f_95 f_92 0 99 (by decide)
        refine ⟨vin f_94 (by decide), ?_⟩
        have f_98 : R (-2147483648) 2147483647 (mI h 52 ((5 * l1) + l2).toNatClampNeg) := R_full _
        have f_97 : R (-2147483648) 2147483647 (mI h1 52 ((5 * l1) + l2).toNatClampNeg) := Ok_rd ko_50 (by decide) f_98
        exact hp _ _ ok_51 
