set_option maxRecDepth 100000 in
set_option maxHeartbeats 4000000 in
theorem s_X11_corners {g : gT} {h : mh_T} {P : Int32 → mh_T → Prop}  (hG : GI h)  (hp : ∀ (r : Int32) h', Ok [300, 11, 56, 57] h h' → R (-1) 3060 r → ¬ mI h' 11 11 = 4 → P r h') : MCi g yX11_corners uX11_corners [.ref 11] h P := by
  have ok : Ok [300, 11, 56, 57] h h := Ok_rf hG
  refine e_X11_corners   ?_
  refine s_X11_good ok.1 (fun h1 ko_16 t4 => ?_)
  have ok_17 := Ok_tr ok ko_16 (by decide)
  have hp : ∀ (r : Int32) h', Ok [300, 11, 56, 57] h1 h' → R (-1) 3060 r → P r h' := fun r h' k x0 => hp r h' (Ok_tr ok_17 k (by decide)) x0 (k.2.2.2.2.2.2.1 t4)
  have ok_17 : Ok [300, 11, 56, 57] h1 h1 := Ok_rf ok_17.1
  refine ⟨fun c_18 => ?_, fun c_18 => ?_⟩
  · have f_19 : R 0 1 (mI h1 11 14) := GI_rd ok_17.1 11 _ (by decide)
    have f_20 : R 0 0 0 := ⟨by decide, by decide⟩
    have f_21 : R 1 1 (mI h1 11 14) := rf_ne_lo f_19 c_18 (by decide) 1 rfl
    refine s_X11_layCorners ok_17.1 (fun h3 ko_22 => ?_)
    have ok_23 := Ok_tr ok_17 ko_22 (by decide)
    have f_24 : R 0 3060 (mI h3 11 34) := GI_rd ok_23.1 11 _ (by decide)
    exact hp _ _ ok_23 (R_w f_24 (by decide))
  · have f_25 : R 0 1 (mI h1 11 14) := GI_rd ok_17.1 11 _ (by decide)
    have f_26 : R 0 0 0 := ⟨by decide, by decide⟩
    have f_27 : R 0 0 (mI h1 11 14) := rf_eq f_26 c_18
    refine s_X11_no 1 ok_17.1 (fun r5 h4 ko_28 f_30 => ?_)
    have ok_29 := Ok_tr ok_17 ko_28 (by decide)
    exact hp _ _ ok_29 (R_w f_30 (by decide))
set_option maxRecDepth 100000 in
set_option maxHeartbeats 4000000 in
theorem s_X11_isSoFar_L {g : gT} {h0 : mh_T} {P : Int32 → mh_T → Prop} (hG0 : GI h0) (hp : ∀ r : Int32, R 0 1 r → P r h0) : ∀ n : Nat, (∀ (l1 : Int32) (l2 : Int32) (l3 : Int32) (l4 : Int32) (l5 : Int32), R (-2147483648) 2147483647 l1 → R (-2147483648) 2147483647 l2 → R (-2147483648) 2147483647 l3 → R 0 1 l4 → R 0 3060 l5 → 1 * gap 3060 l5 + 0 < n → ME g uX11_isSoFar 6 [.ref 11, .int l1, .int l2, .int l3, .int l4, .int l5, .retAddr 0, .retAddr 0] [] h0 (qI P)) := by
  intro n
  induction n with
  | zero =>
    exact (fun _ _ _ _ _ _ _ _ _ _ hm => absurd hm (Nat.not_lt_zero _))
  | succ n ih =>
    intro l1 l2 l3 l4 l5  fl1 fl2 fl3 fl4 fl5     hm
    have ok : Ok [] h0 h0 := Ok_rf hG0
    refine r_X11_isSoFar_6 l1 l2 l3 l4 l5  ?_
    refine ⟨fun c_2942 => ?_, fun c_2942 => ?_⟩
    · have f_2943 : R 0 3060 (mI h0 11 34) := GI_rd ok.1 11 _ (by decide)
      exact ⟨R_z (R_w fl4 (by decide)), hp _ (R_w fl4 (by decide))⟩
    · have f_2944 : R 0 3060 (mI h0 11 34) := GI_rd ok.1 11 _ (by decide)
      have f_2945 : R 0 3059 l5 := rf_lt_l fl5 f_2944 (nle c_2942) 3059 (by decide)
      have f_2946 : R 1 3060 (mI h0 11 34) := rf_lt_r fl5 f_2944 (nle c_2942) 1 (by decide)
      refine ⟨fun c_2947 => ?_, fun c_2947 => ?_⟩
      · have f_2948 : R 0 0 0 := ⟨by decide, by decide⟩
        have f_2949 : R 0 0 l4 := rf_eq f_2948 c_2947
        exact ⟨R_z (R_w f_2949 (by decide)), hp _ (R_w f_2949 (by decide))⟩
      · have f_2950 : R 0 0 0 := ⟨by decide, by decide⟩
        have f_2951 : R 1 1 l4 := rf_ne_lo fl4 c_2947 (by decide) 1 rfl
        refine ⟨vin f_2945 (by decide), ?_⟩
        intro x4 ex4
        have f_2952 : R (-2147483648) 2147483647 (mI h0 56 l5.toNatClampNeg) := R_full _
        have f_2953 : R (-2147483648) 2147483647 x4 := rf_eq f_2952 ex4
        refine ⟨fun c_2954 => ?_, fun c_2954 => ?_⟩
        · have f_2957 : R (-1) (-1) (-1) := ⟨by decide, by decide⟩
          have f_2956 : R (-2147483648) 2147483647 (l1 ^^^ (-1)) := R_full _
          have f_2955 : R (-2147483648) 2147483647 (x4 &&& (l1 ^^^ (-1))) := R_full _
          have f_2958 : R 0 0 0 := ⟨by decide, by decide⟩
          have f_2959 : R 0 0 (x4 &&& (l1 ^^^ (-1))) := rf_eq f_2958 c_2954
          refine s_X11_bits (x4 &&& l2) ok.1 (fun r7 => ?_)
          refine ⟨fun c_2960 => ?_, fun c_2960 => ?_⟩
          · have f_2961 : R (-2147483648) 2147483647 r7 := R_full _
            have f_2962 : R 2 2 2 := ⟨by decide, by decide⟩
            have f_2963 : R 2 2147483647 r7 := rf_le_r f_2962 f_2961 c_2960 2 (by decide)
            have f_2964 : R 0 0 0 := ⟨by decide, by decide⟩
            have f_2966 : R 1 1 1 := ⟨by decide, by decide⟩
            have f_2965 : R 1 3060 (l5 + 1) := R_add f_2945 f_2966 1 3060 (by decide)
            have g_2967 := gap_inc (N := 3060) f_2945 (by decide)
            exact ih l1 l2 l3 0 (l5 + 1)  (R_w fl1 (by decide)) (R_w fl2 (by decide)) (R_w fl3 (by decide)) (R_w f_2964 (by decide)) (R_w f_2965 (by decide)) (by omega)
          · have f_2968 : R (-2147483648) 2147483647 r7 := R_full _
            have f_2969 : R 2 2 2 := ⟨by decide, by decide⟩
            have f_2970 : R (-2147483648) 1 r7 := rf_lt_l f_2968 f_2969 (nle c_2960) 1 (by decide)
            refine ⟨fun c_2971 => ?_, fun c_2971 => ?_⟩
            · have f_2974 : R (-1) (-1) (-1) := ⟨by decide, by decide⟩
              have f_2973 : R (-2147483648) 2147483647 (l3 ^^^ (-1)) := R_full _
              have f_2972 : R (-2147483648) 2147483647 (x4 &&& (l3 ^^^ (-1))) := R_full _
              have f_2975 : R 0 0 0 := ⟨by decide, by decide⟩
              have f_2976 : R 1 1 1 := ⟨by decide, by decide⟩
              have f_2978 : R 1 1 1 := ⟨by decide, by decide⟩
              have f_2977 : R 1 3060 (l5 + 1) := R_add f_2945 f_2978 1 3060 (by decide)
              have g_2979 := gap_inc (N := 3060) f_2945 (by decide)
              exact ih l1 l2 l3 1 (l5 + 1)  (R_w fl1 (by decide)) (R_w fl2 (by decide)) (R_w fl3 (by decide)) (R_w f_2976 (by decide)) (R_w f_2977 (by decide)) (by omega)
            · have f_2982 : R (-1) (-1) (-1) := ⟨by decide, by decide⟩
              have f_2981 : R (-2147483648) 2147483647 (l3 ^^^ (-1)) := R_full _
              have f_2980 : R (-2147483648) 2147483647 (x4 &&& (l3 ^^^ (-1))) := R_full _
              have f_2983 : R 0 0 0 := ⟨by decide, by decide⟩
              have f_2984 : R 0 0 (x4 &&& (l3 ^^^ (-1))) := rf_eq f_2983 c_2971
              refine ⟨fun c_2985 => ?_, fun c_2985 => ?_⟩
              · have f_2986 : R 1 1 1 := ⟨by decide, by decide⟩
                have f_2987 : R (-2147483648) 0 r7 := rf_ne_hi f_2970 c_2985 (by decide) 0 rfl
                have f_2988 : R 0 0 0 := ⟨by decide, by decide⟩
                have f_2990 : R 1 1 1 := ⟨by decide, by decide⟩
                have f_2989 : R 1 3060 (l5 + 1) := R_add f_2945 f_2990 1 3060 (by decide)
                have g_2991 := gap_inc (N := 3060) f_2945 (by decide)
                exact ih l1 l2 l3 0 (l5 + 1)  (R_w fl1 (by decide)) (R_w fl2 (by decide)) (R_w fl3 (by decide)) (R_w f_2988 (by decide)) (R_w f_2989 (by decide)) (by omega)
              · have f_2992 : R 1 1 1 := ⟨by decide, by decide⟩
                have f_2993 : R 1 1 r7 := rf_eq f_2992 c_2985
                have f_2994 : R 1 1 1 := ⟨by decide, by decide⟩
                have f_2996 : R 1 1 1 := ⟨by decide, by decide⟩
                have f_2995 : R 1 3060 (l5 + 1) := R_add f_2945 f_2996 1 3060 (by decide)
                have g_2997 := gap_inc (N := 3060) f_2945 (by decide)
                exact ih l1 l2 l3 1 (l5 + 1)  (R_w fl1 (by decide)) (R_w fl2 (by decide)) (R_w fl3 (by decide)) (R_w f_2994 (by decide)) (R_w f_2995 (by decide)) (by omega)
        · have f_3000 : R (-1) (-1) (-1) := ⟨by decide, by decide⟩
          have f_2999 : R (-2147483648) 2147483647 (l1 ^^^ (-1)) := R_full _
          have f_2998 : R (-2147483648) 2147483647 (x4 &&& (l1 ^^^ (-1))) := R_full _
          have f_3001 : R 0 0 0 := ⟨by decide, by decide⟩
          have f_3003 : R 1 1 1 := ⟨by decide, by decide⟩
          have f_3002 : R 1 3060 (l5 + 1) := R_add f_2945 f_3003 1 3060 (by decide)
          have g_3004 := gap_inc (N := 3060) f_2945 (by decide)
          exact ih l1 l2 l3 l4 (l5 + 1)  (R_w fl1 (by decide)) (R_w fl2 (by decide)) (R_w fl3 (by decide)) (R_w f_2951 (by decide)) (R_w f_3002 (by decide)) (by omega)
set_option maxRecDepth 100000 in
set_option maxHeartbeats 4000000 in
theorem s_X11_isSoFar {g : gT} {h : mh_T} {P : Int32 → mh_T → Prop} (l1 : Int32) (l2 : Int32) (l3 : Int32) (hG : GI h)  (hp : ∀ r : Int32, R 0 1 r → P r h) : MCi g yX11_isSoFar uX11_isSoFar [.ref 11, .int l1, .int l2, .int l3] h P := by
  have ok : Ok [] h h := Ok_rf hG
  have L0 := s_X11_isSoFar_L (g := g) hG hp 3061
  refine e_X11_isSoFar l1 l2 l3  ?_
  have f_3005 : R 1 1 1 := ⟨by decide, by decide⟩
  have f_3006 : R 0 0 0 := ⟨by decide, by decide⟩
  have f_3007 : R 0 0 0 := ⟨by decide, by decide⟩
  have g_3008 := gap_le (N := 3060) f_3007 (m := 3060) (by decide)
  exact L0 l1 l2 l3 1 0  (R_w (R_full l1) (by decide)) (R_w (R_full l2) (by decide)) (R_w (R_full l3) (by decide)) (R_w f_3005 (by decide)) (R_w f_3006 (by decide)) (by omega)
def cS : Nat → Nat
  | 0 => 1
  | j + 1 => 3 + 2 * cS j
def cR (a k c : Nat) : Nat := 1 + (2 - c) * (1 + cS (a - k - 1))
def cT (a : Nat) (f : Nat → Nat) : Nat → Nat
  | 0 => 0
  | d + 1 => cT a f d + cR a d (f d)
theorem cT_congr {a : Nat} {f f' : Nat → Nat} : ∀ d, (∀ k, k < d → f k = f' k) → cT a f d = cT a f' d := by
  intro d
  induction d with
  | zero => intro _; rfl
  | succ d ih =>
    intro h
    show cT a f d + cR a d (f d) = cT a f' d + cR a d (f' d)
    rw [ih (fun k hk => h k (by omega)), h d (by omega)]
def cF (h : mh_T) (k : Nat) : Nat := (mI h 58 k).toNatClampNeg
def cM (a : Nat) (h : mh_T) (x : Int) : Nat := if x < 0 then 0 else if x = a then cT a (cF h) a + 1 else cT a (cF h) (x.toNat + 1)
set_option maxRecDepth 100000 in
set_option maxHeartbeats 8000000 in
theorem s_X11_colour_47 {g : gT} {h0 : mh_T} {P : mh_T → Prop} (l1 l2 l3 : Int32) (a : Nat) (ha : l3.toInt = a) (ha18 : a ≤ 18) (hp : ∀ h', Ok [300, 11, 58] h0 h' → P h') : ∀ (n : Nat) (l4 l5 : Int32) (h : mh_T), Ok [300, 11, 58] h0 h → R (-1) 18 l4 → l4.toInt ≤ a → (∀ j : Nat, l4.toInt < j → j < a → mI h 58 j = 0) → cM a h l4.toInt < n → ME g uX11_colour 47 [.ref 11, .int l1, .int l2, .int l3, .int l4, .int l5, .retAddr 0, .retAddr 0, .retAddr 0] [] h (qV P) := by
  intro n
  induction n with
  | zero => intro l4 l5 h _ _ _ _ hn; exact absurd hn (Nat.not_lt_zero _)
  | succ n ih =>
    intro l4 l5 h ok f4 h4a hz hn
    have c1 : R 1 1 1 := ⟨by decide, by decide⟩
    have z0 : (0 : Int32).toInt = 0 := by decide
    refine r_X11_colour_47 l1 l2 l3 l4 l5 ⟨fun _ => hp h ok, fun c => ?_⟩
    have c := le_ti (nlt c)
    rw [z0] at c
    obtain ⟨d, hd⟩ : ∃ d : Nat, l4.toInt = d := ⟨l4.toInt.toNat, by omega⟩
    have f4' : R 0 18 l4 := ⟨c, f4.2⟩
    have em := ti_dec (x := l4) (a := 0) (b := 18) f4' (by decide)
    have ed : l4.toNatClampNeg = d := by
      show l4.toInt.toNat = d
      omega
    refine ⟨fun c2 => fun x3 _ x4 _ => ?_, fun c2 => ?_⟩
    · have hda : d < a := by
        have : l4.toInt ≠ l3.toInt := fun z => c2 (Int32.toInt_inj.mp z)
        omega
      have hM : cM a h l4.toInt = cT a (cF h) d + cR a d (cF h d) := by
        unfold cM
        rw [if_neg (by omega), if_neg (by omega), show l4.toInt.toNat + 1 = d + 1 by omega]
        rfl
      have g4 : R 0 17 l4 := ⟨c, by omega⟩
      have ei := ti_inc g4 (by decide)
      have v19 : vp_in l4 19 := vin g4 (by decide)
      rw [ed]
      have fc : R 0 2 (mI h 58 d) := GI_rd ok.1 58 d rfl
      have ef : (mI h 58 d).toInt = (cF h d : Int) := by
        have := fc.1
        show _ = (((mI h 58 d).toInt.toNat : Nat) : Int)
        omega
      have fF : ∀ (v : Int32) (j : Nat), cF (wI h 58 d v) j = if j = d then v.toNatClampNeg else cF h j := by
        intro v j
        show (mI (wI h 58 d v) 58 j).toNatClampNeg = _
        rw [mI_wI]
        by_cases q : j = d
        · rw [if_pos ⟨rfl, q⟩, if_pos q]
        · rw [if_neg (fun z => q z.2), if_neg q]
          rfl
      have cTw : ∀ v : Int32, cT a (cF (wI h 58 d v)) d = cT a (cF h) d := fun v => cT_congr d (fun k hk => by rw [fF, if_neg (by omega)])
      have hzw : ∀ (v : Int32) (j : Nat), d < j → j < a → mI (wI h 58 d v) 58 j = 0 := by
        intro v j h1 h2
        rw [mI_wI, if_neg (fun z => by omega)]
        exact hz j (by omega) h2
      -- one more try
      have stay : ¬ mI h 58 d = 2 → ∀ x : Int32, ME g uX11_colour 47 [.ref 11, .int l1, .int l2, .int l3, .int l4, .int x, .retAddr 0, .retAddr 0, .retAddr 0] [] (wI h 58 d (mI h 58 d + 1)) (qV P) ∧ ME g uX11_colour 47 [.ref 11, .int l1, .int l2, .int l3, .int (l4 + 1), .int x, .retAddr 0, .retAddr 0, .retAddr 0] [] (wI h 58 d (mI h 58 d + 1)) (qV P) ∧ Ok [300, 11, 58] h0 (wI h 58 d (mI h 58 d + 1)) := by
        intro c3 x
        have n2 : (mI h 58 d).toInt ≠ 2 := fun z => c3 (Int32.toInt_inj.mp (by rw [z]; decide))
        have fc' : R 0 1 (mI h 58 d) := ⟨fc.1, by have := fc.2; omega⟩
        have e1 := ti_inc fc' (by decide)
        have hc2 : cF h d ≤ 1 := by have := fc'.2; omega
        have ev : (mI h 58 d + 1).toNatClampNeg = cF h d + 1 := by
          show (mI h 58 d + 1).toInt.toNat = _
          omega
        have o1 := Ok_w ok (k := 58) (j := d) (v := mI h 58 d + 1) (lo := 0) (hi := 2) rfl (R_add fc' c1 0 2 (by decide)) (by decide) (nt_k (by decide))
        have hcd : cF (wI h 58 d (mI h 58 d + 1)) d = cF h d + 1 := by rw [fF, if_pos rfl, ev]
        have key : cR a d (cF h d) = cR a d (cF h d + 1) + (1 + cS (a - d - 1)) := by
          unfold cR
          rcases (show cF h d = 0 ∨ cF h d = 1 by omega) with q | q <;> rw [q] <;> omega
        refine ⟨ih l4 x _ o1 f4 h4a (fun j h1 h2 => hzw _ j (by omega) h2) ?_, ih (l4 + 1) x _ o1 (R_w (R_add g4 c1 0 18 (by decide)) (by decide)) (by omega) (fun j h1 h2 => hzw _ j (by omega) h2) ?_, o1⟩
        · have : cM a (wI h 58 d (mI h 58 d + 1)) l4.toInt = cT a (cF h) d + cR a d (cF h d + 1) := by
            unfold cM
            rw [if_neg (by omega), if_neg (by omega), show l4.toInt.toNat + 1 = d + 1 by omega]
            show cT a (cF (wI h 58 d (mI h 58 d + 1))) d + cR a d (cF (wI h 58 d (mI h 58 d + 1)) d) = _
            rw [cTw, hcd]
          omega
        · by_cases q : d + 1 = a
          · have : cM a (wI h 58 d (mI h 58 d + 1)) (l4 + 1).toInt = cT a (cF h) d + cR a d (cF h d + 1) + 1 := by
              unfold cM
              rw [if_neg (by omega), if_pos (by omega)]
              show cT a (cF (wI h 58 d (mI h 58 d + 1))) a + 1 = _
              rw [show cT a (cF (wI h 58 d (mI h 58 d + 1))) a = cT a (cF (wI h 58 d (mI h 58 d + 1))) (d + 1) by rw [q]]
              show cT a (cF (wI h 58 d (mI h 58 d + 1))) d + cR a d (cF (wI h 58 d (mI h 58 d + 1)) d) + 1 = _
              rw [cTw, hcd]
            have s1 : cS (a - d - 1) = 1 := by rw [show a - d - 1 = 0 by omega]; rfl
            omega
          · have e0 : cF (wI h 58 d (mI h 58 d + 1)) (d + 1) = 0 := by
              show (mI (wI h 58 d (mI h 58 d + 1)) 58 (d + 1)).toNatClampNeg = 0
              rw [hzw _ (d + 1) (by omega) (by omega)]
              rfl
            have : cM a (wI h 58 d (mI h 58 d + 1)) (l4 + 1).toInt = cT a (cF h) d + cR a d (cF h d + 1) + cR a (d + 1) 0 := by
              unfold cM
              rw [if_neg (by omega), if_neg (by omega), show (l4 + 1).toInt.toNat + 1 = d + 1 + 1 by omega]
              show cT a (cF (wI h 58 d (mI h 58 d + 1))) d + cR a d (cF (wI h 58 d (mI h 58 d + 1)) d) + cR a (d + 1) (cF (wI h 58 d (mI h 58 d + 1)) (d + 1)) = _
              rw [cTw, hcd, e0]
            have s1 : cR a (d + 1) 0 = cS (a - d - 1) := by
              unfold cR
              rw [show a - d - 1 = (a - (d + 1) - 1) + 1 by omega]
              show _ = 3 + 2 * cS (a - (d + 1) - 1)
              omega
            omega
      refine ⟨v19, fun c3 => ⟨v19, fun c4 => ⟨v19, v19, ?_⟩, fun c4 => ⟨v19, v19, fun _ => (stay c3 _).1, fun _ => ⟨vin g4 (by decide), fun _ x23 _ => ?_, fun _ => (stay c3 _).1⟩⟩⟩, fun c3 => ⟨v19, ?_⟩⟩
      · exact s_X11_isSoFar _ _ _ (stay c3 0).2.2.1 (fun r14 _ => ⟨fun _ => (stay c3 _).2.1, fun _ => (stay c3 _).1⟩)
      · exact s_X11_isSoFar _ _ _ (stay c3 0).2.2.1 (fun r14 _ => ⟨fun _ => (stay c3 _).2.1, fun _ => (stay c3 _).1⟩)
      · have o1 := Ok_w ok (k := 58) (j := d) (v := 0) (lo := 0) (hi := 2) rfl ⟨by decide, by decide⟩ (by decide) (nt_k (by decide))
        refine ih (l4 + (-1)) x4 _ o1 ⟨by omega, by omega⟩ (by omega) (fun j h1 h2 => ?_) ?_
        · by_cases q : j = d
          · rw [mI_wI, if_pos ⟨rfl, q⟩]
          · exact hzw _ j (by omega) h2
        · have e2 : cR a d (cF h d) = 1 := by
            have : cF h d = 2 := by
              show (mI h 58 d).toNatClampNeg = 2
              rw [c3]
              rfl
            unfold cR
            rw [this]
            omega
          by_cases q : d = 0
          · have : cM a (wI h 58 d 0) (l4 + (-1)).toInt = 0 := by
              unfold cM
              rw [em]
              rw [if_pos (by omega)]
            omega
          · have : cM a (wI h 58 d 0) (l4 + (-1)).toInt = cT a (cF h) d := by
              unfold cM
              rw [em]
              rw [if_neg (by omega), if_neg (by omega), show (l4.toInt - 1).toNat + 1 = d by omega, cTw]
            omega
    · -- a whole colouring
      have hda : d = a := by
        rw [c2] at hd
        omega
      have hM : cM a h l4.toInt = cT a (cF h) a + 1 := by
        unfold cM
        rw [if_neg (by omega), if_pos (by omega)]
      have back : ∀ (k : mh_T) (x : Int32), Ok [300, 11, 58] h0 k → (∀ j, mI k 58 j = mI h 58 j) → ME g uX11_colour 47 [.ref 11, .int l1, .int l2, .int l3, .int (l4 + (-1)), .int x, .retAddr 0, .retAddr 0, .retAddr 0] [] k (qV P) := by
        intro k x kO ke
        refine ih (l4 + (-1)) x k kO ⟨by omega, by omega⟩ (by omega) (fun j h1 h2 => by omega) ?_
        have eF : cF k = cF h := by
          funext j
          show (mI k 58 j).toNatClampNeg = _
          rw [ke]
          rfl
        by_cases q : a = 0
        · have : cM a k (l4 + (-1)).toInt = 0 := by
            unfold cM
            rw [em]
            rw [if_pos (by omega)]
          omega
        · have : cM a k (l4 + (-1)).toInt = cT a (cF h) a := by
            unfold cM
            rw [em]
            rw [if_neg (by omega), if_neg (by omega), show (l4.toInt - 1).toNat + 1 = a by omega, eF]
          omega
      have o1 := Ok_w ok (k := 11) (j := 36) (v := mI h 11 36 + 1) (lo := -2147483648) (hi := 2147483647) (by decide) (R_full _) (by decide) (by decide)
      have w : ∀ v : Int32, Ok [300, 11, 58] h0 (wI (wI h 11 36 (mI h 11 36 + 1)) 11 37 v) := fun v => Ok_w o1 (k := 11) (j := 37) (v := v) (lo := -2147483648) (hi := 2147483647) (by decide) (R_full _) (by decide) (by decide)
      have ws : ∀ (v : Int32) (j : Nat), mI (wI (wI h 11 36 (mI h 11 36 + 1)) 11 37 v) 58 j = mI h 58 j := fun v j => by rw [mI_wI, if_neg (fun z => absurd z.1 (by decide)), mI_wI, if_neg (fun z => absurd z.1 (by decide))]
      refine s_X11_bits _ o1.1 (fun r29 => ⟨fun _ => ⟨fun _ => back _ _ (w _) (ws _), fun _ => hp _ (w _)⟩, fun _ => ?_⟩)
      exact s_X11_bits _ o1.1 (fun r33 => ⟨fun _ => back _ _ (w _) (ws _), fun _ => hp _ (w _)⟩)
set_option maxRecDepth 100000 in
theorem s_X11_colour_21 {g : gT} {h0 : mh_T} {P : mh_T → Prop} (l1 l2 l3 : Int32) (f3 : R 0 18 l3) (hp : ∀ h', Ok [300, 11, 58] h0 h' → P h') : ∀ (n : Nat) (l4 : Int32) (h : mh_T), Ok [300, 11, 58] h0 h → R 0 19 l4 → (∀ j : Nat, j < l4.toInt → mI h 58 j = 0) → gap 19 l4 < n → ME g uX11_colour 21 [.ref 11, .int l1, .int l2, .int l3, .int l4, .retAddr 0, .retAddr 0, .retAddr 0, .retAddr 0] [] h (qV P) := by
  intro n
  induction n with
  | zero => intro l4 h _ _ _ hn; exact absurd hn (Nat.not_lt_zero _)
  | succ n ih =>
    intro l4 h ok f4 hz hn
    have c1 : R 1 1 1 := ⟨by decide, by decide⟩
    have z0 : (0 : Int32).toInt = 0 := by decide
    refine r_X11_colour_21 l1 l2 l3 l4 ⟨fun c => ?_, fun c => ?_⟩
    · have c := lt_ti c
      have a1 := f3.1
      have a2 := f3.2
      refine s_X11_colour_47 l1 l2 l3 l3.toInt.toNat (by omega) (by omega) hp _ 0 0 h ok ⟨by decide, by decide⟩ (by omega) (fun j _ h2 => hz j (by omega)) (Nat.lt_succ_self _)
    · have c := le_ti (nlt c)
      have a2 := f3.2
      have g4 : R 0 18 l4 := ⟨f4.1, by omega⟩
      have gi := gap_inc (N := 19) g4 (by decide)
      have ei := ti_inc g4 (by decide)
      have o1 := Ok_w ok (k := 58) (j := l4.toNatClampNeg) (v := 0) (lo := 0) (hi := 2) rfl ⟨by decide, by decide⟩ (by decide) (nt_k (by decide))
      refine ⟨vin g4 (by decide), ih (l4 + 1) _ o1 (R_add g4 c1 0 19 (by decide)) (fun j hj => ?_) (by omega)⟩
      rw [mI_wI]
      by_cases q : j = l4.toNatClampNeg
      · rw [if_pos ⟨rfl, q⟩]
      · rw [if_neg (fun z => q z.2)]
        have q : j ≠ l4.toInt.toNat := q
        have := g4.1
        exact hz j (by omega)
theorem s_X11_colour {g : gT} {h : mh_T} {P : mh_T → Prop} (l1 l2 : Int32) (hG : GI h) (hp : ∀ h', Ok [300, 11, 58] h h' → P h') : MCv g yX11_colour uX11_colour [.ref 11, .int l1, .int l2] h P := by
  refine e_X11_colour l1 l2 (fun x1 e1 => ?_)
  have o1 := Ok_w (ms := [300, 11, 58]) (Ok_rf hG) (k := 11) (j := 36) (v := 0) (lo := -2147483648) (hi := 2147483647) (by decide) (R_full _) (by decide) (by decide)
  have o2 := Ok_w o1 (k := 11) (j := 37) (v := 0) (lo := -2147483648) (hi := 2147483647) (by decide) (R_full _) (by decide) (by decide)
  have z0 : (0 : Int32).toInt = 0 := by decide
  exact s_X11_colour_21 l1 l2 x1 (rf_eq (GI_rd hG 45 _ (by decide)) e1) hp 20 0 _ o2 ⟨by decide, by decide⟩ (fun j hj => by omega) (by decide)
set_option maxRecDepth 100000 in
set_option maxHeartbeats 4000000 in
theorem s_X11_allRays {g : gT} {h : mh_T} {P : Int32 → mh_T → Prop}  (hG : GI h)  (hp : ∀ r : Int32, R 0 262143 r → P r h) : MCi g yX11_allRays uX11_allRays [.ref 11] h P := by
  have ok : Ok [] h h := Ok_rf hG
  refine e_X11_allRays   ?_
  have f_7 : R 0 18 (mI h 45 (Int32.toNatClampNeg 85)) := GI_rd ok.1 45 _ (by decide)
  have f_6 : R 1 262144 (1 <<< ((mI h 45 (Int32.toNatClampNeg 85)) &&& 31)) := R_shl f_7 1 262144 0 18 (by decide)
  have f_8 : R 1 1 1 := ⟨by decide, by decide⟩
  have f_5 : R 0 262143 ((1 <<< ((mI h 45 (Int32.toNatClampNeg 85)) &&& 31)) - 1) := R_sub f_6 f_8 0 262143 (by decide)
  exact hp _ (R_w f_5 (by decide))
set_option maxRecDepth 100000 in
set_option maxHeartbeats 4000000 in
theorem s_X11_hasColour {g : gT} {h : mh_T} {P : Int32 → mh_T → Prop} (l1 : Int32) (hG : GI h)  (hp : ∀ (r : Int32) h', Ok [300, 11, 58] h h' → R 0 1 r → P r h') : MCi g yX11_hasColour uX11_hasColour [.ref 11, .int l1] h P := by
  have ok : Ok [300, 11, 58] h h := Ok_rf hG
  refine e_X11_hasColour l1  ?_
  refine s_X11_colour l1 1 ok.1 (fun h1 ko_12 => ?_)
  have ok_13 := Ok_tr ok ko_12 (by decide)
  refine ⟨fun c_14 => ?_, fun c_14 => ?_⟩
  · have f_15 : R (-2147483648) 2147483647 (mI h1 11 36) := R_full _
    have f_16 : R 0 0 0 := ⟨by decide, by decide⟩
    have f_17 : R (-2147483648) 0 (mI h1 11 36) := rf_le_l f_15 f_16 c_14 0 (by decide)
    have f_18 : R 0 0 0 := ⟨by decide, by decide⟩
    exact hp _ _ ok_13 (R_w f_18 (by decide))
  · have f_19 : R (-2147483648) 2147483647 (mI h1 11 36) := R_full _
    have f_20 : R 0 0 0 := ⟨by decide, by decide⟩
    have f_21 : R 1 2147483647 (mI h1 11 36) := rf_lt_r f_20 f_19 (nle c_14) 1 (by decide)
    have f_22 : R 1 1 1 := ⟨by decide, by decide⟩
    exact hp _ _ ok_13 (R_w f_22 (by decide))
set_option maxRecDepth 100000 in
set_option maxHeartbeats 4000000 in
theorem s_X11_colours {g : gT} {h : mh_T} {P : Int32 → mh_T → Prop}  (hG : GI h)  (hp : ∀ (r : Int32) h', Ok [300, 11, 56, 57, 58] h h' → ¬ mI h' 11 11 = 4 → P r h') : MCi g yX11_colours uX11_colours [.ref 11] h P := by
  have ok : Ok [300, 11, 56, 57, 58] h h := Ok_rf hG
  refine e_X11_colours   ?_
  refine s_X11_good ok.1 (fun h1 ko_19 t4 => ?_)
  have ok_20 := Ok_tr ok ko_19 (by decide)
  have hp : ∀ (r : Int32) h', Ok [300, 11, 56, 57, 58] h1 h' → P r h' := fun r h' k => hp r h' (Ok_tr ok_20 k (by decide)) (k.2.2.2.2.2.2.1 t4)
  have ok_20 : Ok [300, 11, 56, 57, 58] h1 h1 := Ok_rf ok_20.1
  refine ⟨fun c_21 => ?_, fun c_21 => ?_⟩
  · have f_22 : R 0 1 (mI h1 11 14) := GI_rd ok_20.1 11 _ (by decide)
    have f_23 : R 0 0 0 := ⟨by decide, by decide⟩
    have f_24 : R 1 1 (mI h1 11 14) := rf_ne_lo f_22 c_21 (by decide) 1 rfl
    refine s_X11_layCorners ok_20.1 (fun h3 ko_25 => ?_)
    have ok_26 := Ok_tr ok_20 ko_25 (by decide)
    refine s_X11_allRays ok_26.1 (fun r5 f_27 => ?_)
    refine s_X11_colour r5 1048576 ok_26.1 (fun h6 ko_28 => ?_)
    have ok_29 := Ok_tr ok_26 ko_28 (by decide)
    have f_30 : R (-2147483648) 2147483647 (mI h6 11 36) := R_full _
    exact hp _ _ ok_29 
  · have f_31 : R 0 1 (mI h1 11 14) := GI_rd ok_20.1 11 _ (by decide)
    have f_32 : R 0 0 0 := ⟨by decide, by decide⟩
    have f_33 : R 0 0 (mI h1 11 14) := rf_eq f_32 c_21
    refine s_X11_no 1 ok_20.1 (fun r8 h7 ko_34 f_36 => ?_)
    have ok_35 := Ok_tr ok_20 ko_34 (by decide)
    exact hp _ _ ok_35 
set_option maxRecDepth 100000 in
set_option maxHeartbeats 4000000 in
theorem s_X11_ones {g : gT} {h : mh_T} {P : Int32 → mh_T → Prop}  (hG : GI h)  (hp : ∀ (r : Int32) h', Ok [300, 11, 56, 57, 58] h h' → ¬ mI h' 11 11 = 4 → P r h') : MCi g yX11_ones uX11_ones [.ref 11] h P := by
  have ok : Ok [300, 11, 56, 57, 58] h h := Ok_rf hG
  refine e_X11_ones   ?_
  refine s_X11_good ok.1 (fun h1 ko_28 t4 => ?_)
  have ok_29 := Ok_tr ok ko_28 (by decide)
  have hp : ∀ (r : Int32) h', Ok [300, 11, 56, 57, 58] h1 h' → P r h' := fun r h' k => hp r h' (Ok_tr ok_29 k (by decide)) (k.2.2.2.2.2.2.1 t4)
  have ok_29 : Ok [300, 11, 56, 57, 58] h1 h1 := Ok_rf ok_29.1
  refine ⟨fun c_30 => ?_, fun c_30 => ?_⟩
  · have f_31 : R 0 1 (mI h1 11 14) := GI_rd ok_29.1 11 _ (by decide)
    have f_32 : R 0 0 0 := ⟨by decide, by decide⟩
    have f_33 : R 1 1 (mI h1 11 14) := rf_ne_lo f_31 c_30 (by decide) 1 rfl
    refine s_X11_layCorners ok_29.1 (fun h3 ko_34 => ?_)
    have ok_35 := Ok_tr ok_29 ko_34 (by decide)
    refine s_X11_allRays ok_35.1 (fun r5 f_36 => ?_)
    refine s_X11_colour r5 1048576 ok_35.1 (fun h6 ko_37 => ?_)
    have ok_38 := Ok_tr ok_35 ko_37 (by decide)
    refine ⟨fun c_39 => ?_, fun c_39 => ?_⟩
    · have f_40 : R (-2147483648) 2147483647 (mI h6 11 36) := R_full _
      have f_41 : R 0 0 0 := ⟨by decide, by decide⟩
      have f_42 : R (-2147483648) 2147483647 (mI h6 11 37) := R_full _
      exact hp _ _ ok_38 
    · have f_43 : R (-2147483648) 2147483647 (mI h6 11 36) := R_full _
      have f_44 : R 0 0 0 := ⟨by decide, by decide⟩
      have f_45 : R 0 0 (mI h6 11 36) := rf_eq f_44 c_39
      refine s_X11_no 6 ok_38.1 (fun r9 h8 ko_46 f_48 => ?_)
      have ok_47 := Ok_tr ok_38 ko_46 (by decide)
      exact hp _ _ ok_47 
  · have f_49 : R 0 1 (mI h1 11 14) := GI_rd ok_29.1 11 _ (by decide)
    have f_50 : R 0 0 0 := ⟨by decide, by decide⟩
    have f_51 : R 0 0 (mI h1 11 14) := rf_eq f_50 c_30
    refine s_X11_no 1 ok_29.1 (fun r11 h10 ko_52 f_54 => ?_)
    have ok_53 := Ok_tr ok_29 ko_52 (by decide)
    exact hp _ _ ok_53 
set_option maxRecDepth 100000 in
set_option maxHeartbeats 4000000 in
theorem s_X11_spare_L {g : gT} {h0 : mh_T} {P : Int32 → mh_T → Prop} (hG0 : GI h0) (hp : ∀ (r : Int32) h', Ok [300, 11, 56, 57, 58] h0 h' → R (-1) 262143 r → P r h') : ∀ n : Nat, (∀ (l1 : Int32) (l2 : Int32) (h : mh_T), Ok [300, 11, 56, 57, 58] h0 h → R 0 262143 l1 → R 0 18 l2 → 1 * gap 18 l2 + 0 < n → ME g uX11_spare 38 [.ref 11, .int l1, .int l2] [] h (qI P)) := by
  intro n
  induction n with
  | zero =>
    exact (fun _ _ _ _ _ _ hm => absurd hm (Nat.not_lt_zero _))
  | succ n ih =>
    intro l1 l2 h  ok fl1 fl2     hm
    refine r_X11_spare_38 l1 l2  ?_
    refine ⟨fun c_777 => ?_, fun c_777 => ?_⟩
    · have f_778 : R 0 18 (mI h 45 (Int32.toNatClampNeg 85)) := GI_rd ok.1 45 _ (by decide)
      exact hp _ _ ok (R_w fl1 (by decide))
    · have f_779 : R 0 18 (mI h 45 (Int32.toNatClampNeg 85)) := GI_rd ok.1 45 _ (by decide)
      have f_780 : R 0 17 l2 := rf_lt_l fl2 f_779 (nle c_777) 17 (by decide)
      have f_781 : R 1 18 (mI h 45 (Int32.toNatClampNeg 85)) := rf_lt_r fl2 f_779 (nle c_777) 1 (by decide)
      refine s_X11_allRays ok.1 (fun r3 f_782 => ?_)
      refine s_X11_hasColour (r3 &&& ((1 <<< (l2 &&& 31)) ^^^ (-1))) ok.1 (fun r5 h4 ko_783 f_785 => ?_)
      have ok_784 := Ok_tr ok ko_783 (by decide)
      refine ⟨fun c_786 => ?_, fun c_786 => ?_⟩
      · have f_787 : R 0 0 0 := ⟨by decide, by decide⟩
        have f_788 : R 0 0 r5 := rf_eq f_787 c_786
        intro x7 ex7
        have f_790 : R 1 131072 (1 <<< (l2 &&& 31)) := R_shl f_780 1 131072 0 17 (by decide)
        have f_789 : R 0 262143 (l1 ||| (1 <<< (l2 &&& 31))) := R_or fl1 f_790 18 262143 (by decide)
        have f_791 : R 0 262143 x7 := rf_eq f_789 ex7
        have f_793 : R 1 1 1 := ⟨by decide, by decide⟩
        have f_792 : R 1 18 (l2 + 1) := R_add f_780 f_793 1 18 (by decide)
        have g_794 := gap_inc (N := 18) f_780 (by decide)
        exact ih x7 (l2 + 1) h4  ok_784 (R_w f_791 (by decide)) (R_w f_792 (by decide)) (by omega)
      · have f_795 : R 0 0 0 := ⟨by decide, by decide⟩
        have f_796 : R 1 1 r5 := rf_ne_lo f_785 c_786 (by decide) 1 rfl
        intro x8 ex8
        have f_798 : R 0 0 0 := ⟨by decide, by decide⟩
        have f_797 : R 0 262143 (l1 ||| 0) := R_or fl1 f_798 18 262143 (by decide)
        have f_799 : R 0 262143 x8 := rf_eq f_797 ex8
        have f_801 : R 1 1 1 := ⟨by decide, by decide⟩
        have f_800 : R 1 18 (l2 + 1) := R_add f_780 f_801 1 18 (by decide)
        have g_802 := gap_inc (N := 18) f_780 (by decide)
        exact ih x8 (l2 + 1) h4  ok_784 (R_w f_799 (by decide)) (R_w f_800 (by decide)) (by omega)
set_option maxRecDepth 100000 in
set_option maxHeartbeats 4000000 in
theorem s_X11_spare {g : gT} {h : mh_T} {P : Int32 → mh_T → Prop}  (hG : GI h)  (hp : ∀ (r : Int32) h', Ok [300, 11, 56, 57, 58] h h' → R (-1) 262143 r → ¬ mI h' 11 11 = 4 → P r h') : MCi g yX11_spare uX11_spare [.ref 11] h P := by
  have ok : Ok [300, 11, 56, 57, 58] h h := Ok_rf hG
  refine e_X11_spare   ?_
  refine s_X11_good ok.1 (fun h1 ko_803 t4 => ?_)
  have ok_804 := Ok_tr ok ko_803 (by decide)
  have hp : ∀ (r : Int32) h', Ok [300, 11, 56, 57, 58] h1 h' → R (-1) 262143 r → P r h' := fun r h' k x0 => hp r h' (Ok_tr ok_804 k (by decide)) x0 (k.2.2.2.2.2.2.1 t4)
  have L0 := s_X11_spare_L (g := g) ok_804.1 hp 19
  have ok_804 : Ok [300, 11, 56, 57, 58] h1 h1 := Ok_rf ok_804.1
  refine ⟨fun c_805 => ?_, fun c_805 => ?_⟩
  · have f_806 : R 0 1 (mI h1 11 14) := GI_rd ok_804.1 11 _ (by decide)
    have f_807 : R 0 0 0 := ⟨by decide, by decide⟩
    have f_808 : R 1 1 (mI h1 11 14) := rf_ne_lo f_806 c_805 (by decide) 1 rfl
    refine s_X11_layCorners ok_804.1 (fun h3 ko_809 => ?_)
    have ok_810 := Ok_tr ok_804 ko_809 (by decide)
    refine s_X11_allRays ok_810.1 (fun r5 f_811 => ?_)
    refine s_X11_hasColour r5 ok_810.1 (fun r7 h6 ko_812 f_814 => ?_)
    have ok_813 := Ok_tr ok_810 ko_812 (by decide)
    refine ⟨fun c_815 => ?_, fun c_815 => ?_⟩
    · have f_816 : R 0 0 0 := ⟨by decide, by decide⟩
      have f_817 : R 0 0 r7 := rf_eq f_816 c_815
      have f_818 : R 0 0 0 := ⟨by decide, by decide⟩
      have f_819 : R 0 0 0 := ⟨by decide, by decide⟩
      have f_820 : R 0 0 0 := ⟨by decide, by decide⟩
      have g_821 := gap_le (N := 18) f_820 (m := 18) (by decide)
      exact L0 0 0 h6  ok_813 (R_w f_818 (by decide)) (R_w f_819 (by decide)) (by omega)
    · have f_822 : R 0 0 0 := ⟨by decide, by decide⟩
      have f_823 : R 1 1 r7 := rf_ne_lo f_814 c_815 (by decide) 1 rfl
      have f_824 : R 0 0 0 := ⟨by decide, by decide⟩
      exact hp _ _ ok_813 (R_w f_824 (by decide))
  · have f_825 : R 0 1 (mI h1 11 14) := GI_rd ok_804.1 11 _ (by decide)
    have f_826 : R 0 0 0 := ⟨by decide, by decide⟩
    have f_827 : R 0 0 (mI h1 11 14) := rf_eq f_826 c_805
    refine s_X11_no 1 ok_804.1 (fun r10 h9 ko_828 f_830 => ?_)
    have ok_829 := Ok_tr ok_804 ko_828 (by decide)
    exact hp _ _ ok_829 (R_w f_830 (by decide))
set_option maxRecDepth 100000 in
set_option maxHeartbeats 4000000 in
theorem s_X11_critical_L {g : gT} {h0 : mh_T} {P : Int32 → mh_T → Prop} (hG0 : GI h0) (hp : ∀ (r : Int32) h', Ok [300, 11, 56, 57, 58] h0 h' → R (-1) 262143 r → P r h') : ∀ n : Nat, (∀ (l1 : Int32) (l2 : Int32) (h : mh_T), Ok [300, 11, 56, 57, 58] h0 h → R 0 262143 l1 → R 0 18 l2 → 1 * gap 18 l2 + 0 < n → ME g uX11_critical 46 [.ref 11, .int l1, .int l2] [] h (qI P)) := by
  intro n
  induction n with
  | zero =>
    exact (fun _ _ _ _ _ _ hm => absurd hm (Nat.not_lt_zero _))
  | succ n ih =>
    intro l1 l2 h  ok fl1 fl2     hm
    refine r_X11_critical_46 l1 l2  ?_
    refine ⟨fun c_779 => ?_, fun c_779 => ?_⟩
    · have f_780 : R 0 18 (mI h 45 (Int32.toNatClampNeg 85)) := GI_rd ok.1 45 _ (by decide)
      exact hp _ _ ok (R_w fl1 (by decide))
    · have f_781 : R 0 18 (mI h 45 (Int32.toNatClampNeg 85)) := GI_rd ok.1 45 _ (by decide)
      have f_782 : R 0 17 l2 := rf_lt_l fl2 f_781 (nle c_779) 17 (by decide)
      have f_783 : R 1 18 (mI h 45 (Int32.toNatClampNeg 85)) := rf_lt_r fl2 f_781 (nle c_779) 1 (by decide)
      refine s_X11_hasColour (l1 &&& ((1 <<< (l2 &&& 31)) ^^^ (-1))) ok.1 (fun r3 h2 ko_784 f_786 => ?_)
      have ok_785 := Ok_tr ok ko_784 (by decide)
      refine ⟨fun c_787 => ?_, fun c_787 => ?_⟩
      · have f_788 : R 0 0 0 := ⟨by decide, by decide⟩
        have f_789 : R 1 1 r3 := rf_ne_lo f_786 c_787 (by decide) 1 rfl
        have f_791 : R 1 1 1 := ⟨by decide, by decide⟩
        have f_790 : R 1 18 (l2 + 1) := R_add f_782 f_791 1 18 (by decide)
        have g_792 := gap_inc (N := 18) f_782 (by decide)
        exact ih l1 (l2 + 1) h2  ok_785 (R_w fl1 (by decide)) (R_w f_790 (by decide)) (by omega)
      · have f_793 : R 0 0 0 := ⟨by decide, by decide⟩
        have f_794 : R 0 0 r3 := rf_eq f_793 c_787
        intro x5 ex5
        have f_797 : R 1 131072 (1 <<< (l2 &&& 31)) := R_shl f_782 1 131072 0 17 (by decide)
        have f_798 : R (-1) (-1) (-1) := ⟨by decide, by decide⟩
        have f_796 : R (-2147483648) 2147483647 ((1 <<< (l2 &&& 31)) ^^^ (-1)) := R_full _
        have f_795 : R 0 262143 (l1 &&& ((1 <<< (l2 &&& 31)) ^^^ (-1))) := R_andl fl1 (by decide)
        have f_799 : R 0 262143 x5 := rf_eq f_795 ex5
        have f_801 : R 1 1 1 := ⟨by decide, by decide⟩
        have f_800 : R 1 18 (l2 + 1) := R_add f_782 f_801 1 18 (by decide)
        have g_802 := gap_inc (N := 18) f_782 (by decide)
        exact ih x5 (l2 + 1) h2  ok_785 (R_w f_799 (by decide)) (R_w f_800 (by decide)) (by omega)
set_option maxRecDepth 100000 in
set_option maxHeartbeats 4000000 in
theorem s_X11_critical {g : gT} {h : mh_T} {P : Int32 → mh_T → Prop}  (hG : GI h)  (hp : ∀ (r : Int32) h', Ok [300, 11, 56, 57, 58] h h' → R (-1) 262143 r → ¬ mI h' 11 11 = 4 → P r h') : MCi g yX11_critical uX11_critical [.ref 11] h P := by
  have ok : Ok [300, 11, 56, 57, 58] h h := Ok_rf hG
  refine e_X11_critical   ?_
  refine s_X11_good ok.1 (fun h1 ko_803 t4 => ?_)
  have ok_804 := Ok_tr ok ko_803 (by decide)
  have hp : ∀ (r : Int32) h', Ok [300, 11, 56, 57, 58] h1 h' → R (-1) 262143 r → P r h' := fun r h' k x0 => hp r h' (Ok_tr ok_804 k (by decide)) x0 (k.2.2.2.2.2.2.1 t4)
  have L0 := s_X11_critical_L (g := g) ok_804.1 hp 19
  have ok_804 : Ok [300, 11, 56, 57, 58] h1 h1 := Ok_rf ok_804.1
  refine ⟨fun c_805 => ?_, fun c_805 => ?_⟩
  · have f_806 : R 0 1 (mI h1 11 14) := GI_rd ok_804.1 11 _ (by decide)
    have f_807 : R 0 0 0 := ⟨by decide, by decide⟩
    have f_808 : R 1 1 (mI h1 11 14) := rf_ne_lo f_806 c_805 (by decide) 1 rfl
    refine s_X11_layCorners ok_804.1 (fun h3 ko_809 => ?_)
    have ok_810 := Ok_tr ok_804 ko_809 (by decide)
    refine s_X11_allRays ok_810.1 (fun r5 f_811 => ?_)
    refine s_X11_hasColour r5 ok_810.1 (fun r7 h6 ko_812 f_814 => ?_)
    have ok_813 := Ok_tr ok_810 ko_812 (by decide)
    refine ⟨fun c_815 => ?_, fun c_815 => ?_⟩
    · have f_816 : R 0 0 0 := ⟨by decide, by decide⟩
      have f_817 : R 0 0 r7 := rf_eq f_816 c_815
      refine s_X11_allRays ok_813.1 (fun r10 f_818 => ?_)
      have f_819 : R 0 0 0 := ⟨by decide, by decide⟩
      have f_820 : R 0 0 0 := ⟨by decide, by decide⟩
      have g_821 := gap_le (N := 18) f_820 (m := 18) (by decide)
      exact L0 r10 0 h6  ok_813 (R_w f_818 (by decide)) (R_w f_819 (by decide)) (by omega)
    · have f_822 : R 0 0 0 := ⟨by decide, by decide⟩
      have f_823 : R 1 1 r7 := rf_ne_lo f_814 c_815 (by decide) 1 rfl
      refine s_X11_no 6 ok_813.1 (fun r12 h11 ko_824 f_826 => ?_)
      have ok_825 := Ok_tr ok_813 ko_824 (by decide)
      exact hp _ _ ok_825 (R_w f_826 (by decide))
  · have f_827 : R 0 1 (mI h1 11 14) := GI_rd ok_804.1 11 _ (by decide)
    have f_828 : R 0 0 0 := ⟨by decide, by decide⟩
    have f_829 : R 0 0 (mI h1 11 14) := rf_eq f_828 c_805
    refine s_X11_no 1 ok_804.1 (fun r14 h13 ko_830 f_832 => ?_)
    have ok_831 := Ok_tr ok_804 ko_830 (by decide)
    exact hp _ _ ok_831 (R_w f_832 (by decide))
/-- what the reference tells has a state to go to -/
def TJ (h : mh_T) : Prop := ∀ p, p < 18 → ¬ mI h 59 p = 2 → 0 ≤ (mI h 60 p).toInt
set_option maxRecDepth 100000 in
set_option maxHeartbeats 8000000 in
theorem s_X11_tellsAll_M {g : gT} : ∀ (m : Nat) (K : Nat) (l1 l2 l3 l4 : Int32) (h : mh_T) (P : Int32 → mh_T → Prop), m + 1 ≤ K → R 1 3 l1 → R 0 4 l2 → R 0 6 l3 → 7 * (4 - l2.toInt) + (6 - l3.toInt) ≤ m → l2.toInt ≤ (mI h 45 (Int32.toNatClampNeg 158)).toInt → (l2.toInt < (mI h 45 (Int32.toNatClampNeg 158)).toInt → l3.toInt ≤ (mI h 45 (159 + l2).toNatClampNeg).toInt) → R 0 2 l4 → GI h → TJ h → (∀ r h', Ok [59, 60] h h' → R 0 1 r → TJ h' → P r h') → MCi g yX11_tellsAll (uX11_tellsAll K) [.ref 11, .int l1, .int l2, .int l3, .int l4] h P := by
  intro m
  induction m with
  | zero =>
    intro K l1 l2 l3 l4 h P hK f1 f2 f3 hm hu hl f4 hG hT hp
    obtain ⟨K, rfl⟩ : ∃ q, K = q + 1 := ⟨K - 1, by omega⟩
    have fu : R 0 4 (mI h 45 (Int32.toNatClampNeg 158)) := GI_rd hG 45 _ (by decide)
    refine e_X11_tellsAll l1 l2 l3 l4 ⟨fun c => ?_, fun c => hp 1 h (Ok_rf hG) ⟨by decide, by decide⟩ hT⟩
    have a1 := fu.2
    have a2 := f2.2
    have a3 := f3.2
    exact absurd (Int32.toInt_inj.mp (by omega)) c
  | succ m ih =>
    intro K l1 l2 l3 l4 h P hK f1 f2 f3 hm hu hl f4 hG hT hp
    obtain ⟨K, rfl⟩ : ∃ q, K = q + 1 := ⟨K - 1, by omega⟩
    have fu : R 0 4 (mI h 45 (Int32.toNatClampNeg 158)) := GI_rd hG 45 _ (by decide)
    have c1 : R 1 1 1 := ⟨by decide, by decide⟩
    have c6 : R 6 6 6 := ⟨by decide, by decide⟩
    have c159 : R 159 159 159 := ⟨by decide, by decide⟩
    have c163 : R 163 163 163 := ⟨by decide, by decide⟩
    have c187 : R 187 187 187 := ⟨by decide, by decide⟩
    have z0 : (0 : Int32).toInt = 0 := by decide
    refine e_X11_tellsAll l1 l2 l3 l4 ⟨fun c => ?_, fun c => hp 1 h (Ok_rf hG) ⟨by decide, by decide⟩ hT⟩
    have hlt : l2.toInt < (mI h 45 (Int32.toNatClampNeg 158)).toInt := by
      have : l2.toInt ≠ (mI h 45 (Int32.toNatClampNeg 158)).toInt := fun z => c (Int32.toInt_inj.mp z)
      omega
    have a1 := fu.2
    have g2 : R 0 3 l2 := ⟨f2.1, by omega⟩
    have fx : R 159 162 (159 + l2) := R_add c159 g2 159 162 (by decide)
    have fl : R 0 6 (mI h 45 (159 + l2).toNatClampNeg) := GI_rd hG 45 _ (rgp_45_11 (ix_ge fx (by decide)) (ix_le fx (by decide)))
    have hl' := hl hlt
    have e2 := ti_inc g2 (by decide)
    refine ⟨vin fx (by decide), fun c2 => ?_, fun c2 => ?_⟩
    · have hl2 : l3.toInt < (mI h 45 (159 + l2).toNatClampNeg).toInt := by
        have : l3.toInt ≠ (mI h 45 (159 + l2).toNatClampNeg).toInt := fun z => c2 (Int32.toInt_inj.mp z)
        omega
      have a2 := fl.2
      have g3 : R 0 5 l3 := ⟨f3.1, by omega⟩
      have e3 := ti_inc g3 (by decide)
      have fy : R 163 186 ((163 + (6 * l2)) + l3) := R_add (R_add c163 (R_mul c6 g2 0 18 (by decide)) 163 181 (by decide)) g3 163 186 (by decide)
      have fz : R 187 210 ((187 + (6 * l2)) + l3) := R_add (R_add c187 (R_mul c6 g2 0 18 (by decide)) 187 205 (by decide)) g3 187 210 (by decide)
      have fk : R 0 5 (mI h 45 ((163 + (6 * l2)) + l3).toNatClampNeg) := GI_rd hG 45 _ (rgp_45_12 (ix_ge fy (by decide)) (ix_le fy (by decide)))
      have ft : R 0 1 (mI h 45 ((187 + (6 * l2)) + l3).toNatClampNeg) := GI_rd hG 45 _ (rgp_45_13 (ix_ge fz (by decide)) (ix_le fz (by decide)))
      refine ⟨vin fy (by decide), fun x5 e5 => ?_⟩
      have f5 : R 0 17 x5 := rf_eq (R_add (R_mul c6 f4 0 12 (by decide)) fk 0 17 (by decide)) e5
      have v5 : vp_in x5 18 := vin f5 (by decide)
      refine ⟨vin fz (by decide), fun x7 e7 => ?_⟩
      have f7 : R 0 1 x7 := rf_eq ft e7
      -- the call one step on
      have on : ∀ (s : Int32) (k : mh_T) (Q : Int32 → mh_T → Prop), Ok [59, 60] h k → R 0 2 s → TJ k → (∀ r h', Ok [59, 60] k h' → R 0 1 r → TJ h' → Q r h') → MCi g yX11_tellsAll (uX11_tellsAll K) [.ref 11, .int l1, .int l2, .int (l3 + 1), .int s] k Q := by
        intro s k Q kO fs kT hq
        refine ih K l1 l2 (l3 + 1) s k Q (by omega) f1 f2 (R_add g3 c1 0 6 (by decide)) (by omega) ?_ (fun _ => ?_) fs kO.1 kT hq
        · rw [Ok_eq kO (by decide)]
          exact hu
        · rw [Ok_eq kO (by decide)]
          omega
      refine ⟨v5, fun ct => ⟨v5, ?_⟩, fun ct => ⟨v5, fun _ => hp 0 h (Ok_rf hG) ⟨by decide, by decide⟩ hT, fun _ => ⟨v5, ?_⟩⟩⟩
      · have o1 := Ok_w (ms := [59, 60]) (Ok_rf hG) (k := 59) (j := x5.toNatClampNeg) (v := x7) (lo := 0) (hi := 2) rfl (R_w f7 (by decide)) (by decide) (nt_k (by decide))
        have L : ∀ (n : Nat) (l7 : Int32) (k : mh_T), Ok [59, 60] h k → (∀ p, p < 18 → p ≠ x5.toNatClampNeg → ¬ mI k 59 p = 2 → 0 ≤ (mI k 60 p).toInt) → R 0 3 l7 → gap 3 l7 < n → ME g (uX11_tellsAll (K + 1)) 139 [.ref 11, .int l1, .int l2, .int l3, .int l4, .int x5, .int x7, .int l7] [] k (qI P) := by
          intro n
          induction n with
          | zero => intro l7 k _ _ _ hn; exact absurd hn (Nat.not_lt_zero _)
          | succ n ihn =>
            intro l7 k kO kT g7 hn
            refine r_X11_tellsAll_139 l1 l2 l3 l4 x5 x7 l7 ⟨fun _ => ⟨v5, v5, ?_⟩, fun c4 => ⟨v5, ?_⟩⟩
            · have q1 := Ok_w kO (k := 59) (j := x5.toNatClampNeg) (v := 2) (lo := 0) (hi := 2) rfl ⟨by decide, by decide⟩ (by decide) (nt_k (by decide))
              have q2 := Ok_w q1 (k := 60) (j := x5.toNatClampNeg) (v := -1) (lo := -1) (hi := 2) rfl ⟨by decide, by decide⟩ (by decide) (nt_k (by decide))
              refine hp 0 _ q2 ⟨by decide, by decide⟩ (fun p hp18 hq => ?_)
              rw [mI_wI, if_neg (fun z => absurd z.1 (by decide)), mI_wI] at hq
              by_cases hpx : p = x5.toNatClampNeg
              · rw [if_pos ⟨rfl, hpx⟩] at hq
                exact absurd rfl hq
              · rw [if_neg (fun z => hpx z.2)] at hq
                rw [mI_wI, if_neg (fun z => hpx z.2), mI_wI, if_neg (fun z => absurd z.1 (by decide))]
                exact kT p hp18 hpx hq
            · have c4 := lt_ti (nle c4)
              have b1 := f1.2
              have g7' : R 0 2 l7 := ⟨g7.1, by omega⟩
              have gi := gap_inc (N := 3) g7' (by decide)
              have q1 := Ok_w kO (k := 60) (j := x5.toNatClampNeg) (v := l7) (lo := -1) (hi := 2) rfl (R_w g7' (by decide)) (by decide) (nt_k (by decide))
              refine on l7 _ _ q1 g7' (fun p hp18 hq => ?_) (fun r6 h5 k5 f6 t5 => ?_)
              · rw [mI_wI, if_neg (fun z => absurd z.1 (by decide))] at hq
                rw [mI_wI]
                by_cases hpx : p = x5.toNatClampNeg
                · rw [if_pos ⟨rfl, hpx⟩]
                  exact g7.1
                · rw [if_neg (fun z => hpx z.2)]
                  exact kT p hp18 hpx hq
              · have q5 := Ok_tr q1 k5 (by decide)
                exact ⟨fun _ => ihn (l7 + 1) h5 q5 (fun p hp18 _ hq => t5 p hp18 hq) (R_add g7' c1 0 3 (by decide)) (by omega), fun _ => hp 1 h5 q5 ⟨by decide, by decide⟩ t5⟩
        refine L 4 0 _ o1 (fun p hp18 hpx hq => ?_) ⟨by decide, by decide⟩ (by decide)
        rw [mI_wI, if_neg (fun z => hpx z.2)] at hq
        rw [mI_wI, if_neg (fun z => absurd z.1 (by decide))]
        exact hT p hp18 hq
      · have fg : R (-1) 2 (mI h 60 x5.toNatClampNeg) := GI_rd hG 60 _ rfl
        refine on (mI h 60 x5.toNatClampNeg) h _ (Ok_rf hG) ⟨hT _ (ix_lt f5 (by decide)) ct, fg.2⟩ hT (fun r h' k' _ t' => ⟨fun _ => hp 0 h' k' ⟨by decide, by decide⟩ t', fun _ => hp 1 h' k' ⟨by decide, by decide⟩ t'⟩)
    · have b1 := f3.2
      refine ih K l1 (l2 + 1) 0 0 h _ (by omega) f1 (R_add g2 c1 0 4 (by decide)) ⟨by decide, by decide⟩ (by omega) (by omega) (fun hz => ?_) ⟨by decide, by decide⟩ hG hT (fun r h' k' fr t' => ⟨R_z fr, hp r h' k' fr t'⟩)
      have gz : R 0 3 (l2 + 1) := ⟨by have := g2.1; omega, by omega⟩
      have fw : R 159 162 (159 + (l2 + 1)) := R_add c159 gz 159 162 (by decide)
      have fv : R 0 6 (mI h 45 (159 + (l2 + 1)).toNatClampNeg) := GI_rd hG 45 _ (rgp_45_11 (ix_ge fw (by decide)) (ix_le fw (by decide)))
      have := fv.1
      omega
theorem s_X11_tellsAll {g : gT} {h : mh_T} {P : Int32 → mh_T → Prop} (l1 : Int32) (hG : GI h) (f1 : R 1 3 l1) (hT : TJ h) (hp : ∀ (r : Int32) h', Ok [59, 60] h h' → R 0 1 r → P r h') : MCi g yX11_tellsAll (uX11_tellsAll 60) [.ref 11, .int l1, .int 0, .int 0, .int 0] h P := by
  have z0 : (0 : Int32).toInt = 0 := by decide
  have fu : R 0 4 (mI h 45 (Int32.toNatClampNeg 158)) := GI_rd hG 45 _ (by decide)
  have fw : R 159 159 (159 + 0) := ⟨by decide, by decide⟩
  have fv : R 0 6 (mI h 45 (Int32.toNatClampNeg (159 + 0))) := GI_rd hG 45 _ (rgp_45_11 (ix_ge fw (by decide)) (ix_le fw (by decide)))
  refine s_X11_tellsAll_M 34 60 l1 0 0 0 h P (by decide) f1 ⟨by decide, by decide⟩ ⟨by decide, by decide⟩ (by decide) (by have := fu.1; omega) (fun _ => by have := fv.1; omega) ⟨by decide, by decide⟩ hG hT (fun r h' k f _ => hp r h' k f)
set_option maxRecDepth 100000 in
theorem s_X11_fewestStates_L {g : gT} {h0 : mh_T} {P : Int32 → mh_T → Prop} (hp : ∀ r h', Ok [59, 60] h0 h' → R (-2) 3 r → P r h') : ∀ n : Nat, (∀ (l1 : Int32) (h : mh_T), Ok [59, 60] h0 h → R 1 4 l1 → 20 * gap 4 l1 + 19 < n → ME g uX11_fewestStates 2 [.ref 11, .int l1, .retAddr 0] [] h (qI P)) ∧ (∀ (l1 l2 : Int32) (h : mh_T), Ok [59, 60] h0 h → R 1 3 l1 → R 0 18 l2 → (∀ p : Nat, p < l2.toInt → mI h 59 p = 2) → 20 * gap 4 l1 + gap 18 l2 < n → ME g uX11_fewestStates 9 [.ref 11, .int l1, .int l2] [] h (qI P)) := by
  intro n
  induction n with
  | zero => exact ⟨fun _ _ _ _ hn => absurd hn (Nat.not_lt_zero _), fun _ _ _ _ _ _ _ hn => absurd hn (Nat.not_lt_zero _)⟩
  | succ n ih =>
    have c1 : R 1 1 1 := ⟨by decide, by decide⟩
    have c0 : R 0 18 0 := ⟨by decide, by decide⟩
    have z0 : (0 : Int32).toInt = 0 := by decide
    have z18 : (18 : Int32).toInt = 18 := by decide
    have z3 : (3 : Int32).toInt = 3 := by decide
    have g0 := gap_le (N := 18) c0 (m := 18) (by decide)
    refine ⟨fun l1 h ok f1 hn => ?_, fun l1 l2 h ok f1 f2 hz hn => ?_⟩
    · refine r_X11_fewestStates_2 l1 ⟨fun _ => hp _ h ok ⟨by decide, by decide⟩, fun c => ?_⟩
      have c := le_ti (nlt c)
      have g1 : R 1 3 l1 := ⟨f1.1, by omega⟩
      exact ih.2 l1 0 h ok g1 c0 (fun p hp0 => by omega) (by omega)
    · have gi := gap_inc (N := 4) f1 (by decide)
      refine r_X11_fewestStates_9 l1 l2 ⟨fun c => ?_, fun c => ?_⟩
      · have c := le_ti c
        refine s_X11_tellsAll l1 ok.1 f1 (fun p hp18 hq => absurd (hz p (by omega)) hq) (fun r3 h2 k2 f3 => ?_)
        have o2 := Ok_tr ok k2 (by decide)
        exact ⟨fun _ => ih.1 (l1 + 1) h2 o2 (R_add f1 c1 1 4 (by decide)) (by omega), fun _ => hp _ h2 o2 (R_w f1 (by decide))⟩
      · have c := lt_ti (nle c)
        have g2 : R 0 17 l2 := ⟨f2.1, by omega⟩
        have gj := gap_inc (N := 18) g2 (by decide)
        have e2 := ti_inc g2 (by decide)
        have v2 : vp_in l2 18 := vin g2 (by decide)
        have o1 := Ok_w ok (k := 59) (j := l2.toNatClampNeg) (v := 2) (lo := 0) (hi := 2) rfl ⟨by decide, by decide⟩ (by decide) (nt_k (by decide))
        have o2 := Ok_w o1 (k := 60) (j := l2.toNatClampNeg) (v := -1) (lo := -1) (hi := 2) rfl ⟨by decide, by decide⟩ (by decide) (nt_k (by decide))
        refine ⟨v2, v2, ih.2 l1 (l2 + 1) _ o2 f1 (R_add g2 c1 0 18 (by decide)) (fun p hp => ?_) (by omega)⟩
        rw [mI_wI, if_neg (fun z => absurd z.1 (by decide)), mI_wI]
        by_cases q : p = l2.toNatClampNeg
        · rw [if_pos ⟨rfl, q⟩]
        · rw [if_neg (fun z => q z.2)]
          have q : p ≠ l2.toInt.toNat := q
          have := g2.1
          exact hz p (by omega)
theorem s_X11_fewestStates {g : gT} {h : mh_T} {P : Int32 → mh_T → Prop} (hG : GI h) (hp : ∀ (r : Int32) h', Ok [59, 60] h h' → R (-2) 3 r → P r h') : MCi g yX11_fewestStates uX11_fewestStates [.ref 11] h P :=
  e_X11_fewestStates ((s_X11_fewestStates_L hp 100).1 1 h (Ok_rf hG) ⟨by decide, by decide⟩ (by decide))
set_option maxRecDepth 100000 in
set_option maxHeartbeats 4000000 in
theorem s_X11_memory {g : gT} {h : mh_T} {P : Int32 → mh_T → Prop}  (hG : GI h)  (hp : ∀ (r : Int32) h', Ok [300, 11, 59, 60] h h' → R (-2) 3 r → ¬ mI h' 11 11 = 4 → P r h') : MCi g yX11_memory uX11_memory [.ref 11] h P := by
  have ok : Ok [300, 11, 59, 60] h h := Ok_rf hG
  refine e_X11_memory   ?_
  refine s_X11_good ok.1 (fun h1 ko_16 t4 => ?_)
  have ok_17 := Ok_tr ok ko_16 (by decide)
  have hp : ∀ (r : Int32) h', Ok [300, 11, 59, 60] h1 h' → R (-2) 3 r → P r h' := fun r h' k x0 => hp r h' (Ok_tr ok_17 k (by decide)) x0 (k.2.2.2.2.2.2.1 t4)
  have ok_17 : Ok [300, 11, 59, 60] h1 h1 := Ok_rf ok_17.1
  refine ⟨fun c_18 => ?_, fun c_18 => ?_⟩
  · have f_19 : R 0 1 (mI h1 11 14) := GI_rd ok_17.1 11 _ (by decide)
    have f_20 : R 0 0 0 := ⟨by decide, by decide⟩
    have f_21 : R 0 0 (mI h1 11 14) := rf_eq f_20 c_18
    refine s_X11_no 1 ok_17.1 (fun r4 h3 ko_22 f_24 => ?_)
    have ok_23 := Ok_tr ok_17 ko_22 (by decide)
    exact hp _ _ ok_23 (R_w f_24 (by decide))
  · have f_25 : R 0 1 (mI h1 11 14) := GI_rd ok_17.1 11 _ (by decide)
    have f_26 : R 0 0 0 := ⟨by decide, by decide⟩
    have f_27 : R 1 1 (mI h1 11 14) := rf_ne_lo f_25 c_18 (by decide) 1 rfl
    refine s_X11_fewestStates ok_17.1 (fun r6 h5 ko_28 f_30 => ?_)
    have ok_29 := Ok_tr ok_17 ko_28 (by decide)
    exact hp _ _ ok_29 (R_w f_30 (by decide))
set_option maxRecDepth 100000 in
set_option maxHeartbeats 4000000 in
theorem s_X11_machine {g : gT} {h : mh_T} {P : Int32 → mh_T → Prop} (l1 : Int32) (l2 : Int32) (l3 : Int32) (hG : GI h)  (hp : ∀ (r : Int32) h', Ok [300, 11, 59, 60] h h' → R (-2) 2 r → ¬ mI h' 11 11 = 4 → P r h') : MCi g yX11_machine uX11_machine [.ref 11, .int l1, .int l2, .int l3] h P := by
  have ok : Ok [300, 11, 59, 60] h h := Ok_rf hG
  refine e_X11_machine l1 l2 l3  ?_
  refine s_X11_good ok.1 (fun h1 ko_56 t4 => ?_)
  have ok_57 := Ok_tr ok ko_56 (by decide)
  have hp : ∀ (r : Int32) h', Ok [300, 11, 59, 60] h1 h' → R (-2) 2 r → P r h' := fun r h' k x0 => hp r h' (Ok_tr ok_57 k (by decide)) x0 (k.2.2.2.2.2.2.1 t4)
  have ok_57 : Ok [300, 11, 59, 60] h1 h1 := Ok_rf ok_57.1
  refine s_X11_isLook l2 ok_57.1 (fun r3 f_59 im_58 => ?_)
  refine ⟨fun c_60 => ?_, fun c_60 => ?_⟩
  · have f_61 : R 0 0 0 := ⟨by decide, by decide⟩
    have f_62 : R 0 0 r3 := rf_eq f_61 c_60
    refine s_X11_no 1 ok_57.1 (fun r6 h5 ko_63 f_65 => ?_)
    have ok_64 := Ok_tr ok_57 ko_63 (by decide)
    exact hp _ _ ok_64 (R_w f_65 (by decide))
  · have f_66 : R 0 0 0 := ⟨by decide, by decide⟩
    have f_67 := (im_58 c_60)
    have f_68 : R 1 1 r3 := rf_ne_lo f_59 c_60 (by decide) 1 rfl
    refine s_X11_within l1 0 2 ok_57.1 (fun r8 f_70 im_69 => ?_)
    refine ⟨fun c_71 => ?_, fun c_71 => ?_⟩
    · have f_72 : R 0 0 0 := ⟨by decide, by decide⟩
      have f_73 : R 0 0 0 := ⟨by decide, by decide⟩
      have f_74 : R 0 2147483647 l1 := rf_le_r f_73 (R_full l1) (im_69 c_71).1 0 (by decide)
      have f_75 : R 2 2 2 := ⟨by decide, by decide⟩
      have f_76 : R 0 2 l1 := rf_le_l f_74 f_75 (im_69 c_71).2 2 (by decide)
      have f_77 : R 1 1 r8 := rf_ne_lo f_70 c_71 (by decide) 1 rfl
      refine s_X11_fewestStates ok_57.1 (fun r11 h10 ko_78 f_80 => ?_)
      have ok_79 := Ok_tr ok_57 ko_78 (by decide)
      refine ⟨fun c_81 => ?_, fun c_81 => ?_⟩
      · have f_82 : R (-2) (-2) (-2) := ⟨by decide, by decide⟩
        have f_83 : R (-1) 3 r11 := rf_ne_lo f_80 c_81 (by decide) (-1) rfl
        intro x13 ex13
        have f_86 : R 6 6 6 := ⟨by decide, by decide⟩
        have f_85 : R 0 12 (6 * l1) := R_mul f_86 f_76 0 12 (by decide)
        have f_84 : R 0 17 ((6 * l1) + l2) := R_add f_85 f_67 0 17 (by decide)
        have f_87 : R 0 17 x13 := rf_eq f_84 ex13
        refine ⟨vin f_87 (by decide), ?_⟩
        refine ⟨fun c_88 => ?_, fun c_88 => ?_⟩
        · have f_89 : R 0 2 (mI h10 59 x13.toNatClampNeg) := GI_rd ok_79.1 59 _ rfl
          have f_90 : R 2 2 2 := ⟨by decide, by decide⟩
          have f_91 : R 0 1 (mI h10 59 x13.toNatClampNeg) := rf_ne_hi f_89 c_88 (by decide) 1 rfl
          refine ⟨fun c_92 => ?_, fun c_92 => ?_⟩
          · have f_93 : R 0 0 0 := ⟨by decide, by decide⟩
            have f_94 : R 0 0 l3 := rf_eq f_93 c_92
            refine ⟨vin f_87 (by decide), ?_⟩
            exact hp _ _ ok_79 (R_w f_91 (by decide))
          · have f_95 : R 0 0 0 := ⟨by decide, by decide⟩
            refine ⟨vin f_87 (by decide), ?_⟩
            have f_96 : R (-1) 2 (mI h10 60 x13.toNatClampNeg) := GI_rd ok_79.1 60 _ rfl
            exact hp _ _ ok_79 (R_w f_96 (by decide))
        · have f_97 : R 0 2 (mI h10 59 x13.toNatClampNeg) := GI_rd ok_79.1 59 _ rfl
          have f_98 : R 2 2 2 := ⟨by decide, by decide⟩
          have f_99 : R 2 2 (mI h10 59 x13.toNatClampNeg) := rf_eq f_98 c_88
          have f_100 : R (-2) (-2) (-2) := ⟨by decide, by decide⟩
          exact hp _ _ ok_79 (R_w f_100 (by decide))
      · have f_101 : R (-2) (-2) (-2) := ⟨by decide, by decide⟩
        have f_102 : R (-2) (-2) r11 := rf_eq f_101 c_81
        refine s_X11_no 6 ok_79.1 (fun r20 h19 ko_103 f_105 => ?_)
        have ok_104 := Ok_tr ok_79 ko_103 (by decide)
        exact hp _ _ ok_104 (R_w f_105 (by decide))
    · have f_106 : R 0 0 0 := ⟨by decide, by decide⟩
      have f_107 : R 0 0 r8 := rf_eq f_106 c_71
      refine s_X11_no 1 ok_57.1 (fun r22 h21 ko_108 f_110 => ?_)
      have ok_109 := Ok_tr ok_57 ko_108 (by decide)
      exact hp _ _ ok_109 (R_w f_110 (by decide))
theorem rr45 : ∀ j, j < 49 → rgT 45 (49 * 0 + j) = rgRowM j := by decide +kernel
theorem rr48 : ∀ j, j < 49 → rgT 48 (49 * 0 + j) = rgRowM j := by decide +kernel
theorem rr51 (p : Nat) : ∀ j, j < 49 → rgT 51 (49 * p + j) = rgRowM j := by
  intro j hj
  show rgRowM ((49 * p + j) % 49) = rgRowM j
  rw [show (49 * p + j) % 49 = j by omega]
set_option maxRecDepth 100000 in
set_option maxHeartbeats 4000000 in
theorem s_X11_act {g : gT} {h : mh_T} {P : Int32 → mh_T → Prop} (l1 : Int32) (l2 : Int32) (hG : GI h)  (hp : ∀ (r : Int32) h', Ok [300, 11] h h' → ¬ mI h' 11 11 = 4 → P r h') : MCi g yX11_act uX11_act [.ref 11, .int l1, .int l2] h P := by
  have ok : Ok [300, 11] h h := Ok_rf hG
  refine e_X11_act l1 l2  ?_
  refine s_X11_good ok.1 (fun h1 ko_50 t4 => ?_)
  have ok_51 := Ok_tr ok ko_50 (by decide)
  have hp : ∀ (r : Int32) h', Ok [300, 11] h1 h' → P r h' := fun r h' k => hp r h' (Ok_tr ok_51 k (by decide)) (k.2.2.2.2.2.2.1 t4)
  have ok_51 : Ok [300, 11] h1 h1 := Ok_rf ok_51.1
  refine ⟨fun c_52 => ?_, fun c_52 => ?_⟩
  · have f_53 : R 0 1 (mI h1 11 14) := GI_rd ok_51.1 11 _ (by decide)
    have f_54 : R 0 0 0 := ⟨by decide, by decide⟩
    have f_55 : R 0 0 (mI h1 11 14) := rf_eq f_54 c_52
    refine s_X11_no 1 ok_51.1 (fun r4 h3 ko_56 f_58 => ?_)
    have ok_57 := Ok_tr ok_51 ko_56 (by decide)
    exact hp _ _ ok_57 
  · have f_59 : R 0 1 (mI h1 11 14) := GI_rd ok_51.1 11 _ (by decide)
    have f_60 : R 0 0 0 := ⟨by decide, by decide⟩
    have f_61 : R 1 1 (mI h1 11 14) := rf_ne_lo f_59 c_52 (by decide) 1 rfl
    refine s_X11_within l1 0 ((mI h1 11 24) - 1) ok_51.1 (fun r6 f_63 im_62 => ?_)
    refine ⟨fun c_64 => ?_, fun c_64 => ?_⟩
    · have f_65 : R 0 0 0 := ⟨by decide, by decide⟩
      have f_66 : R 0 0 r6 := rf_eq f_65 c_64
      refine s_X11_no 1 ok_51.1 (fun r9 h8 ko_67 f_69 => ?_)
      have ok_68 := Ok_tr ok_51 ko_67 (by decide)
      exact hp _ _ ok_68 
    · have f_70 : R 0 0 0 := ⟨by decide, by decide⟩
      have f_71 : R 0 0 0 := ⟨by decide, by decide⟩
      have f_72 : R 0 2147483647 l1 := rf_le_r f_71 (R_full l1) (im_62 c_64).1 0 (by decide)
      have f_74 : R 0 20 (mI h1 11 24) := GI_rd ok_51.1 11 _ (by decide)
      have f_75 : R 1 1 1 := ⟨by decide, by decide⟩
      have f_73 : R (-1) 19 ((mI h1 11 24) - 1) := R_sub f_74 f_75 (-1) 19 (by decide)
      have f_76 : R 0 19 l1 := rf_le_l f_72 f_73 (im_62 c_64).2 19 (by decide)
      have f_77 : R 0 19 ((mI h1 11 24) - 1) := rf_le_r f_72 f_73 (im_62 c_64).2 0 (by decide)
      have f_78 : R 1 20 (mI h1 11 24) := R_um1 f_74 f_77 1 20 (by decide)
      have f_79 : R 1 1 r6 := rf_ne_lo f_63 c_64 (by decide) 1 rfl
      refine s_X11_within l2 0 4 ok_51.1 (fun r11 f_81 im_80 => ?_)
      refine ⟨fun c_82 => ?_, fun c_82 => ?_⟩
      · have f_83 : R 0 0 0 := ⟨by decide, by decide⟩
        have f_84 : R 0 0 r11 := rf_eq f_83 c_82
        refine s_X11_no 1 ok_51.1 (fun r14 h13 ko_85 f_87 => ?_)
        have ok_86 := Ok_tr ok_51 ko_85 (by decide)
        exact hp _ _ ok_86 
      · have f_88 : R 0 0 0 := ⟨by decide, by decide⟩
        have f_89 : R 0 0 0 := ⟨by decide, by decide⟩
        have f_90 : R 0 2147483647 l2 := rf_le_r f_89 (R_full l2) (im_80 c_82).1 0 (by decide)
        have f_91 : R 4 4 4 := ⟨by decide, by decide⟩
        have f_92 : R 0 4 l2 := rf_le_l f_90 f_91 (im_80 c_82).2 4 (by decide)
        have f_93 : R 1 1 r11 := rf_ne_lo f_81 c_82 (by decide) 1 rfl
        have f_96 : R 5 5 5 := ⟨by decide, by decide⟩
        have f_95 : R 0 95 (5 * l1) := R_mul f_96 f_76 0 95 (by decide)
        have f_94 : R 0 99 ((5 * l1) + l2) := R_add f_95 f_92 0 99 (by decide)
        refine ⟨vin f_94 (by decide), ?_⟩
        have f_98 : R (-2147483648) 2147483647 (mI h 52 ((5 * l1) + l2).toNatClampNeg) := R_full _
        have f_97 : R (-2147483648) 2147483647 (mI h1 52 ((5 * l1) + l2).toNatClampNeg) := Ok_rd ko_50 (by decide) f_98
        exact hp _ _ ok_51 
set_option maxRecDepth 100000 in
set_option maxHeartbeats 4000000 in
theorem s_X11_times {g : gT} {h : mh_T} {P : Int32 → mh_T → Prop} (l1 : Int32) (l2 : Int32) (hG : GI h)  (hp : ∀ (r : Int32) h', Ok [300, 11] h h' → ¬ mI h' 11 11 = 4 → P r h') : MCi g yX11_times uX11_times [.ref 11, .int l1, .int l2] h P := by
  have ok : Ok [300, 11] h h := Ok_rf hG
  refine e_X11_times l1 l2  ?_
  refine s_X11_good ok.1 (fun h1 ko_22 t4 => ?_)
  have ok_23 := Ok_tr ok ko_22 (by decide)
  have hp : ∀ (r : Int32) h', Ok [300, 11] h1 h' → P r h' := fun r h' k => hp r h' (Ok_tr ok_23 k (by decide)) (k.2.2.2.2.2.2.1 t4)
  have ok_23 : Ok [300, 11] h1 h1 := Ok_rf ok_23.1
  refine s_X11_isOutcome l1 l2 ok_23.1 (fun r3 f_25 im_24 => ?_)
  refine ⟨fun c_26 => ?_, fun c_26 => ?_⟩
  · have f_27 : R 0 0 0 := ⟨by decide, by decide⟩
    have f_28 : R 0 0 r3 := rf_eq f_27 c_26
    refine s_X11_no 1 ok_23.1 (fun r6 h5 ko_29 f_31 => ?_)
    have ok_30 := Ok_tr ok_23 ko_29 (by decide)
    exact hp _ _ ok_30 
  · have f_32 : R 0 0 0 := ⟨by decide, by decide⟩
    have f_33 := (im_24 c_26).1
    have f_34 := (im_24 c_26).2
    have f_35 : R 1 1 r3 := rf_ne_lo f_25 c_26 (by decide) 1 rfl
    have f_38 : R 17 17 17 := ⟨by decide, by decide⟩
    have f_40 : R 4 4 4 := ⟨by decide, by decide⟩
    have f_39 : R 0 28 (4 * l1) := R_mul f_40 f_33 0 28 (by decide)
    have f_37 : R 17 45 (17 + (4 * l1)) := R_add f_38 f_39 17 45 (by decide)
    have f_36 : R 17 48 ((17 + (4 * l1)) + l2) := R_add f_37 f_34 17 48 (by decide)
    refine ⟨vin f_36 (by decide), ?_⟩
    have f_42 : R (-2147483648) 2147483647 (mI h 45 ((17 + (4 * l1)) + l2).toNatClampNeg) := R_full _
    have f_41 : R (-2147483648) 2147483647 (mI h1 45 ((17 + (4 * l1)) + l2).toNatClampNeg) := Ok_rd ko_22 (by decide) f_42
    exact hp _ _ ok_23 
set_option maxRecDepth 100000 in
set_option maxHeartbeats 4000000 in
theorem s_X11_look {g : gT} {h : mh_T} {P : Int32 → mh_T → Prop} (l1 : Int32) (l2 : Int32) (hG : GI h)  (hp : ∀ (r : Int32) h', Ok [300, 11] h h' → R (-2) 5 r → ¬ mI h' 11 11 = 4 → P r h') : MCi g yX11_look uX11_look [.ref 11, .int l1, .int l2] h P := by
  have ok : Ok [300, 11] h h := Ok_rf hG
  refine e_X11_look l1 l2  ?_
  refine s_X11_good ok.1 (fun h1 ko_27 t4 => ?_)
  have ok_28 := Ok_tr ok ko_27 (by decide)
  have hp : ∀ (r : Int32) h', Ok [300, 11] h1 h' → R (-2) 5 r → P r h' := fun r h' k x0 => hp r h' (Ok_tr ok_28 k (by decide)) x0 (k.2.2.2.2.2.2.1 t4)
  have ok_28 : Ok [300, 11] h1 h1 := Ok_rf ok_28.1
  refine s_X11_isSet l1 ok_28.1 (fun r3 f_30 im_29 => ?_)
  refine ⟨fun c_31 => ?_, fun c_31 => ?_⟩
  · have f_32 : R 0 0 0 := ⟨by decide, by decide⟩
    have f_33 : R 0 0 r3 := rf_eq f_32 c_31
    refine s_X11_no 1 ok_28.1 (fun r6 h5 ko_34 f_36 => ?_)
    have ok_35 := Ok_tr ok_28 ko_34 (by decide)
    exact hp _ _ ok_35 (R_w f_36 (by decide))
  · have f_37 : R 0 0 0 := ⟨by decide, by decide⟩
    have f_38 := (im_29 c_31).1
    have f_39 := (im_29 c_31).2
    have f_40 : R 1 1 r3 := rf_ne_lo f_30 c_31 (by decide) 1 rfl
    refine ⟨fun c_41 => ?_, fun c_41 => ?_⟩
    · have f_42 : R 0 0 0 := ⟨by decide, by decide⟩
      have f_43 : R 0 0 l2 := rf_eq f_42 c_41
      have f_45 : R 1 1 1 := ⟨by decide, by decide⟩
      have f_44 : R 1 8 (1 + l1) := R_add f_45 f_38 1 8 (by decide)
      refine ⟨vin f_44 (by decide), ?_⟩
      have f_47 : R (-1) 5 (mI h 45 (1 + l1).toNatClampNeg) := GI_rd ok.1 45 _ (rgp_45_1 (ix_ge f_44 (by decide)) (ix_le f_44 (by decide)))
      have f_46 : R (-1) 5 (mI h1 45 (1 + l1).toNatClampNeg) := Ok_rd ko_27 (by decide) f_47
      exact hp _ _ ok_28 (R_w f_46 (by decide))
    · have f_48 : R 0 0 0 := ⟨by decide, by decide⟩
      have f_50 : R 9 9 9 := ⟨by decide, by decide⟩
      have f_49 : R 9 16 (9 + l1) := R_add f_50 f_38 9 16 (by decide)
      refine ⟨vin f_49 (by decide), ?_⟩
      have f_52 : R (-2) 5 (mI h 45 (9 + l1).toNatClampNeg) := GI_rd ok.1 45 _ (rgp_45_2 (ix_ge f_49 (by decide)) (ix_le f_49 (by decide)))
      have f_51 : R (-2) 5 (mI h1 45 (9 + l1).toNatClampNeg) := Ok_rd ko_27 (by decide) f_52
      exact hp _ _ ok_28 (R_w f_51 (by decide))
set_option maxRecDepth 100000 in
set_option maxHeartbeats 4000000 in
theorem s_X11_coins {g : gT} {h : mh_T} {P : Int32 → mh_T → Prop} (l1 : Int32) (l2 : Int32) (hG : GI h)  (hp : ∀ (r : Int32) h', Ok [300, 11] h h' → ¬ mI h' 11 11 = 4 → P r h') : MCi g yX11_coins uX11_coins [.ref 11, .int l1, .int l2] h P := by
  have ok : Ok [300, 11] h h := Ok_rf hG
  refine e_X11_coins l1 l2  ?_
  refine s_X11_good ok.1 (fun h1 ko_20 t4 => ?_)
  have ok_21 := Ok_tr ok ko_20 (by decide)
  have hp : ∀ (r : Int32) h', Ok [300, 11] h1 h' → P r h' := fun r h' k => hp r h' (Ok_tr ok_21 k (by decide)) (k.2.2.2.2.2.2.1 t4)
  have ok_21 : Ok [300, 11] h1 h1 := Ok_rf ok_21.1
  refine s_X11_isOutcome l1 l2 ok_21.1 (fun r3 f_23 im_22 => ?_)
  refine ⟨fun c_24 => ?_, fun c_24 => ?_⟩
  · have f_25 : R 0 0 0 := ⟨by decide, by decide⟩
    have f_26 : R 0 0 r3 := rf_eq f_25 c_24
    refine s_X11_no 1 ok_21.1 (fun r6 h5 ko_27 f_29 => ?_)
    have ok_28 := Ok_tr ok_21 ko_27 (by decide)
    exact hp _ _ ok_28 
  · have f_30 : R 0 0 0 := ⟨by decide, by decide⟩
    have f_31 := (im_22 c_24).1
    have f_32 := (im_22 c_24).2
    have f_33 : R 1 1 r3 := rf_ne_lo f_23 c_24 (by decide) 1 rfl
    have f_36 : R 4 4 4 := ⟨by decide, by decide⟩
    have f_35 : R 0 28 (4 * l1) := R_mul f_36 f_31 0 28 (by decide)
    have f_34 : R 0 31 ((4 * l1) + l2) := R_add f_35 f_32 0 31 (by decide)
    refine ⟨vin f_34 (by decide), ?_⟩
    have f_38 : R (-2147483648) 2147483647 (mI h 47 ((4 * l1) + l2).toNatClampNeg) := R_full _
    have f_37 : R (-2147483648) 2147483647 (mI h1 47 ((4 * l1) + l2).toNatClampNeg) := Ok_rd ko_20 (by decide) f_38
    exact hp _ _ ok_21 
set_option maxRecDepth 100000 in
set_option maxHeartbeats 4000000 in
theorem s_X11_led_L {g : gT} {h0 : mh_T} {P : Int32 → mh_T → Prop} (hG0 : GI h0) (hp : ∀ (r : Int32) h', Ok [11] h0 h' → R 0 31 r → P r h') : ∀ n : Nat, (∀ (l1 : Int32) (l2 : Int32) (l3 : Int32) (h : mh_T), Ok [11] h0 h → R (-2147483648) 2147483647 l1 → R (-2147483648) 2147483647 l2 → R 0 8 l3 → 6 * gap 8 l3 + 5 < n → ME g uX11_led 4 [.ref 11, .int l1, .int l2, .int l3, .retAddr 0] [] h (qI P)) ∧ (∀ (l1 : Int32) (l2 : Int32) (l3 : Int32) (l4 : Int32) (h : mh_T), Ok [11] h0 h → R (-2147483648) 2147483647 l1 → R (-2147483648) 2147483647 l2 → R 0 7 l3 → R 0 4 l4 → 1 * gap 4 l4 + 6 * gap 8 l3 + 0 < n → ME g uX11_led 24 [.ref 11, .int l1, .int l2, .int l3, .int l4] [] h (qI P)) := by
  intro n
  induction n with
  | zero =>
    exact ⟨(fun _ _ _ _ _ _ _ _ hm => absurd hm (Nat.not_lt_zero _)), (fun _ _ _ _ _ _ _ _ _ _ hm => absurd hm (Nat.not_lt_zero _))⟩
  | succ n ih =>
    refine ⟨?_, ?_⟩
    · intro l1 l2 l3 h  ok fl1 fl2 fl3     hm
      refine r_X11_led_4 l1 l2 l3  ?_
      refine ⟨fun c_3208 => ?_, fun c_3208 => ?_⟩
      · have f_3209 : R 0 1 (mI h 11 14) := GI_rd ok.1 11 _ (by decide)
        have f_3210 : R 0 0 0 := ⟨by decide, by decide⟩
        have f_3211 : R 0 0 (mI h 11 14) := rf_eq f_3210 c_3208
        have f_3212 : R 1 1 1 := ⟨by decide, by decide⟩
        have ok_3213 := Ok_w ok (k := 11) (j := 0) (v := 1) (lo := (-2147483648)) (hi := 2147483647) (by decide) (R_w f_3212 (by decide)) (by decide) (by decide)
        have f_3214 : R 0 0 0 := ⟨by decide, by decide⟩
        exact hp _ _ ok_3213 (R_w f_3214 (by decide))
      · have f_3215 : R 0 1 (mI h 11 14) := GI_rd ok.1 11 _ (by decide)
        have f_3216 : R 0 0 0 := ⟨by decide, by decide⟩
        have f_3217 : R 1 1 (mI h 11 14) := rf_ne_lo f_3215 c_3208 (by decide) 1 rfl
        refine ⟨fun c_3218 => ?_, fun c_3218 => ?_⟩
        · have f_3219 : R 0 8 (mI h 45 (Int32.toNatClampNeg 0)) := GI_rd ok.1 45 _ (by decide)
          have f_3220 : R 1 1 1 := ⟨by decide, by decide⟩
          have ok_3221 := Ok_w ok (k := 11) (j := 0) (v := 1) (lo := (-2147483648)) (hi := 2147483647) (by decide) (R_w f_3220 (by decide)) (by decide) (by decide)
          have f_3222 : R 0 0 0 := ⟨by decide, by decide⟩
          exact hp _ _ ok_3221 (R_w f_3222 (by decide))
        · have f_3223 : R 0 8 (mI h 45 (Int32.toNatClampNeg 0)) := GI_rd ok.1 45 _ (by decide)
          have f_3224 : R 0 7 l3 := rf_lt_l fl3 f_3223 (nle c_3218) 7 (by decide)
          have f_3225 : R 1 8 (mI h 45 (Int32.toNatClampNeg 0)) := rf_lt_r fl3 f_3223 (nle c_3218) 1 (by decide)
          have f_3226 : R 0 0 0 := ⟨by decide, by decide⟩
          have f_3227 : R 0 0 0 := ⟨by decide, by decide⟩
          have g_3228 := gap_le (N := 4) f_3227 (m := 4) (by decide)
          exact (ih.2) l1 l2 l3 0 h  ok (R_w fl1 (by decide)) (R_w fl2 (by decide)) (R_w f_3224 (by decide)) (R_w f_3226 (by decide)) (by omega)
    · intro l1 l2 l3 l4 h  ok fl1 fl2 fl3 fl4     hm
      refine r_X11_led_24 l1 l2 l3 l4  ?_
      refine s_X11_outcomes l3 ok.1 (R_w fl3 (by decide)) (fun r2 f_3229 => ?_)
      refine ⟨fun c_3230 => ?_, fun c_3230 => ?_⟩
      · have f_3231 : R 2 4 l4 := rf_le_r f_3229 fl4 c_3230 2 (by decide)
        have f_3233 : R 1 1 1 := ⟨by decide, by decide⟩
        have f_3232 : R 1 8 (l3 + 1) := R_add fl3 f_3233 1 8 (by decide)
        have g_3234 := gap_inc (N := 8) fl3 (by decide)
        exact (ih.1) l1 l2 (l3 + 1) h  ok (R_w fl1 (by decide)) (R_w fl2 (by decide)) (R_w f_3232 (by decide)) (by omega)
      · have f_3235 : R 0 3 l4 := rf_lt_l fl4 f_3229 (nle c_3230) 3 (by decide)
        have f_3238 : R 17 17 17 := ⟨by decide, by decide⟩
        have f_3240 : R 4 4 4 := ⟨by decide, by decide⟩
        have f_3239 : R 0 28 (4 * l3) := R_mul f_3240 fl3 0 28 (by decide)
        have f_3237 : R 17 45 (17 + (4 * l3)) := R_add f_3238 f_3239 17 45 (by decide)
        have f_3236 : R 17 48 ((17 + (4 * l3)) + l4) := R_add f_3237 f_3235 17 48 (by decide)
        refine ⟨vin f_3236 (by decide), ?_⟩
        refine ⟨fun c_3241 => ?_, fun c_3241 => ?_⟩
        · have f_3242 : R (-2147483648) 2147483647 (mI h 45 ((17 + (4 * l3)) + l4).toNatClampNeg) := R_full _
          have f_3243 : R 0 0 0 := ⟨by decide, by decide⟩
          have f_3244 : R 0 0 (mI h 45 ((17 + (4 * l3)) + l4).toNatClampNeg) := rf_eq f_3243 c_3241
          have f_3246 : R 1 1 1 := ⟨by decide, by decide⟩
          have f_3245 : R 1 4 (l4 + 1) := R_add f_3235 f_3246 1 4 (by decide)
          have g_3247 := gap_inc (N := 4) f_3235 (by decide)
          exact (ih.2) l1 l2 l3 (l4 + 1) h  ok (R_w fl1 (by decide)) (R_w fl2 (by decide)) (R_w fl3 (by decide)) (R_w f_3245 (by decide)) (by omega)
        · have f_3248 : R (-2147483648) 2147483647 (mI h 45 ((17 + (4 * l3)) + l4).toNatClampNeg) := R_full _
          have f_3249 : R 0 0 0 := ⟨by decide, by decide⟩
          refine s_X11_doesExtend l3 l4 ok.1 (R_w fl3 (by decide)) (fun r7 f_3250 => ?_)
          refine ⟨fun c_3251 => ?_, fun c_3251 => ?_⟩
          · have f_3252 : R 0 0 0 := ⟨by decide, by decide⟩
            have f_3253 : R 0 0 r7 := rf_eq f_3252 c_3251
            refine ⟨fun c_3254 => ?_, fun c_3254 => ?_⟩
            · have f_3256 : R 1 1 1 := ⟨by decide, by decide⟩
              have f_3255 : R (-2147483648) 2147483647 (l2 + 1) := R_full _
              have f_3258 : R 1 1 1 := ⟨by decide, by decide⟩
              have f_3257 : R 1 4 (l4 + 1) := R_add f_3235 f_3258 1 4 (by decide)
              have g_3259 := gap_inc (N := 4) f_3235 (by decide)
              exact (ih.2) l1 (l2 + 1) l3 (l4 + 1) h  ok (R_w fl1 (by decide)) (R_w f_3255 (by decide)) (R_w fl3 (by decide)) (R_w f_3257 (by decide)) (by omega)
            · have f_3260 : R 0 0 0 := ⟨by decide, by decide⟩
              have ok_3261 := Ok_w ok (k := 11) (j := 0) (v := 0) (lo := (-2147483648)) (hi := 2147483647) (by decide) (R_w f_3260 (by decide)) (by decide) (by decide)
              have f_3262 : R 0 31 ((4 * l3) + l4) := R_add f_3239 f_3235 0 31 (by decide)
              exact hp _ _ ok_3261 (R_w f_3262 (by decide))
          · have f_3263 : R 0 0 0 := ⟨by decide, by decide⟩
            have f_3264 : R 1 1 r7 := rf_ne_lo f_3250 c_3251 (by decide) 1 rfl
            have f_3266 : R 1 1 1 := ⟨by decide, by decide⟩
            have f_3265 : R 1 4 (l4 + 1) := R_add f_3235 f_3266 1 4 (by decide)
            have g_3267 := gap_inc (N := 4) f_3235 (by decide)
            exact (ih.2) l1 l2 l3 (l4 + 1) h  ok (R_w fl1 (by decide)) (R_w fl2 (by decide)) (R_w fl3 (by decide)) (R_w f_3265 (by decide)) (by omega)
set_option maxRecDepth 100000 in
set_option maxHeartbeats 4000000 in
theorem s_X11_led {g : gT} {h : mh_T} {P : Int32 → mh_T → Prop} (l1 : Int32) (hG : GI h)  (hp : ∀ (r : Int32) h', Ok [11] h h' → R 0 31 r → P r h') : MCi g yX11_led uX11_led [.ref 11, .int l1] h P := by
  have ok : Ok [11] h h := Ok_rf hG
  have L0 := s_X11_led_L (g := g) hG hp 54
  refine e_X11_led l1  ?_
  have f_3268 : R 0 0 0 := ⟨by decide, by decide⟩
  have f_3269 : R 0 0 0 := ⟨by decide, by decide⟩
  have f_3270 : R 0 0 0 := ⟨by decide, by decide⟩
  have g_3271 := gap_le (N := 8) f_3270 (m := 8) (by decide)
  exact (L0.1) l1 0 0 h  ok (R_w (R_full l1) (by decide)) (R_w f_3268 (by decide)) (R_w f_3269 (by decide)) (by omega)
set_option maxRecDepth 100000 in
set_option maxHeartbeats 4000000 in
theorem s_X11_size {g : gT} {h : mh_T} {P : Int32 → mh_T → Prop} (l1 : Int32) (hG : GI h)  (hp : ∀ (r : Int32) h', Ok [11] h h' → R (-1) 900 r → P r h') : MCi g yX11_size uX11_size [.ref 11, .int l1] h P := by
  have ok : Ok [11] h h := Ok_rf hG
  refine e_X11_size l1  ?_
  refine ⟨fun c_76 => ?_, fun c_76 => ?_⟩
  · have f_77 : R 10 10 10 := ⟨by decide, by decide⟩
    refine ⟨fun c_78 => ?_, fun c_78 => ?_⟩
    · have f_80 : R 0 1 (mI h 11 14) := GI_rd ok.1 11 _ (by decide)
      have f_79 : R 0 1 (mI (wI h 11 0 0) 11 14) := (rd_nj f_80 (by decide))
      have f_81 : R 0 0 0 := ⟨by decide, by decide⟩
      have f_82 : R 1 1 (mI (wI h 11 0 0) 11 14) := rf_ne_lo f_79 c_78 (by decide) 1 rfl
      refine ⟨fun c => ?_, fun c => ?_, fun c => ?_, fun c => ?_, fun c => ?_, fun c => ?_, fun c => ?_, fun c => ?_, fun c => ?_, fun c => ?_, fun c => ?_⟩
      · have f_83 : R 0 0 0 := ⟨by decide, by decide⟩
        have ok_84 := Ok_w ok (k := 11) (j := 0) (v := 0) (lo := (-2147483648)) (hi := 2147483647) (by decide) (R_w f_83 (by decide)) (by decide) (by decide)
        have f_85 : R (-1) (-1) (-1) := ⟨by decide, by decide⟩
        exact hp _ _ ok_84 (R_w f_85 (by decide))
      · have f_86 : R 0 0 0 := ⟨by decide, by decide⟩
        have ok_87 := Ok_w ok (k := 11) (j := 0) (v := 0) (lo := (-2147483648)) (hi := 2147483647) (by decide) (R_w f_86 (by decide)) (by decide) (by decide)
        have f_89 : R 0 6 (mI h 45 (Int32.toNatClampNeg 50)) := GI_rd ok.1 45 _ (by decide)
        have f_88 : R 0 6 (mI (wI h 11 0 0) 45 (Int32.toNatClampNeg 50)) := (rd_ne f_89 (by decide))
        exact hp _ _ ok_87 (R_w f_88 (by decide))
      · have f_90 : R 0 0 0 := ⟨by decide, by decide⟩
        have ok_91 := Ok_w ok (k := 11) (j := 0) (v := 0) (lo := (-2147483648)) (hi := 2147483647) (by decide) (R_w f_90 (by decide)) (by decide) (by decide)
        have f_93 : R 0 9 (mI h 45 (Int32.toNatClampNeg 51)) := GI_rd ok.1 45 _ (by decide)
        have f_92 : R 0 9 (mI (wI h 11 0 0) 45 (Int32.toNatClampNeg 51)) := (rd_ne f_93 (by decide))
        exact hp _ _ ok_91 (R_w f_92 (by decide))
      · have f_94 : R 0 0 0 := ⟨by decide, by decide⟩
        have ok_95 := Ok_w ok (k := 11) (j := 0) (v := 0) (lo := (-2147483648)) (hi := 2147483647) (by decide) (R_w f_94 (by decide)) (by decide) (by decide)
        have f_97 : R 0 8 (mI h 45 (Int32.toNatClampNeg 0)) := GI_rd ok.1 45 _ (by decide)
        have f_96 : R 0 8 (mI (wI h 11 0 0) 45 (Int32.toNatClampNeg 0)) := (rd_ne f_97 (by decide))
        exact hp _ _ ok_95 (R_w f_96 (by decide))
      · have f_98 : R 0 0 0 := ⟨by decide, by decide⟩
        have ok_99 := Ok_w ok (k := 11) (j := 0) (v := 0) (lo := (-2147483648)) (hi := 2147483647) (by decide) (R_w f_98 (by decide)) (by decide) (by decide)
        have f_101 : R 0 8 (mI h 45 (Int32.toNatClampNeg 52)) := GI_rd ok.1 45 _ (by decide)
        have f_100 : R 0 8 (mI (wI h 11 0 0) 45 (Int32.toNatClampNeg 52)) := (rd_ne f_101 (by decide))
        exact hp _ _ ok_99 (R_w f_100 (by decide))
      · have f_102 : R 0 0 0 := ⟨by decide, by decide⟩
        have ok_103 := Ok_w ok (k := 11) (j := 0) (v := 0) (lo := (-2147483648)) (hi := 2147483647) (by decide) (R_w f_102 (by decide)) (by decide) (by decide)
        have f_105 : R 0 18 (mI h 45 (Int32.toNatClampNeg 85)) := GI_rd ok.1 45 _ (by decide)
        have f_104 : R 0 18 (mI (wI h 11 0 0) 45 (Int32.toNatClampNeg 85)) := (rd_ne f_105 (by decide))
        exact hp _ _ ok_103 (R_w f_104 (by decide))
      · have f_106 : R 0 0 0 := ⟨by decide, by decide⟩
        have ok_107 := Ok_w ok (k := 11) (j := 0) (v := 0) (lo := (-2147483648)) (hi := 2147483647) (by decide) (R_w f_106 (by decide)) (by decide) (by decide)
        have f_109 : R 0 4 (mI h 45 (Int32.toNatClampNeg 158)) := GI_rd ok.1 45 _ (by decide)
        have f_108 : R 0 4 (mI (wI h 11 0 0) 45 (Int32.toNatClampNeg 158)) := (rd_ne f_109 (by decide))
        exact hp _ _ ok_107 (R_w f_108 (by decide))
      · have f_110 : R 0 0 0 := ⟨by decide, by decide⟩
        have ok_111 := Ok_w ok (k := 11) (j := 0) (v := 0) (lo := (-2147483648)) (hi := 2147483647) (by decide) (R_w f_110 (by decide)) (by decide) (by decide)
        have f_113 : R 0 60 (mI h 45 (Int32.toNatClampNeg 49)) := GI_rd ok.1 45 _ (by decide)
        have f_112 : R 0 60 (mI (wI h 11 0 0) 45 (Int32.toNatClampNeg 49)) := (rd_ne f_113 (by decide))
        exact hp _ _ ok_111 (R_w f_112 (by decide))
      · have f_114 : R 0 0 0 := ⟨by decide, by decide⟩
        have ok_115 := Ok_w ok (k := 11) (j := 0) (v := 0) (lo := (-2147483648)) (hi := 2147483647) (by decide) (R_w f_114 (by decide)) (by decide) (by decide)
        have f_117 : R 0 20 (mI h 11 24) := GI_rd ok.1 11 _ (by decide)
        have f_116 : R 0 20 (mI (wI h 11 0 0) 11 24) := (rd_nj f_117 (by decide))
        exact hp _ _ ok_115 (R_w f_116 (by decide))
      · have f_118 : R 0 0 0 := ⟨by decide, by decide⟩
        have ok_119 := Ok_w ok (k := 11) (j := 0) (v := 0) (lo := (-2147483648)) (hi := 2147483647) (by decide) (R_w f_118 (by decide)) (by decide) (by decide)
        have f_121 : R 0 20 (mI h 11 25) := GI_rd ok.1 11 _ (by decide)
        have f_120 : R 0 20 (mI (wI h 11 0 0) 11 25) := (rd_nj f_121 (by decide))
        exact hp _ _ ok_119 (R_w f_120 (by decide))
      · have f_122 : R 0 0 0 := ⟨by decide, by decide⟩
        have ok_123 := Ok_w ok (k := 11) (j := 0) (v := 0) (lo := (-2147483648)) (hi := 2147483647) (by decide) (R_w f_122 (by decide)) (by decide) (by decide)
        have f_125 : R 0 4 (mI h 11 26) := GI_rd ok.1 11 _ (by decide)
        have f_124 : R 0 4 (mI (wI h 11 0 0) 11 26) := (rd_nj f_125 (by decide))
        exact hp _ _ ok_123 (R_w f_124 (by decide))
    · have f_127 : R 0 1 (mI h 11 14) := GI_rd ok.1 11 _ (by decide)
      have f_126 : R 0 1 (mI (wI h 11 0 0) 11 14) := (rd_nj f_127 (by decide))
      have f_128 : R 0 0 0 := ⟨by decide, by decide⟩
      have f_129 : R 0 0 (mI (wI h 11 0 0) 11 14) := rf_eq f_128 c_78
      have f_130 : R 0 0 0 := ⟨by decide, by decide⟩
      have ok_131 := Ok_w ok (k := 11) (j := 0) (v := 0) (lo := (-2147483648)) (hi := 2147483647) (by decide) (R_w f_130 (by decide)) (by decide) (by decide)
      refine s_X11_within l1 0 9 ok_131.1 (fun r5 f_133 im_132 => ?_)
      refine ⟨fun c_134 => ?_, fun c_134 => ?_⟩
      · have f_135 : R 0 0 0 := ⟨by decide, by decide⟩
        have f_136 : R 0 0 r5 := rf_eq f_135 c_134
        have f_137 : R (-1) (-1) (-1) := ⟨by decide, by decide⟩
        exact hp _ _ ok_131 (R_w f_137 (by decide))
      · have f_138 : R 0 0 0 := ⟨by decide, by decide⟩
        have f_139 : R 0 0 0 := ⟨by decide, by decide⟩
        have f_140 : R 0 2147483647 l1 := rf_le_r f_139 (R_full l1) (im_132 c_134).1 0 (by decide)
        have f_141 : R 9 9 9 := ⟨by decide, by decide⟩
        have f_142 : R 0 9 l1 := rf_le_l f_140 f_141 (im_132 c_134).2 9 (by decide)
        have f_143 : R 1 1 r5 := rf_ne_lo f_133 c_134 (by decide) 1 rfl
        have f_144 : R 0 0 0 := ⟨by decide, by decide⟩
        exact hp _ _ ok_131 (R_w f_144 (by decide))
  · have f_145 : R 10 10 10 := ⟨by decide, by decide⟩
    have f_146 : R 10 10 l1 := rf_eq f_145 c_76
    have f_147 : R 0 0 0 := ⟨by decide, by decide⟩
    have ok_148 := Ok_w ok (k := 11) (j := 0) (v := 0) (lo := (-2147483648)) (hi := 2147483647) (by decide) (R_w f_147 (by decide)) (by decide) (by decide)
    have f_150 : R 0 900 (mI h 11 2) := GI_rd ok.1 11 _ (by decide)
    have f_149 : R 0 900 (mI (wI h 11 0 0) 11 2) := (rd_nj f_150 (by decide))
    exact hp _ _ ok_148 (R_w f_149 (by decide))
set_option maxRecDepth 100000 in
set_option maxHeartbeats 4000000 in
theorem s_X11_trouble {g : gT} {h : mh_T} {P : Int32 → mh_T → Prop}  (hG : GI h)  (hp : ∀ (r : Int32) h', Ok [11] h h' → P r h') : MCi g yX11_trouble uX11_trouble [.ref 11] h P := by
  have ok : Ok [11] h h := Ok_rf hG
  refine e_X11_trouble   ?_
  have f_5 : R 0 0 0 := ⟨by decide, by decide⟩
  have ok_6 := Ok_w ok (k := 11) (j := 0) (v := 0) (lo := (-2147483648)) (hi := 2147483647) (by decide) (R_w f_5 (by decide)) (by decide) (by decide)
  have f_8 : R (-2147483648) 2147483647 (mI h 11 11) := R_full _
  have f_7 : R (-2147483648) 2147483647 (mI (wI h 11 0 0) 11 11) := (rd_nj f_8 (by decide))
  exact hp _ _ ok_6 
