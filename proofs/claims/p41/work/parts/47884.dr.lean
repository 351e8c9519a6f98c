/-! DROP: goesAway, remove -/
/-- the sets from S to s have come one up -/
def ga (S s q : Nat) : Nat := if S ≤ q ∧ q < s then q + 1 else q
def GA (S s : Nat) (a0 c0 a c : Nat → Int32) : Prop := a 0 = a0 0 ∧ ∀ q, q < 8 → sE a q a0 (ga S s q) ∧ cE c q c0 (ga S s q)
theorem GA_0 (S : Nat) (a c : Nat → Int32) : GA S S a c a c := ⟨rfl, fun q _ => by unfold ga; rw [if_neg (by omega)]; exact ⟨sE_rf a q, fun _ _ => rfl⟩⟩
theorem GA_s {S s : Nat} {a0 c0 a c a' c' : Nat → Int32} (hs : s < 7) (hS : S ≤ s) (f : GA S s a0 c0 a c) (h0 : a' 0 = a 0) (ho : ∀ q, q < 8 → ¬ q = s → sE a' q a q ∧ cE c' q c q) (hx : sE a' s a (s + 1) ∧ cE c' s c (s + 1)) : GA S (s + 1) a0 c0 a' c' := by
  refine ⟨h0.trans f.1, fun q hq => ?_⟩
  by_cases e : q = s
  · subst e
    have f1 := f.2 (q + 1) (by omega)
    unfold ga at *
    rw [if_neg (by omega)] at f1
    rw [if_pos (by omega)]
    exact ⟨sE_tr hx.1 f1.1, cE_tr hx.2 f1.2⟩
  · have f1 := f.2 q hq
    have : ga S (s + 1) q = ga S s q := by
      unfold ga
      by_cases y : S ≤ q ∧ q < s
      · rw [if_pos y, if_pos (by omega)]
      · rw [if_neg y, if_neg (by omega)]
    rw [this]
    exact ⟨sE_tr (ho q hq e).1 f1.1, cE_tr (ho q hq e).2 f1.2⟩
theorem GA_e {S s : Nat} {a0 c0 a c a' c' : Nat → Int32} (n8 : sn a0 ≤ 8) (hs : sn a0 ≤ s + 1) (f : GA S s a0 c0 a c) (h0 : (a' 0).toInt = (a0 0).toInt - 1) (ho : ∀ q, q + 1 < sn a0 → sE a' q a q ∧ cE c' q c q) : drp S a0 c0 a' c' := by
  refine ⟨h0, fun q hq => ?_⟩
  have f1 := f.2 q (by omega)
  have : ga S s q = dq S q := by
    unfold ga dq
    by_cases y : q < S
    · rw [if_pos y, if_neg (by omega)]
    · rw [if_neg y, if_pos (by omega)]
  rw [this] at f1
  exact ⟨sE_tr (ho q hq).1 f1.1, cE_tr (ho q hq).2 f1.2⟩
/-- set s gets what set s + 1 has, up to outcome k -/
def IG (s k : Nat) (a0 c0 a c : Nat → Int32) : Prop := (∀ j, ¬ j = 1 + s → ¬ j = 9 + s → ¬ (17 + 4 * s ≤ j ∧ j < 17 + 4 * s + 4) → a j = a0 j) ∧ (∀ j, ¬ (4 * s ≤ j ∧ j < 4 * s + 4) → c j = c0 j) ∧ a (1 + s) = a0 (1 + (s + 1)) ∧ a (9 + s) = a0 (9 + (s + 1)) ∧ ∀ i, i < k → a (17 + 4 * s + i) = a0 (17 + 4 * (s + 1) + i) ∧ c (4 * s + i) = c0 (4 * (s + 1) + i)
theorem IG_1 {s k : Nat} {a0 c0 a c a' c' : Nat → Int32} (hs : s < 7) (hk : k < 4) (f : IG s k a0 c0 a c) (ha : ∀ j, a' j = if j = 17 + 4 * s + k then a (17 + 4 * (s + 1) + k) else a j) (hc : ∀ j, c' j = if j = 4 * s + k then c (4 * (s + 1) + k) else c j) : IG s (k + 1) a0 c0 a' c' := by
  obtain ⟨f1, f2, f3, f4, f5⟩ := f
  refine ⟨fun j h1 h2 h3 => ?_, fun j h1 => ?_, ?_, ?_, fun i hi => ?_⟩
  · rw [ha, if_neg (by omega)]; exact f1 j h1 h2 h3
  · rw [hc, if_neg (by omega)]; exact f2 j h1
  · rw [ha, if_neg (by omega)]; exact f3
  · rw [ha, if_neg (by omega)]; exact f4
  · rw [ha, hc]
    by_cases e : i = k
    · rw [if_pos (by omega), if_pos (by omega), e]
      exact ⟨f1 _ (by omega) (by omega) (by omega), f2 _ (by omega)⟩
    · rw [if_neg (by omega), if_neg (by omega)]
      exact f5 i (by omega)
theorem IG_e {s : Nat} {a0 c0 a c : Nat → Int32} (hs : s < 7) (f : IG s 4 a0 c0 a c) : a 0 = a0 0 ∧ (∀ q, q < 8 → ¬ q = s → sE a q a0 q ∧ cE c q c0 q) ∧ sE a s a0 (s + 1) ∧ cE c s c0 (s + 1) := by
  obtain ⟨f1, f2, f3, f4, f5⟩ := f
  refine ⟨f1 0 (by omega) (by omega) (by omega), fun q hq hn => ⟨⟨f1 _ (by omega) (by omega) (by omega), f1 _ (by omega) (by omega) (by omega), fun o ho => f1 _ (by omega) (by omega) (by omega)⟩, fun o ho => f2 _ (by omega)⟩, ⟨f3, f4, fun o ho => (f5 o ho).1⟩, fun o ho => (f5 o ho).2⟩
theorem tq_sE {f g : Nat → Int32} {s q : Nat} (t : tq f 0 q) (h : sE g s f q) : tq g 0 s := by
  have t := tq_g t
  have e0 := h.2.2 0 (by omega)
  rw [Nat.add_zero, Nat.add_zero] at e0
  refine tq_v rfl rfl rfl rfl ?_
  rw [e0, h.2.2 1 (by omega), h.2.2 2 (by omega), h.2.2 3 (by omega)]
  exact t
set_option maxRecDepth 100000 in
set_option maxHeartbeats 4000000 in
theorem v_goesAway_159 {g : gT} {h0 : mh_T} {P : mh_T → Prop} (l1 l2 : Int32) (s : Nat) (es : l2.toInt = (s : Int)) (hs : s < 8) (hp : ∀ h', Ok [45, 47] h0 h' → (∀ j, ¬ (17 + 4 * s ≤ j ∧ j < 17 + 4 * s + 4) → h'.1 45 j = h0.1 45 j) → (∀ j, ¬ (4 * s ≤ j ∧ j < 4 * s + 4) → h'.1 47 j = h0.1 47 j) → (∀ i, i < 4 → h'.1 45 (17 + 4 * s + i) = 0) → P h') : ∀ (n : Nat) (l3 : Int32) (k : Nat) (h : mh_T), l3.toInt = (k : Int) → k ≤ 4 → 4 - k < n → Ok [45, 47] h0 h → (∀ j, ¬ (17 + 4 * s ≤ j ∧ j < 17 + 4 * s + 4) → h.1 45 j = h0.1 45 j) → (∀ j, ¬ (4 * s ≤ j ∧ j < 4 * s + 4) → h.1 47 j = h0.1 47 j) → (∀ i, i < k → h.1 45 (17 + 4 * s + i) = 0) → ME g uX11_goesAway 159 [.ref 11, .int l1, .int l2, .int l3] [] h (qV P) := by
  intro n
  induction n with
  | zero => intro l3 k h _ _ hn; exact absurd hn (Nat.not_lt_zero _)
  | succ n ih =>
    intro l3 k h ek hk hn ok q1 q2 zr
    have z4 : (4 : Int32).toInt = 4 := by decide
    refine r_X11_goesAway_159 l1 l2 l3 ⟨fun c => hp h ok q1 q2 (fun i hi => zr i ?_), fun c => ?_⟩
    · have c := i_le.mp c
      omega
    · have c := i_lt.mp (nle c)
      rw [z4, ek] at c
      have ia := i_17 es hs ek (by omega)
      have ib : ((4 * l2) + l3).toInt = ((4 * s + k : Nat) : Int) := by rw [i_add (i_4s es hs) ek (by omega)]; omega
      refine ⟨i_vp ia (by omega), i_vp ib (by omega), ?_⟩
      rw [i_nat ia, i_nat ib]
      refine ih (l3 + 1) (k + 1) _ (i_inc ek (by omega)) (by omega) (by omega) (Ok_w (Ok_w ok (k := 45) (j := 17 + 4 * s + k) (lo := -2147483648) (hi := 2147483647) (rgg_45_0 (by omega) (by omega)) (R_full _) (by decide) (nt_c (by decide) (fun _ => by omega))) (k := 47) (rgc_47 _) (R_full _) (by decide) (nt_k (by decide))) (fun j hj => ?_) (fun j hj => ?_) (fun i hi => ?_)
      · rw [wI_o (by decide), wI_i, if_neg (by omega)]; exact q1 j hj
      · rw [wI_i, if_neg (by omega), wI_o (by decide)]; exact q2 j hj
      · rw [wI_o (by decide), wI_i]
        by_cases e : i = k
        · rw [if_pos (by omega)]
        · rw [if_neg (by omega)]
          exact zr i (by omega)
set_option maxRecDepth 100000 in
set_option maxHeartbeats 4000000 in
theorem v_goesAway_54 {g : gT} {hs : mh_T} {P : mh_T → Prop} (l1 l2 : Int32) (s : Nat) (es : l2.toInt = (s : Int)) (s7 : s < 7) (nx : ∀ h', Ok [45, 47] hs h' → IG s 4 (hs.1 45) (hs.1 47) (h'.1 45) (h'.1 47) → ME g uX11_goesAway 2 [.ref 11, .int l1, .int (l2 + 1), .retAddr 0] [] h' (qV P)) : ∀ (n : Nat) (l3 : Int32) (k : Nat) (h : mh_T), l3.toInt = (k : Int) → k ≤ 4 → 4 - k < n → Ok [45, 47] hs h → IG s k (hs.1 45) (hs.1 47) (h.1 45) (h.1 47) → ME g uX11_goesAway 54 [.ref 11, .int l1, .int l2, .int l3] [] h (qV P) := by
  intro n
  induction n with
  | zero => intro l3 k h _ _ hn; exact absurd hn (Nat.not_lt_zero _)
  | succ n ih =>
    intro l3 k h ek hk hn ok ig
    have z4 : (4 : Int32).toInt = 4 := by decide
    refine r_X11_goesAway_54 l1 l2 l3 ⟨fun c => ?_, fun c => ?_⟩
    · have c := i_le.mp c
      have : k = 4 := by omega
      subst this
      exact nx h ok ig
    · have c := i_lt.mp (nle c)
      rw [z4, ek] at c
      have e4 := i_4s es (show s < 8 by omega)
      have ia := i_17 es (show s < 8 by omega) ek (by omega)
      have ia4 : (((17 + (4 * l2)) + 4) + l3).toInt = ((17 + 4 * (s + 1) + k : Nat) : Int) := by rw [i_add (i_add (i_add (show (17 : Int32).toInt = 17 from by decide) e4 (by omega)) (show (4 : Int32).toInt = 4 from by decide) (by omega)) ek (by omega)]; omega
      have ib : ((4 * l2) + l3).toInt = ((4 * s + k : Nat) : Int) := by rw [i_add e4 ek (by omega)]; omega
      have ib4 : (((4 * l2) + 4) + l3).toInt = ((4 * (s + 1) + k : Nat) : Int) := by rw [i_add (i_add e4 (show (4 : Int32).toInt = 4 from by decide) (by omega)) ek (by omega)]; omega
      refine ⟨i_vp ia4 (by omega), i_vp ia (by omega), i_vp ib4 (by omega), i_vp ib (by omega), ?_⟩
      rw [i_nat ia, i_nat ia4, i_nat ib, i_nat ib4]
      refine ih (l3 + 1) (k + 1) _ (i_inc ek (by omega)) (by omega) (by omega) (Ok_w (Ok_w ok (k := 45) (j := 17 + 4 * s + k) (lo := -2147483648) (hi := 2147483647) (rgg_45_0 (by omega) (by omega)) (R_full _) (by decide) (nt_c (by decide) (fun _ => by omega))) (k := 47) (rgc_47 _) (R_full _) (by decide) (nt_k (by decide))) (IG_1 s7 (by omega) ig (fun j => ?_) (fun j => ?_))
      · rw [wI_o (by decide), wI_i]
        rfl
      · rw [wI_i, wI_o (by decide)]
        rfl
set_option maxRecDepth 100000 in
set_option maxHeartbeats 4000000 in
theorem v_goesAway {g : gT} {h0 : mh_T} {P : mh_T → Prop} (l1 : Int32) (S : Nat) (eS : l1.toInt = (S : Int)) (hS : S < sn (h0.1 45)) (hG : GI h0) (t : TQ (h0.1 45) 0) (hp : ∀ h', Ok [45, 47] h0 h' → TQ (h'.1 45) 0 → drp S (h0.1 45) (h0.1 47) (h'.1 45) (h'.1 47) → P h') : MCv g yX11_goesAway uX11_goesAway [.ref 11, .int l1] h0 P := by
  have f0 : R 0 8 (mI h0 45 0) := GI_rd hG 45 0 rfl
  have f01 : 0 ≤ (h0.1 45 0).toInt := f0.1
  have f02 : (h0.1 45 0).toInt ≤ 8 := f0.2
  have n8 : sn (h0.1 45) ≤ 8 := by unfold sn; omega
  have en : (h0.1 45 0).toInt = (sn (h0.1 45) : Int) := by unfold sn; omega
  have L : ∀ (n : Nat) (l2 : Int32) (s : Nat) (h : mh_T), l2.toInt = (s : Int) → S ≤ s → s < sn (h0.1 45) → sn (h0.1 45) - s < n → Ok [45, 47] h0 h → TQ (h.1 45) 0 → GA S s (h0.1 45) (h0.1 47) (h.1 45) (h.1 47) → ME g uX11_goesAway 2 [.ref 11, .int l1, .int l2, .retAddr 0] [] h (qV P) := by
    intro n
    induction n with
    | zero => intro l2 s h _ _ _ hn; exact absurd hn (Nat.not_lt_zero _)
    | succ n ih =>
      intro l2 s h es hSs hs hn ok tt ga'
      have e21 := i_inc es (by omega)
      have e0 : mI h 45 (Int32.toNatClampNeg 0) = h0.1 45 0 := ga'.1
      refine r_X11_goesAway_2 l1 l2 ⟨fun c x2 e2 => ?_, fun c => ?_⟩
      · rw [e0] at c
        have c := i_le.mp c
        rw [e21, en] at c
        rw [mI_wI, if_pos ⟨rfl, rfl⟩, e0] at e2
        have ex : x2.toInt = ((sn (h0.1 45) - 1 : Nat) : Int) := by rw [e2, show (h0.1 45 0 - 1).toInt = (h0.1 45 0).toInt - 1 from ti_sub1 f0 (by decide)]; omega
        have q8 : sn (h0.1 45) - 1 < 8 := by omega
        have j1 := i_1s ex q8
        have j9 := i_9 ex q8
        rw [e0, ← e2, i_nat j1, i_nat j9]
        refine ⟨i_vp j1 (by omega), i_vp j9 (by omega), ?_⟩
        have o1 := Ok_w ok (k := 45) (j := Int32.toNatClampNeg 0) (v := x2) (lo := 0) (hi := 8) (by decide) ⟨by omega, by omega⟩ (by decide) (nt_c (by decide) (fun _ => by decide))
        have o2 := Ok_w o1 (k := 45) (j := 1 + (sn (h0.1 45) - 1)) (v := 0) (lo := -1) (hi := 5) (rgp_45_1 (by omega) (by omega)) ⟨by decide, by decide⟩ (by decide) (nt_c (by decide) (fun _ => by omega))
        have o3 := Ok_w o2 (k := 45) (j := 9 + (sn (h0.1 45) - 1)) (v := 0) (lo := -2) (hi := 5) (rgp_45_2 (by omega) (by omega)) ⟨by decide, by decide⟩ (by decide) (nt_c (by decide) (fun _ => by omega))
        have z0 : Int32.toNatClampNeg 0 = 0 := by decide
        refine v_goesAway_159 l1 x2 _ ex q8 (fun h' k' q1 q2 zr => hp h' (Ok_tr o3 k' (by decide)) (TQ_i (fun s' hs' => ?_)) (GA_e n8 (by omega) ga' ?_ (fun q hq => ⟨⟨?_, ?_, fun o ho => ?_⟩, fun o ho => ?_⟩))) 5 0 0 _ (by decide) (Nat.zero_le _) (by omega) (Ok_rf o3.1) (fun _ _ => rfl) (fun _ _ => rfl) (fun i hi => absurd hi (Nat.not_lt_zero _))
        · by_cases e : s' = sn (h0.1 45) - 1
          · have y0 := zr 0 (by omega)
            rw [Nat.add_zero] at y0
            rw [e]
            refine tq_v (a := 0) (b := 0) (c := 0) (d := 0) ?_ ?_ ?_ ?_ (by decide)
            · rw [y0]; exact i_0
            · rw [zr 1 (by omega)]; exact i_0
            · rw [zr 2 (by omega)]; exact i_0
            · rw [zr 3 (by omega)]; exact i_0
          · refine tq_x (tt s' hs') (fun i hi => ?_)
            rw [q1 _ (by omega), wI_i, if_neg (by omega), wI_i, if_neg (by omega), wI_i, if_neg (by rw [z0]; omega)]
        · rw [q1 0 (by omega), wI_i, if_neg (by omega), wI_i, if_neg (by omega), wI_i, if_pos z0.symm, ex]
          omega
        · rw [q1 _ (by omega), wI_i, if_neg (by omega), wI_i, if_neg (by omega), wI_i, if_neg (by rw [z0]; omega)]
        · rw [q1 _ (by omega), wI_i, if_neg (by omega), wI_i, if_neg (by omega), wI_i, if_neg (by rw [z0]; omega)]
        · rw [q1 _ (by omega), wI_i, if_neg (by omega), wI_i, if_neg (by omega), wI_i, if_neg (by rw [z0]; omega)]
        · rw [q2 _ (by omega), wI_o (by decide), wI_o (by decide), wI_o (by decide)]
      · rw [e0] at c
        have c := lt_ti (nle c)
        rw [e21, en] at c
        have s7 : s < 7 := by omega
        have j1 := i_1s es (by omega)
        have j9 := i_9 es (by omega)
        have j11 := i_off j1 1 1 (by decide) (by omega)
        have j91 := i_off j9 1 1 (by decide) (by omega)
        refine ⟨i_vp j11 (by omega), i_vp j1 (by omega), i_vp j91 (by omega), i_vp j9 (by omega), ?_⟩
        rw [i_nat j1, i_nat j9, i_nat j11, i_nat j91]
        have va : R (-1) 5 (mI h 45 (1 + s + 1)) := GI_rd ok.1 45 _ (rgp_45_1 (by omega) (by omega))
        have o1 := Ok_w (Ok_rf (ms := [45, 47]) ok.1) (k := 45) (j := 1 + s) (v := mI h 45 (1 + s + 1)) (lo := -1) (hi := 5) (rgp_45_1 (by omega) (by omega)) va (by decide) (nt_c (by decide) (fun _ => by omega))
        have vb : R (-2) 5 (mI (wI h 45 (1 + s) (mI h 45 (1 + s + 1))) 45 (9 + s + 1)) := GI_rd o1.1 45 _ (rgp_45_2 (by omega) (by omega))
        have o2 := Ok_w o1 (k := 45) (j := 9 + s) (v := mI (wI h 45 (1 + s) (mI h 45 (1 + s + 1))) 45 (9 + s + 1)) (lo := -2) (hi := 5) (rgp_45_2 (by omega) (by omega)) vb (by decide) (nt_c (by decide) (fun _ => by omega))
        refine v_goesAway_54 (hs := h) l1 l2 s es s7 (fun h' k' ig => ?_) 5 0 0 _ (by decide) (Nat.zero_le _) (by omega) o2 ⟨fun j h1 h2 h3 => ?_, fun j h1 => ?_, ?_, ?_, fun i hi => absurd hi (Nat.not_lt_zero _)⟩
        · obtain ⟨i1, i2, i3, i4⟩ := IG_e s7 ig
          refine ih (l2 + 1) (s + 1) h' (i_inc es (by omega)) (by omega) (by omega) (by omega) (Ok_tr ok k' (by decide)) (TQ_i (fun s' hs' => ?_)) (GA_s s7 hSs ga' i1 i2 ⟨i3, i4⟩)
          by_cases e : s' = s
          · rw [e]
            exact tq_sE (tt (s + 1) (by omega)) i3
          · exact tq_sE (tt s' hs') (i2 s' hs' e).1
        · rw [wI_i, if_neg h2, wI_i, if_neg h1]
        · rw [wI_o (by decide), wI_o (by decide)]
        · rw [wI_i, if_neg (by omega), wI_i, if_pos rfl]
          show h.1 45 (1 + s + 1) = h.1 45 (1 + (s + 1))
          rw [Nat.add_assoc]
        · rw [wI_i, if_pos rfl]
          show (wI h 45 (1 + s) _).1 45 (9 + s + 1) = _
          rw [wI_i, if_neg (by omega), Nat.add_assoc]
  exact e_X11_goesAway l1 (L 9 l1 S h0 eS (Nat.le_refl _) hS (by omega) (Ok_rf hG) t (GA_0 S _ _))
