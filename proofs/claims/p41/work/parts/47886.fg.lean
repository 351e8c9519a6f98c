/-! DROP and FORGET of the reference -/
theorem v_X11_drop {g : gT} {h : mh_T} {P : Int32 → mh_T → Prop} (l1 : Int32) (u : Nat) (eu : (mI h 11 24).toInt = (u : Int)) (hG : GI h) (hI : TVs h) (hB : NB h) (h0 : ¬ SEb (h.1 45) l1 → ∀ h', Ok [300, 11] h h' → P 0 h') (hp : SEb (h.1 45) l1 → ∀ h', Ok msR h h' → TVs h' → drp l1.toInt.toNat (h.1 45) (h.1 47) (h'.1 45) (h'.1 47) → HD u (ac5 1 l1 (-2) (-2) (-2)) h h' → P 1 h') : MCi g yX11_drop uX11_drop [.ref 11, .int l1] h P := by
  refine e_X11_drop l1 (v_good hG (fun h1 k1 => ?_))
  have e45 : h1.1 45 = h.1 45 := OkC k1 (by decide)
  refine v_isSet l1 k1.1 (NB_ok k1 (by decide) hB) (fun q => ⟨fun _ => ?_, fun z => absurd z (by decide)⟩) (fun q => ⟨fun z => absurd rfl z, fun _ => v_isNot 1 (by decide) k1 (h0 (fun y => q (by rw [e45]; exact y)))⟩)
  rw [e45] at q
  refine v_was k1.1 (TVs_ok hI k1 (by decide)) (fun h2 k2 t2 e48 => ?_)
  have e45' : h2.1 45 = h.1 45 := by rw [OkC k2 (k := 45) (by decide), e45]
  have e47' : h2.1 47 = h.1 47 := by rw [OkC k2 (k := 47) (by decide), OkC k1 (k := 47) (by decide)]
  refine v_goesAway l1 l1.toInt.toNat (by have := q.1; omega) (by rw [e45']; unfold sn; have := q.2; have := q.1; omega) k2.1 t2.1 (fun h3 k3 t3 fl => v_done 1 l1 (-2) (-2) (-2) u eu k1 k2 e48 k3 (TVs_4547 t2 k3 t3) (fun h' k' t' e5 e7 hd => hp q h' k' t' (by rw [e5, e7]; rw [e45', e47'] at fl; exact fl) hd))
theorem TZ_st {L : Int32} {S : Nat} {a c a' c' : Nat → Int32} (tz : TZ a) (hS : S < sn a) (x : stp L S a c a' c') : TZ a' := (Rc_st (a := a) (c := c) (b := a) (d := c) ⟨Rq_rf tz, fun _ _ _ _ => rfl⟩ hS x x).1.2.1
set_option maxRecDepth 100000 in
set_option maxHeartbeats 4000000 in
theorem v_forget_360 {g : gT} {hs : mh_T} {P : Int32 → mh_T → Prop} (l1 l2 l3 l4 l5 l6 l7 : Int32) (s : Nat) (es : l3.toInt = (s : Int)) (s8 : s < 8) (nx : ∀ h', Ok [45, 47] hs h' → h'.1 45 = hs.1 45 → (∀ j, ¬ (4 * s ≤ j ∧ j < 4 * s + 4) → h'.1 47 j = hs.1 47 j) → (∀ o, o < 4 → h'.1 47 (4 * s + o) = 0) → ME g uX11_forget 107 [.ref 11, .int l1, .int l2, .int (l3 + (-1)), .retAddr 0, .retAddr 0, .retAddr 0, .retAddr 0, .retAddr 0] [] h' (qI P)) : ∀ (n : Nat) (l8 : Int32) (k : Nat) (h : mh_T), l8.toInt = (k : Int) → k ≤ 4 → 4 - k < n → Ok [45, 47] hs h → h.1 45 = hs.1 45 → (∀ j, ¬ (4 * s ≤ j ∧ j < 4 * s + 4) → h.1 47 j = hs.1 47 j) → (∀ o, o < k → h.1 47 (4 * s + o) = 0) → ME g uX11_forget 360 [.ref 11, .int l1, .int l2, .int l3, .int l4, .int l5, .int l6, .int l7, .int l8] [] h (qI P) := by
  intro n
  induction n with
  | zero => intro l8 k h _ _ hn; exact absurd hn (Nat.not_lt_zero _)
  | succ n ih =>
    intro l8 k h ek hk hn ok q1 q2 q3
    have z4 : (4 : Int32).toInt = 4 := by decide
    refine r_X11_forget_360 l1 l2 l3 l4 l5 l6 l7 l8 ⟨fun c => nx h ok q1 q2 (fun o ho => q3 o ?_), fun c => ?_⟩
    · have c := i_le.mp c
      omega
    · have c := i_lt.mp (nle c)
      rw [z4, ek] at c
      have ib : ((4 * l3) + l8).toInt = ((4 * s + k : Nat) : Int) := by rw [i_add (i_4s es s8) ek (by omega)]; omega
      refine ⟨i_vp ib (by omega), ?_⟩
      rw [i_nat ib]
      refine ih (l8 + 1) (k + 1) _ (i_inc ek (by omega)) (by omega) (by omega) (Ok_w ok (k := 47) (rgc_47 _) (R_full _) (by decide) (nt_k (by decide))) ?_ (fun j hj => ?_) (fun o ho => ?_)
      · rw [wI_o (by decide)]; exact q1
      · rw [wI_i, if_neg (by omega)]; exact q2 j hj
      · rw [wI_i]
        by_cases e : o = k
        · rw [if_pos (by omega)]
        · rw [if_neg (by omega)]; exact q3 o (by omega)
/-- two numbers for four -/
theorem fg_TQ {h : mh_T} {s : Nat} {u w x y : Int32} (t : TQ (h.1 45) 0) (hs : s < 8) (hx : 0 ≤ x.toInt) (hy : 0 ≤ y.toInt) (hxy : x.toInt + y.toInt ≤ 240) : TQ ((wI (wI (wI (wI (wI (wI h 45 (1 + s) u) 45 (9 + s) w) 45 (17 + 4 * s) x) 45 (17 + 4 * s + 1) y) 45 (17 + 4 * s + 2) 0) 45 (17 + 4 * s + 3) 0).1 45) 0 := by
  refine TQ_i (fun s' hs' => ?_)
  by_cases e : s' = s
  · subst e
    refine tq_v (a := x.toInt) (b := y.toInt) (c := 0) (d := 0) ?_ ?_ ?_ ?_ (by omega)
    · rw [wI_i, if_neg (by omega), wI_i, if_neg (by omega), wI_i, if_neg (by omega), wI_i, if_pos rfl]
    · rw [wI_i, if_neg (by omega), wI_i, if_neg (by omega), wI_i, if_pos rfl]
    · rw [wI_i, if_neg (by omega), wI_i, if_pos rfl]; exact i_0
    · rw [wI_i, if_pos rfl]; exact i_0
  · exact tq_w (tq_w (tq_w (tq_w (tq_w (tq_w (t s' hs') (by omega)) (by omega)) (by omega)) (by omega)) (by omega)) (by omega)
theorem fg_Ok2 {h0 h : mh_T} {s : Nat} {u w x y : Int32} (ok : Ok [45, 47] h0 h) (hs : s < 8) (fu : R (-1) 5 u) (fw : R (-2) 5 w) : Ok [45, 47] h0 (wI (wI (wI (wI (wI (wI h 45 (1 + s) u) 45 (9 + s) w) 45 (17 + 4 * s) x) 45 (17 + 4 * s + 1) y) 45 (17 + 4 * s + 2) 0) 45 (17 + 4 * s + 3) 0) := by
  have o1 := Ok_w ok (k := 45) (j := 1 + s) (v := u) (lo := -1) (hi := 5) (rgp_45_1 (by omega) (by omega)) fu (by decide) (nt_c (by decide) (fun _ => by omega))
  have o2 := Ok_w o1 (k := 45) (j := 9 + s) (v := w) (lo := -2) (hi := 5) (rgp_45_2 (by omega) (by omega)) fw (by decide) (nt_c (by decide) (fun _ => by omega))
  have o3 := Ok_w o2 (k := 45) (j := 17 + 4 * s) (v := x) (lo := -2147483648) (hi := 2147483647) (rgg_45_0 (by omega) (by omega)) (R_full _) (by decide) (nt_c (by decide) (fun _ => by omega))
  have o4 := Ok_w o3 (k := 45) (j := 17 + 4 * s + 1) (v := y) (lo := -2147483648) (hi := 2147483647) (rgg_45_0 (by omega) (by omega)) (R_full _) (by decide) (nt_c (by decide) (fun _ => by omega))
  have o5 := Ok_w o4 (k := 45) (j := 17 + 4 * s + 2) (v := 0) (lo := -2147483648) (hi := 2147483647) (rgg_45_0 (by omega) (by omega)) (R_full _) (by decide) (nt_c (by decide) (fun _ => by omega))
  exact Ok_w o5 (k := 45) (j := 17 + 4 * s + 3) (v := 0) (lo := -2147483648) (hi := 2147483647) (rgg_45_0 (by omega) (by omega)) (R_full _) (by decide) (nt_c (by decide) (fun _ => by omega))
/-- what stands where after that -/
theorem fg_v {h : mh_T} {s : Nat} {u w x y : Int32} (hs : s < 8) : ∀ j, (wI (wI (wI (wI (wI (wI h 45 (1 + s) u) 45 (9 + s) w) 45 (17 + 4 * s) x) 45 (17 + 4 * s + 1) y) 45 (17 + 4 * s + 2) 0) 45 (17 + 4 * s + 3) 0).1 45 j = if j = 17 + 4 * s + 3 then 0 else if j = 17 + 4 * s + 2 then 0 else if j = 17 + 4 * s + 1 then y else if j = 17 + 4 * s then x else if j = 9 + s then w else if j = 1 + s then u else h.1 45 j := fun j => by rw [wI_i, wI_i, wI_i, wI_i, wI_i, wI_i]
set_option maxRecDepth 100000 in
set_option maxHeartbeats 8000000 in
theorem v_forget_L {g : gT} {h0 : mh_T} {P : Int32 → mh_T → Prop} (l1 l2 : Int32) (hl1 : 0 ≤ l1.toInt) : ∀ (n : Nat) (l3 : Int32) (h : mh_T), l3.toInt + 1 = (n : Int) → Ok [45, 47] h0 h → TQ (h.1 45) 0 → TZ (h.1 45) → n ≤ sn (h.1 45) → (∀ h', Ok [45, 47] h0 h' → TQ (h'.1 45) 0 → fgt l1 n (h.1 45) (h.1 47) (h'.1 45) (h'.1 47) → MCi g yX11_did uX11_did [.ref 11, .int 2, .int l1, .int (-2), .int (-2), .int (-2)] h' (fun r3 h2 => (r3 = 0 ∨ r3 = 1) ∧ P r3 h2)) → ME g uX11_forget 107 [.ref 11, .int l1, .int l2, .int l3, .retAddr 0, .retAddr 0, .retAddr 0, .retAddr 0, .retAddr 0] [] h (qI P) := by
  intro n
  induction n with
  | zero =>
    intro l3 h e3 ok t tz hn hp
    refine r_X11_forget_107 l1 l2 l3 ⟨fun _ => hp h ok t ⟨rfl, fun s _ => ⟨sE_rf _ s, fun _ _ => rfl⟩⟩, fun c => absurd (i_lt.mpr (by rw [i_0]; omega)) c⟩
  | succ s ih =>
    intro l3 h e3 ok t tz hn hp
    have n8 : sn (h.1 45) ≤ 8 := by unfold sn; have := tz.2.1; omega
    have s8 : s < 8 := by omega
    have es : l3.toInt = (s : Int) := by omega
    have dec : (l3 + (-1)).toInt + 1 = (s : Int) := by
      have f3 : R 0 7 l3 := ⟨by omega, by omega⟩
      have := ti_dec f3 (by decide)
      omega
    have j1 := i_1s es s8
    have j9 := i_9 es s8
    have v1 : vp_in (1 + l3) 346 := i_vp j1 (by omega)
    have v9 : vp_in (9 + l3) 346 := i_vp j9 (by omega)
    have nx : ∀ h', Ok [45, 47] h0 h' → TQ (h'.1 45) 0 → stp l1 s (h.1 45) (h.1 47) (h'.1 45) (h'.1 47) → ME g uX11_forget 107 [.ref 11, .int l1, .int l2, .int (l3 + (-1)), .retAddr 0, .retAddr 0, .retAddr 0, .retAddr 0, .retAddr 0] [] h' (qI P) := fun h' k' t' st => ih (l3 + (-1)) h' dec k' t' (TZ_st tz (by omega) st) (stp_n (by omega) st) (fun h2 k2 t2 fg => hp h2 k2 t2 ⟨_, _, st, fg⟩)
    have tg := tq_g (t s s8)
    have r1 : R (-1) 5 (mI h 45 (1 + s)) := GI_rd ok.1 45 _ (rgp_45_1 (by omega) (by omega))
    have r9 : R (-2) 5 (mI h 45 (9 + s)) := GI_rd ok.1 45 _ (rgp_45_2 (by omega) (by omega))
    have fn2 : R (-2) 5 (-2) := ⟨by decide, by decide⟩
    have n2 : (-2 : Int32).toInt = -2 := by decide
    have away : h.1 45 (9 + s) = -2 → h.1 45 (1 + s) = l1 → MCv g yX11_goesAway uX11_goesAway [.ref 11, .int l3] h (fun h28 => ME g uX11_forget 107 [.ref 11, .int l1, .int l2, .int (l3 + (-1)), .retAddr 0, .retAddr 0, .retAddr 0, .retAddr 0, .retAddr 0] [] h28 (qI P)) := fun z y =>
      v_goesAway l3 s es (by omega) ok.1 t (fun h2 k2 t2 d => nx h2 (Ok_tr ok k2 (by decide)) t2 (Or.inl ⟨by rw [z, n2]; decide, y, d⟩))
    have e17 : ∀ x : Int32, x = 17 + (4 * l3) → x.toInt = ((17 + 4 * s : Nat) : Int) := fun x ex => by rw [ex, i_add (show (17 : Int32).toInt = 17 from by decide) (i_4s es s8) (by omega)]; omega
    have mrg : ∀ (u x y l4 l5 l6 l7 : Int32), R (-1) 5 u → 0 ≤ x.toInt → 0 ≤ y.toInt → x.toInt + y.toInt ≤ 240 → ¬ (h.1 45 (9 + s)).toInt < 0 → (h.1 45 (1 + s) = l1 ∨ h.1 45 (9 + s) = l1) → ((h.1 45 (1 + s) = l1 ∧ u = h.1 45 (9 + s) ∧ x = h.1 45 (17 + 4 * s) + h.1 45 (17 + 4 * s + 2) ∧ y = h.1 45 (17 + 4 * s + 1) + h.1 45 (17 + 4 * s + 3)) ∨ (¬ h.1 45 (1 + s) = l1 ∧ u = h.1 45 (1 + s) ∧ x = h.1 45 (17 + 4 * s) + h.1 45 (17 + 4 * s + 1) ∧ y = h.1 45 (17 + 4 * s + 2) + h.1 45 (17 + 4 * s + 3))) → ME g uX11_forget 360 [.ref 11, .int l1, .int l2, .int l3, .int l4, .int l5, .int l6, .int l7, .int 0] [] (wI (wI (wI (wI (wI (wI h 45 (1 + s) u) 45 (9 + s) (-2)) 45 (17 + 4 * s) x) 45 (17 + 4 * s + 1) y) 45 (17 + 4 * s + 2) 0) 45 (17 + 4 * s + 3) 0) (qI P) := by
      intro u x y l4 l5 l6 l7 fu hx hy hxy nn oo val
      have okx := fg_Ok2 (x := x) (y := y) ok s8 fu fn2
      have tx := fg_TQ (u := u) (w := -2) t s8 hx hy hxy
      have vv := fg_v (h := h) (u := u) (w := -2) (x := x) (y := y) s8
      have c47 : (wI (wI (wI (wI (wI (wI h 45 (1 + s) u) 45 (9 + s) (-2)) 45 (17 + 4 * s) x) 45 (17 + 4 * s + 1) y) 45 (17 + 4 * s + 2) 0) 45 (17 + 4 * s + 3) 0).1 47 = h.1 47 := by rw [wI_o (by decide), wI_o (by decide), wI_o (by decide), wI_o (by decide), wI_o (by decide), wI_o (by decide)]
      generalize wI (wI (wI (wI (wI (wI h 45 (1 + s) u) 45 (9 + s) (-2)) 45 (17 + 4 * s) x) 45 (17 + 4 * s + 1) y) 45 (17 + 4 * s + 2) 0) 45 (17 + 4 * s + 3) 0 = hm at okx tx vv c47
      refine v_forget_360 (hs := hm) l1 l2 l3 l4 l5 l6 l7 s es s8 (fun h' k' q1 q2 q3 => nx h' (Ok_tr okx k' (by decide)) (by rw [q1]; exact tx) (Or.inr (Or.inl ⟨nn, oo, ?_, fun q hq hne => ⟨⟨?_, ?_, fun o ho => ?_⟩, fun o ho => ?_⟩, ?_, ?_, ?_, ?_, q3⟩))) 5 0 0 hm (by decide) (Nat.zero_le _) (by omega) (Ok_rf okx.1) rfl (fun _ _ => rfl) (fun o ho => absurd ho (Nat.not_lt_zero _))
      · rw [q1, vv, if_neg (by omega), if_neg (by omega), if_neg (by omega), if_neg (by omega), if_neg (by omega), if_neg (by omega)]
      · rw [q1, vv, if_neg (by omega), if_neg (by omega), if_neg (by omega), if_neg (by omega), if_neg (by omega), if_neg (by omega)]
      · rw [q1, vv, if_neg (by omega), if_neg (by omega), if_neg (by omega), if_neg (by omega), if_neg (by omega), if_neg (by omega)]
      · rw [q1, vv, if_neg (by omega), if_neg (by omega), if_neg (by omega), if_neg (by omega), if_neg (by omega), if_neg (by omega)]
      · rw [q2 _ (by omega), c47]
      · rw [q1, vv, if_neg (by omega), if_neg (by omega), if_neg (by omega), if_neg (by omega), if_pos rfl]
      · have w1 : h'.1 45 (1 + s) = u := by rw [q1, vv, if_neg (by omega), if_neg (by omega), if_neg (by omega), if_neg (by omega), if_neg (by omega), if_pos rfl]
        have w2 : h'.1 45 (17 + 4 * s) = x := by rw [q1, vv, if_neg (by omega), if_neg (by omega), if_neg (by omega), if_pos rfl]
        have w3 : h'.1 45 (17 + 4 * s + 1) = y := by rw [q1, vv, if_neg (by omega), if_neg (by omega), if_pos rfl]
        rw [w1, w2, w3]
        exact val
      · rw [q1, vv, if_neg (by omega), if_pos rfl]
      · rw [q1, vv, if_pos rfl]
    refine r_X11_forget_107 l1 l2 l3 ⟨fun c => absurd (i_lt.mp c) (by rw [i_0]; omega), fun c => ?_⟩
    rw [i_nat j1, i_nat j9]
    have nn : ¬ mI h 45 (9 + s) = -2 → ¬ (h.1 45 (9 + s)).toInt < 0 := fun z => by
      rcases (tz.2.2 s (by omega)).1 with w | w
      · exact absurd w.1 z
      · omega
    have ad : ∀ p q : Nat, (0 ≤ (h.1 45 p).toInt ∧ 0 ≤ (h.1 45 q).toInt ∧ (h.1 45 p).toInt + (h.1 45 q).toInt ≤ 240) → (h.1 45 p + h.1 45 q).toInt = (h.1 45 p).toInt + (h.1 45 q).toInt := fun p q w => i_add rfl rfl (by omega)
    refine ⟨v1, fun y1 => ⟨v9, fun y2 => ⟨v9, fun y3 x11 e11 => ?_, fun y3 => ?_⟩, fun y2 => nx h ok t (Or.inr (Or.inr ⟨y1, Or.inr y2, rfl, fun q _ => ⟨sE_rf _ q, fun _ _ => rfl⟩⟩))⟩, fun y1 => ⟨v9, fun y3 x32 e32 => ?_, fun y3 => away y3 y1⟩⟩
    · have k0 := e17 x11 e11
      have k1 := i_off k0 1 1 (by decide) (by omega)
      have k2 := i_off k0 2 2 (by decide) (by omega)
      have k3 := i_off k0 3 3 (by decide) (by omega)
      refine ⟨i_vp k0 (by omega), i_vp k1 (by omega), fun x15 e15 => ⟨i_vp k2 (by omega), i_vp k3 (by omega), fun x19 e19 => ⟨v1, v1, v9, i_vp k0 (by omega), i_vp k1 (by omega), i_vp k2 (by omega), i_vp k3 (by omega), ?_⟩⟩⟩
      rw [i_nat k0, i_nat k1] at e15
      rw [i_nat k2, i_nat k3] at e19
      rw [i_nat k0, i_nat k1, i_nat k2, i_nat k3]
      have w1 : x15.toInt = (h.1 45 (17 + 4 * s)).toInt + (h.1 45 (17 + 4 * s + 1)).toInt := by rw [e15]; exact ad _ _ (by omega)
      have w2 : x19.toInt = (h.1 45 (17 + 4 * s + 2)).toInt + (h.1 45 (17 + 4 * s + 3)).toInt := by rw [e19]; exact ad _ _ (by omega)
      exact mrg _ x15 x19 _ _ _ _ r1 (by omega) (by omega) (by omega) (nn y3) (Or.inr y2) (Or.inr ⟨y1, rfl, e15, e19⟩)
    · have y2 : h.1 45 (9 + s) = l1 := y2
      have y3 : h.1 45 (9 + s) = -2 := y3
      rw [← y2, y3, n2] at hl1
      omega
    · have k0 := e17 x32 e32
      have k1 := i_off k0 1 1 (by decide) (by omega)
      have k2 := i_off k0 2 2 (by decide) (by omega)
      have k3 := i_off k0 3 3 (by decide) (by omega)
      refine ⟨i_vp k0 (by omega), i_vp k2 (by omega), fun x36 e36 => ⟨i_vp k1 (by omega), i_vp k3 (by omega), fun x40 e40 => ⟨v9, v1, v9, i_vp k0 (by omega), i_vp k1 (by omega), i_vp k2 (by omega), i_vp k3 (by omega), ?_⟩⟩⟩
      rw [i_nat k0, i_nat k2] at e36
      rw [i_nat k1, i_nat k3] at e40
      rw [i_nat k0, i_nat k1, i_nat k2, i_nat k3]
      have w1 : x36.toInt = (h.1 45 (17 + 4 * s)).toInt + (h.1 45 (17 + 4 * s + 2)).toInt := by rw [e36]; exact ad _ _ (by omega)
      have w2 : x40.toInt = (h.1 45 (17 + 4 * s + 1)).toInt + (h.1 45 (17 + 4 * s + 3)).toInt := by rw [e40]; exact ad _ _ (by omega)
      exact mrg _ x36 x40 _ _ _ _ (rf_ne_lo r9 y3 (by decide) (-1) (by decide)) (by omega) (by omega) (by omega) (nn y3) (Or.inl y1) (Or.inl ⟨y1, rfl, e36, e40⟩)
/-- a look is looked at -/
def LA (a : Nat → Int32) (l : Int32) : Prop := ∃ s, s < sn a ∧ (a (1 + s) = l ∨ a (9 + s) = l)
set_option maxRecDepth 100000 in
set_option maxHeartbeats 4000000 in
theorem v_forget_22 {g : gT} {h : mh_T} {P : Int32 → mh_T → Prop} (l1 : Int32) (hG : GI h) (h0 : ¬ LA (h.1 45) l1 → MCi g yX11_isNot uX11_isNot [.ref 11, .int 5] h (fun r6 h5 => (r6 = 0 ∨ r6 = 1) ∧ P r6 h5)) (h1 : LA (h.1 45) l1 → ∀ l2 : Int32, MCv g yX11_copy uX11_copy [.ref 45, .int 0, .ref 48, .int 0, .int 49] h (fun h3 => ∀ x4 : Int32, x4 = ((mI h3 45 (Int32.toNatClampNeg 0)) - 1) → ME g uX11_forget 107 [.ref 11, .int l1, .int l2, .int x4, .retAddr 0, .retAddr 0, .retAddr 0, .retAddr 0, .retAddr 0] [] h3 (qI P))) : ∀ (n : Nat) (l2 l3 : Int32) (s : Nat), l3.toInt = (s : Int) → s ≤ sn (h.1 45) → sn (h.1 45) - s < n → (l2 = 0 → ∀ q, q < s → ¬ (h.1 45 (1 + q) = l1 ∨ h.1 45 (9 + q) = l1)) → (¬ l2 = 0 → LA (h.1 45) l1) → ME g uX11_forget 22 [.ref 11, .int l1, .int l2, .int l3, .retAddr 0, .retAddr 0, .retAddr 0, .retAddr 0, .retAddr 0] [] h (qI P) := by
  intro n
  have f0 : R 0 8 (mI h 45 0) := GI_rd hG 45 0 rfl
  have f01 : 0 ≤ (h.1 45 0).toInt := f0.1
  have f02 : (h.1 45 0).toInt ≤ 8 := f0.2
  have en : (mI h 45 (Int32.toNatClampNeg 0)).toInt = (sn (h.1 45) : Int) := by show (h.1 45 0).toInt = _; unfold sn; omega
  have n8 : sn (h.1 45) ≤ 8 := by unfold sn; omega
  induction n with
  | zero => intro l2 l3 s _ _ hn; exact absurd hn (Nat.not_lt_zero _)
  | succ n ih =>
    intro l2 l3 s es hs hn hz ho
    refine r_X11_forget_22 l1 l2 l3 ⟨fun c => ⟨fun z => h1 (ho z) l2, fun z => h0 (fun y => ?_)⟩, fun c => ?_⟩
    · have c := i_le.mp c
      obtain ⟨q, q1, q2⟩ := y
      exact hz z q (by omega) q2
    · have c := i_lt.mp (nle c)
      rw [en, es] at c
      have s8 : s < 8 := by omega
      have j1 := i_1s es s8
      have j9 := i_9 es s8
      rw [i_nat j1, i_nat j9]
      have nx : ∀ l2 : Int32, (l2 = 0 → ∀ q, q < s + 1 → ¬ (h.1 45 (1 + q) = l1 ∨ h.1 45 (9 + q) = l1)) → (¬ l2 = 0 → LA (h.1 45) l1) → ME g uX11_forget 22 [.ref 11, .int l1, .int l2, .int (l3 + 1), .retAddr 0, .retAddr 0, .retAddr 0, .retAddr 0, .retAddr 0] [] h (qI P) := fun l2 a b => ih l2 (l3 + 1) (s + 1) (i_inc es (by omega)) (by omega) (by omega) a b
      refine ⟨fun z => nx 1 (fun y => absurd y (by decide)) (fun _ => ho z), fun z => ⟨i_vp j1 (by omega), fun y => nx 1 (fun w => absurd w (by decide)) (fun _ => ⟨s, by omega, Or.inl y⟩), fun y => ⟨i_vp j9 (by omega), fun w => nx 0 (fun _ q hq => ?_) (fun v => absurd rfl v), fun w => nx 1 (fun v => absurd v (by decide)) (fun _ => ⟨s, by omega, Or.inr w⟩)⟩⟩⟩
      by_cases e : q = s
      · subst e
        exact fun v => v.elim y w
      · exact hz z q (by omega)
theorem v_X11_forget {g : gT} {h : mh_T} {P : Int32 → mh_T → Prop} (l1 : Int32) (u : Nat) (eu : (mI h 11 24).toInt = (u : Int)) (hG : GI h) (hI : TVs h) (hB : NB h) (tz : TZ (h.1 45)) (h0 : ¬ (LKb h l1 ∧ LA (h.1 45) l1) → ∀ h', Ok [300, 11] h h' → P 0 h') (hp : LKb h l1 → LA (h.1 45) l1 → ∀ h', Ok msR h h' → TVs h' → fgt l1 (sn (h.1 45)) (h.1 45) (h.1 47) (h'.1 45) (h'.1 47) → HD u (ac5 2 l1 (-2) (-2) (-2)) h h' → P 1 h') : MCi g yX11_forget uX11_forget [.ref 11, .int l1] h P := by
  refine e_X11_forget l1 (v_good hG (fun h1 k1 => ?_))
  have e45 : h1.1 45 = h.1 45 := OkC k1 (by decide)
  have lk : LKb h1 l1 ↔ LKb h l1 := by unfold LKb; rw [show mI h1 45 50 = mI h 45 50 from congrFun e45 50]
  refine v_isLook l1 k1.1 (NB_ok k1 (by decide) hB) (fun q => ⟨fun _ => ?_, fun z => absurd z (by decide)⟩) (fun q => ⟨fun z => absurd rfl z, fun _ => v_isNot 1 (by decide) k1 (h0 (fun y => q (lk.mpr y.1)))⟩)
  have n8 : sn (h.1 45) ≤ 8 := by unfold sn; have := tz.2.1; omega
  refine v_forget_22 l1 k1.1 (fun z => v_isNot 5 (by decide) k1 (h0 (fun y => z (by rw [e45]; exact y.2)))) (fun la l2 => ?_) 9 0 0 0 (by decide) (Nat.zero_le _) (by rw [e45]; omega) (fun _ q hq => absurd hq (Nat.not_lt_zero _)) (fun v => absurd rfl v)
  rw [e45] at la
  refine v_was k1.1 (TVs_ok hI k1 (by decide)) (fun h2 k2 t2 e48 x4 e4 => ?_)
  have e45' : h2.1 45 = h.1 45 := by rw [OkC k2 (k := 45) (by decide), e45]
  have e47' : h2.1 47 = h.1 47 := by rw [OkC k2 (k := 47) (by decide), OkC k1 (k := 47) (by decide)]
  have ex : x4.toInt + 1 = (sn (h.1 45) : Int) := by
    have f0 : R 0 8 (mI h2 45 0) := GI_rd k2.1 45 0 rfl
    have z := tz.1
    rw [e4, show Int32.toNatClampNeg 0 = 0 from by decide, ti_sub1 f0 (by decide), show mI h2 45 0 = h.1 45 0 from congrFun e45' 0]
    unfold sn
    omega
  refine v_forget_L l1 l2 (lk.mp q).1 (sn (h.1 45)) x4 h2 ex (Ok_rf k2.1) t2.1 (by rw [e45']; exact tz) (by rw [e45']; exact Nat.le_refl _) (fun h3 k3 t3 fl => v_done 2 l1 (-2) (-2) (-2) u eu k1 k2 e48 k3 (TVs_4547 t2 k3 t3) (fun h' k' t' e5 e7 hd => hp (lk.mp q) la h' k' t' (by rw [e5, e7]; rw [e45', e47'] at fl; exact fl) hd))
