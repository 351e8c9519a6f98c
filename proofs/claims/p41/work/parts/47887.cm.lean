/-! FORGET of the class: putTogether, merge -/
set_option maxRecDepth 100000 in
set_option maxHeartbeats 4000000 in
theorem v_putTogether {g : gT} {h0 : mh_T} {P : mh_T → Prop} (l1 l2 l3 : Int32) (s f t : Nat) (es : l1.toInt = (s : Int)) (s8 : s < 8) (ef : l2.toInt = (f : Int)) (et : l3.toInt = (t : Int)) (hf : f + t = 3) (hG : GI h0) (hp : ∀ h', Ok [3, 24, 25, 26, 27] h0 h' → (∀ j, tC h' j = if j = 17 + 4 * s + 3 then 0 else if j = 17 + 4 * s + 2 then 0 else if j = 17 + 4 * s + 1 then tC h0 (17 + 4 * s + t) + tC h0 (17 + 4 * s + t + f) else if j = 17 + 4 * s then tC h0 (17 + 4 * s) + tC h0 (17 + 4 * s + f) else if j = 9 + s then -2 else tC h0 j) → (∀ j, ¬ (4 * s ≤ j ∧ j < 4 * s + 4) → h'.1 27 j = h0.1 27 j) → (∀ o, o < 4 → h'.1 27 (4 * s + o) = 0) → P h') : MCv g yX8_putTogether uX8_putTogether [.ref 3, .int l1, .int l2, .int l3] h0 P := by
  refine e_X8_putTogether l1 l2 l3 (fun x1 e1 => ?_)
  have k0 : x1.toInt = ((4 * s : Nat) : Int) := by rw [e1]; exact i_4s es s8
  have kf : (x1 + l2).toInt = ((4 * s + f : Nat) : Int) := by rw [i_add k0 ef (by omega)]; omega
  have kt : (x1 + l3).toInt = ((4 * s + t : Nat) : Int) := by rw [i_add k0 et (by omega)]; omega
  have ktf : ((x1 + l3) + l2).toInt = ((4 * s + t + f : Nat) : Int) := by rw [i_add kt ef (by omega)]; omega
  have k1 := i_off k0 1 1 (by decide) (by omega)
  have k2 := i_off k0 2 2 (by decide) (by omega)
  have k3 := i_off k0 3 3 (by decide) (by omega)
  rw [i_nat k0, i_nat kf, i_nat kt, i_nat ktf, i_nat k1, i_nat k2, i_nat k3, i_nat es]
  refine ⟨i_vp k0 (by omega), i_vp kf (by omega), fun x4 e4 => ⟨i_vp kt (by omega), i_vp ktf (by omega), fun x7 e7 => ⟨i_vp es (by omega), i_vp k0 (by omega), i_vp k1 (by omega), i_vp k2 (by omega), i_vp k3 (by omega), ?_⟩⟩⟩
  have fn2 : R (rgT 25 0).1 (rgT 25 0).2 (-2) := ⟨by decide, by decide⟩
  have o1 := Ok_w (Ok_rf (ms := [3, 24, 25, 26, 27]) hG) (k := 25) (j := s) (v := -2) (rg_25 s8) fn2 (by decide) (nt_k (by decide))
  have o5 := Ok_w (Ok_w (Ok_w (Ok_w o1 (k := 26) (j := 4 * s) (v := x4) (rgc_26 _) (R_full _) (by decide) (nt_k (by decide))) (k := 26) (j := 4 * s + 1) (v := x7) (rgc_26 _) (R_full _) (by decide) (nt_k (by decide))) (k := 26) (j := 4 * s + 2) (v := 0) (rgc_26 _) (R_full _) (by decide) (nt_k (by decide))) (k := 26) (j := 4 * s + 3) (v := 0) (rgc_26 _) (R_full _) (by decide) (nt_k (by decide))
  have y4 : x4 = tC h0 (17 + 4 * s) + tC h0 (17 + 4 * s + f) := by rw [e4, show 17 + 4 * s = 17 + (4 * s) by omega, tC_17, show 17 + (4 * s) + f = 17 + (4 * s + f) by omega, tC_17]
  have y7 : x7 = tC h0 (17 + 4 * s + t) + tC h0 (17 + 4 * s + t + f) := by rw [e7, show 17 + 4 * s + t = 17 + (4 * s + t) by omega, tC_17, show 17 + (4 * s + t) + f = 17 + (4 * s + t + f) by omega, tC_17]
  have vv : ∀ j, tC (wI (wI (wI (wI (wI h0 25 s (-2)) 26 (4 * s) x4) 26 (4 * s + 1) x7) 26 (4 * s + 2) 0) 26 (4 * s + 3) 0) j = if j = 17 + 4 * s + 3 then 0 else if j = 17 + 4 * s + 2 then 0 else if j = 17 + 4 * s + 1 then x7 else if j = 17 + 4 * s then x4 else if j = 9 + s then -2 else tC h0 j := fun j => by
    rw [tC_w26, tC_w26, tC_w26, tC_w26, tC_w25 _ _ _ _ s8, Nat.add_assoc, Nat.add_assoc, Nat.add_assoc]
  have c27 : (wI (wI (wI (wI (wI h0 25 s (-2)) 26 (4 * s) x4) 26 (4 * s + 1) x7) 26 (4 * s + 2) 0) 26 (4 * s + 3) 0).1 27 = h0.1 27 := by rw [wI_o (by decide), wI_o (by decide), wI_o (by decide), wI_o (by decide), wI_o (by decide)]
  generalize wI (wI (wI (wI (wI h0 25 s (-2)) 26 (4 * s) x4) 26 (4 * s + 1) x7) 26 (4 * s + 2) 0) 26 (4 * s + 3) 0 = hm at o5 vv c27
  rw [← y4, ← y7] at hp
  have L : ∀ (n : Nat) (l7 : Int32) (k : Nat) (h : mh_T), l7.toInt = (k : Int) → k ≤ 4 → 4 - k < n → Ok [3, 24, 25, 26, 27] h0 h → tC h = tC hm → (∀ j, ¬ (4 * s ≤ j ∧ j < 4 * s + 4) → h.1 27 j = h0.1 27 j) → (∀ o, o < k → h.1 27 (4 * s + o) = 0) → ME g uX8_putTogether 98 [.ref 3, .int l1, .int l2, .int l3, .int x1, .int x4, .int x7, .int l7] [] h (qV P) := by
    intro n
    induction n with
    | zero => intro l7 k h _ _ hn; exact absurd hn (Nat.not_lt_zero _)
    | succ n ih =>
      intro l7 k h ek hk hn ok q1 q2 q3
      have z4 : (4 : Int32).toInt = 4 := by decide
      refine r_X8_putTogether_98 l1 l2 l3 x1 x4 x7 l7 ⟨fun c => hp h ok (fun j => by rw [q1]; exact vv j) q2 (fun o ho => q3 o ?_), fun c => ?_⟩
      · have c := i_le.mp c
        omega
      · have c := i_lt.mp (nle c)
        rw [z4, ek] at c
        have ib : (x1 + l7).toInt = ((4 * s + k : Nat) : Int) := by rw [i_add k0 ek (by omega)]; omega
        refine ⟨i_vp ib (by omega), ?_⟩
        rw [i_nat ib]
        refine ih (l7 + 1) (k + 1) _ (i_inc ek (by omega)) (by omega) (by omega) (Ok_w ok (k := 27) (rgc_27 _) (R_full _) (by decide) (nt_k (by decide))) ?_ (fun j hj => ?_) (fun o ho => ?_)
        · rw [tC_wo _ _ _ _ ⟨fun z => absurd z.1 (by decide), by decide, by decide, by decide⟩]; exact q1
        · rw [wI_i, if_neg (by omega)]; exact q2 j hj
        · rw [wI_i]
          by_cases e : o = k
          · rw [if_pos (by omega)]
          · rw [if_neg (by omega)]; exact q3 o (by omega)
  exact L 5 0 0 hm (by decide) (Nat.zero_le _) (by omega) o5 rfl (fun j _ => by rw [c27]) (fun o ho => absurd ho (Nat.not_lt_zero _))
set_option maxRecDepth 100000 in
set_option maxHeartbeats 8000000 in
theorem v_merge_L {g : gT} {h0 : mh_T} {P : mh_T → Prop} (l1 : Int32) : ∀ (n : Nat) (l2 : Int32) (h : mh_T), l2.toInt + 1 = (n : Int) → Ok [3, 24, 25, 26, 27] h0 h → TZ (tC h) → n ≤ sn (tC h) → (∀ h', Ok [3, 24, 25, 26, 27] h0 h' → fgt l1 n (tC h) (h.1 27) (tC h') (h'.1 27) → P h') → ME g uX8_merge 7 [.ref 3, .int l1, .int l2] [] h (qV P) := by
  intro n
  induction n with
  | zero =>
    intro l2 h e2 ok tz hn hp
    refine r_X8_merge_7 l1 l2 ⟨fun _ => hp _ (Ok_w ok (k := 3) (j := 3) (lo := -2147483648) (hi := 2147483647) rfl (R_full _) (by decide) (by decide)) ?_, fun c => absurd (i_lt.mpr (by rw [i_0]; omega)) c⟩
    rw [tC_wo _ _ _ _ (by decide), wI_o (by decide)]
    exact ⟨rfl, fun s _ => ⟨sE_rf _ s, fun _ _ => rfl⟩⟩
  | succ s ih =>
    intro l2 h e2 ok tz hn hp
    have n8 : sn (tC h) ≤ 8 := by unfold sn; have := tz.2.1; omega
    have s8 : s < 8 := by omega
    have es : l2.toInt = (s : Int) := by omega
    have dec : (l2 + (-1)).toInt + 1 = (s : Int) := by
      have f3 : R 0 7 l2 := ⟨by omega, by omega⟩
      have := ti_dec f3 (by decide)
      omega
    have vs : vp_in l2 8 := i_vp es s8
    have nx : ∀ h', Ok [3, 24, 25, 26, 27] h0 h' → stp l1 s (tC h) (h.1 27) (tC h') (h'.1 27) → ME g uX8_merge 7 [.ref 3, .int l1, .int (l2 + (-1))] [] h' (qV P) := fun h' k' st => ih (l2 + (-1)) h' dec k' (TZ_st tz (by omega) st) (stp_n (by omega) st) (fun h2 k2 fg => hp h2 k2 ⟨_, _, st, fg⟩)
    refine r_X8_merge_7 l1 l2 ⟨fun c => absurd (i_lt.mp c) (by rw [i_0]; omega), fun c => ?_⟩
    rw [i_nat es, ← tC_1 h s8, ← tC_9 h s8]
    refine ⟨vs, fun z => ?_, fun z => ?_⟩
    · have nn : ¬ (tC h (9 + s)).toInt < 0 := by have := i_le.mp z; rw [i_0] at this; omega
      refine ⟨vs, fun y1 => ⟨vs, fun y2 => nx h ok (Or.inr (Or.inr ⟨y1, Or.inr y2, rfl, fun q _ => ⟨sE_rf _ q, fun _ _ => rfl⟩⟩)), fun y2 => ?_⟩, fun y1 => ⟨vs, vs, ?_⟩⟩
      · refine v_putTogether l2 1 2 s 1 2 es s8 (by decide) (by decide) (by decide) ok.1 (fun h' k' vv q2 q3 => nx h' (Ok_tr ok k' (by decide)) (Or.inr (Or.inl ⟨nn, Or.inr y2, ?_, fun q hq hne => ⟨⟨?_, ?_, fun o ho => ?_⟩, fun o ho => q2 _ (by omega)⟩, ?_, Or.inr ⟨y1, ?_, ?_, ?_⟩, ?_, ?_, q3⟩)))
        · rw [vv, if_neg (by omega), if_neg (by omega), if_neg (by omega), if_neg (by omega), if_neg (by omega)]
        · rw [vv, if_neg (by omega), if_neg (by omega), if_neg (by omega), if_neg (by omega), if_neg (by omega)]
        · rw [vv, if_neg (by omega), if_neg (by omega), if_neg (by omega), if_neg (by omega), if_neg (by omega)]
        · rw [vv, if_neg (by omega), if_neg (by omega), if_neg (by omega), if_neg (by omega), if_neg (by omega)]
        · rw [vv, if_neg (by omega), if_neg (by omega), if_neg (by omega), if_neg (by omega), if_pos rfl]
        · rw [vv, if_neg (by omega), if_neg (by omega), if_neg (by omega), if_neg (by omega), if_neg (by omega)]
        · rw [vv, if_neg (by omega), if_neg (by omega), if_neg (by omega), if_pos rfl]
        · rw [vv, if_neg (by omega), if_neg (by omega), if_pos rfl]
        · rw [vv, if_neg (by omega), if_pos rfl]
        · rw [vv, if_pos rfl]
      · have va : R (rgT 24 0).1 (rgT 24 0).2 (tC h (9 + s)) := by
          have r9 : R (-2) 5 (mI h 25 s) := GI_rd ok.1 25 s (by have := rg_25 s8; rw [this]; rfl)
          rw [tC_9 h s8] at *
          exact ⟨by show (0 : Int) ≤ _; omega, by show _ ≤ (5 : Int); exact r9.2⟩
        have o1 := Ok_w (Ok_rf (ms := [3, 24, 25, 26, 27]) ok.1) (k := 24) (j := s) (v := tC h (9 + s)) (rg_24 s8) va (by decide) (nt_k (by decide))
        have tw : ∀ j, tC (wI h 24 s (tC h (9 + s))) j = if j = 1 + s then tC h (9 + s) else tC h j := fun j => tC_w24 _ _ _ _ s8
        have c27 : (wI h 24 s (tC h (9 + s))).1 27 = h.1 27 := wI_o (by decide)
        generalize wI h 24 s (tC h (9 + s)) = hm at o1 tw c27
        refine v_putTogether l2 2 1 s 2 1 es s8 (by decide) (by decide) (by decide) o1.1 (fun h' k' vv q2 q3 => nx h' (Ok_tr (Ok_tr ok o1 (by decide)) k' (by decide)) (Or.inr (Or.inl ⟨nn, Or.inl y1, ?_, fun q hq hne => ⟨⟨?_, ?_, fun o ho => ?_⟩, fun o ho => by rw [q2 _ (by omega), c27]⟩, ?_, Or.inl ⟨y1, ?_, ?_, ?_⟩, ?_, ?_, q3⟩)))
        · rw [vv, if_neg (by omega), if_neg (by omega), if_neg (by omega), if_neg (by omega), if_neg (by omega), tw, if_neg (by omega)]
        · rw [vv, if_neg (by omega), if_neg (by omega), if_neg (by omega), if_neg (by omega), if_neg (by omega), tw, if_neg (by omega)]
        · rw [vv, if_neg (by omega), if_neg (by omega), if_neg (by omega), if_neg (by omega), if_neg (by omega), tw, if_neg (by omega)]
        · rw [vv, if_neg (by omega), if_neg (by omega), if_neg (by omega), if_neg (by omega), if_neg (by omega), tw, if_neg (by omega)]
        · rw [vv, if_neg (by omega), if_neg (by omega), if_neg (by omega), if_neg (by omega), if_pos rfl]
        · rw [vv, if_neg (by omega), if_neg (by omega), if_neg (by omega), if_neg (by omega), if_neg (by omega), tw, if_pos rfl]
        · rw [vv, if_neg (by omega), if_neg (by omega), if_neg (by omega), if_pos rfl, tw, tw, if_neg (by omega), if_neg (by omega)]
        · rw [vv, if_neg (by omega), if_neg (by omega), if_pos rfl, tw, tw, if_neg (by omega), if_neg (by omega)]
        · rw [vv, if_neg (by omega), if_pos rfl]
        · rw [vv, if_pos rfl]
    · have nn : (tC h (9 + s)).toInt < 0 := by
        have : ¬ (0 : Int32).toInt ≤ (tC h (9 + s)).toInt := fun w => z (i_le.mpr w)
        rw [i_0] at this
        omega
      exact ⟨vs, fun y1 => nx h ok (Or.inr (Or.inr ⟨y1, Or.inl nn, rfl, fun q _ => ⟨sE_rf _ q, fun _ _ => rfl⟩⟩)), fun y1 => v_remove l2 s es (by omega) ok.1 (fun h' k' d => nx h' (Ok_tr ok k' (by decide)) (Or.inl ⟨nn, y1, d⟩))⟩
theorem v_X8_merge {g : gT} {h : mh_T} {P : mh_T → Prop} (l1 : Int32) (hG : GI h) (tz : TZ (tC h)) (hp : ∀ h', Ok [3, 24, 25, 26, 27] h h' → fgt l1 (sn (tC h)) (tC h) (h.1 27) (tC h') (h'.1 27) → P h') : MCv g yX8_merge uX8_merge [.ref 3, .int l1] h P := by
  refine e_X8_merge l1 (fun x1 e1 => v_merge_L l1 (sn (tC h)) x1 h ?_ (Ok_rf hG) tz (Nat.le_refl _) hp)
  have f0 : R 0 8 (mI h 3 2) := GI_rd hG 3 2 rfl
  have z := tz.1
  rw [e1, ti_sub1 f0 (by decide), ← tC_0]
  unfold sn
  omega
