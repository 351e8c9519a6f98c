/-! DROP of the class: remove -/
set_option maxRecDepth 100000 in
set_option maxHeartbeats 4000000 in
theorem v_remove_42 {g : gT} {hs : mh_T} {P : mh_T → Prop} (l1 l2 : Int32) (s : Nat) (es : l2.toInt = (s : Int)) (s7 : s < 7) (nx : ∀ h', Ok [3, 24, 25, 26, 27] hs h' → IG s 4 (tC hs) (hs.1 27) (tC h') (h'.1 27) → ME g uX8_remove 2 [.ref 3, .int l1, .int (l2 + 1), .retAddr 0] [] h' (qV P)) : ∀ (n : Nat) (l3 : Int32) (k : Nat) (h : mh_T), l3.toInt = (k : Int) → k ≤ 4 → 4 - k < n → Ok [3, 24, 25, 26, 27] hs h → IG s k (tC hs) (hs.1 27) (tC h) (h.1 27) → ME g uX8_remove 42 [.ref 3, .int l1, .int l2, .int l3] [] h (qV P) := by
  intro n
  induction n with
  | zero => intro l3 k h _ _ hn; exact absurd hn (Nat.not_lt_zero _)
  | succ n ih =>
    intro l3 k h ek hk hn ok ig
    have z4 : (4 : Int32).toInt = 4 := by decide
    refine r_X8_remove_42 l1 l2 l3 ⟨fun c => ?_, fun c => ?_⟩
    · have c := i_le.mp c
      have : k = 4 := by omega
      subst this
      exact nx h ok ig
    · have c := i_lt.mp (nle c)
      rw [z4, ek] at c
      have e4 := i_4s es (show s < 8 by omega)
      have ib : ((4 * l2) + l3).toInt = ((4 * s + k : Nat) : Int) := by rw [i_add e4 ek (by omega)]; omega
      have ib4 : (((4 * l2) + 4) + l3).toInt = ((4 * (s + 1) + k : Nat) : Int) := by rw [i_add (i_add e4 (show (4 : Int32).toInt = 4 from by decide) (by omega)) ek (by omega)]; omega
      refine ⟨i_vp ib4 (by omega), i_vp ib (by omega), i_vp ib4 (by omega), i_vp ib (by omega), ?_⟩
      rw [i_nat ib, i_nat ib4]
      refine ih (l3 + 1) (k + 1) _ (i_inc ek (by omega)) (by omega) (by omega) (Ok_w (Ok_w ok (k := 26) (rgc_26 _) (R_full _) (by decide) (nt_k (by decide))) (k := 27) (rgc_27 _) (R_full _) (by decide) (nt_k (by decide))) (IG_1 s7 (by omega) ig (fun j => ?_) (fun j => ?_))
      · rw [tC_wo _ _ _ _ ⟨fun z => absurd z.1 (by decide), by decide, by decide, by decide⟩, tC_w26, show 17 + 4 * (s + 1) + k = 17 + (4 * (s + 1) + k) by omega, tC_17, show 17 + 4 * s + k = 17 + (4 * s + k) by omega]
      · rw [wI_i, wI_o (by decide)]
        rfl
theorem rg_24 {j : Nat} (hj : j < 8) : rgT 24 j = rgT 24 0 := by
  have : ∀ j, j < 8 → rgT 24 j = rgT 24 0 := by decide
  exact this j hj
theorem rg_25 {j : Nat} (hj : j < 8) : rgT 25 j = rgT 25 0 := by
  have : ∀ j, j < 8 → rgT 25 j = rgT 25 0 := by decide
  exact this j hj
set_option maxRecDepth 100000 in
set_option maxHeartbeats 4000000 in
theorem v_remove {g : gT} {h0 : mh_T} {P : mh_T → Prop} (l1 : Int32) (S : Nat) (eS : l1.toInt = (S : Int)) (hS : S < sn (tC h0)) (hG : GI h0) (hp : ∀ h', Ok [3, 24, 25, 26, 27] h0 h' → drp S (tC h0) (h0.1 27) (tC h') (h'.1 27) → P h') : MCv g yX8_remove uX8_remove [.ref 3, .int l1] h0 P := by
  have f0 : R 0 8 (mI h0 3 2) := GI_rd hG 3 2 rfl
  have f01 : 0 ≤ (tC h0 0).toInt := f0.1
  have f02 : (tC h0 0).toInt ≤ 8 := f0.2
  have n8 : sn (tC h0) ≤ 8 := by unfold sn; omega
  have en : (tC h0 0).toInt = (sn (tC h0) : Int) := by unfold sn; omega
  have L : ∀ (n : Nat) (l2 : Int32) (s : Nat) (h : mh_T), l2.toInt = (s : Int) → S ≤ s → s < sn (tC h0) → sn (tC h0) - s < n → Ok [3, 24, 25, 26, 27] h0 h → GA S s (tC h0) (h0.1 27) (tC h) (h.1 27) → ME g uX8_remove 2 [.ref 3, .int l1, .int l2, .retAddr 0] [] h (qV P) := by
    intro n
    induction n with
    | zero => intro l2 s h _ _ _ hn; exact absurd hn (Nat.not_lt_zero _)
    | succ n ih =>
      intro l2 s h es hSs hs hn ok ga'
      have e0 : mI h 3 2 = tC h0 0 := ga'.1
      have ec : (tC h0 0 - 1).toInt = (sn (tC h0) : Int) - 1 := by rw [ti_sub1 (x := tC h0 0) ⟨f01, f02⟩ (by decide)]; omega
      refine r_X8_remove_2 l1 l2 ?_
      rw [show mI h 3 2 = tC h0 0 from e0]
      refine ⟨fun c => ?_, fun c => ?_⟩
      · have c := i_le.mp c
        rw [ec, es] at c
        have o1 := Ok_w ok (k := 3) (j := 2) (v := tC h0 0 - 1) (lo := 0) (hi := 8) rfl ⟨by omega, by omega⟩ (by decide) (by decide)
        refine hp _ (Ok_w o1 (k := 3) (j := 3) (lo := -2147483648) (hi := 2147483647) rfl (R_full _) (by decide) (by decide)) ?_
        rw [tC_wo _ _ _ _ (by decide), wI_o (by decide), wI_o (by decide)]
        refine GA_e n8 (by omega) ga' ?_ (fun q hq => ⟨⟨?_, ?_, fun o ho => ?_⟩, fun _ _ => rfl⟩)
        · rw [tC_w32, if_pos rfl, ec]; omega
        · rw [tC_w32, if_neg (by omega)]
        · rw [tC_w32, if_neg (by omega)]
        · rw [tC_w32, if_neg (by omega)]
      · have c := lt_ti (nle c)
        rw [ec, es] at c
        have s7 : s < 7 := by omega
        have j1 := i_inc es (by omega)
        have j1 : (l2 + 1).toInt = ((s + 1 : Nat) : Int) := j1
        refine ⟨i_vp j1 (by omega), i_vp es (by omega), i_vp j1 (by omega), i_vp es (by omega), ?_⟩
        rw [i_nat es, i_nat j1]
        have va : R (rgT 24 0).1 (rgT 24 0).2 (mI h 24 (s + 1)) := GI_rd ok.1 24 _ (rg_24 (by omega))
        have o1 := Ok_w (Ok_rf (ms := [3, 24, 25, 26, 27]) ok.1) (k := 24) (j := s) (v := mI h 24 (s + 1)) (rg_24 (by omega)) va (by decide) (nt_k (by decide))
        have vb : R (rgT 25 0).1 (rgT 25 0).2 (mI (wI h 24 s (mI h 24 (s + 1))) 25 (s + 1)) := GI_rd o1.1 25 _ (rg_25 (by omega))
        have o2 := Ok_w o1 (k := 25) (j := s) (v := mI (wI h 24 s (mI h 24 (s + 1))) 25 (s + 1)) (rg_25 (by omega)) vb (by decide) (nt_k (by decide))
        refine v_remove_42 (hs := h) l1 l2 s es s7 (fun h' k' ig => ?_) 5 0 0 _ (by decide) (Nat.zero_le _) (by omega) o2 ⟨fun j h1 h2 h3 => ?_, fun j h1 => ?_, ?_, ?_, fun i hi => absurd hi (Nat.not_lt_zero _)⟩
        · obtain ⟨i1, i2, i3, i4⟩ := IG_e s7 ig
          exact ih (l2 + 1) (s + 1) h' j1 (by omega) (by omega) (by omega) (Ok_tr ok k' (by decide)) (GA_s s7 hSs ga' i1 i2 ⟨i3, i4⟩)
        · rw [tC_w25 _ _ _ _ (by omega), if_neg h2, tC_w24 _ _ _ _ (by omega), if_neg h1]
        · rw [wI_o (by decide), wI_o (by decide)]
        · rw [tC_w25 _ _ _ _ (by omega), if_neg (by omega), tC_w24 _ _ _ _ (by omega), if_pos rfl, tC_1 h (by omega)]
        · rw [tC_w25 _ _ _ _ (by omega), if_pos rfl, tC_9 h (by omega)]
          show mI (wI h 24 s _) 25 (s + 1) = _
          rw [mI_wI, if_neg (fun z => absurd z.1 (by decide))]
  exact e_X8_remove l1 (L 9 l1 S h0 eS (Nat.le_refl _) hS (by omega) (Ok_rf hG) (GA_0 S _ _))
