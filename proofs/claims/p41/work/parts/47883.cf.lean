/-! the class's table: turn -/
theorem tC_0 (h : mh_T) : tC h 0 = mI h 3 2 := rfl
theorem tC_1 (h : mh_T) {s : Nat} (hs : s < 8) : tC h (1 + s) = mI h 24 s := by
  unfold tC
  rw [if_neg (by omega), if_pos (by omega), show 1 + s - 1 = s by omega]
theorem tC_9 (h : mh_T) {s : Nat} (hs : s < 8) : tC h (9 + s) = mI h 25 s := by
  unfold tC
  rw [if_neg (by omega), if_neg (by omega), if_pos (by omega), show 9 + s - 9 = s by omega]
theorem tC_17 (h : mh_T) (i : Nat) : tC h (17 + i) = mI h 26 i := by
  unfold tC
  rw [if_neg (by omega), if_neg (by omega), if_neg (by omega), show 17 + i - 17 = i by omega]
theorem tC_cg {h h' : mh_T} (e3 : mI h' 3 2 = mI h 3 2) (e24 : h'.1 24 = h.1 24) (e25 : h'.1 25 = h.1 25) (e26 : h'.1 26 = h.1 26) : tC h' = tC h := by
  funext j
  unfold tC
  rw [e3, show mI h' 24 (j - 1) = mI h 24 (j - 1) from congrFun e24 _, show mI h' 25 (j - 9) = mI h 25 (j - 9) from congrFun e25 _, show mI h' 26 (j - 17) = mI h 26 (j - 17) from congrFun e26 _]
theorem tC_w26 (h : mh_T) (k j : Nat) (v : Int32) : tC (wI h 26 k v) j = if j = 17 + k then v else tC h j := by
  unfold tC
  rw [mI_wI, mI_wI, mI_wI, mI_wI]
  by_cases e0 : j = 0
  · rw [if_pos e0, if_neg (by omega), if_neg (by omega), if_pos e0]
  · rw [if_neg e0, if_neg e0]
    by_cases e9 : j < 9
    · rw [if_pos e9, if_pos e9, if_neg (by omega), if_neg (by omega)]
    · rw [if_neg e9, if_neg e9]
      by_cases e17 : j < 17
      · rw [if_pos e17, if_pos e17, if_neg (by omega), if_neg (by omega)]
      · rw [if_neg e17, if_neg e17]
        by_cases e : j = 17 + k
        · rw [if_pos ⟨rfl, by omega⟩, if_pos e]
        · rw [if_neg (by omega), if_neg e]
theorem tC_w24 (h : mh_T) (k j : Nat) (v : Int32) (hk : k < 8) : tC (wI h 24 k v) j = if j = 1 + k then v else tC h j := by
  unfold tC
  rw [mI_wI, mI_wI, mI_wI, mI_wI]
  by_cases e0 : j = 0
  · rw [if_pos e0, if_neg (by omega), if_neg (by omega), if_pos e0]
  · rw [if_neg e0, if_neg e0]
    by_cases e9 : j < 9
    · rw [if_pos e9, if_pos e9]
      by_cases e : j = 1 + k
      · rw [if_pos ⟨rfl, by omega⟩, if_pos e]
      · rw [if_neg (by omega), if_neg e]
    · rw [if_neg e9, if_neg e9]
      by_cases e17 : j < 17
      · rw [if_pos e17, if_pos e17, if_neg (by omega), if_neg (by omega)]
      · rw [if_neg e17, if_neg e17, if_neg (by omega), if_neg (by omega)]
theorem tC_w25 (h : mh_T) (k j : Nat) (v : Int32) (hk : k < 8) : tC (wI h 25 k v) j = if j = 9 + k then v else tC h j := by
  unfold tC
  rw [mI_wI, mI_wI, mI_wI, mI_wI]
  by_cases e0 : j = 0
  · rw [if_pos e0, if_neg (by omega), if_neg (by omega), if_pos e0]
  · rw [if_neg e0, if_neg e0]
    by_cases e9 : j < 9
    · rw [if_pos e9, if_pos e9, if_neg (by omega), if_neg (by omega)]
    · rw [if_neg e9, if_neg e9]
      by_cases e17 : j < 17
      · rw [if_pos e17, if_pos e17]
        by_cases e : j = 9 + k
        · rw [if_pos ⟨rfl, by omega⟩, if_pos e]
        · rw [if_neg (by omega), if_neg e]
      · rw [if_neg e17, if_neg e17, if_neg (by omega), if_neg (by omega)]
theorem tC_w32 (h : mh_T) (j : Nat) (v : Int32) : tC (wI h 3 2 v) j = if j = 0 then v else tC h j := by
  unfold tC
  rw [mI_wI, mI_wI, mI_wI, mI_wI, if_neg (show ¬ (24 = 3 ∧ j - 1 = 2) by omega), if_neg (show ¬ (25 = 3 ∧ j - 9 = 2) by omega), if_neg (show ¬ (26 = 3 ∧ j - 17 = 2) by omega), if_pos (show 3 = 3 ∧ 2 = 2 from ⟨rfl, rfl⟩)]
  by_cases e0 : j = 0
  · rw [if_pos e0, if_pos e0]
  · rw [if_neg e0, if_neg e0, if_neg e0]
theorem tC_wo (h : mh_T) (k j : Nat) (v : Int32) (hk : ¬ (k = 3 ∧ j = 2) ∧ ¬ k = 24 ∧ ¬ k = 25 ∧ ¬ k = 26) : tC (wI h k j v) = tC h := tC_cg (by rw [mI_wI, if_neg (by omega)]) (wI_o (by omega)) (wI_o (by omega)) (wI_o (by omega))
theorem tC_ok {ms : List Nat} {h h' : mh_T} (ok : Ok ms h h') (hm : 3 ∉ ms ∧ 24 ∉ ms ∧ 25 ∉ ms ∧ 26 ∉ ms) : tC h' = tC h := tC_cg (congrFun (OkC ok ⟨by decide, hm.1⟩) 2) (OkC ok ⟨by decide, hm.2.1⟩) (OkC ok ⟨by decide, hm.2.2.1⟩) (OkC ok ⟨by decide, hm.2.2.2⟩)
/-- two outcomes change places -/
theorem v_swap {g : gT} {h : mh_T} {P : mh_T → Prop} (l1 l2 : Int32) (p q : Nat) (e1 : l1.toInt = (p : Int)) (e2 : l2.toInt = (q : Int)) (hp32 : p < 32) (hq32 : q < 32) (hG : GI h) (hp : ∀ h', Ok [3, 26, 27] h h' → mI h' 3 2 = mI h 3 2 → (∀ j, h'.1 26 j = if j = q then h.1 26 p else if j = p then h.1 26 q else h.1 26 j) → (∀ j, h'.1 27 j = if j = q then h.1 27 p else if j = p then h.1 27 q else h.1 27 j) → P h') : MCv g yX8_swap uX8_swap [.ref 3, .int l1, .int l2] h P := by
  have v1 := i_vp e1 hp32
  have v2 := i_vp e2 hq32
  refine e_X8_swap l1 l2 ⟨v1, fun x2 ex2 => ⟨v2, v1, v2, v1, fun x7 ex7 => ⟨v2, v1, v2, ?_⟩⟩⟩
  rw [i_nat e1, i_nat e2] at *
  refine hp _ (Ok_w (Ok_w (Ok_w (Ok_w (Ok_rf hG) (k := 26) (rgc_26 _) (R_full _) (by decide) (nt_k (by decide))) (k := 26) (rgc_26 _) (R_full _) (by decide) (nt_k (by decide))) (k := 27) (rgc_27 _) (R_full _) (by decide) (nt_k (by decide))) (k := 27) (rgc_27 _) (R_full _) (by decide) (nt_k (by decide))) rfl (fun j => ?_) (fun j => ?_)
  · rw [wI_o (by decide), wI_o (by decide), wI_i, wI_i, ex2]
    rfl
  · have q7 : x7 = h.1 27 p := by rw [ex7]; show (wI (wI h 26 _ _) 26 _ _).1 27 _ = _; rw [wI_o (by decide), wI_o (by decide)]
    rw [wI_i, wI_i, wI_o (by decide), wI_o (by decide), q7]
    rfl
set_option maxRecDepth 100000 in
set_option maxHeartbeats 4000000 in
theorem v_turn_L {g : gT} {h0 : mh_T} {P : mh_T → Prop} (l1 : Int32) (tz : TZ (tC h0)) (hp : ∀ h', Ok [3, 26, 27] h0 h' → flp l1 (tC h0) (h0.1 27) (tC h') (h'.1 27) → P h') : ∀ (n : Nat) (l2 : Int32) (s : Nat) (h : mh_T), l2.toInt = (s : Int) → s ≤ sn (tC h0) → sn (tC h0) - s < n → Ok [3, 26, 27] h0 h → FP l1 s (tC h0) (h0.1 27) (tC h) (h.1 27) → ME g uX8_turn 2 [.ref 3, .int l1, .int l2, .retAddr 0] [] h (qV P) := by
  intro n
  induction n with
  | zero => intro l2 s h _ _ hn; exact absurd hn (Nat.not_lt_zero _)
  | succ n ih =>
    intro l2 s h es hs hn ok fp
    have n8 : sn (tC h0) ≤ 8 := by unfold sn; have := tz.2.1; omega
    have ec : (mI h 3 2).toInt = (sn (tC h0) : Int) := by
      have e := fp.1 0 (by omega)
      rw [tC_0] at e
      rw [e]
      unfold sn
      have := tz.1
      omega
    refine r_X8_turn_2 l1 l2 ⟨fun c => ?_, fun c x2 e2 => ?_⟩
    · have c := i_le.mp c
      rw [es] at c
      refine hp _ (Ok_w ok (k := 3) (j := 3) (lo := -2147483648) (hi := 2147483647) rfl (R_full _) (by decide) (by decide)) ?_
      rw [tC_wo _ _ _ _ (by decide), wI_o (by decide)]
      exact FP_e n8 (by omega) fp
    · have c := i_lt.mp (nle c)
      rw [es] at c
      have s8 : s < 8 := by omega
      have sl : s < sn (tC h0) := by omega
      have vs : vp_in l2 8 := i_vp es s8
      rw [i_nat es]
      have q1 : mI h 24 s = tC h0 (1 + s) := by rw [← tC_1 h s8]; exact fp.1 _ (by omega)
      have q9 : mI h 25 s = tC h0 (9 + s) := by rw [← tC_9 h s8]; exact fp.1 _ (by omega)
      rw [q1, q9]
      have x0 : x2.toInt = ((4 * s : Nat) : Int) := by rw [e2]; exact i_4s es s8
      have x1 := i_off x0 1 1 (by decide) (by omega)
      have x2' := i_off x0 2 2 (by decide) (by omega)
      have x3 := i_off x0 3 3 (by decide) (by omega)
      have nxt : ∀ h', Ok [3, 26, 27] h h' → FP l1 (s + 1) (tC h0) (h0.1 27) (tC h') (h'.1 27) → ME g uX8_turn 2 [.ref 3, .int l1, .int (l2 + 1), .retAddr 0] [] h' (qV P) := fun h' k' f' => ih (l2 + 1) (s + 1) h' (i_inc es (by omega)) (by omega) (by omega) (Ok_tr ok k' (by decide)) f'
      have c3 : ∀ {h h' : mh_T}, Ok [3, 26, 27] h h' → mI h' 3 2 = mI h 3 2 → ∀ j, j < 17 → tC h' j = tC h j := fun {h h'} k' e j hj => by
        unfold tC
        rw [e, show mI h' 24 (j - 1) = mI h 24 (j - 1) from congrFun (OkC k' (by decide)) _, show mI h' 25 (j - 9) = mI h 25 (j - 9) from congrFun (OkC k' (by decide)) _, if_pos hj, if_pos hj]
      have fin : ∀ h', Ok [3, 26, 27] h h' → mI h' 3 2 = mI h 3 2 → (∀ j, ¬ (4 * s ≤ j ∧ j < 4 * s + 4) → h'.1 26 j = h.1 26 j ∧ h'.1 27 j = h.1 27 j) → (∀ o, o < 4 → h'.1 26 (4 * s + o) = h.1 26 (4 * s + pm (tC h0) l1 s o) ∧ h'.1 27 (4 * s + o) = h.1 27 (4 * s + pm (tC h0) l1 s o)) → FP l1 (s + 1) (tC h0) (h0.1 27) (tC h') (h'.1 27) := fun h' k' e ho hx => by
        refine FP_s s8 fp (fun j hj => ?_) (fun j hj => (ho j hj).2) (fun o hlt => ⟨?_, (hx o hlt).2⟩)
        · by_cases y : j < 17
          · exact c3 k' e j y
          · rw [show j = 17 + (j - 17) by omega, tC_17, tC_17]
            exact (ho _ (by omega)).1
        · rw [show 17 + 4 * s + o = 17 + (4 * s + o) by omega, tC_17, show 17 + 4 * s + pm (tC h0) l1 s o = 17 + (4 * s + pm (tC h0) l1 s o) by omega, tC_17]
          exact (hx o hlt).1
      refine ⟨vs, fun z => ?_, fun z => ?_⟩
      · have nn : 0 ≤ (tC h0 (9 + s)).toInt := by have := i_le.mp z; rw [i_0] at this; exact this
        refine ⟨vs, fun n1 => ⟨vs, fun n2 => nxt h (Ok_rf ok.1) (FP_n s8 fp (fun o _ => pm_n2 nn n1 n2)), fun y2 => ?_⟩, fun y1 => ?_⟩
        · refine v_swap x2 (x2 + 1) (4 * s) (4 * s + 1) x0 x1 (by omega) (by omega) ok.1 (fun h1 k1 c1 a1 b1 => v_swap (x2 + 2) (x2 + 3) (4 * s + 2) (4 * s + 3) x2' x3 (by omega) (by omega) k1.1 (fun h2 k2 c2 a2 b2 => nxt h2 (Ok_tr k1 k2 (by decide)) (fin h2 (Ok_tr k1 k2 (by decide)) (c2.trans c1) (fun j hj => ?_) (fun o ho => ?_))))
          · rw [a2, a1, a1, a1, b2, b1, b1, b1]
            rw [if_neg (by omega), if_neg (by omega), if_neg (by omega), if_neg (by omega), if_neg (by omega), if_neg (by omega), if_neg (by omega), if_neg (by omega)]
            exact ⟨rfl, rfl⟩
          · rw [pm_3 nn n1 y2 ho, xq_e4 1 (by decide) o ho, a2, b2, a1, a1, a1, b1, b1, b1]
            have : o = 0 ∨ o = 1 ∨ o = 2 ∨ o = 3 := by omega
            rcases this with w | w | w | w <;> subst w
            · rw [if_neg (by omega), if_neg (by omega), if_neg (by omega), if_pos (by omega), if_neg (by omega), if_neg (by omega), if_neg (by omega), if_pos (by omega)]; exact ⟨rfl, rfl⟩
            · rw [if_neg (by omega), if_neg (by omega), if_pos (by omega), if_neg (by omega), if_neg (by omega), if_pos (by omega)]; exact ⟨rfl, rfl⟩
            · rw [if_neg (by omega), if_pos (by omega), if_neg (by omega), if_neg (by omega), if_neg (by omega), if_pos (by omega), if_neg (by omega), if_neg (by omega)]; exact ⟨rfl, rfl⟩
            · rw [if_pos (by omega), if_neg (by omega), if_neg (by omega), if_pos (by omega), if_neg (by omega), if_neg (by omega)]; exact ⟨rfl, rfl⟩
        · refine v_swap x2 (x2 + 2) (4 * s) (4 * s + 2) x0 x2' (by omega) (by omega) ok.1 (fun h1 k1 c1 a1 b1 => v_swap (x2 + 1) (x2 + 3) (4 * s + 1) (4 * s + 3) x1 x3 (by omega) (by omega) k1.1 (fun h2 k2 c2 a2 b2 => nxt h2 (Ok_tr k1 k2 (by decide)) (fin h2 (Ok_tr k1 k2 (by decide)) (c2.trans c1) (fun j hj => ?_) (fun o ho => ?_))))
          · rw [a2, a1, a1, a1, b2, b1, b1, b1]
            rw [if_neg (by omega), if_neg (by omega), if_neg (by omega), if_neg (by omega), if_neg (by omega), if_neg (by omega), if_neg (by omega), if_neg (by omega)]
            exact ⟨rfl, rfl⟩
          · rw [pm_2 nn y1 ho, xq_e4 2 (by decide) o ho, a2, b2, a1, a1, a1, b1, b1, b1]
            have : o = 0 ∨ o = 1 ∨ o = 2 ∨ o = 3 := by omega
            rcases this with w | w | w | w <;> subst w
            · rw [if_neg (by omega), if_neg (by omega), if_neg (by omega), if_pos (by omega), if_neg (by omega), if_neg (by omega), if_neg (by omega), if_pos (by omega)]; exact ⟨rfl, rfl⟩
            · rw [if_neg (by omega), if_pos (by omega), if_neg (by omega), if_neg (by omega), if_neg (by omega), if_pos (by omega), if_neg (by omega), if_neg (by omega)]; exact ⟨rfl, rfl⟩
            · rw [if_neg (by omega), if_neg (by omega), if_pos (by omega), if_neg (by omega), if_neg (by omega), if_pos (by omega)]; exact ⟨rfl, rfl⟩
            · rw [if_pos (by omega), if_neg (by omega), if_neg (by omega), if_pos (by omega), if_neg (by omega), if_neg (by omega)]; exact ⟨rfl, rfl⟩
      · have nn : tC h0 (9 + s) = -2 := by
          rcases (tz.2.2 s sl).1 with w | w
          · exact w.1
          · exact absurd (i_le.mpr (by rw [i_0]; exact w)) z
        refine ⟨vs, fun n1 => nxt h (Ok_rf ok.1) (FP_n s8 fp (fun o _ => pm_n1 nn n1)), fun y1 => ?_⟩
        refine v_swap x2 (x2 + 1) (4 * s) (4 * s + 1) x0 x1 (by omega) (by omega) ok.1 (fun h1 k1 c1 a1 b1 => nxt h1 k1 (fin h1 k1 c1 (fun j hj => ?_) (fun o ho => ?_)))
        · rw [a1, b1, if_neg (by omega), if_neg (by omega), if_neg (by omega), if_neg (by omega)]
          exact ⟨rfl, rfl⟩
        · rw [pm_1 nn y1 ho, a1, b1]
          have : o = 0 ∨ o = 1 ∨ o = 2 ∨ o = 3 := by omega
          rcases this with w | w | w | w <;> subst w
          · rw [if_neg (by omega), if_pos (by omega), if_neg (by omega), if_pos (by omega)]; exact ⟨rfl, rfl⟩
          · rw [if_pos (by omega), if_pos (by omega)]; exact ⟨rfl, rfl⟩
          · rw [if_neg (by omega), if_neg (by omega), if_neg (by omega), if_neg (by omega)]; exact ⟨rfl, rfl⟩
          · rw [if_neg (by omega), if_neg (by omega), if_neg (by omega), if_neg (by omega)]; exact ⟨rfl, rfl⟩
theorem v_X8_turn {g : gT} {h : mh_T} {P : mh_T → Prop} (l1 : Int32) (hG : GI h) (tz : TZ (tC h)) (hp : ∀ h', Ok [3, 26, 27] h h' → flp l1 (tC h) (h.1 27) (tC h') (h'.1 27) → P h') : MCv g yX8_turn uX8_turn [.ref 3, .int l1] h P :=
  e_X8_turn l1 (v_turn_L l1 tz hp 9 0 0 h (by decide) (Nat.zero_le _) (by unfold sn; have := tz.2.1; omega) (Ok_rf hG) (FP_0 l1 _ _))
