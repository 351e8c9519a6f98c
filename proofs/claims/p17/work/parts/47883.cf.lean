/-! the class's table: turn -/
theorem tC_0 (h : mh_T) : tC h 0 = mI h 3 2 := rfl
theorem tC_1 (h : mh_T) {s : Nat} (hs : s < 8) : tC h (1 + s) = mI h 24 s := by
  unfold tC
  rw [if_neg (by omega), if_pos (by omega), show 1 + s - 1 = s by omega]
theorem tC_9 (h : mh_T) {s : Nat} (hs : s < 8) : tC h (9 + s) = mI h 25 s := by
  unfold tC
  rw [if_neg (by omega), if_neg (by omega), if_pos (by omega), show 9 + s - 9 = s by omega]
theorem tC_17 (h : mh_T) (i : Nat) : tC h (17 + i) = mI h 26 i := by
  unfold tC
  rw [if_neg (by omega), if_neg (by omega), if_neg (by omega), show 17 + i - 17 = i by omega]
theorem tC_cg {h h' : mh_T} (e3 : mI h' 3 2 = mI h 3 2) (e24 : h'.1 24 = h.1 24) (e25 : h'.1 25 = h.1 25) (e26 : h'.1 26 = h.1 26) : tC h' = tC h := by
  funext j
  unfold tC
  rw [e3, show mI h' 24 (j - 1) = mI h 24 (j - 1) from congrFun e24 _, show mI h' 25 (j - 9) = mI h 25 (j - 9) from congrFun e25 _, show mI h' 26 (j - 17) = mI h 26 (j - 17) from congrFun e26 _]
theorem tC_w26 (h : mh_T) (k j : Nat) (v : Int32) : tC (wI h 26 k v) j = if j = 17 + k then v else tC h j := by
  unfold tC
  rw [mI_wI, mI_wI, mI_wI, mI_wI]
  by_cases e0 : j = 0
  · rw [if_pos e0, if_neg (by omega), if_neg (by omega), if_pos e0]
  · rw [if_neg e0, if_neg e0]
    by_cases e9 : j < 9
    · rw [if_pos e9, if_pos e9, if_neg (by omega), if_neg (by omega)]
    · rw [if_neg e9, if_neg e9]
      by_cases e17 : j < 17
      · rw [if_pos e17, if_pos e17, if_neg (by omega), if_neg (by omega)]
      · rw [if_neg e17, if_neg e17]
        by_cases e : j = 17 + k
        · rw [if_pos ⟨rfl, by omega⟩, if_pos e]
        · rw [if_neg (by omega), if_neg e]
theorem tC_w24 (h : mh_T) (k j : Nat) (v : Int32) (hk : k < 8) : tC (wI h 24 k v) j = if j = 1 + k then v else tC h j := by
  unfold tC
  rw [mI_wI, mI_wI, mI_wI, mI_wI]
  by_cases e0 : j = 0
  · rw [if_pos e0, if_neg (by omega), if_neg (by omega), if_pos e0]
  · rw [if_neg e0, if_neg e0]
    by_cases e9 : j < 9
    · rw [if_pos e9, if_pos e9]
      by_cases e : j = 1 + k
      · rw [if_pos ⟨rfl, by omega⟩, if_pos e]
      · rw [if_neg (by omega), if_neg e]
    · rw [if_neg e9, if_neg e9]
      by_cases e17 : j < 17
      · rw [if_pos e17, if_pos e17, if_neg (by omega), if_neg (by omega)]
      · rw [if_neg e17, if_neg e17, if_neg (by omega), if_neg (by omega)]
theorem tC_w25 (h : mh_T) (k j : Nat) (v : Int32) (hk : k < 8) : tC (wI h 25 k v) j = if j = 9 + k then v else tC h j := by
  unfold tC
  rw [mI_wI, mI_wI, mI_wI, mI_wI]
  by_cases e0 : j = 0
  · rw [if_pos e0, if_neg (by omega), if_neg (by omega), if_pos e0]
  · rw [if_neg e0, if_neg e0]
    by_cases e9 : j < 9
    · rw [if_pos e9, if_pos e9, if_neg (by omega), if_neg (by omega)]
    · rw [if_neg e9, if_neg e9]
      by_cases e17 : j < 17
      · rw [if_pos e17, if_pos e17]
        by_cases e : j = 9 + k
        · rw [if_pos ⟨rfl, by omega⟩, if_pos e]
        · rw [if_neg (by omega), if_neg e]
      · rw [if_neg e17, if_neg e17, if_neg (by omega), if_neg (by omega)]
theorem tC_w32 (h : mh_T) (j : Nat) (v : Int32) : tC (wI h 3 2 v) j = if j = 0 then v else tC h j := by
  unfold tC
  rw [mI_wI, mI_wI, mI_wI, mI_wI, if_neg (show ¬ (24 = 3 ∧ j - 1 = 2) by omega), if_neg (show ¬ (25 = 3 ∧ j - 9 = 2) by omega), if_neg (show ¬ (26 = 3 ∧ j - 17 = 2) by omega), if_pos (show 3 = 3 ∧ 2 = 2 from ⟨rfl, rfl⟩)]
  by_cases e0 : j = 0
  · rw [if_pos e0, if_pos e0]
  · rw [if_neg e0, if_neg e0, if_neg e0]
theorem tC_wo (h : mh_T) (k j : Nat) (v : Int32) (hk : ¬ (k = 3 ∧ j = 2) ∧ ¬ k = 24 ∧ ¬ k = 25 ∧ ¬ k = 26) : tC (wI h k j v) = tC h := tC_cg (by rw [mI_wI, if_neg (by omega)]) (wI_o (by omega)) (wI_o (by omega)) (wI_o (by omega))
theorem tC_ok {ms : List Nat} {h h' : mh_T} (ok : Ok ms h h') (hm : 3 ∉ ms ∧ 24 ∉ ms ∧ 25 ∉ ms ∧ 26 ∉ ms) : tC h' = tC h := tC_cg (congrFun (OkC ok ⟨by decide, hm.1⟩) 2) (OkC ok ⟨by decide, hm.2.1⟩) (OkC ok ⟨by decide, hm.2.2.1⟩) (OkC ok ⟨by decide, hm.2.2.2⟩)
/-- two outcomes change places -/
theorem v_swap {g : gT} {h : mh_T} {P : mh_T → Prop} (l1 l2 : Int32) (p q : Nat) (e1 : l1.toInt = (p : Int)) (e2 : l2.toInt = (q : Int)) (hp32 : p < 32) (hq32 : q < 32) (hG : GI h) (hp : ∀ h', Ok [3, 26, 27] h h' → mI h' 3 2 = mI h 3 2 → (∀ j, h'.1 26 j = if j = q then h.1 26 p else if j = p then h.1 26 q else h.1 26 j) → (∀ j, h'.1 27 j = if j = q then h.1 27 p else if j = p then h.1 27 q else h.1 27 j) → P h') : MCv g yX8_swap uX8_swap [.ref 3, .int l1, .int l2] h P := by
  have v1 := i_vp e1 hp32
  have v2 := i_vp e2 hq32
  refine e_X8_swap l1 l2 ⟨v1, fun x2 ex2 => ⟨v2, v1, v2, v1, fun x7 ex7 => ⟨v2, v1, v2, ?_⟩⟩⟩
  rw [i_nat e1, i_nat e2] at *
  refine hp _ (Ok_w (Ok_w (Ok_w (Ok_w (Ok_rf hG) (k := 26) (rgc_26 _) (R_full _) (by decide) (nt_k (by decide))) (k := 26) (rgc_26 _) (R_full _) (by decide) (nt_k (by decide))) (k := 27) (rgc_27 _) (R_full _) (by decide) (nt_k (by decide))) (k := 27) (rgc_27 _) (R_full _) (by decide) (nt_k (by decide))) rfl (fun j => ?_) (fun j => ?_)
  · rw [wI_o (by decide), wI_o (by decide), wI_i, wI_i, ex2]
    rfl
  · have q7 : x7 = h.1 27 p := by rw [ex7]; show (wI (wI h 26 _ _) 26 _ _).1 27 _ = _; rw [wI_o (by decide), wI_o (by decide)]
    rw [wI_i, wI_i, wI_o (by decide), wI_o (by decide), q7]
    rfl
set_option maxRecDepth 100000 in
set_option maxHeartbeats 4000000 in
theorem v_turn_L {g : gT} {h0 : mh_T} {P : mh_T → Prop} (l1 : Int32) (tz : TZ (tC h0)) (hp : ∀ h', Ok [3, 26, 27] h0 h' → flp l1 (tC h0) (h0.1 27) (tC h') (h'.1 27) → P h') : ∀ (n : Nat) (l2 : Int32) (s : Nat) (h : mh_T), l2.toInt = (s : Int) → s ≤ sn (tC h0) → sn (tC h0) - s < n → Ok [3, 26, 27] h0 h → FP l1 s (tC h0) (h0.1 27) (tC h) (h.1 27) → ME g uX8_turn 2 [.ref 3, .int l1, .int l2, .retAddr 0] [] h (qV P) := by
  intro n
  induction n with
  | zero => intro l2 s h _ _ hn; exact absurd hn (Nat.not_lt_zero _)
  | succ n ih =>
    intro l2 s h es hs hn ok fp
    have n8 : sn (tC h0) ≤ 8 := by unfold sn; have := tz.2.1; omega
    have ec : (mI h 3 2).toInt = (sn (tC h0) : Int) := by
      have e := fp.1 0 (by omega)
      rw [tC_0] at e
      rw [e]
      unfold sn
      have := tz.1
      omega
    refine r_X8_turn_2 l1 l2 ⟨fun c => ?_, fun c x2 e2 => ?_⟩
    · have c := i_le.mp c
      rw [es] at c
      refine hp _ (Ok_w ok (k := 3) (j := 3) (lo := -2147483648) (hi := 2147483647) rfl (R_full _) (by decide) (by decide)) ?_
      rw [tC_wo _ _ _ _ (by decide), wI_o (by decide)]
      exact FP_e n8 (by omega) fp
    · have c := i_lt.mp (nle c)
      rw [es] at c
      have s8 : s < 8 := by omega
      have sl : s < sn (tC h0) := by omega
      have vs : vp_in l2 8 := i_vp es s8
      rw [i_nat es]
      have q1 : mI h 24 s = tC h0 (1 + s) := by rw [← tC_1 h s8]; exact fp.1 _ (by omega)
      have q9 : mI h 25 s = tC h0 (9 + s) := by rw [← tC_9 h s8]; exact fp.1 _ (by omega)
      rw [q1, q9]
      have x0 : x2.toInt = ((4 * s : Nat) : Int) := by rw [e2]; exact i_4s es s8
      have x1 := i_off x0 1 1 (by decide) (by omega)
      have x2' := i_off x0 2 2 (by decide) (by omega)
      have x3 := i_off x0 3 3 (by decide) (by omega)
      have nxt : ∀ h', Ok [3, 26, 27] h h' → FP l1 (s + 1) (tC h0) (h0.1 27) (tC h') (h'.1 27) → ME g uX8_turn 2 [.ref 3, .int l1, .int (l2 + 1), .retAddr 0] [] h' (qV P) := fun h' k' f' => ih (l2 + 1) (s + 1) h' (i_inc es (by omega)) (by omega) (by omega) (Ok_tr ok k' (by decide)) f'
      have c3 : ∀ {h h' : mh_T}, Ok [3, 26, 27] h h' → mI h' 3 2 = mI h 3 2 → ∀ j, j < 17 → tC h' j = tC h j := fun {h h'} k' e j hj => by
        unfold tC
        rw [e, show mI h' 24 (j - 1) = mI h 24 (j - 1) from congrFun (OkC k' (by decide)) _, show mI h' 25 (j - 9) = mI h 25 (j - 9) from congrFun (OkC k' (by decide)) _, if_pos hj, if_pos hj]
      have fin : ∀ h', Ok [3, 26, 27] h h' → mI h' 3 2 = mI h 3 2 → (∀ j, ¬ (4 * s ≤ j ∧ j < 4 * s + 4) → h'.1 26 j = h.1 26 j ∧ h'.1 27 j = h.1 27 j) → (∀ o, o < 4 → h'.1 26 (4 * s + o) = h.1 26 (4 * s + pm (tC h0) l1 s o) ∧ h'.1 27 (4 * s + o) = h.1 27 (4 * s + pm (tC h0) l1 s o)) → FP l1 (s + 1) (tC h0) (h0.1 27) (tC h') (h'.1 27) := fun h' k' e ho hx => by
        refine FP_s s8 fp (fun j hj => ?_) (fun j hj => (ho j hj).2) (fun o hlt => ⟨?_, (hx o hlt).2⟩)
        · by_cases y : j < 17
          · exact c3 k' e j y
          · rw [show j = 17 + (j - 17) by omega, tC_17, tC_17]
            exact (ho _ (by omega)).1
        · rw [show 17 + 4 * s + o = 17 + (4 * s + o) by omega, tC_17, show 17 + 4 * s + pm (tC h0) l1 s o = 17 + (4 * s + pm (tC h0) l1 s o) by omega, tC_17]
          exact (hx o hlt).1
      refine ⟨vs, fun z => ?_, fun z => ?_⟩
      · have nn : 0 ≤ (tC h0 (9 + s)).toInt := by have := i_le.mp z; rw [i_0] at this; exact this
        refine ⟨vs, fun n1 => ⟨vs, fun n2 => nxt h (Ok_rf ok.1) (FP_n s8 fp (fun o _ => pm_n2 nn n1 n2)), fun y2 => ?_⟩, fun y1 => ?_⟩
        · refine v_swap x2 (x2 + 1) (4 * s) (4 * s + 1) x0 x1 (by omega) (by omega) ok.1 (fun h1 k1 c1 a1 b1 => v_swap (x2 + 2) (x2 + 3) (4 * s + 2) (4 * s + 3) x2' x3 (by omega) (by omega) k1.1 (fun h2 k2 c2 a2 b2 => nxt h2 (Ok_tr k1 k2 (by decide)) (fin h2 (Ok_tr k1 k2 (by decide)) (c2.trans c1) (fun j hj => ?_) (fun o ho => ?_))))
          · rw [a2, a1, a1, a1, b2, b1, b1, b1]
            rw [if_neg (by omega), if_neg (by omega), if_neg (by omega), if_neg (by omega), if_neg (by omega), if_neg (by omega), if_neg (by omega), if_neg (by omega)]
            exact ⟨rfl, rfl⟩
          · rw [pm_3 nn n1 y2 ho, xq_e4 1 (by decide) o ho, a2, b2, a1, a1, a1, b1, b1, b1]
            have : o = 0 ∨ o = 1 ∨ o = 2 ∨ o = 3 := by omega
            rcases this with w | w | w | w <;> subst w
            · rw [if_neg (by omega), if_neg (by omega), if_neg (by omega), if_pos (by omega), if_neg (by omega), if_neg (by omega), if_neg (by omega), if_pos (by omega)]; exact ⟨rfl, rfl⟩
            · rw [if_neg (by omega), if_neg (by omega), if_pos (by omega), if_neg (by omega), if_neg (by omega), if_pos (by omega)]; exact ⟨rfl, rfl⟩
            · rw [if_neg (by omega), if_pos (by omega), if_neg (by omega), if_neg (by omega), if_neg (by omega), if_pos (by omega), if_neg (by omega), if_neg (by omega)]; exact ⟨rfl, rfl⟩
            · rw [if_pos (by omega), if_neg (by omega), if_neg (by omega), if_pos (by omega), if_neg (by omega), if_neg (by omega)]; exact ⟨rfl, rfl⟩
        · refine v_swap x2 (x2 + 2) (4 * s) (4 * s + 2) x0 x2' (by omega) (by omega) ok.1 (fun h1 k1 c1 a1 b1 => v_swap (x2 + 1) (x2 + 3) (4 * s + 1) (4 * s + 3) x1 x3 (by omega) (by omega) k1.1 (fun h2 k2 c2 a2 b2 => nxt h2 (Ok_tr k1 k2 (by decide)) (fin h2 (Ok_tr k1 k2 (by decide)) (c2.trans c1) (fun j hj => ?_) (fun o ho => ?_))))
          · rw [a2, a1, a1, a1, b2, b1, b1, b1]
            rw [if_neg (by omega), if_neg (by omega), if_neg (by omega), if_neg (by omega), if_neg (by omega), if_neg (by omega), if_neg (by omega), if_neg (by omega)]
            exact ⟨rfl, rfl⟩
          · rw [pm_2 nn y1 ho, xq_e4 2 (by decide) o ho, a2, b2, a1, a1, a1, b1, b1, b1]
            have : o = 0 ∨ o = 1 ∨ o = 2 ∨ o = 3 := by omega
            rcases this with w | w | w | w <;> subst w
            · rw [if_neg (by omega), if_neg (by omega), if_neg (by omega), if_pos (by omega), if_neg (by omega), if_neg (by omega), if_neg (by omega), if_pos (by omega)]; exact ⟨rfl, rfl⟩
            · rw [if_neg (by omega), if_pos (by omega), if_neg (by omega), if_neg (by omega), if_neg (by omega), if_pos (by omega), if_neg (by omega), if_neg (by omega)]; exact ⟨rfl, rfl⟩
            · rw [if_neg (by omega), if_neg (by omega), if_pos (by omega), if_neg (by omega), if_neg (by omega), if_pos (by omega)]; exact ⟨rfl, rfl⟩
            · rw [if_pos (by omega), if_neg (by omega), if_neg (by omega), if_pos (by omega), if_neg (by omega), if_neg (by omega)]; exact ⟨rfl, rfl⟩
      · have nn : tC h0 (9 + s) = -2 := by
          rcases (tz.2.2 s sl).1 with w | w
          · exact w.1
          · exact absurd (i_le.mpr (by rw [i_0]; exact w)) z
        refine ⟨vs, fun n1 => nxt h (Ok_rf ok.1) (FP_n s8 fp (fun o _ => pm_n1 nn n1)), fun y1 => ?_⟩
        refine v_swap x2 (x2 + 1) (4 * s) (4 * s + 1) x0 x1 (by omega) (by omega) ok.1 (fun h1 k1 c1 a1 b1 => nxt h1 k1 (fin h1 k1 c1 (fun j hj => ?_) (fun o ho => ?_)))
        · rw [a1, b1, if_neg (by omega), if_neg (by omega), if_neg (by omega), if_neg (by omega)]
          exact ⟨rfl, rfl⟩
        · rw [pm_1 nn y1 ho, a1, b1]
          have : o = 0 ∨ o = 1 ∨ o = 2 ∨ o = 3 := by omega
          rcases this with w | w | w | w <;> subst w
          · rw [if_neg (by omega), if_pos (by omega), if_neg (by omega), if_pos (by omega)]; exact ⟨rfl, rfl⟩
          · rw [if_pos (by omega), if_pos (by omega)]; exact ⟨rfl, rfl⟩
          · rw [if_neg (by omega), if_neg (by omega), if_neg (by omega), if_neg (by omega)]; exact ⟨rfl, rfl⟩
          · rw [if_neg (by omega), if_neg (by omega), if_neg (by omega), if_neg (by omega)]; exact ⟨rfl, rfl⟩
theorem v_X8_turn {g : gT} {h : mh_T} {P : mh_T → Prop} (l1 : Int32) (hG : GI h) (tz : TZ (tC h)) (hp : ∀ h', Ok [3, 26, 27] h h' → flp l1 (tC h) (h.1 27) (tC h') (h'.1 27) → P h') : MCv g yX8_turn uX8_turn [.ref 3, .int l1] h P :=
  e_X8_turn l1 (v_turn_L l1 tz hp 9 0 0 h (by decide) (Nat.zero_le _) (by unfold sn; have := tz.2.1; omega) (Ok_rf hG) (FP_0 l1 _ _))
/-! DROP: goesAway, remove -/
/-- the sets from S to s have come one up -/
def ga (S s q : Nat) : Nat := if S ≤ q ∧ q < s then q + 1 else q
def GA (S s : Nat) (a0 c0 a c : Nat → Int32) : Prop := a 0 = a0 0 ∧ ∀ q, q < 8 → sE a q a0 (ga S s q) ∧ cE c q c0 (ga S s q)
theorem GA_0 (S : Nat) (a c : Nat → Int32) : GA S S a c a c := ⟨rfl, fun q _ => by unfold ga; rw [if_neg (by omega)]; exact ⟨sE_rf a q, fun _ _ => rfl⟩⟩
theorem GA_s {S s : Nat} {a0 c0 a c a' c' : Nat → Int32} (hs : s < 7) (hS : S ≤ s) (f : GA S s a0 c0 a c) (h0 : a' 0 = a 0) (ho : ∀ q, q < 8 → ¬ q = s → sE a' q a q ∧ cE c' q c q) (hx : sE a' s a (s + 1) ∧ cE c' s c (s + 1)) : GA S (s + 1) a0 c0 a' c' := by
  refine ⟨h0.trans f.1, fun q hq => ?_⟩
  by_cases e : q = s
  · subst e
    have f1 := f.2 (q + 1) (by omega)
    unfold ga at *
    rw [if_neg (by omega)] at f1
    rw [if_pos (by omega)]
    exact ⟨sE_tr hx.1 f1.1, cE_tr hx.2 f1.2⟩
  · have f1 := f.2 q hq
    have : ga S (s + 1) q = ga S s q := by
      unfold ga
      by_cases y : S ≤ q ∧ q < s
      · rw [if_pos y, if_pos (by omega)]
      · rw [if_neg y, if_neg (by omega)]
    rw [this]
    exact ⟨sE_tr (ho q hq e).1 f1.1, cE_tr (ho q hq e).2 f1.2⟩
theorem GA_e {S s : Nat} {a0 c0 a c a' c' : Nat → Int32} (n8 : sn a0 ≤ 8) (hs : sn a0 ≤ s + 1) (f : GA S s a0 c0 a c) (h0 : (a' 0).toInt = (a0 0).toInt - 1) (ho : ∀ q, q + 1 < sn a0 → sE a' q a q ∧ cE c' q c q) : drp S a0 c0 a' c' := by
  refine ⟨h0, fun q hq => ?_⟩
  have f1 := f.2 q (by omega)
  have : ga S s q = dq S q := by
    unfold ga dq
    by_cases y : q < S
    · rw [if_pos y, if_neg (by omega)]
    · rw [if_neg y, if_pos (by omega)]
  rw [this] at f1
  exact ⟨sE_tr (ho q hq).1 f1.1, cE_tr (ho q hq).2 f1.2⟩
/-- set s gets what set s + 1 has, up to outcome k -/
def IG (s k : Nat) (a0 c0 a c : Nat → Int32) : Prop := (∀ j, ¬ j = 1 + s → ¬ j = 9 + s → ¬ (17 + 4 * s ≤ j ∧ j < 17 + 4 * s + 4) → a j = a0 j) ∧ (∀ j, ¬ (4 * s ≤ j ∧ j < 4 * s + 4) → c j = c0 j) ∧ a (1 + s) = a0 (1 + (s + 1)) ∧ a (9 + s) = a0 (9 + (s + 1)) ∧ ∀ i, i < k → a (17 + 4 * s + i) = a0 (17 + 4 * (s + 1) + i) ∧ c (4 * s + i) = c0 (4 * (s + 1) + i)
theorem IG_1 {s k : Nat} {a0 c0 a c a' c' : Nat → Int32} (hs : s < 7) (hk : k < 4) (f : IG s k a0 c0 a c) (ha : ∀ j, a' j = if j = 17 + 4 * s + k then a (17 + 4 * (s + 1) + k) else a j) (hc : ∀ j, c' j = if j = 4 * s + k then c (4 * (s + 1) + k) else c j) : IG s (k + 1) a0 c0 a' c' := by
  obtain ⟨f1, f2, f3, f4, f5⟩ := f
  refine ⟨fun j h1 h2 h3 => ?_, fun j h1 => ?_, ?_, ?_, fun i hi => ?_⟩
  · rw [ha, if_neg (by omega)]; exact f1 j h1 h2 h3
  · rw [hc, if_neg (by omega)]; exact f2 j h1
  · rw [ha, if_neg (by omega)]; exact f3
  · rw [ha, if_neg (by omega)]; exact f4
  · rw [ha, hc]
    by_cases e : i = k
    · rw [if_pos (by omega), if_pos (by omega), e]
      exact ⟨f1 _ (by omega) (by omega) (by omega), f2 _ (by omega)⟩
    · rw [if_neg (by omega), if_neg (by omega)]
      exact f5 i (by omega)
theorem IG_e {s : Nat} {a0 c0 a c : Nat → Int32} (hs : s < 7) (f : IG s 4 a0 c0 a c) : a 0 = a0 0 ∧ (∀ q, q < 8 → ¬ q = s → sE a q a0 q ∧ cE c q c0 q) ∧ sE a s a0 (s + 1) ∧ cE c s c0 (s + 1) := by
  obtain ⟨f1, f2, f3, f4, f5⟩ := f
  refine ⟨f1 0 (by omega) (by omega) (by omega), fun q hq hn => ⟨⟨f1 _ (by omega) (by omega) (by omega), f1 _ (by omega) (by omega) (by omega), fun o ho => f1 _ (by omega) (by omega) (by omega)⟩, fun o ho => f2 _ (by omega)⟩, ⟨f3, f4, fun o ho => (f5 o ho).1⟩, fun o ho => (f5 o ho).2⟩
theorem tq_sE {f g : Nat → Int32} {s q : Nat} (t : tq f 0 q) (h : sE g s f q) : tq g 0 s := by
  have t := tq_g t
  have e0 := h.2.2 0 (by omega)
  rw [Nat.add_zero, Nat.add_zero] at e0
  refine tq_v rfl rfl rfl rfl ?_
  rw [e0, h.2.2 1 (by omega), h.2.2 2 (by omega), h.2.2 3 (by omega)]
  exact t
set_option maxRecDepth 100000 in
set_option maxHeartbeats 4000000 in
theorem v_goesAway_159 {g : gT} {h0 : mh_T} {P : mh_T → Prop} (l1 l2 : Int32) (s : Nat) (es : l2.toInt = (s : Int)) (hs : s < 8) (hp : ∀ h', Ok [45, 47] h0 h' → (∀ j, ¬ (17 + 4 * s ≤ j ∧ j < 17 + 4 * s + 4) → h'.1 45 j = h0.1 45 j) → (∀ j, ¬ (4 * s ≤ j ∧ j < 4 * s + 4) → h'.1 47 j = h0.1 47 j) → (∀ i, i < 4 → h'.1 45 (17 + 4 * s + i) = 0) → P h') : ∀ (n : Nat) (l3 : Int32) (k : Nat) (h : mh_T), l3.toInt = (k : Int) → k ≤ 4 → 4 - k < n → Ok [45, 47] h0 h → (∀ j, ¬ (17 + 4 * s ≤ j ∧ j < 17 + 4 * s + 4) → h.1 45 j = h0.1 45 j) → (∀ j, ¬ (4 * s ≤ j ∧ j < 4 * s + 4) → h.1 47 j = h0.1 47 j) → (∀ i, i < k → h.1 45 (17 + 4 * s + i) = 0) → ME g uX11_goesAway 159 [.ref 11, .int l1, .int l2, .int l3] [] h (qV P) := by
  intro n
  induction n with
  | zero => intro l3 k h _ _ hn; exact absurd hn (Nat.not_lt_zero _)
  | succ n ih =>
    intro l3 k h ek hk hn ok q1 q2 zr
    have z4 : (4 : Int32).toInt = 4 := by decide
    refine r_X11_goesAway_159 l1 l2 l3 ⟨fun c => hp h ok q1 q2 (fun i hi => zr i ?_), fun c => ?_⟩
    · have c := i_le.mp c
      omega
    · have c := i_lt.mp (nle c)
      rw [z4, ek] at c
      have ia := i_17 es hs ek (by omega)
      have ib : ((4 * l2) + l3).toInt = ((4 * s + k : Nat) : Int) := by rw [i_add (i_4s es hs) ek (by omega)]; omega
      refine ⟨i_vp ia (by omega), i_vp ib (by omega), ?_⟩
      rw [i_nat ia, i_nat ib]
      refine ih (l3 + 1) (k + 1) _ (i_inc ek (by omega)) (by omega) (by omega) (Ok_w (Ok_w ok (k := 45) (j := 17 + 4 * s + k) (lo := -2147483648) (hi := 2147483647) (rgg_45_0 (by omega) (by omega)) (R_full _) (by decide) (nt_c (by decide) (fun _ => by omega))) (k := 47) (rgc_47 _) (R_full _) (by decide) (nt_k (by decide))) (fun j hj => ?_) (fun j hj => ?_) (fun i hi => ?_)
      · rw [wI_o (by decide), wI_i, if_neg (by omega)]; exact q1 j hj
      · rw [wI_i, if_neg (by omega), wI_o (by decide)]; exact q2 j hj
      · rw [wI_o (by decide), wI_i]
        by_cases e : i = k
        · rw [if_pos (by omega)]
        · rw [if_neg (by omega)]
          exact zr i (by omega)
set_option maxRecDepth 100000 in
set_option maxHeartbeats 4000000 in
theorem v_goesAway_54 {g : gT} {hs : mh_T} {P : mh_T → Prop} (l1 l2 : Int32) (s : Nat) (es : l2.toInt = (s : Int)) (s7 : s < 7) (nx : ∀ h', Ok [45, 47] hs h' → IG s 4 (hs.1 45) (hs.1 47) (h'.1 45) (h'.1 47) → ME g uX11_goesAway 2 [.ref 11, .int l1, .int (l2 + 1), .retAddr 0] [] h' (qV P)) : ∀ (n : Nat) (l3 : Int32) (k : Nat) (h : mh_T), l3.toInt = (k : Int) → k ≤ 4 → 4 - k < n → Ok [45, 47] hs h → IG s k (hs.1 45) (hs.1 47) (h.1 45) (h.1 47) → ME g uX11_goesAway 54 [.ref 11, .int l1, .int l2, .int l3] [] h (qV P) := by
  intro n
  induction n with
  | zero => intro l3 k h _ _ hn; exact absurd hn (Nat.not_lt_zero _)
  | succ n ih =>
    intro l3 k h ek hk hn ok ig
    have z4 : (4 : Int32).toInt = 4 := by decide
    refine r_X11_goesAway_54 l1 l2 l3 ⟨fun c => ?_, fun c => ?_⟩
    · have c := i_le.mp c
      have : k = 4 := by omega
      subst this
      exact nx h ok ig
    · have c := i_lt.mp (nle c)
      rw [z4, ek] at c
      have e4 := i_4s es (show s < 8 by omega)
      have ia := i_17 es (show s < 8 by omega) ek (by omega)
      have ia4 : (((17 + (4 * l2)) + 4) + l3).toInt = ((17 + 4 * (s + 1) + k : Nat) : Int) := by rw [i_add (i_add (i_add (show (17 : Int32).toInt = 17 from by decide) e4 (by omega)) (show (4 : Int32).toInt = 4 from by decide) (by omega)) ek (by omega)]; omega
      have ib : ((4 * l2) + l3).toInt = ((4 * s + k : Nat) : Int) := by rw [i_add e4 ek (by omega)]; omega
      have ib4 : (((4 * l2) + 4) + l3).toInt = ((4 * (s + 1) + k : Nat) : Int) := by rw [i_add (i_add e4 (show (4 : Int32).toInt = 4 from by decide) (by omega)) ek (by omega)]; omega
      refine ⟨i_vp ia4 (by omega), i_vp ia (by omega), i_vp ib4 (by omega), i_vp ib (by omega), ?_⟩
      rw [i_nat ia, i_nat ia4, i_nat ib, i_nat ib4]
      refine ih (l3 + 1) (k + 1) _ (i_inc ek (by omega)) (by omega) (by omega) (Ok_w (Ok_w ok (k := 45) (j := 17 + 4 * s + k) (lo := -2147483648) (hi := 2147483647) (rgg_45_0 (by omega) (by omega)) (R_full _) (by decide) (nt_c (by decide) (fun _ => by omega))) (k := 47) (rgc_47 _) (R_full _) (by decide) (nt_k (by decide))) (IG_1 s7 (by omega) ig (fun j => ?_) (fun j => ?_))
      · rw [wI_o (by decide), wI_i]
        rfl
      · rw [wI_i, wI_o (by decide)]
        rfl
set_option maxRecDepth 100000 in
set_option maxHeartbeats 4000000 in
theorem v_goesAway {g : gT} {h0 : mh_T} {P : mh_T → Prop} (l1 : Int32) (S : Nat) (eS : l1.toInt = (S : Int)) (hS : S < sn (h0.1 45)) (hG : GI h0) (t : TQ (h0.1 45) 0) (hp : ∀ h', Ok [45, 47] h0 h' → TQ (h'.1 45) 0 → drp S (h0.1 45) (h0.1 47) (h'.1 45) (h'.1 47) → P h') : MCv g yX11_goesAway uX11_goesAway [.ref 11, .int l1] h0 P := by
  have f0 : R 0 8 (mI h0 45 0) := GI_rd hG 45 0 rfl
  have f01 : 0 ≤ (h0.1 45 0).toInt := f0.1
  have f02 : (h0.1 45 0).toInt ≤ 8 := f0.2
  have n8 : sn (h0.1 45) ≤ 8 := by unfold sn; omega
  have en : (h0.1 45 0).toInt = (sn (h0.1 45) : Int) := by unfold sn; omega
  have L : ∀ (n : Nat) (l2 : Int32) (s : Nat) (h : mh_T), l2.toInt = (s : Int) → S ≤ s → s < sn (h0.1 45) → sn (h0.1 45) - s < n → Ok [45, 47] h0 h → TQ (h.1 45) 0 → GA S s (h0.1 45) (h0.1 47) (h.1 45) (h.1 47) → ME g uX11_goesAway 2 [.ref 11, .int l1, .int l2, .retAddr 0] [] h (qV P) := by
    intro n
    induction n with
    | zero => intro l2 s h _ _ _ hn; exact absurd hn (Nat.not_lt_zero _)
    | succ n ih =>
      intro l2 s h es hSs hs hn ok tt ga'
      have e21 := i_inc es (by omega)
      have e0 : mI h 45 (Int32.toNatClampNeg 0) = h0.1 45 0 := ga'.1
      refine r_X11_goesAway_2 l1 l2 ⟨fun c x2 e2 => ?_, fun c => ?_⟩
      · rw [e0] at c
        have c := i_le.mp c
        rw [e21, en] at c
        rw [mI_wI, if_pos ⟨rfl, rfl⟩, e0] at e2
        have ex : x2.toInt = ((sn (h0.1 45) - 1 : Nat) : Int) := by rw [e2, show (h0.1 45 0 - 1).toInt = (h0.1 45 0).toInt - 1 from ti_sub1 f0 (by decide)]; omega
        have q8 : sn (h0.1 45) - 1 < 8 := by omega
        have j1 := i_1s ex q8
        have j9 := i_9 ex q8
        rw [e0, ← e2, i_nat j1, i_nat j9]
        refine ⟨i_vp j1 (by omega), i_vp j9 (by omega), ?_⟩
        have o1 := Ok_w ok (k := 45) (j := Int32.toNatClampNeg 0) (v := x2) (lo := 0) (hi := 8) (by decide) ⟨by omega, by omega⟩ (by decide) (nt_c (by decide) (fun _ => by decide))
        have o2 := Ok_w o1 (k := 45) (j := 1 + (sn (h0.1 45) - 1)) (v := 0) (lo := -1) (hi := 5) (rgp_45_1 (by omega) (by omega)) ⟨by decide, by decide⟩ (by decide) (nt_c (by decide) (fun _ => by omega))
        have o3 := Ok_w o2 (k := 45) (j := 9 + (sn (h0.1 45) - 1)) (v := 0) (lo := -2) (hi := 5) (rgp_45_2 (by omega) (by omega)) ⟨by decide, by decide⟩ (by decide) (nt_c (by decide) (fun _ => by omega))
        have z0 : Int32.toNatClampNeg 0 = 0 := by decide
        refine v_goesAway_159 l1 x2 _ ex q8 (fun h' k' q1 q2 zr => hp h' (Ok_tr o3 k' (by decide)) (TQ_i (fun s' hs' => ?_)) (GA_e n8 (by omega) ga' ?_ (fun q hq => ⟨⟨?_, ?_, fun o ho => ?_⟩, fun o ho => ?_⟩))) 5 0 0 _ (by decide) (Nat.zero_le _) (by omega) (Ok_rf o3.1) (fun _ _ => rfl) (fun _ _ => rfl) (fun i hi => absurd hi (Nat.not_lt_zero _))
        · by_cases e : s' = sn (h0.1 45) - 1
          · have y0 := zr 0 (by omega)
            rw [Nat.add_zero] at y0
            rw [e]
            refine tq_v (a := 0) (b := 0) (c := 0) (d := 0) ?_ ?_ ?_ ?_ (by decide)
            · rw [y0]; exact i_0
            · rw [zr 1 (by omega)]; exact i_0
            · rw [zr 2 (by omega)]; exact i_0
            · rw [zr 3 (by omega)]; exact i_0
          · refine tq_x (tt s' hs') (fun i hi => ?_)
            rw [q1 _ (by omega), wI_i, if_neg (by omega), wI_i, if_neg (by omega), wI_i, if_neg (by rw [z0]; omega)]
        · rw [q1 0 (by omega), wI_i, if_neg (by omega), wI_i, if_neg (by omega), wI_i, if_pos z0.symm, ex]
          omega
        · rw [q1 _ (by omega), wI_i, if_neg (by omega), wI_i, if_neg (by omega), wI_i, if_neg (by rw [z0]; omega)]
        · rw [q1 _ (by omega), wI_i, if_neg (by omega), wI_i, if_neg (by omega), wI_i, if_neg (by rw [z0]; omega)]
        · rw [q1 _ (by omega), wI_i, if_neg (by omega), wI_i, if_neg (by omega), wI_i, if_neg (by rw [z0]; omega)]
        · rw [q2 _ (by omega), wI_o (by decide), wI_o (by decide), wI_o (by decide)]
      · rw [e0] at c
        have c := lt_ti (nle c)
        rw [e21, en] at c
        have s7 : s < 7 := by omega
        have j1 := i_1s es (by omega)
        have j9 := i_9 es (by omega)
        have j11 := i_off j1 1 1 (by decide) (by omega)
        have j91 := i_off j9 1 1 (by decide) (by omega)
        refine ⟨i_vp j11 (by omega), i_vp j1 (by omega), i_vp j91 (by omega), i_vp j9 (by omega), ?_⟩
        rw [i_nat j1, i_nat j9, i_nat j11, i_nat j91]
        have va : R (-1) 5 (mI h 45 (1 + s + 1)) := GI_rd ok.1 45 _ (rgp_45_1 (by omega) (by omega))
        have o1 := Ok_w (Ok_rf (ms := [45, 47]) ok.1) (k := 45) (j := 1 + s) (v := mI h 45 (1 + s + 1)) (lo := -1) (hi := 5) (rgp_45_1 (by omega) (by omega)) va (by decide) (nt_c (by decide) (fun _ => by omega))
        have vb : R (-2) 5 (mI (wI h 45 (1 + s) (mI h 45 (1 + s + 1))) 45 (9 + s + 1)) := GI_rd o1.1 45 _ (rgp_45_2 (by omega) (by omega))
        have o2 := Ok_w o1 (k := 45) (j := 9 + s) (v := mI (wI h 45 (1 + s) (mI h 45 (1 + s + 1))) 45 (9 + s + 1)) (lo := -2) (hi := 5) (rgp_45_2 (by omega) (by omega)) vb (by decide) (nt_c (by decide) (fun _ => by omega))
        refine v_goesAway_54 (hs := h) l1 l2 s es s7 (fun h' k' ig => ?_) 5 0 0 _ (by decide) (Nat.zero_le _) (by omega) o2 ⟨fun j h1 h2 h3 => ?_, fun j h1 => ?_, ?_, ?_, fun i hi => absurd hi (Nat.not_lt_zero _)⟩
        · obtain ⟨i1, i2, i3, i4⟩ := IG_e s7 ig
          refine ih (l2 + 1) (s + 1) h' (i_inc es (by omega)) (by omega) (by omega) (by omega) (Ok_tr ok k' (by decide)) (TQ_i (fun s' hs' => ?_)) (GA_s s7 hSs ga' i1 i2 ⟨i3, i4⟩)
          by_cases e : s' = s
          · rw [e]
            exact tq_sE (tt (s + 1) (by omega)) i3
          · exact tq_sE (tt s' hs') (i2 s' hs' e).1
        · rw [wI_i, if_neg h2, wI_i, if_neg h1]
        · rw [wI_o (by decide), wI_o (by decide)]
        · rw [wI_i, if_neg (by omega), wI_i, if_pos rfl]
          show h.1 45 (1 + s + 1) = h.1 45 (1 + (s + 1))
          rw [Nat.add_assoc]
        · rw [wI_i, if_pos rfl]
          show (wI h 45 (1 + s) _).1 45 (9 + s + 1) = _
          rw [wI_i, if_neg (by omega), Nat.add_assoc]
  exact e_X11_goesAway l1 (L 9 l1 S h0 eS (Nat.le_refl _) hS (by omega) (Ok_rf hG) t (GA_0 S _ _))
/-! DROP of the class: remove -/
set_option maxRecDepth 100000 in
set_option maxHeartbeats 4000000 in
theorem v_remove_42 {g : gT} {hs : mh_T} {P : mh_T → Prop} (l1 l2 : Int32) (s : Nat) (es : l2.toInt = (s : Int)) (s7 : s < 7) (nx : ∀ h', Ok [3, 24, 25, 26, 27] hs h' → IG s 4 (tC hs) (hs.1 27) (tC h') (h'.1 27) → ME g uX8_remove 2 [.ref 3, .int l1, .int (l2 + 1), .retAddr 0] [] h' (qV P)) : ∀ (n : Nat) (l3 : Int32) (k : Nat) (h : mh_T), l3.toInt = (k : Int) → k ≤ 4 → 4 - k < n → Ok [3, 24, 25, 26, 27] hs h → IG s k (tC hs) (hs.1 27) (tC h) (h.1 27) → ME g uX8_remove 42 [.ref 3, .int l1, .int l2, .int l3] [] h (qV P) := by
  intro n
  induction n with
  | zero => intro l3 k h _ _ hn; exact absurd hn (Nat.not_lt_zero _)
  | succ n ih =>
    intro l3 k h ek hk hn ok ig
    have z4 : (4 : Int32).toInt = 4 := by decide
    refine r_X8_remove_42 l1 l2 l3 ⟨fun c => ?_, fun c => ?_⟩
    · have c := i_le.mp c
      have : k = 4 := by omega
      subst this
      exact nx h ok ig
    · have c := i_lt.mp (nle c)
      rw [z4, ek] at c
      have e4 := i_4s es (show s < 8 by omega)
      have ib : ((4 * l2) + l3).toInt = ((4 * s + k : Nat) : Int) := by rw [i_add e4 ek (by omega)]; omega
      have ib4 : (((4 * l2) + 4) + l3).toInt = ((4 * (s + 1) + k : Nat) : Int) := by rw [i_add (i_add e4 (show (4 : Int32).toInt = 4 from by decide) (by omega)) ek (by omega)]; omega
      refine ⟨i_vp ib4 (by omega), i_vp ib (by omega), i_vp ib4 (by omega), i_vp ib (by omega), ?_⟩
      rw [i_nat ib, i_nat ib4]
      refine ih (l3 + 1) (k + 1) _ (i_inc ek (by omega)) (by omega) (by omega) (Ok_w (Ok_w ok (k := 26) (rgc_26 _) (R_full _) (by decide) (nt_k (by decide))) (k := 27) (rgc_27 _) (R_full _) (by decide) (nt_k (by decide))) (IG_1 s7 (by omega) ig (fun j => ?_) (fun j => ?_))
      · rw [tC_wo _ _ _ _ ⟨fun z => absurd z.1 (by decide), by decide, by decide, by decide⟩, tC_w26, show 17 + 4 * (s + 1) + k = 17 + (4 * (s + 1) + k) by omega, tC_17, show 17 + 4 * s + k = 17 + (4 * s + k) by omega]
      · rw [wI_i, wI_o (by decide)]
        rfl
theorem rg_24 {j : Nat} (hj : j < 8) : rgT 24 j = rgT 24 0 := by
  have : ∀ j, j < 8 → rgT 24 j = rgT 24 0 := by decide
  exact this j hj
theorem rg_25 {j : Nat} (hj : j < 8) : rgT 25 j = rgT 25 0 := by
  have : ∀ j, j < 8 → rgT 25 j = rgT 25 0 := by decide
  exact this j hj
set_option maxRecDepth 100000 in
set_option maxHeartbeats 4000000 in
theorem v_remove {g : gT} {h0 : mh_T} {P : mh_T → Prop} (l1 : Int32) (S : Nat) (eS : l1.toInt = (S : Int)) (hS : S < sn (tC h0)) (hG : GI h0) (hp : ∀ h', Ok [3, 24, 25, 26, 27] h0 h' → drp S (tC h0) (h0.1 27) (tC h') (h'.1 27) → P h') : MCv g yX8_remove uX8_remove [.ref 3, .int l1] h0 P := by
  have f0 : R 0 8 (mI h0 3 2) := GI_rd hG 3 2 rfl
  have f01 : 0 ≤ (tC h0 0).toInt := f0.1
  have f02 : (tC h0 0).toInt ≤ 8 := f0.2
  have n8 : sn (tC h0) ≤ 8 := by unfold sn; omega
  have en : (tC h0 0).toInt = (sn (tC h0) : Int) := by unfold sn; omega
  have L : ∀ (n : Nat) (l2 : Int32) (s : Nat) (h : mh_T), l2.toInt = (s : Int) → S ≤ s → s < sn (tC h0) → sn (tC h0) - s < n → Ok [3, 24, 25, 26, 27] h0 h → GA S s (tC h0) (h0.1 27) (tC h) (h.1 27) → ME g uX8_remove 2 [.ref 3, .int l1, .int l2, .retAddr 0] [] h (qV P) := by
    intro n
    induction n with
    | zero => intro l2 s h _ _ _ hn; exact absurd hn (Nat.not_lt_zero _)
    | succ n ih =>
      intro l2 s h es hSs hs hn ok ga'
      have e0 : mI h 3 2 = tC h0 0 := ga'.1
      have ec : (tC h0 0 - 1).toInt = (sn (tC h0) : Int) - 1 := by rw [ti_sub1 (x := tC h0 0) ⟨f01, f02⟩ (by decide)]; omega
      refine r_X8_remove_2 l1 l2 ?_
      rw [show mI h 3 2 = tC h0 0 from e0]
      refine ⟨fun c => ?_, fun c => ?_⟩
      · have c := i_le.mp c
        rw [ec, es] at c
        have o1 := Ok_w ok (k := 3) (j := 2) (v := tC h0 0 - 1) (lo := 0) (hi := 8) rfl ⟨by omega, by omega⟩ (by decide) (by decide)
        refine hp _ (Ok_w o1 (k := 3) (j := 3) (lo := -2147483648) (hi := 2147483647) rfl (R_full _) (by decide) (by decide)) ?_
        rw [tC_wo _ _ _ _ (by decide), wI_o (by decide), wI_o (by decide)]
        refine GA_e n8 (by omega) ga' ?_ (fun q hq => ⟨⟨?_, ?_, fun o ho => ?_⟩, fun _ _ => rfl⟩)
        · rw [tC_w32, if_pos rfl, ec]; omega
        · rw [tC_w32, if_neg (by omega)]
        · rw [tC_w32, if_neg (by omega)]
        · rw [tC_w32, if_neg (by omega)]
      · have c := lt_ti (nle c)
        rw [ec, es] at c
        have s7 : s < 7 := by omega
        have j1 := i_inc es (by omega)
        have j1 : (l2 + 1).toInt = ((s + 1 : Nat) : Int) := j1
        refine ⟨i_vp j1 (by omega), i_vp es (by omega), i_vp j1 (by omega), i_vp es (by omega), ?_⟩
        rw [i_nat es, i_nat j1]
        have va : R (rgT 24 0).1 (rgT 24 0).2 (mI h 24 (s + 1)) := GI_rd ok.1 24 _ (rg_24 (by omega))
        have o1 := Ok_w (Ok_rf (ms := [3, 24, 25, 26, 27]) ok.1) (k := 24) (j := s) (v := mI h 24 (s + 1)) (rg_24 (by omega)) va (by decide) (nt_k (by decide))
        have vb : R (rgT 25 0).1 (rgT 25 0).2 (mI (wI h 24 s (mI h 24 (s + 1))) 25 (s + 1)) := GI_rd o1.1 25 _ (rg_25 (by omega))
        have o2 := Ok_w o1 (k := 25) (j := s) (v := mI (wI h 24 s (mI h 24 (s + 1))) 25 (s + 1)) (rg_25 (by omega)) vb (by decide) (nt_k (by decide))
        refine v_remove_42 (hs := h) l1 l2 s es s7 (fun h' k' ig => ?_) 5 0 0 _ (by decide) (Nat.zero_le _) (by omega) o2 ⟨fun j h1 h2 h3 => ?_, fun j h1 => ?_, ?_, ?_, fun i hi => absurd hi (Nat.not_lt_zero _)⟩
        · obtain ⟨i1, i2, i3, i4⟩ := IG_e s7 ig
          exact ih (l2 + 1) (s + 1) h' j1 (by omega) (by omega) (by omega) (Ok_tr ok k' (by decide)) (GA_s s7 hSs ga' i1 i2 ⟨i3, i4⟩)
        · rw [tC_w25 _ _ _ _ (by omega), if_neg h2, tC_w24 _ _ _ _ (by omega), if_neg h1]
        · rw [wI_o (by decide), wI_o (by decide)]
        · rw [tC_w25 _ _ _ _ (by omega), if_neg (by omega), tC_w24 _ _ _ _ (by omega), if_pos rfl, tC_1 h (by omega)]
        · rw [tC_w25 _ _ _ _ (by omega), if_pos rfl, tC_9 h (by omega)]
          show mI (wI h 24 s _) 25 (s + 1) = _
          rw [mI_wI, if_neg (fun z => absurd z.1 (by decide))]
  exact e_X8_remove l1 (L 9 l1 S h0 eS (Nat.le_refl _) hS (by omega) (Ok_rf hG) (GA_0 S _ _))
/-! DROP and FORGET of the reference -/
theorem v_X11_drop {g : gT} {h : mh_T} {P : Int32 → mh_T → Prop} (l1 : Int32) (u : Nat) (eu : (mI h 11 24).toInt = (u : Int)) (hG : GI h) (hI : TVs h) (hB : NB h) (h0 : ¬ SEb (h.1 45) l1 → ∀ h', Ok [300, 11] h h' → P 0 h') (hp : SEb (h.1 45) l1 → ∀ h', Ok msR h h' → TVs h' → drp l1.toInt.toNat (h.1 45) (h.1 47) (h'.1 45) (h'.1 47) → HD u (ac5 1 l1 (-2) (-2) (-2)) h h' → P 1 h') : MCi g yX11_drop uX11_drop [.ref 11, .int l1] h P := by
  refine e_X11_drop l1 (v_good hG (fun h1 k1 => ?_))
  have e45 : h1.1 45 = h.1 45 := OkC k1 (by decide)
  refine v_isSet l1 k1.1 (NB_ok k1 (by decide) hB) (fun q => ⟨fun _ => ?_, fun z => absurd z (by decide)⟩) (fun q => ⟨fun z => absurd rfl z, fun _ => v_isNot 1 (by decide) k1 (h0 (fun y => q (by rw [e45]; exact y)))⟩)
  rw [e45] at q
  refine v_was k1.1 (TVs_ok hI k1 (by decide)) (fun h2 k2 t2 e48 => ?_)
  have e45' : h2.1 45 = h.1 45 := by rw [OkC k2 (k := 45) (by decide), e45]
  have e47' : h2.1 47 = h.1 47 := by rw [OkC k2 (k := 47) (by decide), OkC k1 (k := 47) (by decide)]
  refine v_goesAway l1 l1.toInt.toNat (by have := q.1; omega) (by rw [e45']; unfold sn; have := q.2; have := q.1; omega) k2.1 t2.1 (fun h3 k3 t3 fl => v_done 1 l1 (-2) (-2) (-2) u eu k1 k2 e48 k3 (TVs_4547 t2 k3 t3) (fun h' k' t' e5 e7 hd => hp q h' k' t' (by rw [e5, e7]; rw [e45', e47'] at fl; exact fl) hd))
theorem TZ_st {L : Int32} {S : Nat} {a c a' c' : Nat → Int32} (tz : TZ a) (hS : S < sn a) (x : stp L S a c a' c') : TZ a' := (Rc_st (a := a) (c := c) (b := a) (d := c) ⟨Rq_rf tz, fun _ _ _ _ => rfl⟩ hS x x).1.2.1
set_option maxRecDepth 100000 in
set_option maxHeartbeats 4000000 in
theorem v_forget_360 {g : gT} {hs : mh_T} {P : Int32 → mh_T → Prop} (l1 l2 l3 l4 l5 l6 l7 : Int32) (s : Nat) (es : l3.toInt = (s : Int)) (s8 : s < 8) (nx : ∀ h', Ok [45, 47] hs h' → h'.1 45 = hs.1 45 → (∀ j, ¬ (4 * s ≤ j ∧ j < 4 * s + 4) → h'.1 47 j = hs.1 47 j) → (∀ o, o < 4 → h'.1 47 (4 * s + o) = 0) → ME g uX11_forget 107 [.ref 11, .int l1, .int l2, .int (l3 + (-1)), .retAddr 0, .retAddr 0, .retAddr 0, .retAddr 0, .retAddr 0] [] h' (qI P)) : ∀ (n : Nat) (l8 : Int32) (k : Nat) (h : mh_T), l8.toInt = (k : Int) → k ≤ 4 → 4 - k < n → Ok [45, 47] hs h → h.1 45 = hs.1 45 → (∀ j, ¬ (4 * s ≤ j ∧ j < 4 * s + 4) → h.1 47 j = hs.1 47 j) → (∀ o, o < k → h.1 47 (4 * s + o) = 0) → ME g uX11_forget 360 [.ref 11, .int l1, .int l2, .int l3, .int l4, .int l5, .int l6, .int l7, .int l8] [] h (qI P) := by
  intro n
  induction n with
  | zero => intro l8 k h _ _ hn; exact absurd hn (Nat.not_lt_zero _)
  | succ n ih =>
    intro l8 k h ek hk hn ok q1 q2 q3
    have z4 : (4 : Int32).toInt = 4 := by decide
    refine r_X11_forget_360 l1 l2 l3 l4 l5 l6 l7 l8 ⟨fun c => nx h ok q1 q2 (fun o ho => q3 o ?_), fun c => ?_⟩
    · have c := i_le.mp c
      omega
    · have c := i_lt.mp (nle c)
      rw [z4, ek] at c
      have ib : ((4 * l3) + l8).toInt = ((4 * s + k : Nat) : Int) := by rw [i_add (i_4s es s8) ek (by omega)]; omega
      refine ⟨i_vp ib (by omega), ?_⟩
      rw [i_nat ib]
      refine ih (l8 + 1) (k + 1) _ (i_inc ek (by omega)) (by omega) (by omega) (Ok_w ok (k := 47) (rgc_47 _) (R_full _) (by decide) (nt_k (by decide))) ?_ (fun j hj => ?_) (fun o ho => ?_)
      · rw [wI_o (by decide)]; exact q1
      · rw [wI_i, if_neg (by omega)]; exact q2 j hj
      · rw [wI_i]
        by_cases e : o = k
        · rw [if_pos (by omega)]
        · rw [if_neg (by omega)]; exact q3 o (by omega)
/-- two numbers for four -/
theorem fg_TQ {h : mh_T} {s : Nat} {u w x y : Int32} (t : TQ (h.1 45) 0) (hs : s < 8) (hx : 0 ≤ x.toInt) (hy : 0 ≤ y.toInt) (hxy : x.toInt + y.toInt ≤ 240) : TQ ((wI (wI (wI (wI (wI (wI h 45 (1 + s) u) 45 (9 + s) w) 45 (17 + 4 * s) x) 45 (17 + 4 * s + 1) y) 45 (17 + 4 * s + 2) 0) 45 (17 + 4 * s + 3) 0).1 45) 0 := by
  refine TQ_i (fun s' hs' => ?_)
  by_cases e : s' = s
  · subst e
    refine tq_v (a := x.toInt) (b := y.toInt) (c := 0) (d := 0) ?_ ?_ ?_ ?_ (by omega)
    · rw [wI_i, if_neg (by omega), wI_i, if_neg (by omega), wI_i, if_neg (by omega), wI_i, if_pos rfl]
    · rw [wI_i, if_neg (by omega), wI_i, if_neg (by omega), wI_i, if_pos rfl]
    · rw [wI_i, if_neg (by omega), wI_i, if_pos rfl]; exact i_0
    · rw [wI_i, if_pos rfl]; exact i_0
  · exact tq_w (tq_w (tq_w (tq_w (tq_w (tq_w (t s' hs') (by omega)) (by omega)) (by omega)) (by omega)) (by omega)) (by omega)
theorem fg_Ok2 {h0 h : mh_T} {s : Nat} {u w x y : Int32} (ok : Ok [45, 47] h0 h) (hs : s < 8) (fu : R (-1) 5 u) (fw : R (-2) 5 w) : Ok [45, 47] h0 (wI (wI (wI (wI (wI (wI h 45 (1 + s) u) 45 (9 + s) w) 45 (17 + 4 * s) x) 45 (17 + 4 * s + 1) y) 45 (17 + 4 * s + 2) 0) 45 (17 + 4 * s + 3) 0) := by
  have o1 := Ok_w ok (k := 45) (j := 1 + s) (v := u) (lo := -1) (hi := 5) (rgp_45_1 (by omega) (by omega)) fu (by decide) (nt_c (by decide) (fun _ => by omega))
  have o2 := Ok_w o1 (k := 45) (j := 9 + s) (v := w) (lo := -2) (hi := 5) (rgp_45_2 (by omega) (by omega)) fw (by decide) (nt_c (by decide) (fun _ => by omega))
  have o3 := Ok_w o2 (k := 45) (j := 17 + 4 * s) (v := x) (lo := -2147483648) (hi := 2147483647) (rgg_45_0 (by omega) (by omega)) (R_full _) (by decide) (nt_c (by decide) (fun _ => by omega))
  have o4 := Ok_w o3 (k := 45) (j := 17 + 4 * s + 1) (v := y) (lo := -2147483648) (hi := 2147483647) (rgg_45_0 (by omega) (by omega)) (R_full _) (by decide) (nt_c (by decide) (fun _ => by omega))
  have o5 := Ok_w o4 (k := 45) (j := 17 + 4 * s + 2) (v := 0) (lo := -2147483648) (hi := 2147483647) (rgg_45_0 (by omega) (by omega)) (R_full _) (by decide) (nt_c (by decide) (fun _ => by omega))
  exact Ok_w o5 (k := 45) (j := 17 + 4 * s + 3) (v := 0) (lo := -2147483648) (hi := 2147483647) (rgg_45_0 (by omega) (by omega)) (R_full _) (by decide) (nt_c (by decide) (fun _ => by omega))
/-- what stands where after that -/
theorem fg_v {h : mh_T} {s : Nat} {u w x y : Int32} (hs : s < 8) : ∀ j, (wI (wI (wI (wI (wI (wI h 45 (1 + s) u) 45 (9 + s) w) 45 (17 + 4 * s) x) 45 (17 + 4 * s + 1) y) 45 (17 + 4 * s + 2) 0) 45 (17 + 4 * s + 3) 0).1 45 j = if j = 17 + 4 * s + 3 then 0 else if j = 17 + 4 * s + 2 then 0 else if j = 17 + 4 * s + 1 then y else if j = 17 + 4 * s then x else if j = 9 + s then w else if j = 1 + s then u else h.1 45 j := fun j => by rw [wI_i, wI_i, wI_i, wI_i, wI_i, wI_i]
set_option maxRecDepth 100000 in
set_option maxHeartbeats 8000000 in
theorem v_forget_L {g : gT} {h0 : mh_T} {P : Int32 → mh_T → Prop} (l1 l2 : Int32) (hl1 : 0 ≤ l1.toInt) : ∀ (n : Nat) (l3 : Int32) (h : mh_T), l3.toInt + 1 = (n : Int) → Ok [45, 47] h0 h → TQ (h.1 45) 0 → TZ (h.1 45) → n ≤ sn (h.1 45) → (∀ h', Ok [45, 47] h0 h' → TQ (h'.1 45) 0 → fgt l1 n (h.1 45) (h.1 47) (h'.1 45) (h'.1 47) → MCi g yX11_did uX11_did [.ref 11, .int 2, .int l1, .int (-2), .int (-2), .int (-2)] h' (fun r3 h2 => (r3 = 0 ∨ r3 = 1) ∧ P r3 h2)) → ME g uX11_forget 107 [.ref 11, .int l1, .int l2, .int l3, .retAddr 0, .retAddr 0, .retAddr 0, .retAddr 0, .retAddr 0] [] h (qI P) := by
  intro n
  induction n with
  | zero =>
    intro l3 h e3 ok t tz hn hp
    refine r_X11_forget_107 l1 l2 l3 ⟨fun _ => hp h ok t ⟨rfl, fun s _ => ⟨sE_rf _ s, fun _ _ => rfl⟩⟩, fun c => absurd (i_lt.mpr (by rw [i_0]; omega)) c⟩
  | succ s ih =>
    intro l3 h e3 ok t tz hn hp
    have n8 : sn (h.1 45) ≤ 8 := by unfold sn; have := tz.2.1; omega
    have s8 : s < 8 := by omega
    have es : l3.toInt = (s : Int) := by omega
    have dec : (l3 + (-1)).toInt + 1 = (s : Int) := by
      have f3 : R 0 7 l3 := ⟨by omega, by omega⟩
      have := ti_dec f3 (by decide)
      omega
    have j1 := i_1s es s8
    have j9 := i_9 es s8
    have v1 : vp_in (1 + l3) 346 := i_vp j1 (by omega)
    have v9 : vp_in (9 + l3) 346 := i_vp j9 (by omega)
    have nx : ∀ h', Ok [45, 47] h0 h' → TQ (h'.1 45) 0 → stp l1 s (h.1 45) (h.1 47) (h'.1 45) (h'.1 47) → ME g uX11_forget 107 [.ref 11, .int l1, .int l2, .int (l3 + (-1)), .retAddr 0, .retAddr 0, .retAddr 0, .retAddr 0, .retAddr 0] [] h' (qI P) := fun h' k' t' st => ih (l3 + (-1)) h' dec k' t' (TZ_st tz (by omega) st) (stp_n (by omega) st) (fun h2 k2 t2 fg => hp h2 k2 t2 ⟨_, _, st, fg⟩)
    have tg := tq_g (t s s8)
    have r1 : R (-1) 5 (mI h 45 (1 + s)) := GI_rd ok.1 45 _ (rgp_45_1 (by omega) (by omega))
    have r9 : R (-2) 5 (mI h 45 (9 + s)) := GI_rd ok.1 45 _ (rgp_45_2 (by omega) (by omega))
    have fn2 : R (-2) 5 (-2) := ⟨by decide, by decide⟩
    have n2 : (-2 : Int32).toInt = -2 := by decide
    have away : h.1 45 (9 + s) = -2 → h.1 45 (1 + s) = l1 → MCv g yX11_goesAway uX11_goesAway [.ref 11, .int l3] h (fun h28 => ME g uX11_forget 107 [.ref 11, .int l1, .int l2, .int (l3 + (-1)), .retAddr 0, .retAddr 0, .retAddr 0, .retAddr 0, .retAddr 0] [] h28 (qI P)) := fun z y =>
      v_goesAway l3 s es (by omega) ok.1 t (fun h2 k2 t2 d => nx h2 (Ok_tr ok k2 (by decide)) t2 (Or.inl ⟨by rw [z, n2]; decide, y, d⟩))
    have e17 : ∀ x : Int32, x = 17 + (4 * l3) → x.toInt = ((17 + 4 * s : Nat) : Int) := fun x ex => by rw [ex, i_add (show (17 : Int32).toInt = 17 from by decide) (i_4s es s8) (by omega)]; omega
    have mrg : ∀ (u x y l4 l5 l6 l7 : Int32), R (-1) 5 u → 0 ≤ x.toInt → 0 ≤ y.toInt → x.toInt + y.toInt ≤ 240 → ¬ (h.1 45 (9 + s)).toInt < 0 → (h.1 45 (1 + s) = l1 ∨ h.1 45 (9 + s) = l1) → ((h.1 45 (1 + s) = l1 ∧ u = h.1 45 (9 + s) ∧ x = h.1 45 (17 + 4 * s) + h.1 45 (17 + 4 * s + 2) ∧ y = h.1 45 (17 + 4 * s + 1) + h.1 45 (17 + 4 * s + 3)) ∨ (¬ h.1 45 (1 + s) = l1 ∧ u = h.1 45 (1 + s) ∧ x = h.1 45 (17 + 4 * s) + h.1 45 (17 + 4 * s + 1) ∧ y = h.1 45 (17 + 4 * s + 2) + h.1 45 (17 + 4 * s + 3))) → ME g uX11_forget 360 [.ref 11, .int l1, .int l2, .int l3, .int l4, .int l5, .int l6, .int l7, .int 0] [] (wI (wI (wI (wI (wI (wI h 45 (1 + s) u) 45 (9 + s) (-2)) 45 (17 + 4 * s) x) 45 (17 + 4 * s + 1) y) 45 (17 + 4 * s + 2) 0) 45 (17 + 4 * s + 3) 0) (qI P) := by
      intro u x y l4 l5 l6 l7 fu hx hy hxy nn oo val
      have okx := fg_Ok2 (x := x) (y := y) ok s8 fu fn2
      have tx := fg_TQ (u := u) (w := -2) t s8 hx hy hxy
      have vv := fg_v (h := h) (u := u) (w := -2) (x := x) (y := y) s8
      have c47 : (wI (wI (wI (wI (wI (wI h 45 (1 + s) u) 45 (9 + s) (-2)) 45 (17 + 4 * s) x) 45 (17 + 4 * s + 1) y) 45 (17 + 4 * s + 2) 0) 45 (17 + 4 * s + 3) 0).1 47 = h.1 47 := by rw [wI_o (by decide), wI_o (by decide), wI_o (by decide), wI_o (by decide), wI_o (by decide), wI_o (by decide)]
      generalize wI (wI (wI (wI (wI (wI h 45 (1 + s) u) 45 (9 + s) (-2)) 45 (17 + 4 * s) x) 45 (17 + 4 * s + 1) y) 45 (17 + 4 * s + 2) 0) 45 (17 + 4 * s + 3) 0 = hm at okx tx vv c47
      refine v_forget_360 (hs := hm) l1 l2 l3 l4 l5 l6 l7 s es s8 (fun h' k' q1 q2 q3 => nx h' (Ok_tr okx k' (by decide)) (by rw [q1]; exact tx) (Or.inr (Or.inl ⟨nn, oo, ?_, fun q hq hne => ⟨⟨?_, ?_, fun o ho => ?_⟩, fun o ho => ?_⟩, ?_, ?_, ?_, ?_, q3⟩))) 5 0 0 hm (by decide) (Nat.zero_le _) (by omega) (Ok_rf okx.1) rfl (fun _ _ => rfl) (fun o ho => absurd ho (Nat.not_lt_zero _))
      · rw [q1, vv, if_neg (by omega), if_neg (by omega), if_neg (by omega), if_neg (by omega), if_neg (by omega), if_neg (by omega)]
      · rw [q1, vv, if_neg (by omega), if_neg (by omega), if_neg (by omega), if_neg (by omega), if_neg (by omega), if_neg (by omega)]
      · rw [q1, vv, if_neg (by omega), if_neg (by omega), if_neg (by omega), if_neg (by omega), if_neg (by omega), if_neg (by omega)]
      · rw [q1, vv, if_neg (by omega), if_neg (by omega), if_neg (by omega), if_neg (by omega), if_neg (by omega), if_neg (by omega)]
      · rw [q2 _ (by omega), c47]
      · rw [q1, vv, if_neg (by omega), if_neg (by omega), if_neg (by omega), if_neg (by omega), if_pos rfl]
      · have w1 : h'.1 45 (1 + s) = u := by rw [q1, vv, if_neg (by omega), if_neg (by omega), if_neg (by omega), if_neg (by omega), if_neg (by omega), if_pos rfl]
        have w2 : h'.1 45 (17 + 4 * s) = x := by rw [q1, vv, if_neg (by omega), if_neg (by omega), if_neg (by omega), if_pos rfl]
        have w3 : h'.1 45 (17 + 4 * s + 1) = y := by rw [q1, vv, if_neg (by omega), if_neg (by omega), if_pos rfl]
        rw [w1, w2, w3]
        exact val
      · rw [q1, vv, if_neg (by omega), if_pos rfl]
      · rw [q1, vv, if_pos rfl]
    refine r_X11_forget_107 l1 l2 l3 ⟨fun c => absurd (i_lt.mp c) (by rw [i_0]; omega), fun c => ?_⟩
    rw [i_nat j1, i_nat j9]
    have nn : ¬ mI h 45 (9 + s) = -2 → ¬ (h.1 45 (9 + s)).toInt < 0 := fun z => by
      rcases (tz.2.2 s (by omega)).1 with w | w
      · exact absurd w.1 z
      · omega
    have ad : ∀ p q : Nat, (0 ≤ (h.1 45 p).toInt ∧ 0 ≤ (h.1 45 q).toInt ∧ (h.1 45 p).toInt + (h.1 45 q).toInt ≤ 240) → (h.1 45 p + h.1 45 q).toInt = (h.1 45 p).toInt + (h.1 45 q).toInt := fun p q w => i_add rfl rfl (by omega)
    refine ⟨v1, fun y1 => ⟨v9, fun y2 => ⟨v9, fun y3 x11 e11 => ?_, fun y3 => ?_⟩, fun y2 => nx h ok t (Or.inr (Or.inr ⟨y1, Or.inr y2, rfl, fun q _ => ⟨sE_rf _ q, fun _ _ => rfl⟩⟩))⟩, fun y1 => ⟨v9, fun y3 x32 e32 => ?_, fun y3 => away y3 y1⟩⟩
    · have k0 := e17 x11 e11
      have k1 := i_off k0 1 1 (by decide) (by omega)
      have k2 := i_off k0 2 2 (by decide) (by omega)
      have k3 := i_off k0 3 3 (by decide) (by omega)
      refine ⟨i_vp k0 (by omega), i_vp k1 (by omega), fun x15 e15 => ⟨i_vp k2 (by omega), i_vp k3 (by omega), fun x19 e19 => ⟨v1, v1, v9, i_vp k0 (by omega), i_vp k1 (by omega), i_vp k2 (by omega), i_vp k3 (by omega), ?_⟩⟩⟩
      rw [i_nat k0, i_nat k1] at e15
      rw [i_nat k2, i_nat k3] at e19
      rw [i_nat k0, i_nat k1, i_nat k2, i_nat k3]
      have w1 : x15.toInt = (h.1 45 (17 + 4 * s)).toInt + (h.1 45 (17 + 4 * s + 1)).toInt := by rw [e15]; exact ad _ _ (by omega)
      have w2 : x19.toInt = (h.1 45 (17 + 4 * s + 2)).toInt + (h.1 45 (17 + 4 * s + 3)).toInt := by rw [e19]; exact ad _ _ (by omega)
      exact mrg _ x15 x19 _ _ _ _ r1 (by omega) (by omega) (by omega) (nn y3) (Or.inr y2) (Or.inr ⟨y1, rfl, e15, e19⟩)
    · have y2 : h.1 45 (9 + s) = l1 := y2
      have y3 : h.1 45 (9 + s) = -2 := y3
      rw [← y2, y3, n2] at hl1
      omega
    · have k0 := e17 x32 e32
      have k1 := i_off k0 1 1 (by decide) (by omega)
      have k2 := i_off k0 2 2 (by decide) (by omega)
      have k3 := i_off k0 3 3 (by decide) (by omega)
      refine ⟨i_vp k0 (by omega), i_vp k2 (by omega), fun x36 e36 => ⟨i_vp k1 (by omega), i_vp k3 (by omega), fun x40 e40 => ⟨v9, v1, v9, i_vp k0 (by omega), i_vp k1 (by omega), i_vp k2 (by omega), i_vp k3 (by omega), ?_⟩⟩⟩
      rw [i_nat k0, i_nat k2] at e36
      rw [i_nat k1, i_nat k3] at e40
      rw [i_nat k0, i_nat k1, i_nat k2, i_nat k3]
      have w1 : x36.toInt = (h.1 45 (17 + 4 * s)).toInt + (h.1 45 (17 + 4 * s + 2)).toInt := by rw [e36]; exact ad _ _ (by omega)
      have w2 : x40.toInt = (h.1 45 (17 + 4 * s + 1)).toInt + (h.1 45 (17 + 4 * s + 3)).toInt := by rw [e40]; exact ad _ _ (by omega)
      exact mrg _ x36 x40 _ _ _ _ (rf_ne_lo r9 y3 (by decide) (-1) (by decide)) (by omega) (by omega) (by omega) (nn y3) (Or.inl y1) (Or.inl ⟨y1, rfl, e36, e40⟩)
/-- a look is looked at -/
def LA (a : Nat → Int32) (l : Int32) : Prop := ∃ s, s < sn a ∧ (a (1 + s) = l ∨ a (9 + s) = l)
set_option maxRecDepth 100000 in
set_option maxHeartbeats 4000000 in
theorem v_forget_22 {g : gT} {h : mh_T} {P : Int32 → mh_T → Prop} (l1 : Int32) (hG : GI h) (h0 : ¬ LA (h.1 45) l1 → MCi g yX11_isNot uX11_isNot [.ref 11, .int 5] h (fun r6 h5 => (r6 = 0 ∨ r6 = 1) ∧ P r6 h5)) (h1 : LA (h.1 45) l1 → ∀ l2 : Int32, MCv g yX11_copy uX11_copy [.ref 45, .int 0, .ref 48, .int 0, .int 49] h (fun h3 => ∀ x4 : Int32, x4 = ((mI h3 45 (Int32.toNatClampNeg 0)) - 1) → ME g uX11_forget 107 [.ref 11, .int l1, .int l2, .int x4, .retAddr 0, .retAddr 0, .retAddr 0, .retAddr 0, .retAddr 0] [] h3 (qI P))) : ∀ (n : Nat) (l2 l3 : Int32) (s : Nat), l3.toInt = (s : Int) → s ≤ sn (h.1 45) → sn (h.1 45) - s < n → (l2 = 0 → ∀ q, q < s → ¬ (h.1 45 (1 + q) = l1 ∨ h.1 45 (9 + q) = l1)) → (¬ l2 = 0 → LA (h.1 45) l1) → ME g uX11_forget 22 [.ref 11, .int l1, .int l2, .int l3, .retAddr 0, .retAddr 0, .retAddr 0, .retAddr 0, .retAddr 0] [] h (qI P) := by
  intro n
  have f0 : R 0 8 (mI h 45 0) := GI_rd hG 45 0 rfl
  have f01 : 0 ≤ (h.1 45 0).toInt := f0.1
  have f02 : (h.1 45 0).toInt ≤ 8 := f0.2
  have en : (mI h 45 (Int32.toNatClampNeg 0)).toInt = (sn (h.1 45) : Int) := by show (h.1 45 0).toInt = _; unfold sn; omega
  have n8 : sn (h.1 45) ≤ 8 := by unfold sn; omega
  induction n with
  | zero => intro l2 l3 s _ _ hn; exact absurd hn (Nat.not_lt_zero _)
  | succ n ih =>
    intro l2 l3 s es hs hn hz ho
    refine r_X11_forget_22 l1 l2 l3 ⟨fun c => ⟨fun z => h1 (ho z) l2, fun z => h0 (fun y => ?_)⟩, fun c => ?_⟩
    · have c := i_le.mp c
      obtain ⟨q, q1, q2⟩ := y
      exact hz z q (by omega) q2
    · have c := i_lt.mp (nle c)
      rw [en, es] at c
      have s8 : s < 8 := by omega
      have j1 := i_1s es s8
      have j9 := i_9 es s8
      rw [i_nat j1, i_nat j9]
      have nx : ∀ l2 : Int32, (l2 = 0 → ∀ q, q < s + 1 → ¬ (h.1 45 (1 + q) = l1 ∨ h.1 45 (9 + q) = l1)) → (¬ l2 = 0 → LA (h.1 45) l1) → ME g uX11_forget 22 [.ref 11, .int l1, .int l2, .int (l3 + 1), .retAddr 0, .retAddr 0, .retAddr 0, .retAddr 0, .retAddr 0] [] h (qI P) := fun l2 a b => ih l2 (l3 + 1) (s + 1) (i_inc es (by omega)) (by omega) (by omega) a b
      refine ⟨fun z => nx 1 (fun y => absurd y (by decide)) (fun _ => ho z), fun z => ⟨i_vp j1 (by omega), fun y => nx 1 (fun w => absurd w (by decide)) (fun _ => ⟨s, by omega, Or.inl y⟩), fun y => ⟨i_vp j9 (by omega), fun w => nx 0 (fun _ q hq => ?_) (fun v => absurd rfl v), fun w => nx 1 (fun v => absurd v (by decide)) (fun _ => ⟨s, by omega, Or.inr w⟩)⟩⟩⟩
      by_cases e : q = s
      · subst e
        exact fun v => v.elim y w
      · exact hz z q (by omega)
theorem v_X11_forget {g : gT} {h : mh_T} {P : Int32 → mh_T → Prop} (l1 : Int32) (u : Nat) (eu : (mI h 11 24).toInt = (u : Int)) (hG : GI h) (hI : TVs h) (hB : NB h) (tz : TZ (h.1 45)) (h0 : ¬ (LKb h l1 ∧ LA (h.1 45) l1) → ∀ h', Ok [300, 11] h h' → P 0 h') (hp : LKb h l1 → LA (h.1 45) l1 → ∀ h', Ok msR h h' → TVs h' → fgt l1 (sn (h.1 45)) (h.1 45) (h.1 47) (h'.1 45) (h'.1 47) → HD u (ac5 2 l1 (-2) (-2) (-2)) h h' → P 1 h') : MCi g yX11_forget uX11_forget [.ref 11, .int l1] h P := by
  refine e_X11_forget l1 (v_good hG (fun h1 k1 => ?_))
  have e45 : h1.1 45 = h.1 45 := OkC k1 (by decide)
  have lk : LKb h1 l1 ↔ LKb h l1 := by unfold LKb; rw [show mI h1 45 50 = mI h 45 50 from congrFun e45 50]
  refine v_isLook l1 k1.1 (NB_ok k1 (by decide) hB) (fun q => ⟨fun _ => ?_, fun z => absurd z (by decide)⟩) (fun q => ⟨fun z => absurd rfl z, fun _ => v_isNot 1 (by decide) k1 (h0 (fun y => q (lk.mpr y.1)))⟩)
  have n8 : sn (h.1 45) ≤ 8 := by unfold sn; have := tz.2.1; omega
  refine v_forget_22 l1 k1.1 (fun z => v_isNot 5 (by decide) k1 (h0 (fun y => z (by rw [e45]; exact y.2)))) (fun la l2 => ?_) 9 0 0 0 (by decide) (Nat.zero_le _) (by rw [e45]; omega) (fun _ q hq => absurd hq (Nat.not_lt_zero _)) (fun v => absurd rfl v)
  rw [e45] at la
  refine v_was k1.1 (TVs_ok hI k1 (by decide)) (fun h2 k2 t2 e48 x4 e4 => ?_)
  have e45' : h2.1 45 = h.1 45 := by rw [OkC k2 (k := 45) (by decide), e45]
  have e47' : h2.1 47 = h.1 47 := by rw [OkC k2 (k := 47) (by decide), OkC k1 (k := 47) (by decide)]
  have ex : x4.toInt + 1 = (sn (h.1 45) : Int) := by
    have f0 : R 0 8 (mI h2 45 0) := GI_rd k2.1 45 0 rfl
    have z := tz.1
    rw [e4, show Int32.toNatClampNeg 0 = 0 from by decide, ti_sub1 f0 (by decide), show mI h2 45 0 = h.1 45 0 from congrFun e45' 0]
    unfold sn
    omega
  refine v_forget_L l1 l2 (lk.mp q).1 (sn (h.1 45)) x4 h2 ex (Ok_rf k2.1) t2.1 (by rw [e45']; exact tz) (by rw [e45']; exact Nat.le_refl _) (fun h3 k3 t3 fl => v_done 2 l1 (-2) (-2) (-2) u eu k1 k2 e48 k3 (TVs_4547 t2 k3 t3) (fun h' k' t' e5 e7 hd => hp (lk.mp q) la h' k' t' (by rw [e5, e7]; rw [e45', e47'] at fl; exact fl) hd))
/-! FORGET of the class: putTogether, merge -/
set_option maxRecDepth 100000 in
set_option maxHeartbeats 4000000 in
theorem v_putTogether {g : gT} {h0 : mh_T} {P : mh_T → Prop} (l1 l2 l3 : Int32) (s f t : Nat) (es : l1.toInt = (s : Int)) (s8 : s < 8) (ef : l2.toInt = (f : Int)) (et : l3.toInt = (t : Int)) (hf : f + t = 3) (hG : GI h0) (hp : ∀ h', Ok [3, 24, 25, 26, 27] h0 h' → (∀ j, tC h' j = if j = 17 + 4 * s + 3 then 0 else if j = 17 + 4 * s + 2 then 0 else if j = 17 + 4 * s + 1 then tC h0 (17 + 4 * s + t) + tC h0 (17 + 4 * s + t + f) else if j = 17 + 4 * s then tC h0 (17 + 4 * s) + tC h0 (17 + 4 * s + f) else if j = 9 + s then -2 else tC h0 j) → (∀ j, ¬ (4 * s ≤ j ∧ j < 4 * s + 4) → h'.1 27 j = h0.1 27 j) → (∀ o, o < 4 → h'.1 27 (4 * s + o) = 0) → P h') : MCv g yX8_putTogether uX8_putTogether [.ref 3, .int l1, .int l2, .int l3] h0 P := by
  refine e_X8_putTogether l1 l2 l3 (fun x1 e1 => ?_)
  have k0 : x1.toInt = ((4 * s : Nat) : Int) := by rw [e1]; exact i_4s es s8
  have kf : (x1 + l2).toInt = ((4 * s + f : Nat) : Int) := by rw [i_add k0 ef (by omega)]; omega
  have kt : (x1 + l3).toInt = ((4 * s + t : Nat) : Int) := by rw [i_add k0 et (by omega)]; omega
  have ktf : ((x1 + l3) + l2).toInt = ((4 * s + t + f : Nat) : Int) := by rw [i_add kt ef (by omega)]; omega
  have k1 := i_off k0 1 1 (by decide) (by omega)
  have k2 := i_off k0 2 2 (by decide) (by omega)
  have k3 := i_off k0 3 3 (by decide) (by omega)
  rw [i_nat k0, i_nat kf, i_nat kt, i_nat ktf, i_nat k1, i_nat k2, i_nat k3, i_nat es]
  refine ⟨i_vp k0 (by omega), i_vp kf (by omega), fun x4 e4 => ⟨i_vp kt (by omega), i_vp ktf (by omega), fun x7 e7 => ⟨i_vp es (by omega), i_vp k0 (by omega), i_vp k1 (by omega), i_vp k2 (by omega), i_vp k3 (by omega), ?_⟩⟩⟩
  have fn2 : R (rgT 25 0).1 (rgT 25 0).2 (-2) := ⟨by decide, by decide⟩
  have o1 := Ok_w (Ok_rf (ms := [3, 24, 25, 26, 27]) hG) (k := 25) (j := s) (v := -2) (rg_25 s8) fn2 (by decide) (nt_k (by decide))
  have o5 := Ok_w (Ok_w (Ok_w (Ok_w o1 (k := 26) (j := 4 * s) (v := x4) (rgc_26 _) (R_full _) (by decide) (nt_k (by decide))) (k := 26) (j := 4 * s + 1) (v := x7) (rgc_26 _) (R_full _) (by decide) (nt_k (by decide))) (k := 26) (j := 4 * s + 2) (v := 0) (rgc_26 _) (R_full _) (by decide) (nt_k (by decide))) (k := 26) (j := 4 * s + 3) (v := 0) (rgc_26 _) (R_full _) (by decide) (nt_k (by decide))
  have y4 : x4 = tC h0 (17 + 4 * s) + tC h0 (17 + 4 * s + f) := by rw [e4, show 17 + 4 * s = 17 + (4 * s) by omega, tC_17, show 17 + (4 * s) + f = 17 + (4 * s + f) by omega, tC_17]
  have y7 : x7 = tC h0 (17 + 4 * s + t) + tC h0 (17 + 4 * s + t + f) := by rw [e7, show 17 + 4 * s + t = 17 + (4 * s + t) by omega, tC_17, show 17 + (4 * s + t) + f = 17 + (4 * s + t + f) by omega, tC_17]
  have vv : ∀ j, tC (wI (wI (wI (wI (wI h0 25 s (-2)) 26 (4 * s) x4) 26 (4 * s + 1) x7) 26 (4 * s + 2) 0) 26 (4 * s + 3) 0) j = if j = 17 + 4 * s + 3 then 0 else if j = 17 + 4 * s + 2 then 0 else if j = 17 + 4 * s + 1 then x7 else if j = 17 + 4 * s then x4 else if j = 9 + s then -2 else tC h0 j := fun j => by
    rw [tC_w26, tC_w26, tC_w26, tC_w26, tC_w25 _ _ _ _ s8, Nat.add_assoc, Nat.add_assoc, Nat.add_assoc]
  have c27 : (wI (wI (wI (wI (wI h0 25 s (-2)) 26 (4 * s) x4) 26 (4 * s + 1) x7) 26 (4 * s + 2) 0) 26 (4 * s + 3) 0).1 27 = h0.1 27 := by rw [wI_o (by decide), wI_o (by decide), wI_o (by decide), wI_o (by decide), wI_o (by decide)]
  generalize wI (wI (wI (wI (wI h0 25 s (-2)) 26 (4 * s) x4) 26 (4 * s + 1) x7) 26 (4 * s + 2) 0) 26 (4 * s + 3) 0 = hm at o5 vv c27
  rw [← y4, ← y7] at hp
  have L : ∀ (n : Nat) (l7 : Int32) (k : Nat) (h : mh_T), l7.toInt = (k : Int) → k ≤ 4 → 4 - k < n → Ok [3, 24, 25, 26, 27] h0 h → tC h = tC hm → (∀ j, ¬ (4 * s ≤ j ∧ j < 4 * s + 4) → h.1 27 j = h0.1 27 j) → (∀ o, o < k → h.1 27 (4 * s + o) = 0) → ME g uX8_putTogether 98 [.ref 3, .int l1, .int l2, .int l3, .int x1, .int x4, .int x7, .int l7] [] h (qV P) := by
    intro n
    induction n with
    | zero => intro l7 k h _ _ hn; exact absurd hn (Nat.not_lt_zero _)
    | succ n ih =>
      intro l7 k h ek hk hn ok q1 q2 q3
      have z4 : (4 : Int32).toInt = 4 := by decide
      refine r_X8_putTogether_98 l1 l2 l3 x1 x4 x7 l7 ⟨fun c => hp h ok (fun j => by rw [q1]; exact vv j) q2 (fun o ho => q3 o ?_), fun c => ?_⟩
      · have c := i_le.mp c
        omega
      · have c := i_lt.mp (nle c)
        rw [z4, ek] at c
        have ib : (x1 + l7).toInt = ((4 * s + k : Nat) : Int) := by rw [i_add k0 ek (by omega)]; omega
        refine ⟨i_vp ib (by omega), ?_⟩
        rw [i_nat ib]
        refine ih (l7 + 1) (k + 1) _ (i_inc ek (by omega)) (by omega) (by omega) (Ok_w ok (k := 27) (rgc_27 _) (R_full _) (by decide) (nt_k (by decide))) ?_ (fun j hj => ?_) (fun o ho => ?_)
        · rw [tC_wo _ _ _ _ ⟨fun z => absurd z.1 (by decide), by decide, by decide, by decide⟩]; exact q1
        · rw [wI_i, if_neg (by omega)]; exact q2 j hj
        · rw [wI_i]
          by_cases e : o = k
          · rw [if_pos (by omega)]
          · rw [if_neg (by omega)]; exact q3 o (by omega)
  exact L 5 0 0 hm (by decide) (Nat.zero_le _) (by omega) o5 rfl (fun j _ => by rw [c27]) (fun o ho => absurd ho (Nat.not_lt_zero _))
set_option maxRecDepth 100000 in
set_option maxHeartbeats 8000000 in
theorem v_merge_L {g : gT} {h0 : mh_T} {P : mh_T → Prop} (l1 : Int32) : ∀ (n : Nat) (l2 : Int32) (h : mh_T), l2.toInt + 1 = (n : Int) → Ok [3, 24, 25, 26, 27] h0 h → TZ (tC h) → n ≤ sn (tC h) → (∀ h', Ok [3, 24, 25, 26, 27] h0 h' → fgt l1 n (tC h) (h.1 27) (tC h') (h'.1 27) → P h') → ME g uX8_merge 7 [.ref 3, .int l1, .int l2] [] h (qV P) := by
  intro n
  induction n with
  | zero =>
    intro l2 h e2 ok tz hn hp
    refine r_X8_merge_7 l1 l2 ⟨fun _ => hp _ (Ok_w ok (k := 3) (j := 3) (lo := -2147483648) (hi := 2147483647) rfl (R_full _) (by decide) (by decide)) ?_, fun c => absurd (i_lt.mpr (by rw [i_0]; omega)) c⟩
    rw [tC_wo _ _ _ _ (by decide), wI_o (by decide)]
    exact ⟨rfl, fun s _ => ⟨sE_rf _ s, fun _ _ => rfl⟩⟩
  | succ s ih =>
    intro l2 h e2 ok tz hn hp
    have n8 : sn (tC h) ≤ 8 := by unfold sn; have := tz.2.1; omega
    have s8 : s < 8 := by omega
    have es : l2.toInt = (s : Int) := by omega
    have dec : (l2 + (-1)).toInt + 1 = (s : Int) := by
      have f3 : R 0 7 l2 := ⟨by omega, by omega⟩
      have := ti_dec f3 (by decide)
      omega
    have vs : vp_in l2 8 := i_vp es s8
    have nx : ∀ h', Ok [3, 24, 25, 26, 27] h0 h' → stp l1 s (tC h) (h.1 27) (tC h') (h'.1 27) → ME g uX8_merge 7 [.ref 3, .int l1, .int (l2 + (-1))] [] h' (qV P) := fun h' k' st => ih (l2 + (-1)) h' dec k' (TZ_st tz (by omega) st) (stp_n (by omega) st) (fun h2 k2 fg => hp h2 k2 ⟨_, _, st, fg⟩)
    refine r_X8_merge_7 l1 l2 ⟨fun c => absurd (i_lt.mp c) (by rw [i_0]; omega), fun c => ?_⟩
    rw [i_nat es, ← tC_1 h s8, ← tC_9 h s8]
    refine ⟨vs, fun z => ?_, fun z => ?_⟩
    · have nn : ¬ (tC h (9 + s)).toInt < 0 := by have := i_le.mp z; rw [i_0] at this; omega
      refine ⟨vs, fun y1 => ⟨vs, fun y2 => nx h ok (Or.inr (Or.inr ⟨y1, Or.inr y2, rfl, fun q _ => ⟨sE_rf _ q, fun _ _ => rfl⟩⟩)), fun y2 => ?_⟩, fun y1 => ⟨vs, vs, ?_⟩⟩
      · refine v_putTogether l2 1 2 s 1 2 es s8 (by decide) (by decide) (by decide) ok.1 (fun h' k' vv q2 q3 => nx h' (Ok_tr ok k' (by decide)) (Or.inr (Or.inl ⟨nn, Or.inr y2, ?_, fun q hq hne => ⟨⟨?_, ?_, fun o ho => ?_⟩, fun o ho => q2 _ (by omega)⟩, ?_, Or.inr ⟨y1, ?_, ?_, ?_⟩, ?_, ?_, q3⟩)))
        · rw [vv, if_neg (by omega), if_neg (by omega), if_neg (by omega), if_neg (by omega), if_neg (by omega)]
        · rw [vv, if_neg (by omega), if_neg (by omega), if_neg (by omega), if_neg (by omega), if_neg (by omega)]
        · rw [vv, if_neg (by omega), if_neg (by omega), if_neg (by omega), if_neg (by omega), if_neg (by omega)]
        · rw [vv, if_neg (by omega), if_neg (by omega), if_neg (by omega), if_neg (by omega), if_neg (by omega)]
        · rw [vv, if_neg (by omega), if_neg (by omega), if_neg (by omega), if_neg (by omega), if_pos rfl]
        · rw [vv, if_neg (by omega), if_neg (by omega), if_neg (by omega), if_neg (by omega), if_neg (by omega)]
        · rw [vv, if_neg (by omega), if_neg (by omega), if_neg (by omega), if_pos rfl]
        · rw [vv, if_neg (by omega), if_neg (by omega), if_pos rfl]
        · rw [vv, if_neg (by omega), if_pos rfl]
        · rw [vv, if_pos rfl]
      · have va : R (rgT 24 0).1 (rgT 24 0).2 (tC h (9 + s)) := by
          have r9 : R (-2) 5 (mI h 25 s) := GI_rd ok.1 25 s (by have := rg_25 s8; rw [this]; rfl)
          rw [tC_9 h s8] at *
          exact ⟨by show (0 : Int) ≤ _; omega, by show _ ≤ (5 : Int); exact r9.2⟩
        have o1 := Ok_w (Ok_rf (ms := [3, 24, 25, 26, 27]) ok.1) (k := 24) (j := s) (v := tC h (9 + s)) (rg_24 s8) va (by decide) (nt_k (by decide))
        have tw : ∀ j, tC (wI h 24 s (tC h (9 + s))) j = if j = 1 + s then tC h (9 + s) else tC h j := fun j => tC_w24 _ _ _ _ s8
        have c27 : (wI h 24 s (tC h (9 + s))).1 27 = h.1 27 := wI_o (by decide)
        generalize wI h 24 s (tC h (9 + s)) = hm at o1 tw c27
        refine v_putTogether l2 2 1 s 2 1 es s8 (by decide) (by decide) (by decide) o1.1 (fun h' k' vv q2 q3 => nx h' (Ok_tr (Ok_tr ok o1 (by decide)) k' (by decide)) (Or.inr (Or.inl ⟨nn, Or.inl y1, ?_, fun q hq hne => ⟨⟨?_, ?_, fun o ho => ?_⟩, fun o ho => by rw [q2 _ (by omega), c27]⟩, ?_, Or.inl ⟨y1, ?_, ?_, ?_⟩, ?_, ?_, q3⟩)))
        · rw [vv, if_neg (by omega), if_neg (by omega), if_neg (by omega), if_neg (by omega), if_neg (by omega), tw, if_neg (by omega)]
        · rw [vv, if_neg (by omega), if_neg (by omega), if_neg (by omega), if_neg (by omega), if_neg (by omega), tw, if_neg (by omega)]
        · rw [vv, if_neg (by omega), if_neg (by omega), if_neg (by omega), if_neg (by omega), if_neg (by omega), tw, if_neg (by omega)]
        · rw [vv, if_neg (by omega), if_neg (by omega), if_neg (by omega), if_neg (by omega), if_neg (by omega), tw, if_neg (by omega)]
        · rw [vv, if_neg (by omega), if_neg (by omega), if_neg (by omega), if_neg (by omega), if_pos rfl]
        · rw [vv, if_neg (by omega), if_neg (by omega), if_neg (by omega), if_neg (by omega), if_neg (by omega), tw, if_pos rfl]
        · rw [vv, if_neg (by omega), if_neg (by omega), if_neg (by omega), if_pos rfl, tw, tw, if_neg (by omega), if_neg (by omega)]
        · rw [vv, if_neg (by omega), if_neg (by omega), if_pos rfl, tw, tw, if_neg (by omega), if_neg (by omega)]
        · rw [vv, if_neg (by omega), if_pos rfl]
        · rw [vv, if_pos rfl]
    · have nn : (tC h (9 + s)).toInt < 0 := by
        have : ¬ (0 : Int32).toInt ≤ (tC h (9 + s)).toInt := fun w => z (i_le.mpr w)
        rw [i_0] at this
        omega
      exact ⟨vs, fun y1 => nx h ok (Or.inr (Or.inr ⟨y1, Or.inl nn, rfl, fun q _ => ⟨sE_rf _ q, fun _ _ => rfl⟩⟩)), fun y1 => v_remove l2 s es (by omega) ok.1 (fun h' k' d => nx h' (Ok_tr ok k' (by decide)) (Or.inl ⟨nn, y1, d⟩))⟩
theorem v_X8_merge {g : gT} {h : mh_T} {P : mh_T → Prop} (l1 : Int32) (hG : GI h) (tz : TZ (tC h)) (hp : ∀ h', Ok [3, 24, 25, 26, 27] h h' → fgt l1 (sn (tC h)) (tC h) (h.1 27) (tC h') (h'.1 27) → P h') : MCv g yX8_merge uX8_merge [.ref 3, .int l1] h P := by
  refine e_X8_merge l1 (fun x1 e1 => v_merge_L l1 (sn (tC h)) x1 h ?_ (Ok_rf hG) tz (Nat.le_refl _) hp)
  have f0 : R 0 8 (mI h 3 2) := GI_rd hG 3 2 rfl
  have z := tz.1
  rw [e1, ti_sub1 f0 (by decide), ← tC_0]
  unfold sn
  omega
/-! the class's history: save, restore, begin, takeBack, makeAgain, keep, goBack -/
/-- the rows and acts of the history are all different cells -/
def RI (h : mh_T) : Prop := (∀ i, i < 21 → 116 ≤ mR h 41 i ∧ mR h 41 i ≤ 136) ∧ (∀ i j, i < 21 → j < 21 → mR h 41 i = mR h 41 j → i = j) ∧ ∀ i j, i < 20 → j < 20 → mR h 40 i = mR h 40 j → i = j
theorem RI_cg {h h' : mh_T} (e40 : h'.2.2 40 = h.2.2 40) (e41 : h'.2.2 41 = h.2.2 41) (r : RI h) : RI h' := by
  unfold RI mR at *
  rw [e40, e41]
  exact r
abbrev hrw (h : mh_T) (i : Nat) : Nat → Int32 := h.1 (mR h 41 i)
abbrev hac (h : mh_T) (i : Nat) : Nat → Int32 := h.1 (mR h 40 i)
theorem v_save {g : gT} {h : mh_T} {P : mh_T → Prop} (l1 : Nat) (sl1 : shp l1 = (20, 49, [])) (hn : 116 ≤ l1) (hG : GI h) (hp : ∀ h', Ok [302] h h' → h'.2 = h.2 → (∀ k, ¬ k = l1 → h'.1 k = h.1 k) → (∀ j, j < 49 → h'.1 l1 j = tC h j) → P h') : MCv g yX8_save uX8_save [.ref 3, .ref l1] h P := by
  have hk := shp_lt sl1 (by decide)
  have ok : Ok [302] h h := Ok_rf hG
  have f0 : R 0 8 (mI h 3 2) := GI_rd hG 3 2 (by decide)
  have o1 : Ok [302] h (wI h l1 0 (mI h 3 2)) := Ok_w ok (lo := 0) (hi := 8) (by rw [rg_row hn hk]; decide) f0 (Or.inr ⟨by omega, by decide⟩) (by omega)
  have o2 := Ok_cp o1 (k0 := 24) (sp := 0) (k1 := l1) (dp := 1) (n := 8) (rowcp hn hk (by decide)) (Or.inr ⟨by omega, by decide⟩) (by omega)
  have o3 := Ok_cp o2 (k0 := 25) (sp := 0) (k1 := l1) (dp := 9) (n := 8) (rowcp hn hk (by decide)) (Or.inr ⟨by omega, by decide⟩) (by omega)
  have o4 := Ok_cp o3 (k0 := 26) (sp := 0) (k1 := l1) (dp := 17) (n := 32) (rowcp hn hk (by decide)) (Or.inr ⟨by omega, by decide⟩) (by omega)
  refine e_X8_save l1 sl1 ⟨by unfold vp_in; decide, ?_⟩
  refine hp _ o4 rfl (fun k hne => ?_) (fun j hj => ?_)
  · funext j
    refine (mI_cpI _ _ _ _ _ _ _ _).trans ((if_neg (fun z => hne z.1)).trans ((mI_cpI _ _ _ _ _ _ _ _).trans ((if_neg (fun z => hne z.1)).trans ((mI_cpI _ _ _ _ _ _ _ _).trans ((if_neg (fun z => hne z.1)).trans ((mI_wI _ _ _ _ _ _).trans (if_neg (fun z => hne z.1))))))))
  · show mI (cpI (cpI (cpI (wI h l1 0 (mI h 3 2)) 24 0 l1 1 8) 25 0 l1 9 8) 26 0 l1 17 32) l1 j = _
    have e1 : ∀ q, mI (cpI (cpI (wI h l1 0 (mI h 3 2)) 24 0 l1 1 8) 25 0 l1 9 8) 26 q = mI h 26 q := fun q => by rw [mI_cpI, if_neg (by omega), mI_cpI, if_neg (by omega), mI_wI, if_neg (by omega)]
    have e2 : ∀ q, mI (cpI (wI h l1 0 (mI h 3 2)) 24 0 l1 1 8) 25 q = mI h 25 q := fun q => by rw [mI_cpI, if_neg (by omega), mI_wI, if_neg (by omega)]
    have e3 : ∀ q, mI (wI h l1 0 (mI h 3 2)) 24 q = mI h 24 q := fun q => by rw [mI_wI, if_neg (by omega)]
    unfold tC
    rw [mI_cpI, e1, mI_cpI, e2, mI_cpI, e3, mI_wI]
    by_cases c17 : j < 17
    · rw [if_neg (by omega)]
      by_cases c9 : j < 9
      · rw [if_neg (by omega)]
        by_cases c0 : j = 0
        · rw [if_neg (by omega), if_pos ⟨rfl, c0⟩, if_pos c0]
        · rw [if_pos ⟨rfl, by omega, by omega⟩, if_neg c0, if_pos c9, Nat.zero_add]
      · rw [if_pos ⟨rfl, by omega, by omega⟩, if_neg (by omega), if_neg c9, if_pos c17, Nat.zero_add]
    · rw [if_pos ⟨rfl, by omega, by omega⟩, if_neg (by omega), if_neg (by omega), if_neg c17, Nat.zero_add]
theorem v_restore {g : gT} {h : mh_T} {P : mh_T → Prop} (l1 : Nat) (sl1 : shp l1 = (20, 49, [])) (hn : 116 ≤ l1) (hG : GI h) (hp : ∀ h', Ok [3, 24, 25, 26, 27] h h' → (∀ j, j < 49 → tC h' j = h.1 l1 j) → (∀ j, j < 32 → h'.1 27 j = 0) → P h') : MCv g yX8_restore uX8_restore [.ref 3, .ref l1] h P := by
  have hk := shp_lt sl1 (by decide)
  have ok : Ok [3, 24, 25, 26, 27] h h := Ok_rf hG
  have f0 : R 0 8 (mI h l1 0) := GI_rd hG l1 0 (by rw [rg_row hn hk]; decide)
  have o1 : Ok [3, 24, 25, 26, 27] h (wI h 3 2 (mI h l1 0)) := Ok_w ok (lo := 0) (hi := 8) (by decide) f0 (by decide) (by decide)
  have o2 := Ok_cp o1 (k0 := l1) (sp := 1) (k1 := 24) (dp := 0) (n := 8) (rowcp' hn hk (by decide)) (by decide) (by decide)
  have o3 := Ok_cp o2 (k0 := l1) (sp := 9) (k1 := 25) (dp := 0) (n := 8) (rowcp' hn hk (by decide)) (by decide) (by decide)
  have o4 := Ok_cp o3 (k0 := l1) (sp := 17) (k1 := 26) (dp := 0) (n := 32) (rowcp' hn hk (by decide)) (by decide) (by decide)
  refine e_X8_restore l1 sl1 ⟨by unfold vp_in; decide, ?_⟩
  refine v_clearCoins o4.1 (fun h2 ko z27 => ?_)
  have o5 := Ok_tr o4 ko (by decide)
  refine hp _ (Ok_w o5 (k := 3) (j := 3) (lo := -2147483648) (hi := 2147483647) (by decide) (R_full _) (by decide) (by decide)) (fun j hj => ?_) (fun j hj => ?_)
  · have ek : ∀ k j, ¬ k = 27 → k < 62 → mI h2 k j = mI (cpI (cpI (cpI (wI h 3 2 (mI h l1 0)) l1 1 24 0 8) l1 9 25 0 8) l1 17 26 0 32) k j := fun k j h1 h2 => congrFun (ko.2.1 k h2 (fun z => h1 (List.mem_singleton.mp z))).1 j
    rw [tC_wo _ _ _ _ (by decide)]
    unfold tC
    rw [ek 3 2 (by decide) (by decide), ek 24 _ (by decide) (by decide), ek 25 _ (by decide) (by decide), ek 26 _ (by decide) (by decide)]
    by_cases c0 : j = 0
    · rw [if_pos c0, mI_cpI, if_neg (by omega), mI_cpI, if_neg (by omega), mI_cpI, if_neg (by omega), mI_wI, if_pos ⟨rfl, rfl⟩, c0]
      rfl
    · rw [if_neg c0]
      by_cases c9 : j < 9
      · rw [if_pos c9, mI_cpI, if_neg (by omega), mI_cpI, if_neg (by omega), mI_cpI, if_pos ⟨rfl, by omega, by omega⟩, mI_wI, if_neg (by omega), show 1 + (j - 1 - 0) = j by omega]
        rfl
      · rw [if_neg c9]
        by_cases c17 : j < 17
        · rw [if_pos c17, mI_cpI, if_neg (by omega), mI_cpI, if_pos ⟨rfl, by omega, by omega⟩, mI_cpI, if_neg (by omega), mI_wI, if_neg (by omega), show 9 + (j - 9 - 0) = j by omega]
          rfl
        · rw [if_neg c17, mI_cpI, if_pos ⟨rfl, by omega, by omega⟩, mI_cpI, if_neg (by omega), mI_cpI, if_neg (by omega), mI_wI, if_neg (by omega), show 17 + (j - 17 - 0) = j by omega]
          rfl
  · rw [wI_o (by decide)]
    exact z27 j hj
/-- the oldest is left -/
def rt (r : Nat → Nat) (i : Nat) : Nat := if i < 19 then r (i + 1) else if i = 19 then r 0 else r i
set_option maxRecDepth 100000 in
set_option maxHeartbeats 4000000 in
theorem v_leaveOldest {g : gT} {h0 : mh_T} {P : mh_T → Prop} (hG : GI h0) (hp : ∀ h', Ok [10, 40, 41] h0 h' → (∀ k, ¬ k = 10 → h'.1 k = h0.1 k) → (∀ j, ¬ j = 0 → mI h' 10 j = mI h0 10 j) → mI h' 10 0 = 19 → (∀ i, i < 20 → mR h' 40 i = rt (mR h0 40) i) → (∀ i, i < 21 → mR h' 41 i = rt (mR h0 41) i) → P h') : MCv g yX4_leaveOldest uX4_leaveOldest [.ref 10] h0 P := by
  have L : ∀ (n : Nat) (l3 : Int32) (k : Nat) (h : mh_T), l3.toInt = (k : Int) → k ≤ 19 → 19 - k < n → Ok [10, 40, 41] h0 h → h.1 = h0.1 → (∀ i, i < 20 → mR h 40 i = if i < k then mR h0 40 (i + 1) else mR h0 40 i) → (∀ i, i < 21 → mR h 41 i = if i < k then mR h0 41 (i + 1) else mR h0 41 i) → ME g uX4_leaveOldest 16 [.ref 10, .ref (mR h0 40 0), .ref (mR h0 41 0), .int l3] [] h (qV P) := by
    intro n
    induction n with
    | zero => intro l3 k h _ _ hn; exact absurd hn (Nat.not_lt_zero _)
    | succ n ih =>
      intro l3 k h ek hk hn ok e1 e40 e41
      have z19 : (19 : Int32).toInt = 19 := by decide
      refine r_X4_leaveOldest_16 (mR h0 40 0) (mR h0 41 0) l3 (hG.2.1 0 (by decide)) (hG.2.2 0 (by decide)).1 ⟨fun c => ?_, fun c => ?_⟩
      · have c := i_le.mp c
        have : k = 19 := by omega
        subst this
        have o1 := Ok_wRa ok (j := Int32.toNatClampNeg 19) (v := mR h0 40 0) (hG.2.1 0 (by decide)) (by decide)
        have o2 := Ok_wRr o1 (j := Int32.toNatClampNeg 19) (v := mR h0 41 0) (hG.2.2 0 (by decide)) (by decide)
        refine hp _ (Ok_w o2 (k := 10) (j := 0) (v := 19) (lo := 0) (hi := 20) (by decide) ⟨by decide, by decide⟩ (by decide) (by decide)) (fun k hk => ?_) (fun j hj => ?_) rfl (fun i hi => ?_) (fun i hi => ?_)
        · rw [wI_o hk]
          show h.1 k = _
          rw [e1]
        · rw [mI_wI, if_neg (fun z => hj z.2)]
          show h.1 10 j = _
          rw [e1]
          rfl
        · rw [mR_wI, mR_wR, if_neg (by omega), mR_wR, show Int32.toNatClampNeg 19 = 19 from by decide, e40 i hi]
          unfold rt
          by_cases q : i = 19
          · rw [if_pos ⟨rfl, q⟩, if_neg (by omega), if_pos q]
          · rw [if_neg (by omega)]
            by_cases w : i < 19
            · rw [if_pos w, if_pos w]
            · rw [if_neg w, if_neg w, if_neg q]
        · rw [mR_wI, mR_wR, mR_wR, show Int32.toNatClampNeg 19 = 19 from by decide, if_neg (show ¬ (41 = 40 ∧ i = 19) by omega), e41 i hi]
          unfold rt
          by_cases q : i = 19
          · rw [if_pos ⟨rfl, q⟩, if_neg (by omega), if_pos q]
          · rw [if_neg (by omega)]
            by_cases w : i < 19
            · rw [if_pos w, if_pos w]
            · rw [if_neg w, if_neg w, if_neg q]
      · have c := i_lt.mp (nle c)
        rw [z19, ek] at c
        have k1 : (l3 + 1).toInt = ((k + 1 : Nat) : Int) := i_inc ek (by omega)
        rw [i_nat k1, i_nat ek]
        have sA := ok.1.2.1 (k + 1) (by omega)
        have o1 := Ok_wRa ok (j := k) (v := mR h 40 (k + 1)) sA (by decide)
        have sB := o1.1.2.2 (k + 1) (by omega)
        have o2 := Ok_wRr o1 (j := k) (v := mR (wR h 40 k (mR h 40 (k + 1))) 41 (k + 1)) sB (by decide)
        refine ⟨i_vp k1 (by omega), sA, i_vp ek (by omega), i_vp k1 (by omega), sB.1, i_vp ek (by omega), ih (l3 + 1) (k + 1) _ k1 (by omega) (by omega) o2 e1 (fun i hi => ?_) (fun i hi => ?_)⟩
        · rw [mR_wR, if_neg (by omega), mR_wR]
          by_cases q : i = k
          · rw [if_pos ⟨rfl, q⟩, if_pos (by omega), e40 (k + 1) (by omega), if_neg (by omega), q]
          · rw [if_neg (by omega), e40 i hi]
            by_cases w : i < k
            · rw [if_pos w, if_pos (by omega)]
            · rw [if_neg w, if_neg (by omega)]
        · rw [mR_wR, mR_wR, mR_wR, if_neg (show ¬ (41 = 40 ∧ k + 1 = k) by omega), if_neg (show ¬ (41 = 40 ∧ i = k) by omega)]
          by_cases q : i = k
          · rw [if_pos ⟨rfl, q⟩, if_pos (by omega), e41 (k + 1) (by omega), if_neg (by omega), q]
          · rw [if_neg (by omega), e41 i hi]
            by_cases w : i < k
            · rw [if_pos w, if_pos (by omega)]
            · rw [if_neg w, if_neg (by omega)]
  refine e_X4_leaveOldest ⟨hG.2.1 _ (by decide), (hG.2.2 _ (by decide)).1, ?_⟩
  exact L 20 0 0 h0 (by decide) (Nat.zero_le _) (by omega) (Ok_rf hG) rfl (fun i _ => by rw [if_neg (Nat.not_lt_zero _)]) (fun i _ => by rw [if_neg (Nat.not_lt_zero _)])
theorem rt_inj {r : Nat → Nat} {n : Nat} (hn : n = 20 ∨ n = 21) (h : ∀ i j, i < n → j < n → r i = r j → i = j) : ∀ i j, i < n → j < n → rt r i = rt r j → i = j := by
  intro i j hi hj e
  unfold rt at e
  have : (if i < 19 then i + 1 else if i = 19 then 0 else i) = (if j < 19 then j + 1 else if j = 19 then 0 else j) := by
    refine h _ _ ?_ ?_ ?_
    · split
      · omega
      · split <;> omega
    · split
      · omega
      · split <;> omega
    · by_cases a : i < 19
      · rw [if_pos a] at *
        by_cases b : j < 19
        · rw [if_pos b] at *; exact e
        · rw [if_neg b] at *
          by_cases b2 : j = 19
          · rw [if_pos b2] at *; exact e
          · rw [if_neg b2] at *; exact e
      · rw [if_neg a] at *
        by_cases a2 : i = 19
        · rw [if_pos a2] at *
          by_cases b : j < 19
          · rw [if_pos b] at *; exact e
          · rw [if_neg b] at *
            by_cases b2 : j = 19
            · rw [if_pos b2]
            · rw [if_neg b2] at *; exact e
        · rw [if_neg a2] at *
          by_cases b : j < 19
          · rw [if_pos b] at *; exact e
          · rw [if_neg b] at *
            by_cases b2 : j = 19
            · rw [if_pos b2] at *; exact e
            · rw [if_neg b2] at *; exact e
  by_cases a : i < 19
  · rw [if_pos a] at this
    by_cases b : j < 19
    · rw [if_pos b] at this; omega
    · rw [if_neg b] at this
      by_cases b2 : j = 19
      · rw [if_pos b2] at this; omega
      · rw [if_neg b2] at this; omega
  · rw [if_neg a] at this
    by_cases a2 : i = 19
    · rw [if_pos a2] at this
      by_cases b : j < 19
      · rw [if_pos b] at this; omega
      · rw [if_neg b] at this
        by_cases b2 : j = 19
        · omega
        · rw [if_neg b2] at this; omega
    · rw [if_neg a2] at this
      by_cases b : j < 19
      · rw [if_pos b] at this; omega
      · rw [if_neg b] at this
        by_cases b2 : j = 19
        · rw [if_pos b2] at this; omega
        · rw [if_neg b2] at this; omega
theorem rt_P {r : Nat → Nat} {n i : Nat} {p : Nat → Prop} (hn : n = 20 ∨ n = 21) (h : ∀ i, i < n → p (r i)) (hi : i < n) : p (rt r i) := by
  unfold rt
  split
  · exact h _ (by omega)
  · split
    · exact h _ (by omega)
    · exact h _ hi
/-- begin, from the place on where there is room -/
theorem v_begin_t {g : gT} {h : mh_T} {P : mh_T → Prop} (l1 l2 : Int32) (m : Nat) (em : (mI h 10 0).toInt = (m : Int)) (hm : m < 20) (hG : GI h) (ri : RI h) (hp : ∀ h', Ok [10, 302] h h' → h'.2 = h.2 → (mI h' 10 0).toInt = (m : Int) + 1 → mI h' 10 1 = mI h' 10 0 → mI h' 10 2 = mI h 10 2 → (∀ i j, i < 21 → j < 49 → h'.1 (mR h 41 i) j = if i = m then tC h j else h.1 (mR h 41 i) j) → (∀ i j, i < 20 → j < 5 → h'.1 (mR h 40 i) j = if i = m then ac5 l1 l2 (-2) (-2) (-2) j else h.1 (mR h 40 i) j) → (∀ k, 137 ≤ k → h'.1 k = h.1 k) → P h') : (vp_in (mI h 10 0) 21) ∧ ((shp (mR h 41 (mI h 10 0).toNatClampNeg) = (20, 49, [])) ∧ (MCv g yX8_save uX8_save [.ref 3, .ref (mR h 41 (mI h 10 0).toNatClampNeg)] h (fun h4 => (vp_in (mI h4 10 0) 20) ∧ ((shp (mR h4 40 (mI h4 10 0).toNatClampNeg) = (20, 5, [])) ∧ ((vp_in 0 5) ∧ ((vp_in 1 5) ∧ ((vp_in 2 5) ∧ ((vp_in 3 5) ∧ ((vp_in 4 5) ∧ (P (wI (wI (wI (wI (wI (wI (wI h4 (mR h4 40 (mI h4 10 0).toNatClampNeg) (Int32.toNatClampNeg 0) l1) (mR h4 40 (mI h4 10 0).toNatClampNeg) (Int32.toNatClampNeg 1) l2) (mR h4 40 (mI h4 10 0).toNatClampNeg) (Int32.toNatClampNeg 2) (-2)) (mR h4 40 (mI h4 10 0).toNatClampNeg) (Int32.toNatClampNeg 3) (-2)) (mR h4 40 (mI h4 10 0).toNatClampNeg) (Int32.toNatClampNeg 4) (-2)) 10 0 ((mI (wI (wI (wI (wI (wI h4 (mR h4 40 (mI h4 10 0).toNatClampNeg) (Int32.toNatClampNeg 0) l1) (mR h4 40 (mI h4 10 0).toNatClampNeg) (Int32.toNatClampNeg 1) l2) (mR h4 40 (mI h4 10 0).toNatClampNeg) (Int32.toNatClampNeg 2) (-2)) (mR h4 40 (mI h4 10 0).toNatClampNeg) (Int32.toNatClampNeg 3) (-2)) (mR h4 40 (mI h4 10 0).toNatClampNeg) (Int32.toNatClampNeg 4) (-2)) 10 0) + 1)) 10 1 (mI (wI (wI (wI (wI (wI (wI h4 (mR h4 40 (mI h4 10 0).toNatClampNeg) (Int32.toNatClampNeg 0) l1) (mR h4 40 (mI h4 10 0).toNatClampNeg) (Int32.toNatClampNeg 1) l2) (mR h4 40 (mI h4 10 0).toNatClampNeg) (Int32.toNatClampNeg 2) (-2)) (mR h4 40 (mI h4 10 0).toNatClampNeg) (Int32.toNatClampNeg 3) (-2)) (mR h4 40 (mI h4 10 0).toNatClampNeg) (Int32.toNatClampNeg 4) (-2)) 10 0 ((mI (wI (wI (wI (wI (wI h4 (mR h4 40 (mI h4 10 0).toNatClampNeg) (Int32.toNatClampNeg 0) l1) (mR h4 40 (mI h4 10 0).toNatClampNeg) (Int32.toNatClampNeg 1) l2) (mR h4 40 (mI h4 10 0).toNatClampNeg) (Int32.toNatClampNeg 2) (-2)) (mR h4 40 (mI h4 10 0).toNatClampNeg) (Int32.toNatClampNeg 3) (-2)) (mR h4 40 (mI h4 10 0).toNatClampNeg) (Int32.toNatClampNeg 4) (-2)) 10 0) + 1)) 10 0)))))))))))) := by
  have sr := hG.2.2 m (by omega)
  rw [i_nat em]
  refine ⟨i_vp em (by omega), sr.1, v_save (mR h 41 m) sr.1 sr.2 hG (fun h4 k4 r4 o4 s4 => ?_)⟩
  have e10 : ∀ j, mI h4 10 j = mI h 10 j := fun j => congrFun (o4 10 (by omega)) j
  have sa := hG.2.1 m hm
  have ga := sh5 sa
  have eR : ∀ k j, mR h4 k j = mR h k j := fun k j => by show h4.2.2 k j = h.2.2 k j; rw [r4]
  rw [e10 0, i_nat em, eR 40 m]
  have z0 : Int32.toNatClampNeg 0 = 0 := by decide
  have z1 : Int32.toNatClampNeg 1 = 1 := by decide
  have z2 : Int32.toNatClampNeg 2 = 2 := by decide
  have z3 : Int32.toNatClampNeg 3 = 3 := by decide
  have z4 : Int32.toNatClampNeg 4 = 4 := by decide
  rw [z0, z1, z2, z3, z4]
  refine ⟨i_vp em (by omega), sa, by unfold vp_in; decide, by unfold vp_in; decide, by unfold vp_in; decide, by unfold vp_in; decide, by unfold vp_in; decide, ?_⟩
  have w : ∀ {h2 : mh_T} (j : Nat) (v : Int32), Ok [10, 302] h h2 → Ok [10, 302] h (wI h2 (mR h 40 m) j v) := fun j v o => Ok_w o (k := mR h 40 m) (j := j) (v := v) (rg_5 sa _) (R_full _) (Or.inr ⟨ge_5 sa, by decide⟩) (nt_5 sa)
  have o5 := w 4 (-2) (w 3 (-2) (w 2 (-2) (w 1 l2 (w 0 l1 (Ok_mono k4 (by decide))))))
  have eA : ∀ k, ¬ k = mR h 40 m → (wI (wI (wI (wI (wI h4 (mR h 40 m) 0 l1) (mR h 40 m) 1 l2) (mR h 40 m) 2 (-2)) (mR h 40 m) 3 (-2)) (mR h 40 m) 4 (-2)).1 k = h4.1 k := fun k hk => by rw [wI_o hk, wI_o hk, wI_o hk, wI_o hk, wI_o hk]
  have eV : ∀ j, j < 5 → (wI (wI (wI (wI (wI h4 (mR h 40 m) 0 l1) (mR h 40 m) 1 l2) (mR h 40 m) 2 (-2)) (mR h 40 m) 3 (-2)) (mR h 40 m) 4 (-2)).1 (mR h 40 m) j = ac5 l1 l2 (-2) (-2) (-2) j := fun j hj => by
    rw [wI_i, wI_i, wI_i, wI_i, wI_i]
    unfold ac5
    have : j = 0 ∨ j = 1 ∨ j = 2 ∨ j = 3 ∨ j = 4 := by omega
    rcases this with z | z | z | z | z <;> subst z <;> rfl
  have e2 : (wI (wI (wI (wI (wI h4 (mR h 40 m) 0 l1) (mR h 40 m) 1 l2) (mR h 40 m) 2 (-2)) (mR h 40 m) 3 (-2)) (mR h 40 m) 4 (-2)).2 = h.2 := r4
  generalize wI (wI (wI (wI (wI h4 (mR h 40 m) 0 l1) (mR h 40 m) 1 l2) (mR h 40 m) 2 (-2)) (mR h 40 m) 3 (-2)) (mR h 40 m) 4 (-2) = h5 at o5 eA eV e2
  have e50 : mI h5 10 0 = mI h 10 0 := by rw [show mI h5 10 0 = mI h4 10 0 from congrFun (eA 10 (by omega)) 0, e10]
  rw [e50]
  have ev : (mI h 10 0 + 1).toInt = (m : Int) + 1 := by rw [i_inc em (by omega)]; omega
  rw [show mI (wI h5 10 0 (mI h 10 0 + 1)) 10 0 = mI h 10 0 + 1 by rw [mI_wI, if_pos ⟨rfl, rfl⟩]]
  have o6 := Ok_w o5 (k := 10) (j := 0) (v := mI h 10 0 + 1) (lo := 0) (hi := 20) rfl ⟨by omega, by omega⟩ (by decide) (by decide)
  have o7 := Ok_w o6 (k := 10) (j := 1) (v := mI h 10 0 + 1) (lo := 0) (hi := 20) rfl ⟨by omega, by omega⟩ (by decide) (by decide)
  have eo : ∀ k, ¬ k = 10 → (wI (wI h5 10 0 (mI h 10 0 + 1)) 10 1 (mI h 10 0 + 1)).1 k = h5.1 k := fun k hk => by rw [wI_o hk, wI_o hk]
  refine hp _ o7 e2 ?_ ?_ ?_ (fun i j hi hj => ?_) (fun i j hi hj => ?_) (fun k hk => ?_)
  · rw [mI_wI, if_neg (by decide), mI_wI, if_pos ⟨rfl, rfl⟩]; exact ev
  · rw [mI_wI, if_pos ⟨rfl, rfl⟩, mI_wI, if_neg (by decide), mI_wI, if_pos ⟨rfl, rfl⟩]
  · rw [mI_wI, if_neg (by decide), mI_wI, if_neg (by decide), show mI h5 10 2 = mI h4 10 2 from congrFun (eA 10 (by omega)) 2, e10]
  · have ri1 := ri.1 i hi
    rw [eo _ (by omega), eA _ (by omega)]
    by_cases e : i = m
    · rw [if_pos e, e]; exact s4 j hj
    · rw [if_neg e, o4 _ (fun z => e (ri.2.1 i m hi (by omega) z))]
  · have gi := sh5 (hG.2.1 i hi)
    rw [eo _ (by omega)]
    by_cases e : i = m
    · rw [if_pos e, e]; exact eV j hj
    · rw [if_neg e, eA _ (fun z => e (ri.2.2 i m hi hm z)), o4 _ (fun z => by have := sr.2; omega)]
  · have ri1 := ri.1 m (by omega)
    rw [eo _ (by omega), eA _ (by omega), o4 _ (by omega)]
/-- an act of the class that has begun -/
def HC (u : Nat) (a : Nat → Int32) (h h' : mh_T) : Prop := (mI h' 10 0).toInt = (if u = 20 then 20 else (u : Int) + 1) ∧ mI h' 10 1 = mI h' 10 0 ∧ mI h' 10 2 = mI h 10 2 ∧ RI h' ∧ (∀ i j, i < 20 → j < 49 → hrw h' i j = psh u (hrw h) (tC h) i j) ∧ (∀ i j, i < 20 → j < 5 → hac h' i j = psh u (hac h) a i j) ∧ ∀ k, 137 ≤ k → h'.1 k = h.1 k
set_option maxRecDepth 100000 in
set_option maxHeartbeats 4000000 in
theorem v_begin {g : gT} {h : mh_T} {P : mh_T → Prop} (l1 l2 : Int32) (u : Nat) (eu : (mI h 10 0).toInt = (u : Int)) (hG : GI h) (ri : RI h) (hp : ∀ h', Ok [10, 40, 41, 302] h h' → HC u (ac5 l1 l2 (-2) (-2) (-2)) h h' → P h') : MCv g yX4_begin uX4_begin [.ref 10, .int l1, .int l2] h P := by
  have f0 : R 0 20 (mI h 10 0) := GI_rd hG 10 0 rfl
  have z20 : (20 : Int32).toInt = 20 := by decide
  have u20 : u ≤ 20 := by have := f0.2; omega
  refine e_X4_begin l1 l2 ⟨fun c => ?_, fun c => ?_⟩
  · have c := i_lt.mp c
    have n20 : ¬ u = 20 := by omega
    refine v_begin_t l1 l2 u eu (by omega) hG ri (fun h' k' e2 a1 a2 a3 a4 a5 a6 => hp h' (Ok_mono k' (by decide)) ⟨?_, a2, a3, RI_cg (by rw [e2]) (by rw [e2]) ri, fun i j hi hj => ?_, fun i j hi hj => ?_, a6⟩)
    · rw [if_neg n20]; exact a1
    · have e : mR h' 41 i = mR h 41 i := by show h'.2.2 41 i = h.2.2 41 i; rw [e2]
      show h'.1 (mR h' 41 i) j = _
      rw [e, a4 i j (by omega) hj]
      unfold psh
      rw [if_neg n20]
      by_cases q : i = u
      · rw [if_pos q, if_pos q]
      · rw [if_neg q, if_neg q]
    · have e : mR h' 40 i = mR h 40 i := by show h'.2.2 40 i = h.2.2 40 i; rw [e2]
      show h'.1 (mR h' 40 i) j = _
      rw [e, a5 i j hi hj]
      unfold psh
      rw [if_neg n20]
      by_cases q : i = u
      · rw [if_pos q, if_pos q]
      · rw [if_neg q, if_neg q]
  · have c := i_le.mp (nlt c)
    have n20 : u = 20 := by omega
    refine v_leaveOldest hG (fun h1 k1 b1 b2 b3 b4 b5 => ?_)
    have ri1 : RI h1 := by
      refine ⟨fun i hi => ?_, fun i j hi hj e => ?_, fun i j hi hj e => ?_⟩
      · rw [b5 i hi]
        exact rt_P (p := fun x => 116 ≤ x ∧ x ≤ 136) (Or.inr rfl) ri.1 hi
      · rw [b5 i hi, b5 j hj] at e
        exact rt_inj (Or.inr rfl) ri.2.1 i j hi hj e
      · rw [b4 i hi, b4 j hj] at e
        exact rt_inj (Or.inl rfl) ri.2.2 i j hi hj e
    have tc1 : tC h1 = tC h := tC_cg (congrFun (b1 3 (by decide)) 2) (b1 24 (by decide)) (b1 25 (by decide)) (b1 26 (by decide))
    have e19 : (mI h1 10 0).toInt = ((19 : Nat) : Int) := by rw [b3]; decide
    refine v_begin_t l1 l2 19 e19 (by decide) k1.1 ri1 (fun h' k' e2 a1 a2 a3 a4 a5 a6 => hp h' (Ok_tr (Ok_mono k1 (by decide)) k' (by decide)) ⟨?_, a2, a3.trans (b2 2 (by decide)), RI_cg (by rw [e2]) (by rw [e2]) ri1, fun i j hi hj => ?_, fun i j hi hj => ?_, fun k hk => (a6 k hk).trans (b1 k (by omega))⟩)
    · rw [if_pos n20, a1]; decide
    · have e : mR h' 41 i = mR h1 41 i := by show h'.2.2 41 i = h1.2.2 41 i; rw [e2]
      have r1 := ri1.1 i (by omega)
      show h'.1 (mR h' 41 i) j = _
      rw [e, a4 i j (by omega) hj, tc1, b1 _ (by omega), b5 i (by omega)]
      unfold psh rt
      rw [if_pos n20]
      by_cases q : i = 19
      · rw [if_pos q, if_neg (by omega), if_pos q]
      · rw [if_neg q, if_pos (by omega), if_pos (by omega)]
    · have e : mR h' 40 i = mR h1 40 i := by show h'.2.2 40 i = h1.2.2 40 i; rw [e2]
      have r1 := sh5 (k1.1.2.1 i hi)
      show h'.1 (mR h' 40 i) j = _
      rw [e, a5 i j hi hj, b1 _ (by omega), b4 i hi]
      unfold psh rt
      rw [if_pos n20]
      by_cases q : i = 19
      · rw [if_pos q, if_neg (by omega), if_pos q]
      · rw [if_neg q, if_pos (by omega), if_pos (by omega)]
/-! the acts of the class -/
def LKc (h : mh_T) (l : Int32) : Prop := 0 ≤ l.toInt ∧ l.toInt < (mI h 3 1).toInt
theorem v_hasLook {g : gT} {h : mh_T} {P : Int32 → mh_T → Prop} (l : Int32) (h1 : LKc h l → P 1 h) (h0 : ¬ LKc h l → P 0 h) : MCi g yX8_hasLook uX8_hasLook [.ref 3, .int l] h P := by
  refine e_X8_hasLook l ⟨fun c => h0 (fun y => ?_), fun c => ⟨fun c2 => h0 (fun y => ?_), fun c2 => h1 ⟨?_, ?_⟩⟩⟩
  · have c := i_lt.mp c
    rw [i_0] at c
    have := y.1
    omega
  · have c2 := i_le.mp c2
    have := y.2
    omega
  · have c : ¬ l.toInt < (0 : Int32).toInt := fun z => c (i_lt.mpr z)
    rw [i_0] at c
    omega
  · exact i_lt.mp (nle c2)
theorem v_hasSet {g : gT} {h : mh_T} {P : Int32 → mh_T → Prop} (l : Int32) (h1 : SEb (tC h) l → P 1 h) (h0 : ¬ SEb (tC h) l → P 0 h) : MCi g yX8_hasSet uX8_hasSet [.ref 3, .int l] h P := by
  have e0 : (tC h 0).toInt = (mI h 3 2).toInt := rfl
  refine e_X8_hasSet l ⟨fun c => h0 (fun y => ?_), fun c => ⟨fun c2 => h0 (fun y => ?_), fun c2 => h1 ⟨?_, ?_⟩⟩⟩
  · have c := i_lt.mp c
    rw [i_0] at c
    have := y.1
    omega
  · have c2 := i_le.mp c2
    have := y.2
    omega
  · have c : ¬ l.toInt < (0 : Int32).toInt := fun z => c (i_lt.mpr z)
    rw [i_0] at c
    omega
  · exact i_lt.mp (nle c2)
theorem v_outcomesC {g : gT} {h : mh_T} {P : Int32 → mh_T → Prop} (l : Int32) (s : Nat) (es : l.toInt = (s : Int)) (tz : TZ (tC h)) (hs : s < sn (tC h)) (h1 : ∀ v : Int32, v.toInt = (ocs (tC h) s : Int) → P v h) : MCi g yX8_outcomes uX8_outcomes [.ref 3, .int l] h P := by
  have n8 : sn (tC h) ≤ 8 := by unfold sn; have := tz.2.1; omega
  refine e_X8_outcomes l ⟨i_vp es (by omega), ?_⟩
  rw [i_nat es, ← tC_9 h (by omega)]
  refine ⟨fun z => h1 4 ?_, fun z => h1 2 ?_⟩
  · have z := i_le.mp z
    rw [i_0] at z
    unfold ocs
    rw [if_neg (fun y => by rw [y] at z; exact absurd z (by decide))]
    rfl
  · unfold ocs
    rw [if_pos]
    · rfl
    · rcases (tz.2.2 s hs).1 with w | w
      · exact w.1
      · exact absurd (i_le.mpr (by rw [i_0]; exact w)) z
theorem v_hasOutcome {g : gT} {h : mh_T} {P : Int32 → mh_T → Prop} (l o : Int32) (tz : TZ (tC h)) (h1 : OCb (tC h) l o → P 1 h) (h0 : ¬ OCb (tC h) l o → P 0 h) : MCi g yX8_hasOutcome uX8_hasOutcome [.ref 3, .int l, .int o] h P := by
  refine e_X8_hasOutcome l o (v_hasSet l (fun q => ⟨fun z => absurd z (by decide), fun _ => ⟨fun c => h0 (fun y => ?_), fun c => ?_⟩⟩) (fun q => ⟨fun _ => h0 (fun y => q y.1), fun z => absurd rfl z⟩))
  · have c := i_lt.mp c
    rw [i_0] at c
    have := y.2.1
    omega
  · have c : ¬ o.toInt < (0 : Int32).toInt := fun z => c (i_lt.mpr z)
    rw [i_0] at c
    have q1 := q.1
    have q2 := q.2
    refine v_outcomesC l l.toInt.toNat (by omega) tz (by unfold sn; omega) (fun v ev => ⟨fun c2 => h0 (fun y => ?_), fun c2 => h1 ⟨q, by omega, ?_⟩⟩)
    · have c2 := i_le.mp c2
      have := y.2.2
      omega
    · have c2 := i_lt.mp (nle c2)
      omega
theorem v_isLookedAt {g : gT} {h : mh_T} {P : Int32 → mh_T → Prop} (l1 : Int32) (tz : TZ (tC h)) (h1 : LA (tC h) l1 → P 1 h) (h0 : ¬ LA (tC h) l1 → P 0 h) : MCi g yX8_isLookedAt uX8_isLookedAt [.ref 3, .int l1] h P := by
  have n8 : sn (tC h) ≤ 8 := by unfold sn; have := tz.2.1; omega
  have en : (mI h 3 2).toInt = (sn (tC h) : Int) := by show (tC h 0).toInt = _; unfold sn; have := tz.1; omega
  have L : ∀ (n : Nat) (l2 : Int32) (s : Nat), l2.toInt = (s : Int) → s ≤ sn (tC h) → sn (tC h) - s < n → (∀ q, q < s → ¬ (tC h (1 + q) = l1 ∨ tC h (9 + q) = l1)) → ME g uX8_isLookedAt 2 [.ref 3, .int l1, .int l2] [] h (qI P) := by
    intro n
    induction n with
    | zero => intro l2 s _ _ hn; exact absurd hn (Nat.not_lt_zero _)
    | succ n ih =>
      intro l2 s es hs hn hz
      refine r_X8_isLookedAt_2 l1 l2 ⟨fun c => h0 (fun y => ?_), fun c => ?_⟩
      · have c := i_le.mp c
        obtain ⟨q, q1, q2⟩ := y
        exact hz q (by omega) q2
      · have c := i_lt.mp (nle c)
        rw [en, es] at c
        have s8 : s < 8 := by omega
        rw [i_nat es, ← tC_1 h s8, ← tC_9 h s8]
        refine ⟨i_vp es s8, fun y => h1 ⟨s, by omega, Or.inl y⟩, fun y => ⟨i_vp es s8, fun w => ih (l2 + 1) (s + 1) (i_inc es (by omega)) (by omega) (by omega) (fun q hq => ?_), fun w => h1 ⟨s, by omega, Or.inr w⟩⟩⟩
        by_cases e : q = s
        · subst e
          exact fun v => v.elim y w
        · exact hz q (by omega)
  exact e_X8_isLookedAt l1 (L 9 0 0 (by decide) (Nat.zero_le _) (by omega) (fun q hq => absurd hq (Nat.not_lt_zero _)))
abbrev msK : List Nat := [0, 3, 10, 24, 25, 26, 27, 40, 41, 302]
theorem Ok_0 {h0 h : mh_T} {v : Int32} {ms : List Nat} (ok : Ok ms h0 h) (hm : 0 ∈ ms) : Ok ms h0 (wI h 0 11 v) := Ok_w ok (k := 0) (j := 11) (lo := -2147483648) (hi := 2147483647) rfl (R_full _) (Or.inl ⟨hm, by decide⟩) (by decide)
theorem v_denied {g : gT} {h : mh_T} {P : Int32 → mh_T → Prop} (l : Int32) (hG : GI h) (hp : ∀ h', Ok [0] h h' → P 0 h') : MCi g yX10_denied uX10_denied [.ref 0, .int l] h (fun r h' => (r = 0 ∨ r = 1) ∧ P r h') := e_X10_denied l ⟨Or.inl rfl, hp _ (Ok_0 (Ok_rf hG) (by decide))⟩
theorem HC_ok {u : Nat} {a : Nat → Int32} {h h1 h2 : mh_T} (hc : HC u a h h1) (ok : Ok [0, 3, 24, 25, 26, 27] h1 h2) : HC u a h h2 := by
  obtain ⟨c1, c2, c3, c4, c5, c6, c7⟩ := hc
  have e10 : ∀ j, mI h2 10 j = mI h1 10 j := fun j => congrFun (OkC ok (k := 10) (by decide)) j
  have e40 : h2.2.2 40 = h1.2.2 40 := (ok.2.1 40 (by decide) (by decide)).2.2
  have e41 : h2.2.2 41 = h1.2.2 41 := (ok.2.1 41 (by decide) (by decide)).2.2
  have h62 := Ok_62 ok (by decide)
  refine ⟨by rw [e10]; exact c1, by rw [e10, e10]; exact c2, by rw [e10]; exact c3, RI_cg e40 e41 c4, fun i j hi hj => ?_, fun i j hi hj => ?_, fun k hk => (h62 k (by omega)).trans (c7 k hk)⟩
  · have e : mR h2 41 i = mR h1 41 i := congrFun e41 i
    have := (c4.1 i (by omega)).1
    show h2.1 (mR h2 41 i) j = _
    rw [e, h62 _ (by omega)]
    exact c5 i j hi hj
  · have e : mR h2 40 i = mR h1 40 i := congrFun e40 i
    have g := sh5 (show shp (mR h1 40 i) = (20, 5, []) by rw [← e]; exact ok.1.2.1 i hi)
    show h2.1 (mR h2 40 i) j = _
    rw [e, h62 _ (by omega)]
    exact c6 i j hi hj
/-- an act: begin, what it does to the table, done -/
theorem v_actC {g : gT} {h : mh_T} {P : Int32 → mh_T → Prop} {rel : (Nat → Int32) → (Nat → Int32) → (Nat → Int32) → (Nat → Int32) → Prop} (u : Nat) (a : Nat → Int32) {h1 h2 : mh_T} (k1 : Ok [10, 40, 41, 302] h h1) (hc : HC u a h h1) (k2 : Ok [3, 24, 25, 26, 27] h1 h2) (rl : rel (tC h1) (h1.1 27) (tC h2) (h2.1 27)) (hp : ∀ h', Ok msK h h' → rel (tC h) (h.1 27) (tC h') (h'.1 27) → HC u a h h' → P 1 h') : MCi g yX10_done uX10_done [.ref 0] h2 (fun r h' => (r = 0 ∨ r = 1) ∧ P r h') := by
  have o2 : Ok msK h h2 := Ok_tr (Ok_mono k1 (by decide)) k2 (by decide)
  refine e_X10_done ⟨Or.inr rfl, hp _ (Ok_0 o2 (by decide)) ?_ (HC_ok hc (Ok_0 (Ok_mono k2 (by decide)) (by decide)))⟩
  rw [tC_wo _ _ _ _ (by decide), wI_o (by decide)]
  rw [tC_ok k1 (by decide), OkC k1 (k := 27) (by decide)] at rl
  exact rl
theorem v_X10_flip {g : gT} {h : mh_T} {P : Int32 → mh_T → Prop} (l1 : Int32) (u : Nat) (eu : (mI h 10 0).toInt = (u : Int)) (hG : GI h) (ri : RI h) (tz : TZ (tC h)) (h0 : ¬ LKc h l1 → ∀ h', Ok [0] h h' → P 0 h') (hp : LKc h l1 → ∀ h', Ok msK h h' → flp l1 (tC h) (h.1 27) (tC h') (h'.1 27) → HC u (ac5 0 l1 (-2) (-2) (-2)) h h' → P 1 h') : MCi g yX10_flip uX10_flip [.ref 0, .int l1] h P :=
  e_X10_flip l1 (v_hasLook l1 (fun q => ⟨fun _ => v_begin 0 l1 u eu hG ri (fun h1 k1 hc => v_X8_turn l1 k1.1 (by rw [tC_ok k1 (by decide)]; exact tz) (fun h2 k2 fl => v_actC (rel := flp l1) u _ k1 hc (Ok_mono k2 (by decide)) fl (hp q))), fun z => absurd z (by decide)⟩) (fun q => ⟨fun z => absurd rfl z, fun _ => v_denied 1 hG (h0 q)⟩))
theorem v_X10_drop {g : gT} {h : mh_T} {P : Int32 → mh_T → Prop} (l1 : Int32) (u : Nat) (eu : (mI h 10 0).toInt = (u : Int)) (hG : GI h) (ri : RI h) (h0 : ¬ SEb (tC h) l1 → ∀ h', Ok [0] h h' → P 0 h') (hp : SEb (tC h) l1 → ∀ h', Ok msK h h' → drp l1.toInt.toNat (tC h) (h.1 27) (tC h') (h'.1 27) → HC u (ac5 1 l1 (-2) (-2) (-2)) h h' → P 1 h') : MCi g yX10_drop uX10_drop [.ref 0, .int l1] h P :=
  e_X10_drop l1 (v_hasSet l1 (fun q => ⟨fun _ => v_begin 1 l1 u eu hG ri (fun h1 k1 hc => v_remove l1 l1.toInt.toNat (by have := q.1; omega) (by rw [tC_ok k1 (by decide)]; unfold sn; have := q.1; have := q.2; omega) k1.1 (fun h2 k2 fl => v_actC (rel := drp l1.toInt.toNat) u _ k1 hc k2 fl (hp q))), fun z => absurd z (by decide)⟩) (fun q => ⟨fun z => absurd rfl z, fun _ => v_denied 1 hG (h0 q)⟩))
theorem v_X10_forget {g : gT} {h : mh_T} {P : Int32 → mh_T → Prop} (l1 : Int32) (u : Nat) (eu : (mI h 10 0).toInt = (u : Int)) (hG : GI h) (ri : RI h) (tz : TZ (tC h)) (h0 : ¬ (LKc h l1 ∧ LA (tC h) l1) → ∀ h', Ok [0] h h' → P 0 h') (hp : LKc h l1 → LA (tC h) l1 → ∀ h', Ok msK h h' → fgt l1 (sn (tC h)) (tC h) (h.1 27) (tC h') (h'.1 27) → HC u (ac5 2 l1 (-2) (-2) (-2)) h h' → P 1 h') : MCi g yX10_forget uX10_forget [.ref 0, .int l1] h P :=
  e_X10_forget l1 (v_hasLook l1 (fun q => ⟨fun _ => v_isLookedAt l1 tz (fun la => ⟨fun _ => v_begin 2 l1 u eu hG ri (fun h1 k1 hc => v_X8_merge l1 k1.1 (by rw [tC_ok k1 (by decide)]; exact tz) (fun h2 k2 fl => v_actC (rel := fgt l1 (sn (tC h))) u _ k1 hc k2 (by rw [tC_ok k1 (by decide)] at fl ⊢; exact fl) (hp q la))), fun z => absurd z (by decide)⟩) (fun la => ⟨fun z => absurd rfl z, fun _ => v_denied 5 hG (h0 (fun y => la y.2))⟩), fun z => absurd z (by decide)⟩) (fun q => ⟨fun z => absurd rfl z, fun _ => v_denied 1 hG (h0 (fun y => q y.1))⟩))
theorem v_tellMove {g : gT} {h h1 : mh_T} {P : mh_T → Prop} (l2 l3 l4 k w : Int32) (u : Nat) (u20 : u ≤ 20) (k1 : Ok [10, 40, 41, 302] h h1) (hc : HC u (ac5 k w (-2) (-2) (-2)) h h1) (hp : ∀ h', Ok [10, 40, 41, 302] h h' → HC u (ac5 k w l2 l3 l4) h h' → P h') : MCv g yX4_tellMove uX4_tellMove [.ref 10, .int l2, .int l3, .int l4] h1 P := by
  obtain ⟨c1, c2, c3, c4, c5, c6, c7⟩ := hc
  have em : ∃ m : Nat, (mI h1 10 0).toInt = (m : Int) + 1 ∧ m < 20 ∧ (m = if u = 20 then 19 else u) := by
    by_cases e : u = 20
    · rw [if_pos e] at c1
      exact ⟨19, by rw [c1]; decide, by decide, by rw [if_pos e]⟩
    · rw [if_neg e] at c1
      exact ⟨u, c1, by omega, by rw [if_neg e]⟩
  obtain ⟨m, em, m20, emu⟩ := em
  have ed : (mI h1 10 0 - 1).toInt = (m : Int) := by
    rw [ti_sub1 (x := mI h1 10 0) (hi := 20) ⟨by omega, by omega⟩ (by decide)]
    omega
  refine e_X4_tellMove l2 l3 l4 ⟨fun c => ?_, fun c => ?_⟩
  · have c := i_le.mp c
    rw [i_0] at c
    omega
  · have sa := k1.1.2.1 m m20
    have ga := sh5 sa
    have z2 : Int32.toNatClampNeg 2 = 2 := by decide
    have z3 : Int32.toNatClampNeg 3 = 3 := by decide
    have z4 : Int32.toNatClampNeg 4 = 4 := by decide
    rw [i_nat ed, z2, z3, z4]
    have wk : ∀ {h2 : mh_T} (j : Nat) (v : Int32), Ok [10, 40, 41, 302] h h2 → Ok [10, 40, 41, 302] h (wI h2 (mR h1 40 m) j v) := fun j v o => Ok_w o (k := mR h1 40 m) (j := j) (v := v) (rg_5 sa _) (R_full _) (Or.inr ⟨ge_5 sa, by decide⟩) (nt_5 sa)
    have eo : ∀ k, ¬ k = mR h1 40 m → (wI (wI (wI h1 (mR h1 40 m) 2 l2) (mR h1 40 m) 3 l3) (mR h1 40 m) 4 l4).1 k = h1.1 k := fun k hk => by rw [wI_o hk, wI_o hk, wI_o hk]
    refine ⟨i_vp ed (by omega), sa, by unfold vp_in; decide, by unfold vp_in; decide, by unfold vp_in; decide, hp _ (wk _ _ (wk _ _ (wk _ _ k1))) ⟨?_, ?_, ?_, c4, fun i j hi hj => ?_, fun i j hi hj => ?_, fun k hk => (eo k (by omega)).trans (c7 k hk)⟩⟩
    · rw [show mI (wI (wI (wI h1 (mR h1 40 m) 2 l2) (mR h1 40 m) 3 l3) (mR h1 40 m) 4 l4) 10 0 = mI h1 10 0 from congrFun (eo 10 (by omega)) 0]; exact c1
    · rw [show mI (wI (wI (wI h1 (mR h1 40 m) 2 l2) (mR h1 40 m) 3 l3) (mR h1 40 m) 4 l4) 10 0 = mI h1 10 0 from congrFun (eo 10 (by omega)) 0, show mI (wI (wI (wI h1 (mR h1 40 m) 2 l2) (mR h1 40 m) 3 l3) (mR h1 40 m) 4 l4) 10 1 = mI h1 10 1 from congrFun (eo 10 (by omega)) 1]; exact c2
    · rw [show mI (wI (wI (wI h1 (mR h1 40 m) 2 l2) (mR h1 40 m) 3 l3) (mR h1 40 m) 4 l4) 10 2 = mI h1 10 2 from congrFun (eo 10 (by omega)) 2]; exact c3
    · have := (c4.1 i (by omega)).1
      show (wI (wI (wI h1 (mR h1 40 m) 2 l2) (mR h1 40 m) 3 l3) (mR h1 40 m) 4 l4).1 (mR h1 41 i) j = _
      rw [eo _ (by omega)]
      exact c5 i j hi hj
    · show (wI (wI (wI h1 (mR h1 40 m) 2 l2) (mR h1 40 m) 3 l3) (mR h1 40 m) 4 l4).1 (mR h1 40 i) j = _
      have c6' := c6 i j hi hj
      by_cases e : i = m
      · subst e
        rw [wI_i, wI_i, wI_i, show h1.1 (mR h1 40 i) j = _ from c6']
        have pe : ∀ (f : Nat → Nat → Int32) (x : Nat → Int32), psh u f x i = x := fun f x => by
          unfold psh
          by_cases e : u = 20
          · rw [if_pos e] at emu
            rw [if_pos e, if_neg (by omega), if_pos emu]
          · rw [if_neg e] at emu
            rw [if_neg e, if_pos emu]
        rw [pe, pe]
        unfold ac5
        have : j = 0 ∨ j = 1 ∨ j = 2 ∨ j = 3 ∨ j = 4 := by omega
        rcases this with z | z | z | z | z <;> subst z <;> rfl
      · rw [eo _ (fun z => e (c4.2.2 i m hi m20 z)), show h1.1 (mR h1 40 i) j = _ from c6']
        unfold psh
        by_cases q : u = 20
        · rw [if_pos q] at emu
          rw [if_pos q, if_pos q, if_pos (by omega), if_pos (by omega)]
        · rw [if_neg q] at emu
          rw [if_neg q, if_neg q, if_neg (by omega), if_neg (by omega)]
/-- SHIFT's conditions -/
def SHc (a : Nat → Int32) (l1 l2 l3 l4 : Int32) : Prop := OCb a l1 l2 ∧ OCb a l1 l3 ∧ ¬ l2 = l3 ∧ 1 ≤ l4.toInt ∧ l4.toInt ≤ 60 ∧ l4.toInt ≤ (a (17 + 4 * l1.toInt.toNat + l2.toInt.toNat)).toInt
theorem ocs_le (a : Nat → Int32) (s : Nat) : ocs a s ≤ 4 := by unfold ocs; split <;> omega
theorem OC_n {a : Nat → Int32} {l o : Int32} (q : OCb a l o) (h8 : (a 0).toInt ≤ 8) : l.toInt = (l.toInt.toNat : Int) ∧ l.toInt.toNat < 8 ∧ o.toInt = (o.toInt.toNat : Int) ∧ o.toInt.toNat < 4 ∧ l.toInt.toNat < sn a := by
  obtain ⟨⟨q1, q2⟩, q3, q4⟩ := q
  have := ocs_le a l.toInt.toNat
  unfold sn
  omega
set_option maxRecDepth 100000 in
set_option maxHeartbeats 4000000 in
theorem v_X10_shift {g : gT} {h : mh_T} {P : Int32 → mh_T → Prop} (l1 l2 l3 l4 : Int32) (u : Nat) (eu : (mI h 10 0).toInt = (u : Int)) (hG : GI h) (ri : RI h) (tz : TZ (tC h)) (h0 : ¬ SHc (tC h) l1 l2 l3 l4 → ∀ h', Ok [0] h h' → P 0 h') (hp : SHc (tC h) l1 l2 l3 l4 → ∀ h', Ok msK h h' → shf l1.toInt.toNat l2.toInt.toNat l3.toInt.toNat l4 (tC h) (h.1 27) (tC h') (h'.1 27) → HC u (ac5 3 l1 l2 l3 l4) h h' → P 1 h') : MCi g yX10_shift uX10_shift [.ref 0, .int l1, .int l2, .int l3, .int l4] h P := by
  have z1 : (1 : Int32).toInt = 1 := by decide
  have z60 : (60 : Int32).toInt = 60 := by decide
  have f0 : R 0 20 (mI h 10 0) := GI_rd hG 10 0 rfl
  refine e_X10_shift l1 l2 l3 l4 (v_hasOutcome l1 l2 tz (fun q => ⟨fun z => absurd z (by decide), fun _ => v_hasOutcome l1 l3 tz (fun q2 => ⟨fun z => absurd z (by decide), fun _ => ⟨fun ne => ⟨fun c => v_denied 2 hG (h0 (fun y => ?_)), fun c => ⟨fun c2 => ?_, fun c2 => v_denied 2 hG (h0 (fun y => ?_))⟩⟩, fun e => v_denied 1 hG (h0 (fun y => y.2.2.1 e))⟩⟩) (fun q2 => ⟨fun _ => v_denied 1 hG (h0 (fun y => q2 y.2.1)), fun z => absurd rfl z⟩)⟩) (fun q => ⟨fun _ => v_denied 1 hG (h0 (fun y => q y.1)), fun z => absurd rfl z⟩))
  · have c := i_lt.mp c
    have := y.2.2.2.1
    omega
  · have c1 : ¬ l4.toInt < (1 : Int32).toInt := fun z => c (i_lt.mpr z)
    have c2 := i_le.mp c2
    obtain ⟨e1, s8, e2, o4, sl⟩ := OC_n q tz.2.1
    obtain ⟨-, -, e3, p4, -⟩ := OC_n q2 tz.2.1
    have ia : ((4 * l1) + l2).toInt = ((4 * l1.toInt.toNat + l2.toInt.toNat : Nat) : Int) := by rw [i_add (i_4s e1 s8) e2 (by omega)]; omega
    have ib : ((4 * l1) + l3).toInt = ((4 * l1.toInt.toNat + l3.toInt.toNat : Nat) : Int) := by rw [i_add (i_4s e1 s8) e3 (by omega)]; omega
    have nop : ¬ l2.toInt.toNat = l3.toInt.toNat := fun z => ne (Int32.toInt_inj.mp (by rw [e2, e3, z]))
    have ec : mI h 26 (4 * l1.toInt.toNat + l2.toInt.toNat) = tC h (17 + 4 * l1.toInt.toNat + l2.toInt.toNat) := by rw [show 17 + 4 * l1.toInt.toNat + l2.toInt.toNat = 17 + (4 * l1.toInt.toNat + l2.toInt.toNat) by omega, tC_17]
    have e26 : mI h 26 ((4 * l1) + l2).toNatClampNeg = tC h (17 + 4 * l1.toInt.toNat + l2.toInt.toNat) := by rw [i_nat ia, ec]
    rw [e26]
    refine ⟨i_vp ia (by omega), fun c3 => ?_, fun c3 => v_denied 5 hG (h0 (fun y => c3 (i_le.mpr y.2.2.2.2.2)))⟩
    have sc : SHc (tC h) l1 l2 l3 l4 := ⟨q, q2, ne, by omega, by omega, i_le.mp c3⟩
    refine v_begin 3 l1 u eu hG ri (fun h1 k1 hc => v_tellMove l2 l3 l4 3 l1 u (by have := f0.2; omega) k1 hc (fun h2 k2 hc2 => e_X8_move _ _ l4 ⟨i_vp ia (by omega), i_vp ia (by omega), i_vp ib (by omega), i_vp ib (by omega), ?_⟩))
    rw [i_nat ia, i_nat ib]
    have o1 := Ok_w (Ok_w (Ok_w (Ok_rf (ms := [3, 24, 25, 26, 27]) k2.1) (k := 26) (j := 4 * l1.toInt.toNat + l2.toInt.toNat) (v := mI h2 26 (4 * l1.toInt.toNat + l2.toInt.toNat) - l4) (rgc_26 _) (R_full _) (by decide) (nt_k (by decide))) (k := 26) (j := 4 * l1.toInt.toNat + l3.toInt.toNat) (v := mI (wI h2 26 (4 * l1.toInt.toNat + l2.toInt.toNat) (mI h2 26 (4 * l1.toInt.toNat + l2.toInt.toNat) - l4)) 26 (4 * l1.toInt.toNat + l3.toInt.toNat) + l4) (rgc_26 _) (R_full _) (by decide) (nt_k (by decide))) (k := 3) (j := 3) (v := mI (wI (wI h2 26 (4 * l1.toInt.toNat + l2.toInt.toNat) (mI h2 26 (4 * l1.toInt.toNat + l2.toInt.toNat) - l4)) 26 (4 * l1.toInt.toNat + l3.toInt.toNat) (mI (wI h2 26 (4 * l1.toInt.toNat + l2.toInt.toNat) (mI h2 26 (4 * l1.toInt.toNat + l2.toInt.toNat) - l4)) 26 (4 * l1.toInt.toNat + l3.toInt.toNat) + l4)) 3 3 + 1) (lo := -2147483648) (hi := 2147483647) rfl (R_full _) (by decide) (by decide)
    refine v_actC (rel := shf l1.toInt.toNat l2.toInt.toNat l3.toInt.toNat l4) u _ k2 hc2 o1 ?_ (hp sc)
    rw [tC_wo _ _ _ _ (by decide), wI_o (by decide), wI_o (by decide), wI_o (by decide)]
    have tv : ∀ j, tC (wI (wI h2 26 (4 * l1.toInt.toNat + l2.toInt.toNat) (mI h2 26 (4 * l1.toInt.toNat + l2.toInt.toNat) - l4)) 26 (4 * l1.toInt.toNat + l3.toInt.toNat) (mI (wI h2 26 (4 * l1.toInt.toNat + l2.toInt.toNat) (mI h2 26 (4 * l1.toInt.toNat + l2.toInt.toNat) - l4)) 26 (4 * l1.toInt.toNat + l3.toInt.toNat) + l4)) j = if j = 17 + (4 * l1.toInt.toNat + l3.toInt.toNat) then tC h2 j + l4 else if j = 17 + (4 * l1.toInt.toNat + l2.toInt.toNat) then tC h2 j - l4 else tC h2 j := fun j => by
      rw [tC_w26, tC_w26]
      by_cases w : j = 17 + (4 * l1.toInt.toNat + l3.toInt.toNat)
      · rw [if_pos w, if_pos w, w, tC_17, mI_wI, if_neg (by omega)]
      · rw [if_neg w, if_neg w]
        by_cases w2 : j = 17 + (4 * l1.toInt.toNat + l2.toInt.toNat)
        · rw [if_pos w2, if_pos w2, w2, tC_17]
        · rw [if_neg w2, if_neg w2]
    refine ⟨by rw [tv, if_neg (by omega), if_neg (by omega)], fun s hs => ⟨⟨by rw [tv, if_neg (by have : sn (tC h2) ≤ 8 := (by have f := GI_rd k2.1 3 2 (lo := 0) (hi := 8) rfl; unfold sn; have := f.2; show (mI h2 3 2).toInt.toNat ≤ 8; omega); omega), if_neg (by have : sn (tC h2) ≤ 8 := (by have f := GI_rd k2.1 3 2 (lo := 0) (hi := 8) rfl; unfold sn; have := f.2; show (mI h2 3 2).toInt.toNat ≤ 8; omega); omega)], by rw [tv, if_neg (by have : sn (tC h2) ≤ 8 := (by have f := GI_rd k2.1 3 2 (lo := 0) (hi := 8) rfl; unfold sn; have := f.2; show (mI h2 3 2).toInt.toNat ≤ 8; omega); omega), if_neg (by have : sn (tC h2) ≤ 8 := (by have f := GI_rd k2.1 3 2 (lo := 0) (hi := 8) rfl; unfold sn; have := f.2; show (mI h2 3 2).toInt.toNat ≤ 8; omega); omega)]⟩, fun _ _ => rfl, fun i hi => ?_⟩⟩
    rw [tv]
    by_cases w : s = l1.toInt.toNat ∧ i = l2.toInt.toNat
    · rw [if_pos w, if_neg (by omega), if_pos (by omega)]
    · rw [if_neg w]
      by_cases w2 : s = l1.toInt.toNat ∧ i = l3.toInt.toNat
      · rw [if_pos w2, if_pos (by omega)]
      · rw [if_neg w2, if_neg (by omega), if_neg (by omega)]
  · have c2 := i_lt.mp (nle c2)
    have := y.2.2.2.2.1
    omega
/-- STAKE -/
def SKc (a : Nat → Int32) (l1 l2 l3 : Int32) : Prop := OCb a l1 l2 ∧ 0 ≤ l3.toInt ∧ l3.toInt ≤ 99
theorem v_X10_stake {g : gT} {h : mh_T} {P : Int32 → mh_T → Prop} (l1 l2 l3 : Int32) (hG : GI h) (tz : TZ (tC h)) (h0 : ¬ SKc (tC h) l1 l2 l3 → ∀ h', Ok [0] h h' → P 0 h') (hp : SKc (tC h) l1 l2 l3 → ∀ h', Ok [0, 27] h h' → (∀ j, h'.1 27 j = if j = 4 * l1.toInt.toNat + l2.toInt.toNat then l3 else h.1 27 j) → P 1 h') : MCi g yX10_stake uX10_stake [.ref 0, .int l1, .int l2, .int l3] h P := by
  have z99 : (99 : Int32).toInt = 99 := by decide
  refine e_X10_stake l1 l2 l3 (v_hasOutcome l1 l2 tz (fun q => ⟨fun _ => ⟨fun c => v_denied 2 hG (h0 (fun y => ?_)), fun c => ⟨fun c2 => ?_, fun c2 => v_denied 2 hG (h0 (fun y => ?_))⟩⟩, fun z => absurd z (by decide)⟩) (fun q => ⟨fun z => absurd rfl z, fun _ => v_denied 1 hG (h0 (fun y => q y.1))⟩))
  · have c := i_lt.mp c
    rw [i_0] at c
    have := y.2.1
    omega
  · have c1 : ¬ l3.toInt < (0 : Int32).toInt := fun z => c (i_lt.mpr z)
    rw [i_0] at c1
    have c2 := i_le.mp c2
    obtain ⟨e1, s8, e2, o4, sl⟩ := OC_n q tz.2.1
    have ia : ((4 * l1) + l2).toInt = ((4 * l1.toInt.toNat + l2.toInt.toNat : Nat) : Int) := by rw [i_add (i_4s e1 s8) e2 (by omega)]; omega
    rw [i_nat ia]
    refine ⟨i_vp ia (by omega), e_X10_done ⟨Or.inr rfl, hp ⟨q, by omega, by omega⟩ _ (Ok_0 (Ok_w (Ok_rf hG) (k := 27) (rgc_27 _) (R_full _) (by decide) (nt_k (by decide))) (by decide)) (fun j => ?_)⟩⟩
    rw [wI_o (by decide), wI_i]
  · have c2 := i_lt.mp (nle c2)
    have := y.2.2
    omega
/-! SHIFT, STAKE, UNDO, REDO, MARK, BACK of the reference -/
set_option maxRecDepth 100000 in
set_option maxHeartbeats 4000000 in
theorem v_X11_shift {g : gT} {h : mh_T} {P : Int32 → mh_T → Prop} (l1 l2 l3 l4 : Int32) (u : Nat) (eu : (mI h 11 24).toInt = (u : Int)) (hG : GI h) (hI : TVs h) (hB : NB h) (tz : TZ (h.1 45)) (h0 : ¬ SHc (h.1 45) l1 l2 l3 l4 → ∀ h', Ok [300, 11] h h' → P 0 h') (hp : SHc (h.1 45) l1 l2 l3 l4 → ∀ h', Ok msR h h' → TVs h' → shf l1.toInt.toNat l2.toInt.toNat l3.toInt.toNat l4 (h.1 45) (h.1 47) (h'.1 45) (h'.1 47) → HD u (ac5 3 l1 l2 l3 l4) h h' → P 1 h') : MCi g yX11_shift uX11_shift [.ref 11, .int l1, .int l2, .int l3, .int l4] h P := by
  have z1 : (1 : Int32).toInt = 1 := by decide
  have z60 : (60 : Int32).toInt = 60 := by decide
  refine e_X11_shift l1 l2 l3 l4 (v_good hG (fun h1 k1 => ?_))
  have e45 : h1.1 45 = h.1 45 := OkC k1 (by decide)
  have nb := NB_ok k1 (by decide) hB
  rw [← e45] at h0 hp tz
  have no : ∀ l : Int32, ¬ l = 4 → ¬ SHc (h1.1 45) l1 l2 l3 l4 → MCi g yX11_isNot uX11_isNot [.ref 11, .int l] h1 (fun r h' => (r = 0 ∨ r = 1) ∧ P r h') := fun l hl q => v_isNot l hl k1 (h0 q)
  refine v_isOutcome l1 l2 k1.1 nb (fun q => ⟨fun z => absurd z (by decide), fun _ => v_isOutcome l1 l3 k1.1 nb (fun q2 => ⟨fun z => absurd z (by decide), fun _ => ⟨fun ne => b_within l4 1 60 (fun w => ⟨fun _ => ?_, fun z => absurd z (by decide)⟩) (fun w => ⟨fun z => absurd rfl z, fun _ => no 2 (by decide) (fun y => w ?_)⟩), fun e => no 1 (by decide) (fun y => y.2.2.1 e)⟩⟩) (fun q2 => ⟨fun _ => no 1 (by decide) (fun y => q2 y.2.1), fun z => absurd rfl z⟩)⟩) (fun q => ⟨fun _ => no 1 (by decide) (fun y => q y.1), fun z => absurd rfl z⟩)
  · rw [i_le, i_le, z1, z60] at w
    obtain ⟨e1, s8, e2, o4, sl⟩ := OC_n q tz.2.1
    obtain ⟨-, -, e3, p4, -⟩ := OC_n q2 tz.2.1
    have ia := i_17 e1 s8 e2 o4
    have ib := i_17 e1 s8 e3 p4
    have va : vp_in ((17 + (4 * l1)) + l2) 346 := i_vp ia (by omega)
    have vb : vp_in ((17 + (4 * l1)) + l3) 346 := i_vp ib (by omega)
    have nop : ¬ l2.toInt.toNat = l3.toInt.toNat := fun z => ne (Int32.toInt_inj.mp (by rw [e2, e3, z]))
    rw [i_nat ia, i_nat ib]
    refine ⟨va, fun le => ?_, fun nl => no 5 (by decide) (fun y => nl (i_le.mpr y.2.2.2.2.2))⟩
    have sc : SHc (h1.1 45) l1 l2 l3 l4 := ⟨q, q2, ne, by omega, by omega, i_le.mp le⟩
    refine v_was k1.1 (TVs_ok hI k1 (by decide)) (fun h2 k2 t2 e48 => ⟨va, va, vb, vb, ?_⟩)
    have e45' : h2.1 45 = h1.1 45 := OkC k2 (k := 45) (by decide)
    have e47' : h2.1 47 = h.1 47 := by rw [OkC k2 (k := 47) (by decide), OkC k1 (k := 47) (by decide)]
    generalize l1.toInt.toNat = s at *
    generalize l2.toInt.toNat = o at *
    generalize l3.toInt.toNat = p at *
    have le : l4.toInt ≤ (h2.1 45 (17 + 4 * s + o)).toInt := by rw [e45']; exact i_le.mp le
    have tA := TQ_at t2.1 (s := s) (o := o) (by omega) (by omega)
    have tB := TQ_at t2.1 (s := s) (o := p) (by omega) (by omega)
    unfold tx_tm at tA tB
    have w1 : ((mI h2 45 (17 + 4 * s + o)) - l4).toInt = (h2.1 45 (17 + 4 * s + o)).toInt - l4.toInt := i_sub (x := mI h2 45 (17 + 4 * s + o)) rfl rfl (by show -2147483648 ≤ (h2.1 45 (17 + 4 * s + o)).toInt - l4.toInt ∧ (h2.1 45 (17 + 4 * s + o)).toInt - l4.toInt ≤ 2147483647; omega)
    rw [show mI (wI h2 45 (17 + 4 * s + o) ((mI h2 45 (17 + 4 * s + o)) - l4)) 45 (17 + 4 * s + p) = mI h2 45 (17 + 4 * s + p) by rw [mI_wI, if_neg (fun z => by have := z.2; omega)]]
    have w2 : ((mI h2 45 (17 + 4 * s + p)) + l4).toInt = (h2.1 45 (17 + 4 * s + p)).toInt + l4.toInt := i_add (x := mI h2 45 (17 + 4 * s + p)) rfl rfl (by show -2147483648 ≤ (h2.1 45 (17 + 4 * s + p)).toInt + l4.toInt ∧ (h2.1 45 (17 + 4 * s + p)).toInt + l4.toInt ≤ 2147483647; omega)
    have o3 := Ok_w (Ok_rf (ms := [45, 47]) k2.1) (k := 45) (j := 17 + 4 * s + o) (v := (mI h2 45 (17 + 4 * s + o)) - l4) (lo := -2147483648) (hi := 2147483647) (rgg_45_0 (by omega) (by omega)) (R_full _) (by decide) (nt_c (by decide) (fun _ => by omega))
    have o4' := Ok_w o3 (k := 45) (j := 17 + 4 * s + p) (v := (mI h2 45 (17 + 4 * s + p)) + l4) (lo := -2147483648) (hi := 2147483647) (rgg_45_0 (by omega) (by omega)) (R_full _) (by decide) (nt_c (by decide) (fun _ => by omega))
    refine v_done 3 l1 l2 l3 l4 u eu k1 k2 e48 o4' (TVs_4547 t2 o4' (TQ_i (fun s' hs' => ?_))) (fun h' k' t' e5 e7 hd => hp sc h' k' t' ?_ hd)
    · by_cases e : s' = s
      · subst e
        refine tq_2 (t2.1 s' hs') (o := o) (p := p) (by omega) (by omega) nop (fun i hi h1 h2 => ?_) ?_ ?_ ?_
        · rw [wI_i, if_neg (by omega), wI_i, if_neg (by omega)]
        · rw [wI_i, if_neg (by omega), wI_i, if_pos rfl, w1]
          omega
        · rw [wI_i, if_pos rfl, w2]
          omega
        · rw [wI_i, if_neg (by omega), wI_i, if_pos rfl, w1, wI_i, if_pos rfl, w2]
          omega
      · refine tq_x (t2.1 s' hs') (fun i hi => ?_)
        rw [wI_i, if_neg (by omega), wI_i, if_neg (by omega)]
    · rw [e5, e7, wI_o (q := 47) (by decide), wI_o (q := 47) (by decide), e47']
      have n8 : sn (h1.1 45) ≤ 8 := by unfold sn; have := tz.2.1; omega
      refine ⟨?_, fun q hq => ⟨⟨?_, ?_⟩, fun _ _ => rfl, fun i hi => ?_⟩⟩
      · rw [wI_i, if_neg (by omega), wI_i, if_neg (by omega), e45']
      · rw [wI_i, if_neg (by omega), wI_i, if_neg (by omega), e45']
      · rw [wI_i, if_neg (by omega), wI_i, if_neg (by omega), e45']
      · rw [wI_i, wI_i]
        show (if _ then h2.1 45 (17 + 4 * s + p) + l4 else if _ then h2.1 45 (17 + 4 * s + o) - l4 else _) = _
        rw [e45']
        by_cases x : q = s ∧ i = o
        · rw [if_neg (by omega), if_pos (by omega), if_pos x, x.1, x.2]
        · rw [if_neg x]
          by_cases x2 : q = s ∧ i = p
          · rw [if_pos (by omega), if_pos x2, x2.1, x2.2]
          · rw [if_neg (by omega), if_neg (by omega), if_neg x2]
  · rw [i_le, i_le, z1, z60]
    exact ⟨y.2.2.2.1, y.2.2.2.2.1⟩
theorem v_X11_stake {g : gT} {h : mh_T} {P : Int32 → mh_T → Prop} (l1 l2 l3 : Int32) (hG : GI h) (hB : NB h) (h8 : (h.1 45 0).toInt ≤ 8) (h0 : ¬ SKc (h.1 45) l1 l2 l3 → ∀ h', Ok [300, 11] h h' → P 0 h') (hp : SKc (h.1 45) l1 l2 l3 → ∀ h', Ok [300, 11, 47] h h' → (∀ j, h'.1 47 j = if j = 4 * l1.toInt.toNat + l2.toInt.toNat then l3 else h.1 47 j) → P 1 h') : MCi g yX11_stake uX11_stake [.ref 11, .int l1, .int l2, .int l3] h P := by
  have z99 : (99 : Int32).toInt = 99 := by decide
  refine e_X11_stake l1 l2 l3 (v_good hG (fun h1 k1 => ?_))
  have e45 : h1.1 45 = h.1 45 := OkC k1 (by decide)
  have e47 : h1.1 47 = h.1 47 := OkC k1 (by decide)
  have nb := NB_ok k1 (by decide) hB
  rw [← e45] at h0 hp h8
  refine v_isOutcome l1 l2 k1.1 nb (fun q => ⟨fun _ => b_within l3 0 99 (fun w => ⟨fun _ => ?_, fun z => absurd z (by decide)⟩) (fun w => ⟨fun z => absurd rfl z, fun _ => v_isNot 2 (by decide) k1 (h0 (fun y => w ?_))⟩), fun z => absurd z (by decide)⟩) (fun q => ⟨fun z => absurd rfl z, fun _ => v_isNot 1 (by decide) k1 (h0 (fun y => q y.1))⟩)
  · rw [i_le, i_le, i_0, z99] at w
    obtain ⟨e1, s8, e2, o4, sl⟩ := OC_n q h8
    have ia : ((4 * l1) + l2).toInt = ((4 * l1.toInt.toNat + l2.toInt.toNat : Nat) : Int) := by rw [i_add (i_4s e1 s8) e2 (by omega)]; omega
    rw [i_nat ia]
    refine ⟨i_vp ia (by omega), hp ⟨q, by omega, by omega⟩ _ (Ok_w (Ok_mono k1 (by decide)) (k := 47) (rgc_47 _) (R_full _) (by decide) (nt_k (by decide))) (fun j => ?_)⟩
    rw [wI_i, e47]
  · rw [i_le, i_le, i_0, z99]
    exact ⟨y.2.1, y.2.2⟩
/-- a kept row is the table again -/
theorem v_cp45 {g : gT} {h : mh_T} {P : mh_T → Prop} (l0 nl0 : Nat) (l1 : Int32) (sl0 : shp l0 = (20, nl0, [])) (hne : l0 ≠ 45) (h62 : l0 < 62) (p : Nat) (e1 : l1.toInt = 49 * p) (b0 : 49 * p + 49 ≤ nl0) (bp : p ≤ 20) (hr0 : ∀ j, j < 49 → rgT l0 (49 * p + j) = rgRowM j) (hG : GI h) (hp : ∀ h', Ok [45] h h' → (∀ j, j < 49 → h'.1 45 j = h.1 l0 (49 * p + j)) → P h') : MCv g yX11_copy uX11_copy [.ref l0, .int l1, .ref 45, .int 0, .int 49] h P :=
  t_copy l0 nl0 l1 45 346 0 sl0 rfl hne h62 p 0 e1 (by decide) b0 (by decide) bp (by decide) hr0 rr45 (by decide) hG (fun h' ok cp => hp h' ok (fun j hj => by
    have := cp.1 j hj
    rw [Nat.mul_zero, Nat.zero_add] at this
    exact this))
abbrev msU : List Nat := [301, 300, 11, 45, 47, 48, 49, 50, 52, 53]
/-- UNDO of the reference -/
def UD (u r : Nat) (h h' : mh_T) : Prop := (mI h' 11 24).toInt = (u : Int) - 1 ∧ (mI h' 11 25).toInt = (r : Int) + 1 ∧ mI h' 11 26 = mI h 11 26 ∧ h'.1 49 = h.1 49 ∧ h'.1 52 = h.1 52 ∧ (∀ i j, i < 20 → j < 49 → h'.1 50 (49 * i + j) = if i = r then h.1 45 j else h.1 50 (49 * i + j)) ∧ (∀ i j, i < 20 → j < 5 → h'.1 53 (5 * i + j) = if i = r then h.1 52 (5 * (u - 1) + j) else h.1 53 (5 * i + j)) ∧ (∀ j, j < 49 → h'.1 45 j = h.1 49 (49 * (u - 1) + j)) ∧ ∀ j, j < 32 → h'.1 47 j = 0
theorem TVs_k {h h' : mh_T} (t : TVs h) (a45 : TQ (h'.1 45) 0) (a48 : TQ (h'.1 48) 0) (a49 : TQs (h'.1 49)) (a50 : TQs (h'.1 50)) (e51 : h'.1 51 = h.1 51) (l49 : h'.1 45 49 = h.1 45 49) (l50 : h'.1 45 50 = h.1 45 50) : TVs h' := ⟨a45, a48, a49, a50, by rw [e51]; exact t.2.2.2.2.1, by rw [l49, l50]; exact t.2.2.2.2.2⟩
theorem mul49 {x : Int32} {q : Nat} (h : x.toInt = (q : Int)) (hq : q ≤ 20) : (49 * x).toInt = 49 * q := by rw [Int32.toInt_mul, show (49 : Int32).toInt = 49 from by decide, bm (by omega) (by omega), h]
theorem mul5 {x : Int32} {q : Nat} (h : x.toInt = (q : Int)) (hq : q ≤ 20) : (5 * x).toInt = ((5 * q : Nat) : Int) := by rw [Int32.toInt_mul, show (5 : Int32).toInt = 5 from by decide, bm (by omega) (by omega), h]; omega
theorem ac5_v {f : Nat → Int32} {k j : Nat} (hj : j < 5) : ac5 (f k) (f (k + 1)) (f (k + 2)) (f (k + 3)) (f (k + 4)) j = f (k + j) := by
  have : j = 0 ∨ j = 1 ∨ j = 2 ∨ j = 3 ∨ j = 4 := by omega
  rcases this with z | z | z | z | z <;> subst z <;> rfl
set_option maxRecDepth 100000 in
set_option maxHeartbeats 4000000 in
theorem v_X11_undo {g : gT} {h : mh_T} {P : Int32 → mh_T → Prop} (u r : Nat) (eu : (mI h 11 24).toInt = (u : Int)) (er : (mI h 11 25).toInt = (r : Int)) (ur : u + r ≤ 20) (hG : GI h) (hI : TVs h) (h0 : u = 0 → ∀ h', Ok [300, 11] h h' → P 0 h') (hp : ¬ u = 0 → ∀ h', Ok msU h h' → TVs h' → UD u r h h' → P 1 h') : MCi g yX11_undo uX11_undo [.ref 11] h P := by
  refine e_X11_undo (v_good hG (fun h1 k1 => ?_))
  have e1 : ∀ j, 24 ≤ j → j ≤ 26 → mI h1 11 j = mI h 11 j := Ok_24 k1 (by decide)
  have e24 := e1 24 (by decide) (by decide)
  refine ⟨fun z => ?_, fun z => v_isNot 6 (by decide) k1 (h0 (by rw [e24] at z; rw [z, i_0] at eu; omega))⟩
  rw [e24] at z
  have u0 : ¬ u = 0 := fun y => z (Int32.toInt_inj.mp (by rw [eu, y, i_0]; rfl))
  rw [e24]
  have eu1 : (mI h 11 24 - 1).toInt = ((u - 1 : Nat) : Int) := by rw [ti_sub1 (x := mI h 11 24) (hi := 20) ⟨by omega, by omega⟩ (by decide)]; omega
  have o1 : Ok [301, 300, 11] h (wI h1 11 24 (mI h 11 24 - 1)) := Ok_w (Ok_mono k1 (by decide)) (k := 11) (j := 24) (lo := 0) (hi := 20) rfl ⟨by omega, by omega⟩ (by decide) (by decide)
  have a24 : mI (wI h1 11 24 (mI h 11 24 - 1)) 11 24 = mI h 11 24 - 1 := by rw [mI_wI, if_pos ⟨rfl, rfl⟩]
  have a25 : mI (wI h1 11 24 (mI h 11 24 - 1)) 11 25 = mI h 11 25 := by rw [mI_wI, if_neg (by decide), e1 25 (by decide) (by decide)]
  have a26 : mI (wI h1 11 24 (mI h 11 24 - 1)) 11 26 = mI h 11 26 := by rw [mI_wI, if_neg (by decide), e1 26 (by decide) (by decide)]
  generalize wI h1 11 24 (mI h 11 24 - 1) = h2 at o1 a24 a25 a26
  refine v_was o1.1 (TVs_ok hI o1 (by decide)) (fun h3 k3 t3 e48 x4 ex4 => ?_)
  have o3 : Ok msU h h3 := Ok_tr (Ok_mono o1 (by decide)) k3 (by decide)
  have b24 : ∀ j, mI h3 11 j = mI h2 11 j := fun j => congrFun (OkC k3 (k := 11) (by decide)) j
  rw [b24 24, a24] at ex4
  have kx : x4.toInt = ((5 * (u - 1) : Nat) : Int) := by rw [ex4]; exact mul5 eu1 (by omega)
  have kx1 := i_off kx 1 1 (by decide) (by omega)
  have kx2 := i_off kx 2 2 (by decide) (by omega)
  have kx3 := i_off kx 3 3 (by decide) (by omega)
  have kx4 := i_off kx 4 4 (by decide) (by omega)
  have c52 : h3.1 52 = h.1 52 := by rw [OkC k3 (k := 52) (by decide), OkC o1 (k := 52) (by decide)]
  have c49 : h3.1 49 = h.1 49 := by rw [OkC k3 (k := 49) (by decide), OkC o1 (k := 49) (by decide)]
  have c50 : h3.1 50 = h.1 50 := by rw [OkC k3 (k := 50) (by decide), OkC o1 (k := 50) (by decide)]
  have c53 : h3.1 53 = h.1 53 := by rw [OkC k3 (k := 53) (by decide), OkC o1 (k := 53) (by decide)]
  have c48 : ∀ j, j < 49 → h3.1 48 j = h.1 45 j := fun j hj => by rw [e48 j hj, OkC o1 (k := 45) (by decide)]
  refine ⟨i_vp kx (by omega), i_vp kx1 (by omega), i_vp kx2 (by omega), i_vp kx3 (by omega), i_vp kx4 (by omega), ?_⟩
  rw [i_nat kx, i_nat kx1, i_nat kx2, i_nat kx3, i_nat kx4, b24 25, a25]
  refine v_keep 50 53 _ _ _ _ _ _ r er (by omega) rfl rfl (by decide) (by decide) (by decide) (by decide) (fun _ => rfl) (fun _ => rfl) k3.1 (fun h4 k4 hr ha => ?_)
  have o4 : Ok msU h h4 := Ok_tr o3 k4 (by decide)
  have b4 : ∀ j, mI h4 11 j = mI h2 11 j := fun j => by rw [show mI h4 11 j = mI h3 11 j from congrFun (OkC k4 (k := 11) (by decide)) j, b24]
  rw [b4 25, a25]
  have nr : ¬ r = 20 := by omega
  refine ⟨fun _ => ?_, fun y => absurd (by rw [y] at er; have : (20 : Int32).toInt = 20 := (by decide); omega) nr⟩
  have er1 : (mI h 11 25 + 1).toInt = (r : Int) + 1 := by rw [i_inc er (by omega)]; omega
  have o5 := Ok_w o4 (k := 11) (j := 25) (v := mI h 11 25 + 1) (lo := 0) (hi := 20) rfl ⟨by omega, by omega⟩ (by decide) (by decide)
  rw [show mI (wI h4 11 25 (mI h 11 25 + 1)) 11 24 = mI h 11 24 - 1 by rw [mI_wI, if_neg (by decide), b4, a24]]
  have d25 : mI (wI h4 11 25 (mI h 11 25 + 1)) 11 25 = mI h 11 25 + 1 := by rw [mI_wI, if_pos ⟨rfl, rfl⟩]
  have d24 : mI (wI h4 11 25 (mI h 11 25 + 1)) 11 24 = mI h 11 24 - 1 := by rw [mI_wI, if_neg (by decide), b4, a24]
  have d26 : mI (wI h4 11 25 (mI h 11 25 + 1)) 11 26 = mI h 11 26 := by rw [mI_wI, if_neg (by decide), b4, a26]
  have dk : ∀ k, ¬ k = 11 → (wI h4 11 25 (mI h 11 25 + 1)).1 k = h4.1 k := fun k hk => wI_o hk
  generalize wI h4 11 25 (mI h 11 25 + 1) = h5 at o5 d24 d25 d26 dk
  have x49 : h5.1 49 = h.1 49 := by rw [dk 49 (by decide), OkC k4 (k := 49) (by decide), c49]
  have x52 : h5.1 52 = h.1 52 := by rw [dk 52 (by decide), OkC k4 (k := 52) (by decide), c52]
  have tq50 : TQs (h5.1 50) := by
    rw [dk 50 (by decide)]
    exact TQs_psh (u := r) (f := h3.1 50) (x := h3.1 48) t3.2.2.2.1 t3.2.1 hr
  refine v_cp45 49 980 _ rfl (by decide) (by decide) (u - 1) (mul49 eu1 (by omega)) (by omega) (by omega) (fun j hj => ?_) o5.1 (fun h6 k6 e6 => ?_)
  · show rgRowM ((49 * (u - 1) + j) % 49) = _
    rw [show (49 * (u - 1) + j) % 49 = j by omega]
  refine v_noCoins k6.1 (fun h7 k7 z7 => ?_)
  have o6 : Ok msU h h6 := Ok_tr o5 k6 (by decide)
  have o7 : Ok msU h h7 := Ok_tr o6 k7 (by decide)
  have y : ∀ k, k < 62 → k ∉ [45] → k ∉ [47] → h7.1 k = h5.1 k := fun k hk h1 h2 => by rw [OkC k7 ⟨hk, h2⟩, OkC k6 ⟨hk, h1⟩]
  have y11 : ∀ j, mI h7 11 j = mI h5 11 j := fun j => congrFun (y 11 (by decide) (by decide) (by decide)) j
  have q45 : ∀ j, j < 49 → h7.1 45 j = h.1 49 (49 * (u - 1) + j) := fun j hj => by rw [OkC k7 (k := 45) (by decide), e6 j hj, x49]
  refine hp u0 h7 o7 (TVs_k hI ?_ ?_ ?_ ?_ ?_ (o7.2.2.2.2.1 45 49 (by decide)) (o7.2.2.2.2.1 45 50 (by decide))) ⟨?_, ?_, ?_, ?_, ?_, fun i j hi hj => ?_, fun i j hi hj => ?_, q45, z7⟩
  · exact TQ_cp (hI.2.2.1 (u - 1) (by omega)) (fun j hj => by rw [Nat.zero_add]; exact q45 j hj)
  · rw [y 48 (by decide) (by decide) (by decide), dk 48 (by decide), OkC k4 (k := 48) (by decide)]; exact t3.2.1
  · rw [y 49 (by decide) (by decide) (by decide), x49]; exact hI.2.2.1
  · rw [y 50 (by decide) (by decide) (by decide)]; exact tq50
  · rw [OkC o7 (k := 51) (by decide)]
  · rw [y11, d24, eu1]; omega
  · rw [y11, d25]; exact er1
  · rw [y11, d26]
  · rw [y 49 (by decide) (by decide) (by decide), x49]
  · rw [y 52 (by decide) (by decide) (by decide), x52]
  · rw [y 50 (by decide) (by decide) (by decide), dk 50 (by decide), hr i j hi hj]
    unfold psh
    rw [if_neg nr]
    by_cases e : i = r
    · rw [if_pos e, if_pos e, c48 j hj]
    · rw [if_neg e, if_neg e, c50]
  · rw [y 53 (by decide) (by decide) (by decide), dk 53 (by decide), ha i j hi hj]
    unfold psh
    rw [if_neg nr]
    by_cases e : i = r
    · rw [if_pos e, if_pos e, ← c52]
      exact ac5_v (f := h3.1 52) hj
    · rw [if_neg e, if_neg e, c53]
/-- REDO of the reference -/
def UR (u r : Nat) (h h' : mh_T) : Prop := (mI h' 11 24).toInt = (u : Int) + 1 ∧ (mI h' 11 25).toInt = (r : Int) - 1 ∧ mI h' 11 26 = mI h 11 26 ∧ h'.1 50 = h.1 50 ∧ h'.1 53 = h.1 53 ∧ (∀ i j, i < 20 → j < 49 → h'.1 49 (49 * i + j) = if i = u then h.1 45 j else h.1 49 (49 * i + j)) ∧ (∀ i j, i < 20 → j < 5 → h'.1 52 (5 * i + j) = if i = u then h.1 53 (5 * (r - 1) + j) else h.1 52 (5 * i + j)) ∧ (∀ j, j < 49 → h'.1 45 j = h.1 50 (49 * (r - 1) + j)) ∧ ∀ j, j < 32 → h'.1 47 j = 0
set_option maxRecDepth 100000 in
set_option maxHeartbeats 4000000 in
theorem v_X11_redo {g : gT} {h : mh_T} {P : Int32 → mh_T → Prop} (u r : Nat) (eu : (mI h 11 24).toInt = (u : Int)) (er : (mI h 11 25).toInt = (r : Int)) (ur : u + r ≤ 20) (hG : GI h) (hI : TVs h) (h0 : r = 0 → ∀ h', Ok [300, 11] h h' → P 0 h') (hp : ¬ r = 0 → ∀ h', Ok msU h h' → TVs h' → UR u r h h' → P 1 h') : MCi g yX11_redo uX11_redo [.ref 11] h P := by
  refine e_X11_redo (v_good hG (fun h1 k1 => ?_))
  have e1 : ∀ j, 24 ≤ j → j ≤ 26 → mI h1 11 j = mI h 11 j := Ok_24 k1 (by decide)
  have e25 := e1 25 (by decide) (by decide)
  refine ⟨fun z => ?_, fun z => v_isNot 6 (by decide) k1 (h0 (by rw [e25] at z; rw [z, i_0] at er; omega))⟩
  rw [e25] at z
  have r0 : ¬ r = 0 := fun y => z (Int32.toInt_inj.mp (by rw [er, y, i_0]; rfl))
  rw [e25]
  have er1 : (mI h 11 25 - 1).toInt = ((r - 1 : Nat) : Int) := by rw [ti_sub1 (x := mI h 11 25) (hi := 20) ⟨by omega, by omega⟩ (by decide)]; omega
  have o1 : Ok [301, 300, 11] h (wI h1 11 25 (mI h 11 25 - 1)) := Ok_w (Ok_mono k1 (by decide)) (k := 11) (j := 25) (lo := 0) (hi := 20) rfl ⟨by omega, by omega⟩ (by decide) (by decide)
  have a25 : mI (wI h1 11 25 (mI h 11 25 - 1)) 11 25 = mI h 11 25 - 1 := by rw [mI_wI, if_pos ⟨rfl, rfl⟩]
  have a24 : mI (wI h1 11 25 (mI h 11 25 - 1)) 11 24 = mI h 11 24 := by rw [mI_wI, if_neg (by decide), e1 24 (by decide) (by decide)]
  have a26 : mI (wI h1 11 25 (mI h 11 25 - 1)) 11 26 = mI h 11 26 := by rw [mI_wI, if_neg (by decide), e1 26 (by decide) (by decide)]
  generalize wI h1 11 25 (mI h 11 25 - 1) = h2 at o1 a24 a25 a26
  refine v_was o1.1 (TVs_ok hI o1 (by decide)) (fun h3 k3 t3 e48 x4 ex4 => ?_)
  have o3 : Ok msU h h3 := Ok_tr (Ok_mono o1 (by decide)) k3 (by decide)
  have b24 : ∀ j, mI h3 11 j = mI h2 11 j := fun j => congrFun (OkC k3 (k := 11) (by decide)) j
  rw [b24 25, a25] at ex4
  have kx : x4.toInt = ((5 * (r - 1) : Nat) : Int) := by rw [ex4]; exact mul5 er1 (by omega)
  have kx1 := i_off kx 1 1 (by decide) (by omega)
  have kx2 := i_off kx 2 2 (by decide) (by omega)
  have kx3 := i_off kx 3 3 (by decide) (by omega)
  have kx4 := i_off kx 4 4 (by decide) (by omega)
  have c52 : h3.1 52 = h.1 52 := by rw [OkC k3 (k := 52) (by decide), OkC o1 (k := 52) (by decide)]
  have c49 : h3.1 49 = h.1 49 := by rw [OkC k3 (k := 49) (by decide), OkC o1 (k := 49) (by decide)]
  have c50 : h3.1 50 = h.1 50 := by rw [OkC k3 (k := 50) (by decide), OkC o1 (k := 50) (by decide)]
  have c53 : h3.1 53 = h.1 53 := by rw [OkC k3 (k := 53) (by decide), OkC o1 (k := 53) (by decide)]
  have c48 : ∀ j, j < 49 → h3.1 48 j = h.1 45 j := fun j hj => by rw [e48 j hj, OkC o1 (k := 45) (by decide)]
  refine ⟨i_vp kx (by omega), i_vp kx1 (by omega), i_vp kx2 (by omega), i_vp kx3 (by omega), i_vp kx4 (by omega), ?_⟩
  rw [i_nat kx, i_nat kx1, i_nat kx2, i_nat kx3, i_nat kx4, b24 24, a24]
  refine v_keep 49 52 _ _ _ _ _ _ u eu (by omega) rfl rfl (by decide) (by decide) (by decide) (by decide) (fun _ => rfl) (fun _ => rfl) k3.1 (fun h4 k4 hr ha => ?_)
  have o4 : Ok msU h h4 := Ok_tr o3 k4 (by decide)
  have b4 : ∀ j, mI h4 11 j = mI h2 11 j := fun j => by rw [show mI h4 11 j = mI h3 11 j from congrFun (OkC k4 (k := 11) (by decide)) j, b24]
  rw [b4 24, a24]
  have nr : ¬ u = 20 := by omega
  refine ⟨fun _ => ?_, fun y => absurd (by rw [y] at eu; have : (20 : Int32).toInt = 20 := (by decide); omega) nr⟩
  have eu1 : (mI h 11 24 + 1).toInt = (u : Int) + 1 := by rw [i_inc eu (by omega)]; omega
  have o5 := Ok_w o4 (k := 11) (j := 24) (v := mI h 11 24 + 1) (lo := 0) (hi := 20) rfl ⟨by omega, by omega⟩ (by decide) (by decide)
  rw [show mI (wI h4 11 24 (mI h 11 24 + 1)) 11 25 = mI h 11 25 - 1 by rw [mI_wI, if_neg (by decide), b4, a25]]
  have d24 : mI (wI h4 11 24 (mI h 11 24 + 1)) 11 24 = mI h 11 24 + 1 := by rw [mI_wI, if_pos ⟨rfl, rfl⟩]
  have d25 : mI (wI h4 11 24 (mI h 11 24 + 1)) 11 25 = mI h 11 25 - 1 := by rw [mI_wI, if_neg (by decide), b4, a25]
  have d26 : mI (wI h4 11 24 (mI h 11 24 + 1)) 11 26 = mI h 11 26 := by rw [mI_wI, if_neg (by decide), b4, a26]
  have dk : ∀ k, ¬ k = 11 → (wI h4 11 24 (mI h 11 24 + 1)).1 k = h4.1 k := fun k hk => wI_o hk
  generalize wI h4 11 24 (mI h 11 24 + 1) = h5 at o5 d24 d25 d26 dk
  have x50 : h5.1 50 = h.1 50 := by rw [dk 50 (by decide), OkC k4 (k := 50) (by decide), c50]
  have x53 : h5.1 53 = h.1 53 := by rw [dk 53 (by decide), OkC k4 (k := 53) (by decide), c53]
  have tq49 : TQs (h5.1 49) := by
    rw [dk 49 (by decide)]
    exact TQs_psh (u := u) (f := h3.1 49) (x := h3.1 48) t3.2.2.1 t3.2.1 hr
  refine v_cp45 50 980 _ rfl (by decide) (by decide) (r - 1) (mul49 er1 (by omega)) (by omega) (by omega) (fun j hj => ?_) o5.1 (fun h6 k6 e6 => ?_)
  · show rgRowM ((49 * (r - 1) + j) % 49) = _
    rw [show (49 * (r - 1) + j) % 49 = j by omega]
  refine v_noCoins k6.1 (fun h7 k7 z7 => ?_)
  have o6 : Ok msU h h6 := Ok_tr o5 k6 (by decide)
  have o7 : Ok msU h h7 := Ok_tr o6 k7 (by decide)
  have y : ∀ k, k < 62 → k ∉ [45] → k ∉ [47] → h7.1 k = h5.1 k := fun k hk h1 h2 => by rw [OkC k7 ⟨hk, h2⟩, OkC k6 ⟨hk, h1⟩]
  have y11 : ∀ j, mI h7 11 j = mI h5 11 j := fun j => congrFun (y 11 (by decide) (by decide) (by decide)) j
  have q45 : ∀ j, j < 49 → h7.1 45 j = h.1 50 (49 * (r - 1) + j) := fun j hj => by rw [OkC k7 (k := 45) (by decide), e6 j hj, x50]
  refine hp r0 h7 o7 (TVs_k hI ?_ ?_ ?_ ?_ ?_ (o7.2.2.2.2.1 45 49 (by decide)) (o7.2.2.2.2.1 45 50 (by decide))) ⟨?_, ?_, ?_, ?_, ?_, fun i j hi hj => ?_, fun i j hi hj => ?_, q45, z7⟩
  · exact TQ_cp (hI.2.2.2.1 (r - 1) (by omega)) (fun j hj => by rw [Nat.zero_add]; exact q45 j hj)
  · rw [y 48 (by decide) (by decide) (by decide), dk 48 (by decide), OkC k4 (k := 48) (by decide)]; exact t3.2.1
  · rw [y 49 (by decide) (by decide) (by decide)]; exact tq49
  · rw [y 50 (by decide) (by decide) (by decide), x50]; exact hI.2.2.2.1
  · rw [OkC o7 (k := 51) (by decide)]
  · rw [y11, d24]; exact eu1
  · rw [y11, d25, er1]; omega
  · rw [y11, d26]
  · rw [y 50 (by decide) (by decide) (by decide), x50]
  · rw [y 53 (by decide) (by decide) (by decide), x53]
  · rw [y 49 (by decide) (by decide) (by decide), dk 49 (by decide), hr i j hi hj]
    unfold psh
    rw [if_neg nr]
    by_cases e : i = u
    · rw [if_pos e, if_pos e, c48 j hj]
    · rw [if_neg e, if_neg e, c49]
  · rw [y 52 (by decide) (by decide) (by decide), dk 52 (by decide), ha i j hi hj]
    unfold psh
    rw [if_neg nr]
    by_cases e : i = u
    · rw [if_pos e, if_pos e, ← c53]
      exact ac5_v (f := h3.1 53) hj
    · rw [if_neg e, if_neg e, c52]
