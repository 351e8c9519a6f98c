/-! the class's history: save, restore, begin, takeBack, makeAgain, keep, goBack -/
/-- the rows and acts of the history are all different cells -/
def RI (h : mh_T) : Prop := (∀ i, i < 21 → 116 ≤ mR h 41 i ∧ mR h 41 i ≤ 136) ∧ (∀ i j, i < 21 → j < 21 → mR h 41 i = mR h 41 j → i = j) ∧ ∀ i j, i < 20 → j < 20 → mR h 40 i = mR h 40 j → i = j
theorem RI_cg {h h' : mh_T} (e40 : h'.2.2 40 = h.2.2 40) (e41 : h'.2.2 41 = h.2.2 41) (r : RI h) : RI h' := by
  unfold RI mR at *
  rw [e40, e41]
  exact r
abbrev hrw (h : mh_T) (i : Nat) : Nat → Int32 := h.1 (mR h 41 i)
abbrev hac (h : mh_T) (i : Nat) : Nat → Int32 := h.1 (mR h 40 i)
theorem v_save {g : gT} {h : mh_T} {P : mh_T → Prop} (l1 : Nat) (sl1 : shp l1 = (20, 49, [])) (hn : 116 ≤ l1) (hG : GI h) (hp : ∀ h', Ok [302] h h' → h'.2 = h.2 → (∀ k, ¬ k = l1 → h'.1 k = h.1 k) → (∀ j, j < 49 → h'.1 l1 j = tC h j) → P h') : MCv g yX8_save uX8_save [.ref 3, .ref l1] h P := by
  have hk := shp_lt sl1 (by decide)
  have ok : Ok [302] h h := Ok_rf hG
  have f0 : R 0 8 (mI h 3 2) := GI_rd hG 3 2 (by decide)
  have o1 : Ok [302] h (wI h l1 0 (mI h 3 2)) := Ok_w ok (lo := 0) (hi := 8) (by rw [rg_row hn hk]; decide) f0 (Or.inr ⟨by omega, by decide⟩) (by omega)
  have o2 := Ok_cp o1 (k0 := 24) (sp := 0) (k1 := l1) (dp := 1) (n := 8) (rowcp hn hk (by decide)) (Or.inr ⟨by omega, by decide⟩) (by omega)
  have o3 := Ok_cp o2 (k0 := 25) (sp := 0) (k1 := l1) (dp := 9) (n := 8) (rowcp hn hk (by decide)) (Or.inr ⟨by omega, by decide⟩) (by omega)
  have o4 := Ok_cp o3 (k0 := 26) (sp := 0) (k1 := l1) (dp := 17) (n := 32) (rowcp hn hk (by decide)) (Or.inr ⟨by omega, by decide⟩) (by omega)
  refine e_X8_save l1 sl1 ⟨by unfold vp_in; decide, ?_⟩
  refine hp _ o4 rfl (fun k hne => ?_) (fun j hj => ?_)
  · funext j
    refine (mI_cpI _ _ _ _ _ _ _ _).trans ((if_neg (fun z => hne z.1)).trans ((mI_cpI _ _ _ _ _ _ _ _).trans ((if_neg (fun z => hne z.1)).trans ((mI_cpI _ _ _ _ _ _ _ _).trans ((if_neg (fun z => hne z.1)).trans ((mI_wI _ _ _ _ _ _).trans (if_neg (fun z => hne z.1))))))))
  · show mI (cpI (cpI (cpI (wI h l1 0 (mI h 3 2)) 24 0 l1 1 8) 25 0 l1 9 8) 26 0 l1 17 32) l1 j = _
    have e1 : ∀ q, mI (cpI (cpI (wI h l1 0 (mI h 3 2)) 24 0 l1 1 8) 25 0 l1 9 8) 26 q = mI h 26 q := fun q => by rw [mI_cpI, if_neg (by omega), mI_cpI, if_neg (by omega), mI_wI, if_neg (by omega)]
    have e2 : ∀ q, mI (cpI (wI h l1 0 (mI h 3 2)) 24 0 l1 1 8) 25 q = mI h 25 q := fun q => by rw [mI_cpI, if_neg (by omega), mI_wI, if_neg (by omega)]
    have e3 : ∀ q, mI (wI h l1 0 (mI h 3 2)) 24 q = mI h 24 q := fun q => by rw [mI_wI, if_neg (by omega)]
    unfold tC
    rw [mI_cpI, e1, mI_cpI, e2, mI_cpI, e3, mI_wI]
    by_cases c17 : j < 17
    · rw [if_neg (by omega)]
      by_cases c9 : j < 9
      · rw [if_neg (by omega)]
        by_cases c0 : j = 0
        · rw [if_neg (by omega), if_pos ⟨rfl, c0⟩, if_pos c0]
        · rw [if_pos ⟨rfl, by omega, by omega⟩, if_neg c0, if_pos c9, Nat.zero_add]
      · rw [if_pos ⟨rfl, by omega, by omega⟩, if_neg (by omega), if_neg c9, if_pos c17, Nat.zero_add]
    · rw [if_pos ⟨rfl, by omega, by omega⟩, if_neg (by omega), if_neg (by omega), if_neg c17, Nat.zero_add]
theorem v_restore {g : gT} {h : mh_T} {P : mh_T → Prop} (l1 : Nat) (sl1 : shp l1 = (20, 49, [])) (hn : 116 ≤ l1) (hG : GI h) (hp : ∀ h', Ok [3, 24, 25, 26, 27] h h' → (∀ j, j < 49 → tC h' j = h.1 l1 j) → (∀ j, j < 32 → h'.1 27 j = 0) → P h') : MCv g yX8_restore uX8_restore [.ref 3, .ref l1] h P := by
  have hk := shp_lt sl1 (by decide)
  have ok : Ok [3, 24, 25, 26, 27] h h := Ok_rf hG
  have f0 : R 0 8 (mI h l1 0) := GI_rd hG l1 0 (by rw [rg_row hn hk]; decide)
  have o1 : Ok [3, 24, 25, 26, 27] h (wI h 3 2 (mI h l1 0)) := Ok_w ok (lo := 0) (hi := 8) (by decide) f0 (by decide) (by decide)
  have o2 := Ok_cp o1 (k0 := l1) (sp := 1) (k1 := 24) (dp := 0) (n := 8) (rowcp' hn hk (by decide)) (by decide) (by decide)
  have o3 := Ok_cp o2 (k0 := l1) (sp := 9) (k1 := 25) (dp := 0) (n := 8) (rowcp' hn hk (by decide)) (by decide) (by decide)
  have o4 := Ok_cp o3 (k0 := l1) (sp := 17) (k1 := 26) (dp := 0) (n := 32) (rowcp' hn hk (by decide)) (by decide) (by decide)
  refine e_X8_restore l1 sl1 ⟨by unfold vp_in; decide, ?_⟩
  refine v_clearCoins o4.1 (fun h2 ko z27 => ?_)
  have o5 := Ok_tr o4 ko (by decide)
  refine hp _ (Ok_w o5 (k := 3) (j := 3) (lo := -2147483648) (hi := 2147483647) (by decide) (R_full _) (by decide) (by decide)) (fun j hj => ?_) (fun j hj => ?_)
  · have ek : ∀ k j, ¬ k = 27 → k < 62 → mI h2 k j = mI (cpI (cpI (cpI (wI h 3 2 (mI h l1 0)) l1 1 24 0 8) l1 9 25 0 8) l1 17 26 0 32) k j := fun k j h1 h2 => congrFun (ko.2.1 k h2 (fun z => h1 (List.mem_singleton.mp z))).1 j
    rw [tC_wo _ _ _ _ (by decide)]
    unfold tC
    rw [ek 3 2 (by decide) (by decide), ek 24 _ (by decide) (by decide), ek 25 _ (by decide) (by decide), ek 26 _ (by decide) (by decide)]
    by_cases c0 : j = 0
    · rw [if_pos c0, mI_cpI, if_neg (by omega), mI_cpI, if_neg (by omega), mI_cpI, if_neg (by omega), mI_wI, if_pos ⟨rfl, rfl⟩, c0]
      rfl
    · rw [if_neg c0]
      by_cases c9 : j < 9
      · rw [if_pos c9, mI_cpI, if_neg (by omega), mI_cpI, if_neg (by omega), mI_cpI, if_pos ⟨rfl, by omega, by omega⟩, mI_wI, if_neg (by omega), show 1 + (j - 1 - 0) = j by omega]
        rfl
      · rw [if_neg c9]
        by_cases c17 : j < 17
        · rw [if_pos c17, mI_cpI, if_neg (by omega), mI_cpI, if_pos ⟨rfl, by omega, by omega⟩, mI_cpI, if_neg (by omega), mI_wI, if_neg (by omega), show 9 + (j - 9 - 0) = j by omega]
          rfl
        · rw [if_neg c17, mI_cpI, if_pos ⟨rfl, by omega, by omega⟩, mI_cpI, if_neg (by omega), mI_cpI, if_neg (by omega), mI_wI, if_neg (by omega), show 17 + (j - 17 - 0) = j by omega]
          rfl
  · rw [wI_o (by decide)]
    exact z27 j hj
/-- the oldest is left -/
def rt (r : Nat → Nat) (i : Nat) : Nat := if i < 19 then r (i + 1) else if i = 19 then r 0 else r i
set_option maxRecDepth 100000 in
set_option maxHeartbeats 4000000 in
theorem v_leaveOldest {g : gT} {h0 : mh_T} {P : mh_T → Prop} (hG : GI h0) (hp : ∀ h', Ok [10, 40, 41] h0 h' → (∀ k, ¬ k = 10 → h'.1 k = h0.1 k) → (∀ j, ¬ j = 0 → mI h' 10 j = mI h0 10 j) → mI h' 10 0 = 19 → (∀ i, i < 20 → mR h' 40 i = rt (mR h0 40) i) → (∀ i, i < 21 → mR h' 41 i = rt (mR h0 41) i) → P h') : MCv g yX4_leaveOldest uX4_leaveOldest [.ref 10] h0 P := by
  have L : ∀ (n : Nat) (l3 : Int32) (k : Nat) (h : mh_T), l3.toInt = (k : Int) → k ≤ 19 → 19 - k < n → Ok [10, 40, 41] h0 h → h.1 = h0.1 → (∀ i, i < 20 → mR h 40 i = if i < k then mR h0 40 (i + 1) else mR h0 40 i) → (∀ i, i < 21 → mR h 41 i = if i < k then mR h0 41 (i + 1) else mR h0 41 i) → ME g uX4_leaveOldest 16 [.ref 10, .ref (mR h0 40 0), .ref (mR h0 41 0), .int l3] [] h (qV P) := by
    intro n
    induction n with
    | zero => intro l3 k h _ _ hn; exact absurd hn (Nat.not_lt_zero _)
    | succ n ih =>
      intro l3 k h ek hk hn ok e1 e40 e41
      have z19 : (19 : Int32).toInt = 19 := by decide
      refine r_X4_leaveOldest_16 (mR h0 40 0) (mR h0 41 0) l3 (hG.2.1 0 (by decide)) (hG.2.2 0 (by decide)).1 ⟨fun c => ?_, fun c => ?_⟩
      · have c := i_le.mp c
        have : k = 19 := by omega
        subst this
        have o1 := Ok_wRa ok (j := Int32.toNatClampNeg 19) (v := mR h0 40 0) (hG.2.1 0 (by decide)) (by decide)
        have o2 := Ok_wRr o1 (j := Int32.toNatClampNeg 19) (v := mR h0 41 0) (hG.2.2 0 (by decide)) (by decide)
        refine hp _ (Ok_w o2 (k := 10) (j := 0) (v := 19) (lo := 0) (hi := 20) (by decide) ⟨by decide, by decide⟩ (by decide) (by decide)) (fun k hk => ?_) (fun j hj => ?_) rfl (fun i hi => ?_) (fun i hi => ?_)
        · rw [wI_o hk]
          show h.1 k = _
          rw [e1]
        · rw [mI_wI, if_neg (fun z => hj z.2)]
          show h.1 10 j = _
          rw [e1]
          rfl
        · rw [mR_wI, mR_wR, if_neg (by omega), mR_wR, show Int32.toNatClampNeg 19 = 19 from by decide, e40 i hi]
          unfold rt
          by_cases q : i = 19
          · rw [if_pos ⟨rfl, q⟩, if_neg (by omega), if_pos q]
          · rw [if_neg (by omega)]
            by_cases w : i < 19
            · rw [if_pos w, if_pos w]
            · rw [if_neg w, if_neg w, if_neg q]
        · rw [mR_wI, mR_wR, mR_wR, show Int32.toNatClampNeg 19 = 19 from by decide, if_neg (show ¬ (41 = 40 ∧ i = 19) by omega), e41 i hi]
          unfold rt
          by_cases q : i = 19
          · rw [if_pos ⟨rfl, q⟩, if_neg (by omega), if_pos q]
          · rw [if_neg (by omega)]
            by_cases w : i < 19
            · rw [if_pos w, if_pos w]
            · rw [if_neg w, if_neg w, if_neg q]
      · have c := i_lt.mp (nle c)
        rw [z19, ek] at c
        have k1 : (l3 + 1).toInt = ((k + 1 : Nat) : Int) := i_inc ek (by omega)
        rw [i_nat k1, i_nat ek]
        have sA := ok.1.2.1 (k + 1) (by omega)
        have o1 := Ok_wRa ok (j := k) (v := mR h 40 (k + 1)) sA (by decide)
        have sB := o1.1.2.2 (k + 1) (by omega)
        have o2 := Ok_wRr o1 (j := k) (v := mR (wR h 40 k (mR h 40 (k + 1))) 41 (k + 1)) sB (by decide)
        refine ⟨i_vp k1 (by omega), sA, i_vp ek (by omega), i_vp k1 (by omega), sB.1, i_vp ek (by omega), ih (l3 + 1) (k + 1) _ k1 (by omega) (by omega) o2 e1 (fun i hi => ?_) (fun i hi => ?_)⟩
        · rw [mR_wR, if_neg (by omega), mR_wR]
          by_cases q : i = k
          · rw [if_pos ⟨rfl, q⟩, if_pos (by omega), e40 (k + 1) (by omega), if_neg (by omega), q]
          · rw [if_neg (by omega), e40 i hi]
            by_cases w : i < k
            · rw [if_pos w, if_pos (by omega)]
            · rw [if_neg w, if_neg (by omega)]
        · rw [mR_wR, mR_wR, mR_wR, if_neg (show ¬ (41 = 40 ∧ k + 1 = k) by omega), if_neg (show ¬ (41 = 40 ∧ i = k) by omega)]
          by_cases q : i = k
          · rw [if_pos ⟨rfl, q⟩, if_pos (by omega), e41 (k + 1) (by omega), if_neg (by omega), q]
          · rw [if_neg (by omega), e41 i hi]
            by_cases w : i < k
            · rw [if_pos w, if_pos (by omega)]
            · rw [if_neg w, if_neg (by omega)]
  refine e_X4_leaveOldest ⟨hG.2.1 _ (by decide), (hG.2.2 _ (by decide)).1, ?_⟩
  exact L 20 0 0 h0 (by decide) (Nat.zero_le _) (by omega) (Ok_rf hG) rfl (fun i _ => by rw [if_neg (Nat.not_lt_zero _)]) (fun i _ => by rw [if_neg (Nat.not_lt_zero _)])
theorem rt_inj {r : Nat → Nat} {n : Nat} (hn : n = 20 ∨ n = 21) (h : ∀ i j, i < n → j < n → r i = r j → i = j) : ∀ i j, i < n → j < n → rt r i = rt r j → i = j := by
  intro i j hi hj e
  unfold rt at e
  have : (if i < 19 then i + 1 else if i = 19 then 0 else i) = (if j < 19 then j + 1 else if j = 19 then 0 else j) := by
    refine h _ _ ?_ ?_ ?_
    · split
      · omega
      · split <;> omega
    · split
      · omega
      · split <;> omega
    · by_cases a : i < 19
      · rw [if_pos a] at *
        by_cases b : j < 19
        · rw [if_pos b] at *; exact e
        · rw [if_neg b] at *
          by_cases b2 : j = 19
          · rw [if_pos b2] at *; exact e
          · rw [if_neg b2] at *; exact e
      · rw [if_neg a] at *
        by_cases a2 : i = 19
        · rw [if_pos a2] at *
          by_cases b : j < 19
          · rw [if_pos b] at *; exact e
          · rw [if_neg b] at *
            by_cases b2 : j = 19
            · rw [if_pos b2]
            · rw [if_neg b2] at *; exact e
        · rw [if_neg a2] at *
          by_cases b : j < 19
          · rw [if_pos b] at *; exact e
          · rw [if_neg b] at *
            by_cases b2 : j = 19
            · rw [if_pos b2] at *; exact e
            · rw [if_neg b2] at *; exact e
  by_cases a : i < 19
  · rw [if_pos a] at this
    by_cases b : j < 19
    · rw [if_pos b] at this; omega
    · rw [if_neg b] at this
      by_cases b2 : j = 19
      · rw [if_pos b2] at this; omega
      · rw [if_neg b2] at this; omega
  · rw [if_neg a] at this
    by_cases a2 : i = 19
    · rw [if_pos a2] at this
      by_cases b : j < 19
      · rw [if_pos b] at this; omega
      · rw [if_neg b] at this
        by_cases b2 : j = 19
        · omega
        · rw [if_neg b2] at this; omega
    · rw [if_neg a2] at this
      by_cases b : j < 19
      · rw [if_pos b] at this; omega
      · rw [if_neg b] at this
        by_cases b2 : j = 19
        · rw [if_pos b2] at this; omega
        · rw [if_neg b2] at this; omega
theorem rt_P {r : Nat → Nat} {n i : Nat} {p : Nat → Prop} (hn : n = 20 ∨ n = 21) (h : ∀ i, i < n → p (r i)) (hi : i < n) : p (rt r i) := by
  unfold rt
  split
  · exact h _ (by omega)
  · split
    · exact h _ (by omega)
    · exact h _ hi
/-- begin, from the place on where there is room -/
theorem v_begin_t {g : gT} {h : mh_T} {P : mh_T → Prop} (l1 l2 : Int32) (m : Nat) (em : (mI h 10 0).toInt = (m : Int)) (hm : m < 20) (hG : GI h) (ri : RI h) (hp : ∀ h', Ok [10, 302] h h' → h'.2 = h.2 → (mI h' 10 0).toInt = (m : Int) + 1 → mI h' 10 1 = mI h' 10 0 → mI h' 10 2 = mI h 10 2 → (∀ i j, i < 21 → j < 49 → h'.1 (mR h 41 i) j = if i = m then tC h j else h.1 (mR h 41 i) j) → (∀ i j, i < 20 → j < 5 → h'.1 (mR h 40 i) j = if i = m then ac5 l1 l2 (-2) (-2) (-2) j else h.1 (mR h 40 i) j) → (∀ k, 137 ≤ k → h'.1 k = h.1 k) → P h') : (vp_in (mI h 10 0) 21) ∧ ((shp (mR h 41 (mI h 10 0).toNatClampNeg) = (20, 49, [])) ∧ (MCv g yX8_save uX8_save [.ref 3, .ref (mR h 41 (mI h 10 0).toNatClampNeg)] h (fun h4 => (vp_in (mI h4 10 0) 20) ∧ ((shp (mR h4 40 (mI h4 10 0).toNatClampNeg) = (20, 5, [])) ∧ ((vp_in 0 5) ∧ ((vp_in 1 5) ∧ ((vp_in 2 5) ∧ ((vp_in 3 5) ∧ ((vp_in 4 5) ∧ (P (wI (wI (wI (wI (wI (wI (wI h4 (mR h4 40 (mI h4 10 0).toNatClampNeg) (Int32.toNatClampNeg 0) l1) (mR h4 40 (mI h4 10 0).toNatClampNeg) (Int32.toNatClampNeg 1) l2) (mR h4 40 (mI h4 10 0).toNatClampNeg) (Int32.toNatClampNeg 2) (-2)) (mR h4 40 (mI h4 10 0).toNatClampNeg) (Int32.toNatClampNeg 3) (-2)) (mR h4 40 (mI h4 10 0).toNatClampNeg) (Int32.toNatClampNeg 4) (-2)) 10 0 ((mI (wI (wI (wI (wI (wI h4 (mR h4 40 (mI h4 10 0).toNatClampNeg) (Int32.toNatClampNeg 0) l1) (mR h4 40 (mI h4 10 0).toNatClampNeg) (Int32.toNatClampNeg 1) l2) (mR h4 40 (mI h4 10 0).toNatClampNeg) (Int32.toNatClampNeg 2) (-2)) (mR h4 40 (mI h4 10 0).toNatClampNeg) (Int32.toNatClampNeg 3) (-2)) (mR h4 40 (mI h4 10 0).toNatClampNeg) (Int32.toNatClampNeg 4) (-2)) 10 0) + 1)) 10 1 (mI (wI (wI (wI (wI (wI (wI h4 (mR h4 40 (mI h4 10 0).toNatClampNeg) (Int32.toNatClampNeg 0) l1) (mR h4 40 (mI h4 10 0).toNatClampNeg) (Int32.toNatClampNeg 1) l2) (mR h4 40 (mI h4 10 0).toNatClampNeg) (Int32.toNatClampNeg 2) (-2)) (mR h4 40 (mI h4 10 0).toNatClampNeg) (Int32.toNatClampNeg 3) (-2)) (mR h4 40 (mI h4 10 0).toNatClampNeg) (Int32.toNatClampNeg 4) (-2)) 10 0 ((mI (wI (wI (wI (wI (wI h4 (mR h4 40 (mI h4 10 0).toNatClampNeg) (Int32.toNatClampNeg 0) l1) (mR h4 40 (mI h4 10 0).toNatClampNeg) (Int32.toNatClampNeg 1) l2) (mR h4 40 (mI h4 10 0).toNatClampNeg) (Int32.toNatClampNeg 2) (-2)) (mR h4 40 (mI h4 10 0).toNatClampNeg) (Int32.toNatClampNeg 3) (-2)) (mR h4 40 (mI h4 10 0).toNatClampNeg) (Int32.toNatClampNeg 4) (-2)) 10 0) + 1)) 10 0)))))))))))) := by
  have sr := hG.2.2 m (by omega)
  rw [i_nat em]
  refine ⟨i_vp em (by omega), sr.1, v_save (mR h 41 m) sr.1 sr.2 hG (fun h4 k4 r4 o4 s4 => ?_)⟩
  have e10 : ∀ j, mI h4 10 j = mI h 10 j := fun j => congrFun (o4 10 (by omega)) j
  have sa := hG.2.1 m hm
  have ga := sh5 sa
  have eR : ∀ k j, mR h4 k j = mR h k j := fun k j => by show h4.2.2 k j = h.2.2 k j; rw [r4]
  rw [e10 0, i_nat em, eR 40 m]
  have z0 : Int32.toNatClampNeg 0 = 0 := by decide
  have z1 : Int32.toNatClampNeg 1 = 1 := by decide
  have z2 : Int32.toNatClampNeg 2 = 2 := by decide
  have z3 : Int32.toNatClampNeg 3 = 3 := by decide
  have z4 : Int32.toNatClampNeg 4 = 4 := by decide
  rw [z0, z1, z2, z3, z4]
  refine ⟨i_vp em (by omega), sa, by unfold vp_in; decide, by unfold vp_in; decide, by unfold vp_in; decide, by unfold vp_in; decide, by unfold vp_in; decide, ?_⟩
  have w : ∀ {h2 : mh_T} (j : Nat) (v : Int32), Ok [10, 302] h h2 → Ok [10, 302] h (wI h2 (mR h 40 m) j v) := fun j v o => Ok_w o (k := mR h 40 m) (j := j) (v := v) (rg_5 sa _) (R_full _) (Or.inr ⟨ge_5 sa, by decide⟩) (nt_5 sa)
  have o5 := w 4 (-2) (w 3 (-2) (w 2 (-2) (w 1 l2 (w 0 l1 (Ok_mono k4 (by decide))))))
  have eA : ∀ k, ¬ k = mR h 40 m → (wI (wI (wI (wI (wI h4 (mR h 40 m) 0 l1) (mR h 40 m) 1 l2) (mR h 40 m) 2 (-2)) (mR h 40 m) 3 (-2)) (mR h 40 m) 4 (-2)).1 k = h4.1 k := fun k hk => by rw [wI_o hk, wI_o hk, wI_o hk, wI_o hk, wI_o hk]
  have eV : ∀ j, j < 5 → (wI (wI (wI (wI (wI h4 (mR h 40 m) 0 l1) (mR h 40 m) 1 l2) (mR h 40 m) 2 (-2)) (mR h 40 m) 3 (-2)) (mR h 40 m) 4 (-2)).1 (mR h 40 m) j = ac5 l1 l2 (-2) (-2) (-2) j := fun j hj => by
    rw [wI_i, wI_i, wI_i, wI_i, wI_i]
    unfold ac5
    have : j = 0 ∨ j = 1 ∨ j = 2 ∨ j = 3 ∨ j = 4 := by omega
    rcases this with z | z | z | z | z <;> subst z <;> rfl
  have e2 : (wI (wI (wI (wI (wI h4 (mR h 40 m) 0 l1) (mR h 40 m) 1 l2) (mR h 40 m) 2 (-2)) (mR h 40 m) 3 (-2)) (mR h 40 m) 4 (-2)).2 = h.2 := r4
  generalize wI (wI (wI (wI (wI h4 (mR h 40 m) 0 l1) (mR h 40 m) 1 l2) (mR h 40 m) 2 (-2)) (mR h 40 m) 3 (-2)) (mR h 40 m) 4 (-2) = h5 at o5 eA eV e2
  have e50 : mI h5 10 0 = mI h 10 0 := by rw [show mI h5 10 0 = mI h4 10 0 from congrFun (eA 10 (by omega)) 0, e10]
  rw [e50]
  have ev : (mI h 10 0 + 1).toInt = (m : Int) + 1 := by rw [i_inc em (by omega)]; omega
  rw [show mI (wI h5 10 0 (mI h 10 0 + 1)) 10 0 = mI h 10 0 + 1 by rw [mI_wI, if_pos ⟨rfl, rfl⟩]]
  have o6 := Ok_w o5 (k := 10) (j := 0) (v := mI h 10 0 + 1) (lo := 0) (hi := 20) rfl ⟨by omega, by omega⟩ (by decide) (by decide)
  have o7 := Ok_w o6 (k := 10) (j := 1) (v := mI h 10 0 + 1) (lo := 0) (hi := 20) rfl ⟨by omega, by omega⟩ (by decide) (by decide)
  have eo : ∀ k, ¬ k = 10 → (wI (wI h5 10 0 (mI h 10 0 + 1)) 10 1 (mI h 10 0 + 1)).1 k = h5.1 k := fun k hk => by rw [wI_o hk, wI_o hk]
  refine hp _ o7 e2 ?_ ?_ ?_ (fun i j hi hj => ?_) (fun i j hi hj => ?_) (fun k hk => ?_)
  · rw [mI_wI, if_neg (by decide), mI_wI, if_pos ⟨rfl, rfl⟩]; exact ev
  · rw [mI_wI, if_pos ⟨rfl, rfl⟩, mI_wI, if_neg (by decide), mI_wI, if_pos ⟨rfl, rfl⟩]
  · rw [mI_wI, if_neg (by decide), mI_wI, if_neg (by decide), show mI h5 10 2 = mI h4 10 2 from congrFun (eA 10 (by omega)) 2, e10]
  · have ri1 := ri.1 i hi
    rw [eo _ (by omega), eA _ (by omega)]
    by_cases e : i = m
    · rw [if_pos e, e]; exact s4 j hj
    · rw [if_neg e, o4 _ (fun z => e (ri.2.1 i m hi (by omega) z))]
  · have gi := sh5 (hG.2.1 i hi)
    rw [eo _ (by omega)]
    by_cases e : i = m
    · rw [if_pos e, e]; exact eV j hj
    · rw [if_neg e, eA _ (fun z => e (ri.2.2 i m hi hm z)), o4 _ (fun z => by have := sr.2; omega)]
  · have ri1 := ri.1 m (by omega)
    rw [eo _ (by omega), eA _ (by omega), o4 _ (by omega)]
/-- an act of the class that has begun -/
def HC (u : Nat) (a : Nat → Int32) (h h' : mh_T) : Prop := (mI h' 10 0).toInt = (if u = 20 then 20 else (u : Int) + 1) ∧ mI h' 10 1 = mI h' 10 0 ∧ mI h' 10 2 = mI h 10 2 ∧ RI h' ∧ (∀ i j, i < 20 → j < 49 → hrw h' i j = psh u (hrw h) (tC h) i j) ∧ (∀ i j, i < 20 → j < 5 → hac h' i j = psh u (hac h) a i j) ∧ ∀ k, 137 ≤ k → h'.1 k = h.1 k
set_option maxRecDepth 100000 in
set_option maxHeartbeats 4000000 in
theorem v_begin {g : gT} {h : mh_T} {P : mh_T → Prop} (l1 l2 : Int32) (u : Nat) (eu : (mI h 10 0).toInt = (u : Int)) (hG : GI h) (ri : RI h) (hp : ∀ h', Ok [10, 40, 41, 302] h h' → HC u (ac5 l1 l2 (-2) (-2) (-2)) h h' → P h') : MCv g yX4_begin uX4_begin [.ref 10, .int l1, .int l2] h P := by
  have f0 : R 0 20 (mI h 10 0) := GI_rd hG 10 0 rfl
  have z20 : (20 : Int32).toInt = 20 := by decide
  have u20 : u ≤ 20 := by have := f0.2; omega
  refine e_X4_begin l1 l2 ⟨fun c => ?_, fun c => ?_⟩
  · have c := i_lt.mp c
    have n20 : ¬ u = 20 := by omega
    refine v_begin_t l1 l2 u eu (by omega) hG ri (fun h' k' e2 a1 a2 a3 a4 a5 a6 => hp h' (Ok_mono k' (by decide)) ⟨?_, a2, a3, RI_cg (by rw [e2]) (by rw [e2]) ri, fun i j hi hj => ?_, fun i j hi hj => ?_, a6⟩)
    · rw [if_neg n20]; exact a1
    · have e : mR h' 41 i = mR h 41 i := by show h'.2.2 41 i = h.2.2 41 i; rw [e2]
      show h'.1 (mR h' 41 i) j = _
      rw [e, a4 i j (by omega) hj]
      unfold psh
      rw [if_neg n20]
      by_cases q : i = u
      · rw [if_pos q, if_pos q]
      · rw [if_neg q, if_neg q]
    · have e : mR h' 40 i = mR h 40 i := by show h'.2.2 40 i = h.2.2 40 i; rw [e2]
      show h'.1 (mR h' 40 i) j = _
      rw [e, a5 i j hi hj]
      unfold psh
      rw [if_neg n20]
      by_cases q : i = u
      · rw [if_pos q, if_pos q]
      · rw [if_neg q, if_neg q]
  · have c := i_le.mp (nlt c)
    have n20 : u = 20 := by omega
    refine v_leaveOldest hG (fun h1 k1 b1 b2 b3 b4 b5 => ?_)
    have ri1 : RI h1 := by
      refine ⟨fun i hi => ?_, fun i j hi hj e => ?_, fun i j hi hj e => ?_⟩
      · rw [b5 i hi]
        exact rt_P (p := fun x => 116 ≤ x ∧ x ≤ 136) (Or.inr rfl) ri.1 hi
      · rw [b5 i hi, b5 j hj] at e
        exact rt_inj (Or.inr rfl) ri.2.1 i j hi hj e
      · rw [b4 i hi, b4 j hj] at e
        exact rt_inj (Or.inl rfl) ri.2.2 i j hi hj e
    have tc1 : tC h1 = tC h := tC_cg (congrFun (b1 3 (by decide)) 2) (b1 24 (by decide)) (b1 25 (by decide)) (b1 26 (by decide))
    have e19 : (mI h1 10 0).toInt = ((19 : Nat) : Int) := by rw [b3]; decide
    refine v_begin_t l1 l2 19 e19 (by decide) k1.1 ri1 (fun h' k' e2 a1 a2 a3 a4 a5 a6 => hp h' (Ok_tr (Ok_mono k1 (by decide)) k' (by decide)) ⟨?_, a2, a3.trans (b2 2 (by decide)), RI_cg (by rw [e2]) (by rw [e2]) ri1, fun i j hi hj => ?_, fun i j hi hj => ?_, fun k hk => (a6 k hk).trans (b1 k (by omega))⟩)
    · rw [if_pos n20, a1]; decide
    · have e : mR h' 41 i = mR h1 41 i := by show h'.2.2 41 i = h1.2.2 41 i; rw [e2]
      have r1 := ri1.1 i (by omega)
      show h'.1 (mR h' 41 i) j = _
      rw [e, a4 i j (by omega) hj, tc1, b1 _ (by omega), b5 i (by omega)]
      unfold psh rt
      rw [if_pos n20]
      by_cases q : i = 19
      · rw [if_pos q, if_neg (by omega), if_pos q]
      · rw [if_neg q, if_pos (by omega), if_pos (by omega)]
    · have e : mR h' 40 i = mR h1 40 i := by show h'.2.2 40 i = h1.2.2 40 i; rw [e2]
      have r1 := sh5 (k1.1.2.1 i hi)
      show h'.1 (mR h' 40 i) j = _
      rw [e, a5 i j hi hj, b1 _ (by omega), b4 i hi]
      unfold psh rt
      rw [if_pos n20]
      by_cases q : i = 19
      · rw [if_pos q, if_neg (by omega), if_pos q]
      · rw [if_neg q, if_pos (by omega), if_pos (by omega)]
