/-! MARK and BACK of the reference; UNDO, REDO, MARK, BACK of the class -/
theorem v_no {g : gT} {h h1 : mh_T} {P : Int32 → mh_T → Prop} (l : Int32) (hl : ¬ l = 4) (o1 : Ok [300, 11] h h1) (hp : ∀ h', Ok [300, 11] h h' → P (-1) h') : MCi g yX11_no uX11_no [.ref 11, .int l] h1 P := e_X11_no l (hp _ (Ok_w11 o1 hl (by decide)))
def MD (m : Nat) (h h' : mh_T) : Prop := (mI h' 11 26).toInt = (m : Int) + 1 ∧ mI h' 11 24 = mI h 11 24 ∧ mI h' 11 25 = mI h 11 25 ∧ ∀ i j, i < 4 → j < 49 → h'.1 51 (49 * i + j) = if i = m then h.1 45 j else h.1 51 (49 * i + j)
set_option maxRecDepth 100000 in
set_option maxHeartbeats 4000000 in
theorem v_X11_mark {g : gT} {h : mh_T} {P : Int32 → mh_T → Prop} (m : Nat) (em : (mI h 11 26).toInt = (m : Int)) (m4 : m ≤ 4) (hG : GI h) (hI : TVs h) (h0 : mI h 11 14 = 0 ∨ m = 4 → ∀ h', Ok [300, 11] h h' → P (-1) h') (hp : ¬ mI h 11 14 = 0 → ¬ m = 4 → ∀ (v : Int32) (h' : mh_T), v.toInt = (m : Int) → Ok [301, 300, 11, 51] h h' → TVs h' → MD m h h' → P v h') : MCi g yX11_mark uX11_mark [.ref 11] h P := by
  refine e_X11_mark (v_good hG (fun h1 k1 => ?_))
  have e1 : ∀ j, 24 ≤ j → j ≤ 26 → mI h1 11 j = mI h 11 j := Ok_24 k1 (by decide)
  have e14 : mI h1 11 14 = mI h 11 14 := k1.2.2.2.2.1 11 14 (by decide)
  have e26 := e1 26 (by decide) (by decide)
  have z4 : (4 : Int32).toInt = 4 := by decide
  rw [e14, e26]
  refine ⟨fun z => ⟨fun z2 => ?_, fun z2 => v_no 3 (by decide) k1 (h0 (Or.inr (by rw [z2, z4] at em; omega)))⟩, fun z => v_no 1 (by decide) k1 (h0 (Or.inl z))⟩
  have n4 : ¬ m = 4 := fun y => z2 (Int32.toInt_inj.mp (by rw [em, y, z4]; rfl))
  refine t_copy 45 346 0 51 196 (49 * (mI h 11 26)) rfl rfl (by decide) (by decide) 0 m (by decide) (mul49 em (by omega)) (by decide) (by omega) (by decide) (by omega) rr45 (rr51 m) (by decide) k1.1 (fun h4 k4 cp => ?_)
  have o4 : Ok [301, 300, 11, 51] h h4 := Ok_tr (Ok_mono k1 (by decide)) k4 (by decide)
  have e11 : ∀ j, mI h4 11 j = mI h1 11 j := fun j => congrFun (OkC k4 (k := 11) (by decide)) j
  have e45 : h1.1 45 = h.1 45 := OkC k1 (by decide)
  have e51 : h1.1 51 = h.1 51 := OkC k1 (by decide)
  rw [e11 26, e26]
  have em1 : (mI h 11 26 + 1).toInt = (m : Int) + 1 := by rw [i_inc em (by omega)]; omega
  have w51 : ∀ i j, i < 4 → j < 49 → h4.1 51 (49 * i + j) = if i = m then h.1 45 j else h.1 51 (49 * i + j) := fun i j hi hj => by
    by_cases e : i = m
    · rw [if_pos e, e, cp.1 j hj, e45, Nat.mul_zero, Nat.zero_add]
    · rw [if_neg e, cp.2 _ (by omega), e51]
  have t4 : TVs h4 := by
    have t1 := TVs_ok hI k1 (by decide)
    have f45 := OkC k4 (k := 45) (by decide)
    refine ⟨?_, ?_, ?_, ?_, ?_, ?_⟩
    · rw [f45]; exact t1.1
    · rw [OkC k4 (k := 48) (by decide)]; exact t1.2.1
    · rw [OkC k4 (k := 49) (by decide)]; exact t1.2.2.1
    · rw [OkC k4 (k := 50) (by decide)]; exact t1.2.2.2.1
    · intro q hq
      by_cases e : q = m
      · rw [e]
        exact TQ_cp t1.1 cp.1
      · exact TQ_cp (t1.2.2.2.2.1 q hq) (fun j hj => cp.2 _ (by omega))
    · rw [f45]; exact t1.2.2.2.2.2
  have hv : mI (wI h4 11 26 (mI h 11 26 + 1)) 11 26 - 1 = mI h 11 26 := by
    rw [mI_wI, if_pos ⟨rfl, rfl⟩]
    exact Int32.toInt_inj.mp (by rw [ti_sub1 (x := mI h 11 26 + 1) (hi := 5) ⟨by omega, by omega⟩ (by decide), em1, em]; omega)
  rw [hv]
  refine hp z n4 _ _ em (Ok_w o4 (k := 11) (j := 26) (v := mI h 11 26 + 1) (lo := 0) (hi := 4) rfl ⟨by omega, by omega⟩ (by decide) (by decide)) (TVs_11 t4) ⟨?_, ?_, ?_, fun i j hi hj => ?_⟩
  · rw [mI_wI, if_pos ⟨rfl, rfl⟩]; exact em1
  · rw [mI_wI, if_neg (by decide), e11, e1 24 (by decide) (by decide)]
  · rw [mI_wI, if_neg (by decide), e11, e1 25 (by decide) (by decide)]
  · rw [wI_o (by decide)]; exact w51 i j hi hj
def BD (l : Nat) (h h' : mh_T) : Prop := mI h' 11 24 = 0 ∧ mI h' 11 25 = 0 ∧ mI h' 11 26 = mI h 11 26 ∧ (∀ j, j < 49 → h'.1 45 j = h.1 51 (49 * l + j)) ∧ ∀ j, j < 32 → h'.1 47 j = 0
set_option maxRecDepth 100000 in
set_option maxHeartbeats 4000000 in
theorem v_X11_back {g : gT} {h : mh_T} {P : Int32 → mh_T → Prop} (l1 : Int32) (m : Nat) (em : (mI h 11 26).toInt = (m : Int)) (m4 : m ≤ 4) (hG : GI h) (hI : TVs h) (h0 : ¬ (0 ≤ l1.toInt ∧ l1.toInt < (m : Int)) → ∀ h', Ok [300, 11] h h' → P 0 h') (hp : 0 ≤ l1.toInt → l1.toInt < (m : Int) → ∀ h', Ok [301, 300, 11, 45, 47] h h' → TVs h' → BD l1.toInt.toNat h h' → P 1 h') : MCi g yX11_back uX11_back [.ref 11, .int l1] h P := by
  refine e_X11_back l1 (v_good hG (fun h1 k1 => ?_))
  have e1 : ∀ j, 24 ≤ j → j ≤ 26 → mI h1 11 j = mI h 11 j := Ok_24 k1 (by decide)
  have e26 := e1 26 (by decide) (by decide)
  have es : (mI h1 11 26 - 1).toInt = (m : Int) - 1 := by rw [e26, ti_sub1 (x := mI h 11 26) (hi := 20) ⟨by omega, by omega⟩ (by decide)]; omega
  refine b_within l1 0 _ (fun q => ⟨fun _ => ?_, fun z => absurd z (by decide)⟩) (fun q => ⟨fun z => absurd rfl z, fun _ => v_isNot 1 (by decide) k1 (h0 (fun y => q ?_))⟩)
  · rw [i_le, i_le, i_0, es] at q
    obtain ⟨p, ep⟩ : ∃ p : Nat, l1.toInt = (p : Int) := ⟨l1.toInt.toNat, by omega⟩
    have pn : l1.toInt.toNat = p := by omega
    have t1 := TVs_ok hI k1 (by decide)
    refine v_cp45 51 196 (49 * l1) rfl (by decide) (by decide) p (mul49 ep (by omega)) (by omega) (by omega) (rr51 p) k1.1 (fun h2 k2 e2 => ?_)
    have o2 : Ok [301, 300, 11, 45, 47] h h2 := Ok_tr (Ok_mono k1 (by decide)) k2 (by decide)
    have o3 := Ok_w o2 (k := 11) (j := 24) (v := 0) (lo := 0) (hi := 20) rfl ⟨by decide, by decide⟩ (by decide) (by decide)
    have o4 := Ok_w o3 (k := 11) (j := 25) (v := 0) (lo := 0) (hi := 20) rfl ⟨by decide, by decide⟩ (by decide) (by decide)
    refine v_noCoins o4.1 (fun h3 k3 z3 => ?_)
    have o5 : Ok [301, 300, 11, 45, 47] h h3 := Ok_tr o4 k3 (by decide)
    have e11 : ∀ j, mI h3 11 j = mI (wI (wI h2 11 24 0) 11 25 0) 11 j := fun j => congrFun (OkC k3 (k := 11) (by decide)) j
    have q45 : ∀ j, j < 49 → h3.1 45 j = h.1 51 (49 * p + j) := fun j hj => by rw [OkC k3 (k := 45) (by decide), wI_o (by decide), wI_o (by decide), e2 j hj, OkC k1 (k := 51) (by decide)]
    refine hp q.1 (by omega) h3 o5 (TVs_k hI ?_ ?_ ?_ ?_ (OkC o5 (by decide)) (o5.2.2.2.2.1 45 49 (by decide)) (o5.2.2.2.2.1 45 50 (by decide))) ⟨?_, ?_, ?_, by rw [pn]; exact q45, z3⟩
    · exact TQ_cp (hI.2.2.2.2.1 p (by omega)) (fun j hj => by rw [Nat.zero_add]; exact q45 j hj)
    · rw [OkC o5 (k := 48) (by decide)]; exact hI.2.1
    · rw [OkC o5 (k := 49) (by decide)]; exact hI.2.2.1
    · rw [OkC o5 (k := 50) (by decide)]; exact hI.2.2.2.1
    · rw [e11, mI_wI, if_neg (by decide), mI_wI, if_pos ⟨rfl, rfl⟩]
    · rw [e11, mI_wI, if_pos ⟨rfl, rfl⟩]
    · rw [e11, mI_wI, if_neg (by decide), mI_wI, if_neg (by decide), show mI h2 11 26 = mI h1 11 26 from congrFun (OkC k2 (k := 11) (by decide)) 26, e26]
  · rw [i_le, i_le, i_0, es]
    omega
/-- UNDO of the class -/
def TBk (u : Nat) (h h' : mh_T) : Prop := (mI h' 10 0).toInt = (u : Int) - 1 ∧ mI h' 10 1 = mI h 10 1 ∧ mI h' 10 2 = mI h 10 2 ∧ RI h' ∧ (∀ i j, i < 21 → j < 49 → hrw h' i j = if i = u then tC h j else hrw h i j) ∧ (∀ i, i < 20 → hac h' i = hac h i) ∧ (∀ k, 137 ≤ k → h'.1 k = h.1 k) ∧ (∀ j, j < 49 → tC h' j = hrw h (u - 1) j) ∧ ∀ j, j < 32 → h'.1 27 j = 0
/-- REDO of the class, BACK too: a row is the table again -/
theorem v_done0 {g : gT} {h : mh_T} {P : Int32 → mh_T → Prop} (hp : P 1 (wI h 0 11 0)) : MCi g yX10_done uX10_done [.ref 0] h (fun r h' => (r = 0 ∨ r = 1) ∧ P r h') := e_X10_done ⟨Or.inr rfl, hp⟩
set_option maxRecDepth 100000 in
set_option maxHeartbeats 4000000 in
theorem v_X10_undo {g : gT} {h : mh_T} {P : Int32 → mh_T → Prop} (u : Nat) (eu : (mI h 10 0).toInt = (u : Int)) (hG : GI h) (ri : RI h) (h0 : u = 0 → ∀ h', Ok [0] h h' → P 0 h') (hp : ¬ u = 0 → ∀ h', Ok msK h h' → TBk u h h' → P 1 h') : MCi g yX10_undo uX10_undo [.ref 0] h P := by
  have f0 : R 0 20 (mI h 10 0) := GI_rd hG 10 0 rfl
  have u20 : u ≤ 20 := by have := f0.2; omega
  refine e_X10_undo (e_X4_takeBack ⟨fun z => ?_, fun z => ⟨fun _ => v_denied 6 hG (h0 (by rw [z, i_0] at eu; omega)), fun y => absurd rfl y⟩⟩)
  have u0 : ¬ u = 0 := fun y => z (Int32.toInt_inj.mp (by rw [eu, y, i_0]; rfl))
  have sr := hG.2.2 u (by omega)
  have eR : (mI h 10 0).toNatClampNeg = u := i_nat eu
  rw [eR]
  refine ⟨i_vp eu (by omega), sr.1, v_save (mR h 41 u) sr.1 sr.2 hG (fun h4 k4 r4 o4 s4 => ?_)⟩
  have e10 : ∀ j, mI h4 10 j = mI h 10 j := fun j => congrFun (o4 10 (by have := sr.2; omega)) j
  have ed : (mI h 10 0 - 1).toInt = ((u - 1 : Nat) : Int) := by rw [ti_sub1 f0 (by decide)]; omega
  rw [show mI (wI h4 10 0 (mI h4 10 0 - 1)) 10 0 = mI h 10 0 - 1 by rw [mI_wI, if_pos ⟨rfl, rfl⟩, e10], i_nat ed, e10 0, mR_wI]
  have eM : ∀ k j, mR h4 k j = mR h k j := fun k j => by show h4.2.2 k j = h.2.2 k j; rw [r4]
  rw [eM 41 (u - 1)]
  have sr1 := hG.2.2 (u - 1) (by omega)
  have o5 : Ok [10, 302] h (wI h4 10 0 (mI h 10 0 - 1)) := Ok_w (Ok_mono k4 (by decide)) (k := 10) (j := 0) (v := mI h 10 0 - 1) (lo := 0) (hi := 20) rfl ⟨by omega, by omega⟩ (by decide) (by decide)
  refine ⟨i_vp ed (by omega), sr1.1, v_restore (mR h 41 (u - 1)) sr1.1 sr1.2 o5.1 (fun h6 k6 t6 c6 => ⟨fun y => absurd y (by decide), fun _ => v_done0 (hp u0 _ ?_ ⟨?_, ?_, ?_, ?_, fun i j hi hj => ?_, fun i hi => ?_, fun k hk => ?_, fun j hj => ?_, fun j hj => ?_⟩)⟩)⟩
  all_goals have h62 := Ok_62 k6 (by decide)
  all_goals have w0 : ∀ k, ¬ k = 0 → (wI h6 0 11 0).1 k = h6.1 k := fun k hk => wI_o hk
  all_goals have w10 : ∀ k, ¬ k = 10 → (wI h4 10 0 (mI h 10 0 - 1)).1 k = h4.1 k := fun k hk => wI_o hk
  all_goals have y10 : ∀ j, mI (wI h6 0 11 0) 10 j = mI (wI h4 10 0 (mI h 10 0 - 1)) 10 j := fun j => by rw [mI_wI, if_neg (fun z => absurd z.1 (by decide))]; exact congrFun (OkC k6 (k := 10) (by decide)) j
  all_goals have y41 : ∀ i, mR (wI h6 0 11 0) 41 i = mR h 41 i := fun i => by rw [mR_wI, show mR h6 41 i = mR (wI h4 10 0 (mI h 10 0 - 1)) 41 i from congrFun (k6.2.1 41 (by decide) (by decide)).2.2 i, mR_wI, eM]
  all_goals have y40 : ∀ i, mR (wI h6 0 11 0) 40 i = mR h 40 i := fun i => by rw [mR_wI, show mR h6 40 i = mR (wI h4 10 0 (mI h 10 0 - 1)) 40 i from congrFun (k6.2.1 40 (by decide) (by decide)).2.2 i, mR_wI, eM]
  · exact Ok_0 (Ok_tr (Ok_mono o5 (by decide)) k6 (by decide)) (by decide)
  · rw [y10, mI_wI, if_pos ⟨rfl, rfl⟩, ed]; omega
  · rw [y10, mI_wI, if_neg (by decide), e10]
  · rw [y10, mI_wI, if_neg (by decide), e10]
  · refine ⟨fun i hi => by rw [y41]; exact ri.1 i hi, fun i j hi hj e => ri.2.1 i j hi hj (by rw [y41, y41] at e; exact e), fun i j hi hj e => ri.2.2 i j hi hj (by rw [y40, y40] at e; exact e)⟩
  · have r1 := ri.1 i hi
    show (wI h6 0 11 0).1 (mR (wI h6 0 11 0) 41 i) j = _
    rw [y41, w0 _ (by omega), h62 _ (by omega), w10 _ (by omega)]
    by_cases e : i = u
    · rw [if_pos e, e]; exact s4 j hj
    · rw [if_neg e, o4 _ (fun z => e (ri.2.1 i u hi (by omega) z))]
  · have g1 := sh5 (hG.2.1 i hi)
    show (wI h6 0 11 0).1 (mR (wI h6 0 11 0) 40 i) = _
    rw [y40, w0 _ (by omega), h62 _ (by omega), w10 _ (by omega), o4 _ (by have := sr.2; omega)]
  · have r1 := ri.1 u (by omega)
    rw [w0 _ (by omega), h62 _ (by omega), w10 _ (by omega), o4 _ (by omega)]
  · have r1 := ri.1 (u - 1) (by omega)
    rw [tC_wo _ _ _ _ (by decide), t6 j hj, w10 _ (by omega), o4 _ (fun z => by have := ri.2.1 (u - 1) u (by omega) (by omega) z; omega)]
  · rw [w0 _ (by decide)]; exact c6 j hj
/-- rows stay, one of them is the table again -/
def RD (a : Nat → Int32) (h h' : mh_T) : Prop := mI h' 10 2 = mI h 10 2 ∧ RI h' ∧ (∀ i, i < 21 → hrw h' i = hrw h i) ∧ (∀ i, i < 20 → hac h' i = hac h i) ∧ (∀ k, 137 ≤ k → h'.1 k = h.1 k) ∧ (∀ j, j < 49 → tC h' j = a j) ∧ ∀ j, j < 32 → h'.1 27 j = 0
theorem RD_of {a : Nat → Int32} {h h' : mh_T} (hG : GI h) (ri : RI h) (e2 : mI h' 10 2 = mI h 10 2) (e40 : h'.2.2 40 = h.2.2 40) (e41 : h'.2.2 41 = h.2.2 41) (h62 : H62 h h') (t : ∀ j, j < 49 → tC h' j = a j) (c : ∀ j, j < 32 → h'.1 27 j = 0) : RD a h h' := by
  refine ⟨e2, RI_cg e40 e41 ri, fun i hi => ?_, fun i hi => ?_, fun k hk => h62 k (by omega), t, c⟩
  · have r1 := ri.1 i hi
    show h'.1 (mR h' 41 i) = _
    rw [show mR h' 41 i = mR h 41 i from congrFun e41 i, h62 _ (by omega)]
  · have g1 := sh5 (hG.2.1 i hi)
    show h'.1 (mR h' 40 i) = _
    rw [show mR h' 40 i = mR h 40 i from congrFun e40 i, h62 _ (by omega)]
set_option maxRecDepth 100000 in
set_option maxHeartbeats 4000000 in
theorem v_X10_redo {g : gT} {h : mh_T} {P : Int32 → mh_T → Prop} (u n : Nat) (eu : (mI h 10 0).toInt = (u : Int)) (en : (mI h 10 1).toInt = (n : Int)) (hG : GI h) (ri : RI h) (h0 : ¬ u < n → ∀ h', Ok [0] h h' → P 0 h') (hp : u < n → ∀ h', Ok msK h h' → (mI h' 10 0).toInt = (u : Int) + 1 → mI h' 10 1 = mI h 10 1 → RD (hrw h (u + 1)) h h' → P 1 h') : MCi g yX10_redo uX10_redo [.ref 0] h P := by
  have f1 : R 0 20 (mI h 10 1) := GI_rd hG 10 1 rfl
  have n20 : n ≤ 20 := by have := f1.2; omega
  refine e_X10_redo (e_X4_makeAgain ⟨fun z => ?_, fun z => ⟨fun _ => v_denied 6 hG (h0 (fun y => z (i_lt.mpr (by omega)))), fun y => absurd rfl y⟩⟩)
  have z := i_lt.mp z
  have un : u < n := by omega
  have eu1 : (mI h 10 0 + 1).toInt = ((u + 1 : Nat) : Int) := i_inc eu (by omega)
  have sr1 := hG.2.2 (u + 1) (by omega)
  rw [show mI (wI h 10 0 (mI h 10 0 + 1)) 10 0 = mI h 10 0 + 1 by rw [mI_wI, if_pos ⟨rfl, rfl⟩], i_nat eu1, mR_wI]
  have o5 : Ok [10] h (wI h 10 0 (mI h 10 0 + 1)) := Ok_w (Ok_rf hG) (k := 10) (j := 0) (v := mI h 10 0 + 1) (lo := 0) (hi := 20) rfl ⟨by omega, by omega⟩ (by decide) (by decide)
  refine ⟨i_vp eu1 (by omega), sr1.1, v_restore (mR h 41 (u + 1)) sr1.1 sr1.2 o5.1 (fun h6 k6 t6 c6 => ⟨fun y => absurd y (by decide), fun _ => v_done0 ?_⟩)⟩
  have o6 : Ok [0, 3, 10, 24, 25, 26, 27] h (wI h6 0 11 0) := Ok_0 (Ok_tr (Ok_mono o5 (by decide)) k6 (by decide)) (by decide)
  have y10 : ∀ j, mI (wI h6 0 11 0) 10 j = mI (wI h 10 0 (mI h 10 0 + 1)) 10 j := fun j => by rw [mI_wI, if_neg (fun z => absurd z.1 (by decide))]; exact congrFun (OkC k6 (k := 10) (by decide)) j
  have r1 := ri.1 (u + 1) (by omega)
  refine hp un _ (Ok_mono o6 (by decide)) ?_ ?_ (RD_of hG ri ?_ (o6.2.1 40 (by decide) (by decide)).2.2 (o6.2.1 41 (by decide) (by decide)).2.2 (Ok_62 o6 (by decide)) (fun j hj => ?_) (fun j hj => ?_))
  · rw [y10, mI_wI, if_pos ⟨rfl, rfl⟩, eu1]; omega
  · rw [y10, mI_wI, if_neg (by decide)]
  · rw [y10, mI_wI, if_neg (by decide)]
  · rw [tC_wo _ _ _ _ (by decide), t6 j hj, wI_o (by omega)]
  · rw [wI_o (by decide)]; exact c6 j hj
set_option maxRecDepth 100000 in
set_option maxHeartbeats 4000000 in
theorem v_X10_back {g : gT} {h : mh_T} {P : Int32 → mh_T → Prop} (l1 : Int32) (m : Nat) (em : (mI h 10 2).toInt = (m : Int)) (hG : GI h) (ri : RI h) (h0 : ¬ (0 ≤ l1.toInt ∧ l1.toInt < (m : Int)) → ∀ h', Ok [0] h h' → P 0 h') (hp : 0 ≤ l1.toInt → l1.toInt < (m : Int) → ∀ h', Ok msK h h' → mI h' 10 0 = 0 → mI h' 10 1 = 0 → RD (h.1 (137 + l1.toInt.toNat)) h h' → P 1 h') : MCi g yX10_back uX10_back [.ref 0, .int l1] h P := by
  have f2 : R 0 4 (mI h 10 2) := GI_rd hG 10 2 rfl
  have m4 : m ≤ 4 := by have := f2.2; omega
  refine e_X10_back l1 (e_X4_goBack l1 ⟨fun c => ⟨fun _ => v_denied 1 hG (h0 (fun y => ?_)), fun y => absurd rfl y⟩, fun c => ⟨fun c2 => ?_, fun c2 => ⟨fun _ => v_denied 1 hG (h0 (fun y => c2 (i_lt.mpr (by omega)))), fun y => absurd rfl y⟩⟩⟩)
  · have c := i_lt.mp c
    rw [i_0] at c
    omega
  · have c : ¬ l1.toInt < (0 : Int32).toInt := fun z => c (i_lt.mpr z)
    rw [i_0] at c
    have c2 := i_lt.mp c2
    obtain ⟨p, ep⟩ : ∃ p : Nat, l1.toInt = (p : Int) := ⟨l1.toInt.toNat, by omega⟩
    have pn : l1.toInt.toNat = p := by omega
    rw [i_nat ep]
    have p4 : p < 4 := by omega
    have sh : shp (137 + p) = (20, 49, []) := (show ∀ p, p < 4 → shp (137 + p) = (20, 49, []) by decide) p p4
    refine ⟨i_vp ep (by omega), v_restore (137 + p) sh (by omega) hG (fun h6 k6 t6 c6 => ⟨fun y => absurd y (by decide), fun _ => v_done0 ?_⟩)⟩
    have o6 : Ok [0, 3, 10, 24, 25, 26, 27] h (wI (wI (wI h6 10 0 0) 10 1 0) 0 11 0) := Ok_0 (Ok_w (Ok_w (Ok_mono k6 (by decide)) (k := 10) (j := 0) (v := 0) (lo := 0) (hi := 20) rfl ⟨by decide, by decide⟩ (by decide) (by decide)) (k := 10) (j := 1) (v := 0) (lo := 0) (hi := 20) rfl ⟨by decide, by decide⟩ (by decide) (by decide)) (by decide)
    rw [pn] at hp
    refine hp (by omega) (by omega) _ (Ok_mono o6 (by decide)) ?_ ?_ (RD_of hG ri ?_ (o6.2.1 40 (by decide) (by decide)).2.2 (o6.2.1 41 (by decide) (by decide)).2.2 (Ok_62 o6 (by decide)) (fun j hj => ?_) (fun j hj => ?_))
    · rw [mI_wI, if_neg (by decide), mI_wI, if_neg (by decide), mI_wI, if_pos ⟨rfl, rfl⟩]
    · rw [mI_wI, if_neg (by decide), mI_wI, if_pos ⟨rfl, rfl⟩]
    · rw [mI_wI, if_neg (by decide), mI_wI, if_neg (by decide), mI_wI, if_neg (by decide)]
      exact congrFun (OkC k6 (k := 10) (by decide)) 2
    · rw [tC_wo _ _ _ _ (by decide), tC_wo _ _ _ _ (by decide), tC_wo _ _ _ _ (by decide), t6 j hj]
    · rw [wI_o (by decide), wI_o (by decide), wI_o (by decide)]; exact c6 j hj
/-- MARK of the class -/
def MK (m : Nat) (h h' : mh_T) : Prop := (mI h' 10 2).toInt = (m : Int) + 1 ∧ mI h' 10 0 = mI h 10 0 ∧ mI h' 10 1 = mI h 10 1 ∧ h'.2 = h.2 ∧ (∀ k, 62 ≤ k → ¬ k = 137 + m → h'.1 k = h.1 k) ∧ ∀ j, j < 49 → h'.1 (137 + m) j = tC h j
set_option maxRecDepth 100000 in
set_option maxHeartbeats 4000000 in
theorem v_X10_mark {g : gT} {h : mh_T} {P : Int32 → mh_T → Prop} (m : Nat) (em : (mI h 10 2).toInt = (m : Int)) (hG : GI h) (h0 : mI h 3 0 = 0 ∨ m = 4 → ∀ h', Ok [0] h h' → P (-1) h') (hp : ¬ mI h 3 0 = 0 → ¬ m = 4 → ∀ (v : Int32) (h' : mh_T), v.toInt = (m : Int) → Ok [0, 10, 302] h h' → MK m h h' → P v h') : MCi g yX10_mark uX10_mark [.ref 0] h P := by
  have f2 : R 0 4 (mI h 10 2) := GI_rd hG 10 2 rfl
  have m4 : m ≤ 4 := by have := f2.2; omega
  have z4 : (4 : Int32).toInt = 4 := by decide
  have rf : ∀ l : Int32, (mI h 3 0 = 0 ∨ m = 4) → MCi g yX10_refused uX10_refused [.ref 0, .int l] h P := fun l q => e_X10_refused l (h0 q _ (Ok_0 (Ok_rf hG) (by decide)))
  refine e_X10_mark (e_X10_noBook ⟨fun z => ⟨fun _ => ⟨fun c => ?_, fun c => rf 3 (Or.inr ?_)⟩, fun y => absurd rfl y⟩, fun z => ⟨fun y => absurd y (by decide), fun _ => rf 1 (Or.inl z)⟩⟩)
  · have c := i_lt.mp c
    have m3 : m < 4 := by omega
    have sh : shp (137 + m) = (20, 49, []) := (show ∀ p, p < 4 → shp (137 + p) = (20, 49, []) by decide) m m3
    refine e_X4_keep ⟨i_vp em (by omega), ?_⟩
    rw [i_nat em]
    refine v_save (137 + m) sh (by omega) hG (fun h4 k4 r4 o4 s4 => ?_)
    have e10 : ∀ j, mI h4 10 j = mI h 10 j := fun j => congrFun (o4 10 (by omega)) j
    rw [e10 2]
    have em1 : (mI h 10 2 + 1).toInt = (m : Int) + 1 := by rw [i_inc em (by omega)]; omega
    have hv : mI (wI h4 10 2 (mI h 10 2 + 1)) 10 2 - 1 = mI h 10 2 := by
      rw [mI_wI, if_pos ⟨rfl, rfl⟩]
      exact Int32.toInt_inj.mp (by rw [ti_sub1 (x := mI h 10 2 + 1) (hi := 5) ⟨by omega, by omega⟩ (by decide), em1, em]; omega)
    rw [hv]
    have o5 : Ok [0, 10, 302] h (wI h4 10 2 (mI h 10 2 + 1)) := Ok_w (Ok_mono k4 (by decide)) (k := 10) (j := 2) (lo := 0) (hi := 4) rfl ⟨by omega, by omega⟩ (by decide) (by decide)
    refine e_X10_told _ (hp z (by omega) _ _ em (Ok_0 o5 (by decide)) ⟨?_, ?_, ?_, r4, fun k h1 h2 => ?_, fun j hj => ?_⟩)
    · rw [mI_wI, if_neg (by decide), mI_wI, if_pos ⟨rfl, rfl⟩]; exact em1
    · rw [mI_wI, if_neg (by decide), mI_wI, if_neg (by decide), e10]
    · rw [mI_wI, if_neg (by decide), mI_wI, if_neg (by decide), e10]
    · rw [wI_o (by omega), wI_o (by omega), o4 k h2]
    · rw [wI_o (by omega), wI_o (by omega)]; exact s4 j hj
  · have c := i_le.mp (nlt c)
    omega
/-! the relation of the tables and of the histories -/
def RHx (u r m : Nat) (h : mh_T) : Prop := (u + r ≤ 20 ∧ m ≤ 4) ∧ ((mI h 10 0).toInt = (u : Int) ∧ (mI h 10 1).toInt = (u : Int) + r ∧ (mI h 10 2).toInt = (m : Int)) ∧ ((mI h 11 24).toInt = (u : Int) ∧ (mI h 11 25).toInt = (r : Int) ∧ (mI h 11 26).toInt = (m : Int)) ∧ (∀ i, i < u → Rq (hrw h i) (fun j => h.1 49 (49 * i + j)) ∧ ∀ j, j < 5 → hac h i j = h.1 52 (5 * i + j)) ∧ (∀ k, k < r → Rq (hrw h (u + 1 + k)) (fun j => h.1 50 (49 * (r - 1 - k) + j)) ∧ ∀ j, j < 5 → hac h (u + k) j = h.1 53 (5 * (r - 1 - k) + j)) ∧ (0 < r → Rq (hrw h u) (h.1 45)) ∧ ∀ i, i < m → Rq (h.1 (137 + i)) (fun j => h.1 51 (49 * i + j))
def RH (h : mh_T) : Prop := Rc (tC h) (h.1 27) (h.1 45) (h.1 47) ∧ RI h ∧ (mI h 3 1 = mI h 45 50 ∧ NB h) ∧ ∃ u r m, RHx u r m h
/-- what a call of the reference leaves of the class's -/
def LC (h h' : mh_T) : Prop := tC h' = tC h ∧ h'.1 27 = h.1 27 ∧ h'.1 10 = h.1 10 ∧ h'.2.2 40 = h.2.2 40 ∧ h'.2.2 41 = h.2.2 41 ∧ H62 h h' ∧ mI h' 3 1 = mI h 3 1
/-- what a call of the class leaves of the reference's -/
def LR (h h' : mh_T) : Prop := h'.1 45 = h.1 45 ∧ h'.1 47 = h.1 47 ∧ h'.1 49 = h.1 49 ∧ h'.1 50 = h.1 50 ∧ h'.1 51 = h.1 51 ∧ h'.1 52 = h.1 52 ∧ h'.1 53 = h.1 53 ∧ mI h' 11 14 = mI h 11 14 ∧ ∀ j, 24 ≤ j → j ≤ 26 → mI h' 11 j = mI h 11 j
theorem LC_rf (h : mh_T) : LC h h := ⟨rfl, rfl, rfl, rfl, rfl, fun _ _ => rfl, rfl⟩
theorem LR_rf (h : mh_T) : LR h h := ⟨rfl, rfl, rfl, rfl, rfl, rfl, rfl, rfl, fun _ _ _ => rfl⟩
theorem LC_ok {ms : List Nat} {h h' : mh_T} (ok : Ok ms h h') (hm : 3 ∉ ms ∧ 24 ∉ ms ∧ 25 ∉ ms ∧ 26 ∉ ms ∧ 27 ∉ ms ∧ 10 ∉ ms ∧ 40 ∉ ms ∧ 41 ∉ ms ∧ 302 ∉ ms) : LC h h' := ⟨tC_ok ok ⟨hm.1, hm.2.1, hm.2.2.1, hm.2.2.2.1⟩, OkC ok ⟨by decide, hm.2.2.2.2.1⟩, OkC ok ⟨by decide, hm.2.2.2.2.2.1⟩, (ok.2.1 40 (by decide) hm.2.2.2.2.2.2.1).2.2, (ok.2.1 41 (by decide) hm.2.2.2.2.2.2.2.1).2.2, Ok_62 ok hm.2.2.2.2.2.2.2.2, ok.2.2.2.2.1 3 1 (by decide)⟩
theorem LR_ok {ms : List Nat} {h h' : mh_T} (ok : Ok ms h h') (hm : 45 ∉ ms ∧ 47 ∉ ms ∧ 49 ∉ ms ∧ 50 ∉ ms ∧ 51 ∉ ms ∧ 52 ∉ ms ∧ 53 ∉ ms ∧ 301 ∉ ms) : LR h h' := ⟨OkC ok ⟨by decide, hm.1⟩, OkC ok ⟨by decide, hm.2.1⟩, OkC ok ⟨by decide, hm.2.2.1⟩, OkC ok ⟨by decide, hm.2.2.2.1⟩, OkC ok ⟨by decide, hm.2.2.2.2.1⟩, OkC ok ⟨by decide, hm.2.2.2.2.2.1⟩, OkC ok ⟨by decide, hm.2.2.2.2.2.2.1⟩, ok.2.2.2.2.1 11 14 (by decide), Ok_24 ok hm.2.2.2.2.2.2.2⟩
theorem LC_r {h h' : mh_T} (l : LC h h') (ri : RI h) : ∀ i, i < 21 → hrw h' i = hrw h i := fun i hi => by
  have := ri.1 i hi
  show h'.1 (mR h' 41 i) = _
  rw [show mR h' 41 i = mR h 41 i from congrFun l.2.2.2.2.1 i, l.2.2.2.2.2.1 _ (by omega)]
theorem LC_a {h h' : mh_T} (l : LC h h') (hG : GI h) : ∀ i, i < 20 → hac h' i = hac h i := fun i hi => by
  have := sh5 (hG.2.1 i hi)
  show h'.1 (mR h' 40 i) = _
  rw [show mR h' 40 i = mR h 40 i from congrFun l.2.2.2.1 i, l.2.2.2.2.2.1 _ (by omega)]
theorem LC_i {h h' : mh_T} (l : LC h h') (ri : RI h) : RI h' := RI_cg l.2.2.2.1 l.2.2.2.2.1 ri
theorem NB_lr {h h' : mh_T} (l : LR h h') (b : NB h) : NB h' := by
  obtain ⟨e45, -, -, -, -, -, -, e14, e24⟩ := l
  intro z
  obtain ⟨b1, b2, b3, b4, b5⟩ := b (by rw [← e14]; exact z)
  refine ⟨?_, ?_, ?_, ?_, ?_⟩
  · show h'.1 45 50 = 0
    rw [e45]; exact b1
  · show h'.1 45 0 = 0
    rw [e45]; exact b2
  · rw [e24 24 (by decide) (by decide)]; exact b3
  · rw [e24 25 (by decide) (by decide)]; exact b4
  · rw [e24 26 (by decide) (by decide)]; exact b5
/-- a call that asks only -/
theorem RH_s {h h' : mh_T} (hG : GI h) (c : LC h h') (l : LR h h') (r : RH h) : RH h' := by
  obtain ⟨rc, ri, ⟨e31, nb⟩, u, q, m, ⟨b1, b2⟩, c1, c2, x1, x2, x3, x4⟩ := r
  have rr := LC_r c ri
  have ra := LC_a c hG
  have n := NB_lr l nb
  have i := LC_i c ri
  obtain ⟨k1, k2, k3, k4, k5, k6, k7⟩ := c
  obtain ⟨e45, e47, e49, e50, e51, e52, e53, e14, e24⟩ := l
  refine ⟨by rw [k1, k2, e45, e47]; exact rc, i, ⟨?_, n⟩, u, q, m, ⟨b1, b2⟩, ?_, ?_, fun i hi => ?_, fun k hk => ?_, fun hq => ?_, fun i hi => ?_⟩
  · rw [k7, show mI h' 45 50 = mI h 45 50 from congrFun e45 50]; exact e31
  · rw [show mI h' 10 0 = mI h 10 0 from congrFun k3 0, show mI h' 10 1 = mI h 10 1 from congrFun k3 1, show mI h' 10 2 = mI h 10 2 from congrFun k3 2]; exact c1
  · rw [e24 24 (by decide) (by decide), e24 25 (by decide) (by decide), e24 26 (by decide) (by decide)]; exact c2
  · rw [rr i (by omega), ra i (by omega), e49, e52]; exact x1 i hi
  · rw [rr (u + 1 + k) (by omega), ra (u + k) (by omega), e50, e53]; exact x2 k hk
  · rw [rr u (by omega), e45]; exact x3 hq
  · rw [k6 _ (by omega), e51]; exact x4 i hi
theorem Rq_psh {u i : Nat} {A B : Nat → Nat → Int32} {x y : Nat → Int32} (hu : u ≤ 20) (hi : i < (if u = 20 then 20 else u + 1)) (hA : ∀ i, i < u → Rq (A i) (B i)) (hx : Rq x y) : Rq (psh u A x i) (psh u B y i) := by
  unfold psh
  by_cases e : u = 20
  · rw [if_pos e] at hi
    rw [if_pos e, if_pos e]
    by_cases q : i < 19
    · rw [if_pos q, if_pos q]; exact hA _ (by omega)
    · rw [if_neg q, if_neg q, if_pos (by omega), if_pos (by omega)]; exact hx
  · rw [if_neg e] at hi
    rw [if_neg e, if_neg e]
    by_cases q : i = u
    · rw [if_pos q, if_pos q]; exact hx
    · rw [if_neg q, if_neg q]; exact hA _ (by omega)
theorem ac_psh {u i j : Nat} {A B : Nat → Nat → Int32} {x : Nat → Int32} (hu : u ≤ 20) (hi : i < (if u = 20 then 20 else u + 1)) (hA : ∀ i, i < u → A i j = B i j) : psh u A x i j = psh u B x i j := by
  unfold psh
  by_cases e : u = 20
  · rw [if_pos e] at hi
    rw [if_pos e, if_pos e]
    by_cases q : i < 19
    · rw [if_pos q, if_pos q]; exact hA _ (by omega)
    · rw [if_neg q, if_neg q, if_pos (by omega), if_pos (by omega)]
  · rw [if_neg e] at hi
    rw [if_neg e, if_neg e]
    by_cases q : i = u
    · rw [if_pos q, if_pos q]
    · rw [if_neg q, if_neg q]; exact hA _ (by omega)
/-- an act, done on both sides -/
theorem RH_act {u : Nat} {a : Nat → Int32} {h h1 h2 : mh_T} (r : RH h) (eu : (mI h 10 0).toInt = (u : Int)) (hB : ¬ mI h 11 14 = 0) (k1 : Ok msK h h1) (hc : HC u a h h1) (k2 : Ok msR h1 h2) (hd : HD u a h1 h2) (rc : Rc (tC h1) (h1.1 27) (h2.1 45) (h2.1 47)) : RH h2 := by
  obtain ⟨rc0, ri, ⟨e31, nb⟩, u', q, m, ⟨b1, b2⟩, c1, c2, x1, x2, x3, x4⟩ := r
  have : u' = u := by have := c1.1; omega
  subst this
  have lr := LR_ok k1 (by decide)
  have lc := LC_ok k2 (by decide)
  obtain ⟨a1, a2, a3, a4, a5, a6, a7⟩ := hc
  obtain ⟨d1, d2, d3, d4, d5⟩ := hd
  have rr := LC_r lc a4
  have ra := LC_a lc k1.1
  have iN := LC_i lc a4
  obtain ⟨y1, y2, y3, y4, y5, y6, y7⟩ := lc
  obtain ⟨e45, e47, e49, e50, e51, e52, e53, e14, e24⟩ := lr
  have e10 : ∀ j, mI h2 10 j = mI h1 10 j := fun j => congrFun y3 j
  have p31 : mI h1 3 1 = mI h 3 1 := k1.2.2.2.2.1 3 1 (by decide)
  have p45 : mI h2 45 50 = mI h1 45 50 := k2.2.2.2.2.1 45 50 (by decide)
  have p14 : mI h2 11 14 = mI h1 11 14 := k2.2.2.2.2.1 11 14 (by decide)
  have z0 : (0 : Int32).toInt = 0 := by decide
  have u20 : u' ≤ 20 := by omega
  refine ⟨by rw [y1, y2]; exact rc, iN, ⟨?_, fun z => absurd (by rw [← e14, ← p14]; exact z) hB⟩, (if u' = 20 then 20 else u' + 1), 0, m, ⟨by split <;> omega, b2⟩, ⟨?_, ?_, ?_⟩, ⟨?_, ?_, ?_⟩, fun i hi => ?_, fun k hk => absurd hk (Nat.not_lt_zero _), fun hq => absurd hq (Nat.lt_irrefl _), fun i hi => ?_⟩
  · rw [y7, p31, p45, show mI h1 45 50 = mI h 45 50 from congrFun e45 50]; exact e31
  · rw [e10, a1]; split <;> rfl
  · rw [e10, a2, a1]; split <;> rfl
  · rw [e10, a3]; exact c1.2.2
  · rw [d1]; split <;> rfl
  · rw [d2]; rfl
  · rw [d3, e24 26 (by decide) (by decide)]; exact c2.2.2
  · have i20 : i < 20 := by
      by_cases e : u' = 20
      · rw [if_pos e] at hi; exact hi
      · rw [if_neg e] at hi; omega
    rw [rr i (by omega), ra i i20]
    refine ⟨Rq_cg (Rq_psh (u := u') (i := i) (A := hrw h) (B := fun i j => h.1 49 (49 * i + j)) (x := tC h) (y := h.1 45) u20 hi (fun i hi => (x1 i hi).1) rc0.1) (fun j hj => a5 i j i20 hj) (fun j hj => ?_), fun j hj => ?_⟩
    · show h2.1 49 (49 * i + j) = _
      rw [d4 i j i20 hj]
      exact psh_cg (n := 49) (fun i j _ => by rw [e49]) (fun j _ => by rw [e45]) hj
    · rw [a6 i j i20 hj, d5 i j i20 hj, e52]
      exact ac_psh (A := hac h) (B := fun i j => h.1 52 (5 * i + j)) u20 hi (fun i hi => (x1 i hi).2 j hj)
  · rw [y6 _ (by omega), a7 _ (by omega), OkC k2 (k := 51) (by decide), e51]
    exact x4 i hi
theorem RH_stake {l1 l2 l3 : Int32} {h h1 h2 : mh_T} (hG : GI h) (r : RH h) (k1 : Ok [0, 27] h h1) (e1 : ∀ j, h1.1 27 j = if j = 4 * l1.toInt.toNat + l2.toInt.toNat then l3 else h.1 27 j) (k2 : Ok [300, 11, 47] h1 h2) (e2 : ∀ j, h2.1 47 j = if j = 4 * l1.toInt.toNat + l2.toInt.toNat then l3 else h1.1 47 j) : RH h2 := by
  obtain ⟨rc, ri, ⟨e31, nb⟩, u, q, m, ⟨b1, b2⟩, c1, c2, x1, x2, x3, x4⟩ := r
  have k10 : ∀ j, mI h2 10 j = mI h 10 j := fun j => by rw [show mI h2 10 j = mI h1 10 j from congrFun (OkC k2 (k := 10) (by decide)) j]; exact congrFun (OkC k1 (k := 10) (by decide)) j
  have kk : ∀ k, k < 62 → k ∉ [0, 27] → k ∉ [300, 11, 47] → h2.1 k = h.1 k := fun k hk h1 h2 => by rw [OkC k2 ⟨hk, h2⟩, OkC k1 ⟨hk, h1⟩]
  have k24 : ∀ j, 24 ≤ j → j ≤ 26 → mI h2 11 j = mI h 11 j := fun j p1 p2 => by rw [Ok_24 k2 (by decide) j p1 p2, Ok_24 k1 (by decide) j p1 p2]
  have e40 : h2.2.2 40 = h.2.2 40 := by rw [(k2.2.1 40 (by decide) (by decide)).2.2, (k1.2.1 40 (by decide) (by decide)).2.2]
  have e41 : h2.2.2 41 = h.2.2 41 := by rw [(k2.2.1 41 (by decide) (by decide)).2.2, (k1.2.1 41 (by decide) (by decide)).2.2]
  have h62 : H62 h h2 := H62_tr (Ok_62 k1 (by decide)) (Ok_62 k2 (by decide))
  have e45 := kk 45 (by decide) (by decide) (by decide)
  have tc : tC h2 = tC h := by rw [tC_ok k2 (by decide), tC_ok k1 (by decide)]
  have lcc : LC h h2 → LC h h2 := id
  have rr : ∀ i, i < 21 → hrw h2 i = hrw h i := fun i hi => by
    have := ri.1 i hi
    show h2.1 (mR h2 41 i) = _
    rw [show mR h2 41 i = mR h 41 i from congrFun e41 i, h62 _ (by omega)]
  have ra : ∀ i, i < 20 → hac h2 i = hac h i := fun i hi => by
    have := sh5 (hG.2.1 i hi)
    show h2.1 (mR h2 40 i) = _
    rw [show mR h2 40 i = mR h 40 i from congrFun e40 i, h62 _ (by omega)]
  refine ⟨?_, RI_cg e40 e41 ri, ⟨?_, ?_⟩, u, q, m, ⟨b1, b2⟩, ?_, ?_, fun i hi => ?_, fun k hk => ?_, fun hq => ?_, fun i hi => ?_⟩
  · rw [tc, e45]
    refine ⟨rc.1, fun s hs o ho => ?_⟩
    rw [OkC k2 (k := 27) (by decide), e1, e2, OkC k1 (k := 47) (by decide)]
    by_cases e : 4 * s + o = 4 * l1.toInt.toNat + l2.toInt.toNat
    · rw [if_pos e, if_pos e]
    · rw [if_neg e, if_neg e]
      exact rc.2 s hs o ho
  · rw [k2.2.2.2.2.1 3 1 (by decide), k1.2.2.2.2.1 3 1 (by decide), show mI h2 45 50 = mI h 45 50 from congrFun e45 50]; exact e31
  · intro z
    obtain ⟨n1, n2, n3, n4, n5⟩ := nb (by rw [← k1.2.2.2.2.1 11 14 (by decide), ← k2.2.2.2.2.1 11 14 (by decide)]; exact z)
    refine ⟨?_, ?_, ?_, ?_, ?_⟩
    · show h2.1 45 50 = 0
      rw [e45]; exact n1
    · show h2.1 45 0 = 0
      rw [e45]; exact n2
    · rw [k24 24 (by decide) (by decide)]; exact n3
    · rw [k24 25 (by decide) (by decide)]; exact n4
    · rw [k24 26 (by decide) (by decide)]; exact n5
  · rw [k10, k10, k10]; exact c1
  · rw [k24 24 (by decide) (by decide), k24 25 (by decide) (by decide), k24 26 (by decide) (by decide)]; exact c2
  · rw [rr i (by omega), ra i (by omega), kk 49 (by decide) (by decide) (by decide), kk 52 (by decide) (by decide) (by decide)]; exact x1 i hi
  · rw [rr (u + 1 + k) (by omega), ra (u + k) (by omega), kk 50 (by decide) (by decide) (by decide), kk 53 (by decide) (by decide) (by decide)]; exact x2 k hk
  · rw [rr u (by omega), e45]; exact x3 hq
  · rw [h62 _ (by omega), kk 51 (by decide) (by decide) (by decide)]; exact x4 i hi
theorem RH_undo {u r : Nat} {h h1 h2 : mh_T} (rh : RH h) (eu : (mI h 10 0).toInt = (u : Int)) (er : (mI h 11 25).toInt = (r : Int)) (u0 : ¬ u = 0) (k1 : Ok msK h h1) (hc : TBk u h h1) (k2 : Ok msU h1 h2) (hd : UD u r h1 h2) : RH h2 := by
  obtain ⟨rc0, ri, ⟨e31, nb⟩, u', q, m, ⟨b1, b2⟩, c1, c2, x1, x2, x3, x4⟩ := rh
  have : u' = u := by have := c1.1; omega
  subst this
  have : q = r := by have := c2.2.1; omega
  subst this
  have lr := LR_ok k1 (by decide)
  have lc := LC_ok k2 (by decide)
  obtain ⟨a1, a2, a3, a4, a5, a6, a7, a8, a9⟩ := hc
  obtain ⟨d1, d2, d3, d4, d5, d6, d7, d8, d9⟩ := hd
  have rr := LC_r lc a4
  have ra := LC_a lc k1.1
  have iN := LC_i lc a4
  obtain ⟨y1, y2, y3, y4, y5, y6, y7⟩ := lc
  obtain ⟨e45, e47, e49, e50, e51, e52, e53, e14, e24⟩ := lr
  have e10 : ∀ j, mI h2 10 j = mI h1 10 j := fun j => congrFun y3 j
  have p31 : mI h1 3 1 = mI h 3 1 := k1.2.2.2.2.1 3 1 (by decide)
  have p45 : mI h2 45 50 = mI h1 45 50 := k2.2.2.2.2.1 45 50 (by decide)
  have p14 : mI h2 11 14 = mI h1 11 14 := k2.2.2.2.2.1 11 14 (by decide)
  have tnew : ∀ j, j < 49 → tC h2 j = hrw h (u' - 1) j := fun j hj => by rw [y1]; exact a8 j hj
  have rnew : ∀ j, j < 49 → h2.1 45 j = h.1 49 (49 * (u' - 1) + j) := fun j hj => by rw [d8 j hj, e49]
  have top := Rq_cg (x1 (u' - 1) (by omega)).1 tnew rnew
  refine ⟨⟨top, fun s hs o ho => ?_⟩, iN, ⟨?_, fun z => ?_⟩, u' - 1, q + 1, m, ⟨by omega, b2⟩, ⟨?_, ?_, ?_⟩, ⟨?_, ?_, ?_⟩, fun i hi => ?_, fun k hk => ?_, fun hq => ?_, fun i hi => ?_⟩
  · have s8 : s < 8 := by have := top.2.1.2.1; unfold sn at hs; omega
    rw [y2, a9 _ (by omega), d9 _ (by omega)]
  · rw [y7, p31, p45, show mI h1 45 50 = mI h 45 50 from congrFun e45 50]; exact e31
  · have z' : mI h 11 14 = 0 := by rw [← e14, ← p14]; exact z
    have := (nb z').2.2.1
    have c := c2.1
    rw [this, i_0] at c
    omega
  · rw [e10, a1]; omega
  · rw [e10, a2, c1.2.1]; omega
  · rw [e10, a3]; exact c1.2.2
  · rw [d1]; omega
  · rw [d2]; omega
  · rw [d3, e24 26 (by decide) (by decide)]; exact c2.2.2
  · rw [rr i (by omega), ra i (by omega), a6 i (by omega)]
    refine ⟨Rq_cg (x1 i (by omega)).1 (fun j hj => ?_) (fun j hj => ?_), fun j hj => ?_⟩
    · rw [a5 i j (by omega) hj, if_neg (by omega)]
    · show h2.1 49 _ = _
      rw [d4, e49]
    · rw [d5, e52]; exact (x1 i (by omega)).2 j hj
  · rw [rr (u' - 1 + 1 + k) (by omega), ra (u' - 1 + k) (by omega), a6 (u' - 1 + k) (by omega), show u' - 1 + 1 + k = u' + k by omega, show q + 1 - 1 - k = q - k by omega]
    by_cases ek : k = 0
    · subst ek
      refine ⟨Rq_cg rc0.1 (fun j hj => ?_) (fun j hj => ?_), fun j hj => ?_⟩
      · rw [a5 _ j (by omega) hj, if_pos (by omega)]
      · show h2.1 50 (49 * (q - 0) + j) = _
        rw [Nat.sub_zero, d6 q j (by omega) hj, if_pos rfl, e45]
      · rw [Nat.sub_zero, Nat.add_zero, d7 q j (by omega) hj, if_pos rfl, e52]
        exact (x1 (u' - 1) (by omega)).2 j hj
    · have xk := x2 (k - 1) (by omega)
      rw [show u' + 1 + (k - 1) = u' + k by omega, show q - 1 - (k - 1) = q - k by omega, show u' + (k - 1) = u' - 1 + k by omega] at xk
      refine ⟨Rq_cg xk.1 (fun j hj => ?_) (fun j hj => ?_), fun j hj => ?_⟩
      · rw [a5 _ j (by omega) hj, if_neg (by omega)]
      · show h2.1 50 (49 * (q - k) + j) = _
        rw [d6 (q - k) j (by omega) hj, if_neg (by omega), e50]
      · rw [d7 (q - k) j (by omega) hj, if_neg (by omega), e53]
        exact xk.2 j hj
  · rw [rr (u' - 1) (by omega)]
    refine Rq_cg (x1 (u' - 1) (by omega)).1 (fun j hj => ?_) rnew
    rw [a5 _ j (by omega) hj, if_neg (by omega)]
  · rw [y6 _ (by omega), a7 _ (by omega), OkC k2 (k := 51) (by decide), e51]
    exact x4 i hi
theorem RH_redo {u r : Nat} {h h1 h2 : mh_T} (hG : GI h) (rh : RH h) (eu : (mI h 10 0).toInt = (u : Int)) (er : (mI h 11 25).toInt = (r : Int)) (r0 : ¬ r = 0) (k1 : Ok msK h h1) (f1 : (mI h1 10 0).toInt = (u : Int) + 1) (f2 : mI h1 10 1 = mI h 10 1) (hc : RD (hrw h (u + 1)) h h1) (k2 : Ok msU h1 h2) (hd : UR u r h1 h2) : RH h2 := by
  obtain ⟨rc0, ri, ⟨e31, nb⟩, u', q, m, ⟨b1, b2⟩, c1, c2, x1, x2, x3, x4⟩ := rh
  have : u' = u := by have := c1.1; omega
  subst this
  have : q = r := by have := c2.2.1; omega
  subst this
  have lr := LR_ok k1 (by decide)
  have lc := LC_ok k2 (by decide)
  obtain ⟨a3, a4, a5, a6, a7, a8, a9⟩ := hc
  obtain ⟨d1, d2, d3, d4, d5, d6, d7, d8, d9⟩ := hd
  have rr := LC_r lc a4
  have ra := LC_a lc k1.1
  have iN := LC_i lc a4
  obtain ⟨y1, y2, y3, y4, y5, y6, y7⟩ := lc
  obtain ⟨e45, e47, e49, e50, e51, e52, e53, e14, e24⟩ := lr
  have e10 : ∀ j, mI h2 10 j = mI h1 10 j := fun j => congrFun y3 j
  have p31 : mI h1 3 1 = mI h 3 1 := k1.2.2.2.2.1 3 1 (by decide)
  have p45 : mI h2 45 50 = mI h1 45 50 := k2.2.2.2.2.1 45 50 (by decide)
  have p14 : mI h2 11 14 = mI h1 11 14 := k2.2.2.2.2.1 11 14 (by decide)
  have xt := x2 0 (by omega)
  rw [Nat.add_zero, Nat.add_zero, Nat.sub_zero] at xt
  have tnew : ∀ j, j < 49 → tC h2 j = hrw h (u' + 1) j := fun j hj => by rw [y1]; exact a8 j hj
  have rnew : ∀ j, j < 49 → h2.1 45 j = h.1 50 (49 * (q - 1) + j) := fun j hj => by rw [d8 j hj, e50]
  have top := Rq_cg xt.1 tnew rnew
  refine ⟨⟨top, fun s hs o ho => ?_⟩, iN, ⟨?_, fun z => ?_⟩, u' + 1, q - 1, m, ⟨by omega, b2⟩, ⟨?_, ?_, ?_⟩, ⟨?_, ?_, ?_⟩, fun i hi => ?_, fun k hk => ?_, fun hq => ?_, fun i hi => ?_⟩
  · have s8 : s < 8 := by have := top.2.1.2.1; unfold sn at hs; omega
    rw [y2, a9 _ (by omega), d9 _ (by omega)]
  · rw [y7, p31, p45, show mI h1 45 50 = mI h 45 50 from congrFun e45 50]; exact e31
  · have z' : mI h 11 14 = 0 := by rw [← e14, ← p14]; exact z
    have := (nb z').2.2.2.1
    have c := c2.2.1
    rw [this, i_0] at c
    omega
  · rw [e10, f1]; omega
  · rw [e10, f2, c1.2.1]; omega
  · rw [e10, a3]; exact c1.2.2
  · rw [d1]; omega
  · rw [d2]; omega
  · rw [d3, e24 26 (by decide) (by decide)]; exact c2.2.2
  · rw [rr i (by omega), ra i (by omega), a5 i (by omega), a6 i (by omega)]
    by_cases e : i = u'
    · subst e
      refine ⟨Rq_cg (x3 (by omega)) (fun j hj => rfl) (fun j hj => ?_), fun j hj => ?_⟩
      · show h2.1 49 (49 * i + j) = _
        rw [d6 i j (by omega) hj, if_pos rfl, e45]
      · rw [d7 i j (by omega) hj, if_pos rfl, e53]
        exact xt.2 j hj
    · refine ⟨Rq_cg (x1 i (by omega)).1 (fun j hj => rfl) (fun j hj => ?_), fun j hj => ?_⟩
      · show h2.1 49 (49 * i + j) = _
        rw [d6 i j (by omega) hj, if_neg e, e49]
      · rw [d7 i j (by omega) hj, if_neg e, e52]
        exact (x1 i (by omega)).2 j hj
  · rw [rr (u' + 1 + 1 + k) (by omega), ra (u' + 1 + k) (by omega), a5 (u' + 1 + 1 + k) (by omega), a6 (u' + 1 + k) (by omega)]
    have xk := x2 (k + 1) (by omega)
    rw [show u' + 1 + (k + 1) = u' + 1 + 1 + k by omega, show q - 1 - (k + 1) = q - 1 - 1 - k by omega, show u' + (k + 1) = u' + 1 + k by omega] at xk
    rw [d4, d5, e50, e53]
    exact xk
  · rw [rr (u' + 1) (by omega), a5 (u' + 1) (by omega)]
    exact Rq_cg xt.1 (fun _ _ => rfl) rnew
  · rw [y6 _ (by omega), a7 _ (by omega), OkC k2 (k := 51) (by decide), e51]
    exact x4 i hi
theorem RH_back {l : Nat} {h h1 h2 : mh_T} (rh : RH h) (hl : (l : Int) < (mI h 10 2).toInt) (k1 : Ok msK h h1) (f1 : mI h1 10 0 = 0) (f2 : mI h1 10 1 = 0) (hc : RD (h.1 (137 + l)) h h1) (k2 : Ok [301, 300, 11, 45, 47] h1 h2) (hd : BD l h1 h2) : RH h2 := by
  obtain ⟨rc0, ri, ⟨e31, nb⟩, u, q, m, ⟨b1, b2⟩, c1, c2, x1, x2, x3, x4⟩ := rh
  have lr := LR_ok k1 (by decide)
  have lc := LC_ok k2 (by decide)
  obtain ⟨a3, a4, a5, a6, a7, a8, a9⟩ := hc
  obtain ⟨d1, d2, d3, d8, d9⟩ := hd
  have iN := LC_i lc a4
  obtain ⟨y1, y2, y3, y4, y5, y6, y7⟩ := lc
  obtain ⟨e45, e47, e49, e50, e51, e52, e53, e14, e24⟩ := lr
  have e10 : ∀ j, mI h2 10 j = mI h1 10 j := fun j => congrFun y3 j
  have p31 : mI h1 3 1 = mI h 3 1 := k1.2.2.2.2.1 3 1 (by decide)
  have p45 : mI h2 45 50 = mI h1 45 50 := k2.2.2.2.2.1 45 50 (by decide)
  have p14 : mI h2 11 14 = mI h1 11 14 := k2.2.2.2.2.1 11 14 (by decide)
  have lm : l < m := by have := c1.2.2; omega
  have tnew : ∀ j, j < 49 → tC h2 j = h.1 (137 + l) j := fun j hj => by rw [y1]; exact a8 j hj
  have rnew : ∀ j, j < 49 → h2.1 45 j = h.1 51 (49 * l + j) := fun j hj => by rw [d8 j hj, e51]
  have top := Rq_cg (x4 l lm) tnew rnew
  refine ⟨⟨top, fun s hs o ho => ?_⟩, iN, ⟨?_, fun z => ?_⟩, 0, 0, m, ⟨by omega, b2⟩, ⟨?_, ?_, ?_⟩, ⟨?_, ?_, ?_⟩, fun i hi => absurd hi (Nat.not_lt_zero _), fun k hk => absurd hk (Nat.not_lt_zero _), fun hq => absurd hq (Nat.lt_irrefl _), fun i hi => ?_⟩
  · have s8 : s < 8 := by have := top.2.1.2.1; unfold sn at hs; omega
    rw [y2, a9 _ (by omega), d9 _ (by omega)]
  · rw [y7, p31, p45, show mI h1 45 50 = mI h 45 50 from congrFun e45 50]; exact e31
  · have z' : mI h 11 14 = 0 := by rw [← e14, ← p14]; exact z
    have := (nb z').2.2.2.2
    have c := c2.2.2
    rw [this, i_0] at c
    omega
  · rw [e10, f1]; rfl
  · rw [e10, f2]; rfl
  · rw [e10, a3]; exact c1.2.2
  · rw [d1]; rfl
  · rw [d2]; rfl
  · rw [d3, e24 26 (by decide) (by decide)]; exact c2.2.2
  · rw [y6 _ (by omega), a7 _ (by omega), OkC k2 (k := 51) (by decide), e51]
    exact x4 i hi
theorem RH_mark {m : Nat} {h h1 h2 : mh_T} (hG : GI h) (rh : RH h) (em : (mI h 10 2).toInt = (m : Int)) (hB : ¬ mI h 11 14 = 0) (m4 : ¬ m = 4) (k1 : Ok [0, 10, 302] h h1) (hc : MK m h h1) (k2 : Ok [301, 300, 11, 51] h1 h2) (hd : MD m h1 h2) : RH h2 := by
  obtain ⟨rc0, ri, ⟨e31, nb⟩, u, q, m', ⟨b1, b2⟩, c1, c2, x1, x2, x3, x4⟩ := rh
  have : m' = m := by have := c1.2.2; omega
  subst this
  have lr := LR_ok k1 (by decide)
  have lc := LC_ok k2 (by decide)
  obtain ⟨a1, a2, a3, a4, a5, a6⟩ := hc
  obtain ⟨d1, d2, d3, d4⟩ := hd
  have ri1 : RI h1 := RI_cg (by rw [a4]) (by rw [a4]) ri
  have rr := LC_r lc ri1
  have ra := LC_a lc k1.1
  have iN := LC_i lc ri1
  obtain ⟨y1, y2, y3, y4, y5, y6, y7⟩ := lc
  obtain ⟨e45, e47, e49, e50, e51, e52, e53, e14, e24⟩ := lr
  have e10 : ∀ j, mI h2 10 j = mI h1 10 j := fun j => congrFun y3 j
  have p31 : mI h1 3 1 = mI h 3 1 := k1.2.2.2.2.1 3 1 (by decide)
  have p14 : mI h2 11 14 = mI h1 11 14 := k2.2.2.2.2.1 11 14 (by decide)
  have f45 : h2.1 45 = h.1 45 := by rw [OkC k2 (k := 45) (by decide), e45]
  have tc : tC h2 = tC h := by rw [y1, tC_ok k1 (by decide)]
  have r1 : ∀ i, i < 21 → hrw h1 i = hrw h i := fun i hi => by
    have := ri.1 i hi
    show h1.1 (mR h1 41 i) = _
    rw [show mR h1 41 i = mR h 41 i by show h1.2.2 41 i = h.2.2 41 i; rw [a4], a5 _ (by omega) (by omega)]
  have r2 : ∀ i, i < 20 → hac h1 i = hac h i := fun i hi => by
    have := sh5 (hG.2.1 i hi)
    show h1.1 (mR h1 40 i) = _
    rw [show mR h1 40 i = mR h 40 i by show h1.2.2 40 i = h.2.2 40 i; rw [a4], a5 _ (by omega) (by omega)]
  refine ⟨?_, iN, ⟨?_, fun z => absurd (by rw [← e14, ← p14]; exact z) hB⟩, u, q, m' + 1, ⟨b1, by omega⟩, ⟨?_, ?_, ?_⟩, ⟨?_, ?_, ?_⟩, fun i hi => ?_, fun k hk => ?_, fun hq => ?_, fun i hi => ?_⟩
  · rw [tc, f45, y2, OkC k1 (k := 27) (by decide), OkC k2 (k := 47) (by decide), e47]; exact rc0
  · rw [y7, p31, show mI h2 45 50 = mI h 45 50 from congrFun f45 50]; exact e31
  · rw [e10, a2]; exact c1.1
  · rw [e10, a3]; exact c1.2.1
  · rw [e10, a1]; omega
  · rw [d2, e24 24 (by decide) (by decide)]; exact c2.1
  · rw [d3, e24 25 (by decide) (by decide)]; exact c2.2.1
  · rw [d1]; omega
  · rw [rr i (by omega), ra i (by omega), r1 i (by omega), r2 i (by omega), OkC k2 (k := 49) (by decide), OkC k2 (k := 52) (by decide), e49, e52]; exact x1 i hi
  · rw [rr (u + 1 + k) (by omega), ra (u + k) (by omega), r1 (u + 1 + k) (by omega), r2 (u + k) (by omega), OkC k2 (k := 50) (by decide), OkC k2 (k := 53) (by decide), e50, e53]; exact x2 k hk
  · rw [rr u (by omega), r1 u (by omega), f45]; exact x3 hq
  · rw [y6 _ (by omega)]
    by_cases e : i = m'
    · subst e
      refine Rq_cg rc0.1 (fun j hj => a6 j hj) (fun j hj => ?_)
      show h2.1 51 (49 * i + j) = _
      rw [d4 i j (by omega) hj, if_pos rfl, e45]
    · refine Rq_cg (x4 i (by omega)) (fun j hj => ?_) (fun j hj => ?_)
      · rw [a5 _ (by omega) (by omega)]
      · show h2.1 51 (49 * i + j) = _
        rw [d4 i j (by omega) hj, if_neg e, e51]
/-! BOOK: the table that a text makes, and the relation after it -/
def Gd {α : Type} (o : rx_O α) (Q : α → (Nat → Int32) → Prop) : Prop := ∀ v e f, o = .inr (v, e, f) → Q v f
theorem Gd_no {α : Type} {T : Nat → Int32} {n e : Nat} {w : Int32} {Q : α → (Nat → Int32) → Prop} : Gd (rx_no T n e w : rx_O α) Q := fun _ _ _ h => by cases h
theorem Gd_in {α : Type} {v : α} {e : Nat} {f : Nat → Int32} {Q : α → (Nat → Int32) → Prop} (h : Q v f) : Gd (.inr (v, e, f) : rx_O α) Q := fun _ _ _ q => by cases q; exact h
theorem Gd_bind {α β : Type} {o : rx_O α} {k : α → Nat → (Nat → Int32) → rx_O β} {Q : α → (Nat → Int32) → Prop} {Q' : β → (Nat → Int32) → Prop} (h : Gd o Q) (hk : ∀ v e f, Q v f → Gd (k v e f) Q') : Gd (rx_bind o k) Q' := by
  intro v e f q
  cases a : o with
  | inl z => rw [a] at q; cases q
  | inr z =>
    obtain ⟨v1, e1, f1⟩ := z
    rw [a] at q
    exact hk v1 e1 f1 (h v1 e1 f1 a) v e f q
theorem Gd_ite {α : Type} {c : Prop} [Decidable c] {x y : rx_O α} {Q : α → (Nat → Int32) → Prop} (hx : c → Gd x Q) (hy : ¬ c → Gd y Q) : Gd (if c then x else y) Q := by
  by_cases h : c
  · rw [if_pos h]; exact hx h
  · rw [if_neg h]; exact hy h
theorem Gd_word {T : Nat → Int32} {n i e : Nat} {f : Nat → Int32} : Gd (rx_word T n i e f) (fun _ f' => f' = f) := Gd_ite (fun _ => Gd_in rfl) (fun _ => Gd_no)
theorem Gd_sign {T : Nat → Int32} {n : Nat} {c : Int32} {e : Nat} {f : Nat → Int32} : Gd (rx_sign T n c e f) (fun _ f' => f' = f) := Gd_ite (fun _ => Gd_in rfl) (fun _ => Gd_no)
theorem Gd_num {T : Nat → Int32} {n : Nat} {lo hi : Int32} {e : Nat} {f : Nat → Int32} : Gd (rx_num T n lo hi e f) (fun v f' => f' = f ∧ lo.toInt ≤ v.toInt ∧ v.toInt ≤ hi.toInt) := Gd_ite (fun _ => Gd_no) (fun _ => Gd_ite (fun h => Gd_in ⟨rfl, i_le.mp h.1, i_le.mp h.2⟩) (fun _ => Gd_no))
theorem Gd_name {T : Nat → Int32} {n : Nat} {lk : Bool} {e : Nat} {f : Nat → Int32} : Gd (rx_name T n lk e f) (fun k f' => f' = f ∧ k < 15) := by
  unfold rx_name
  refine Gd_ite (fun _ => ?_) (fun _ => Gd_no)
  cases a : rx_fd T n e f with
  | none => exact Gd_no
  | some j =>
    have j15 : j < 15 := List.mem_range.mp (List.mem_of_find?_eq_some a)
    refine Gd_ite (fun _ => Gd_in ⟨rfl, ?_⟩) (fun _ => Gd_no)
    split <;> omega
abbrev LoL (f f' : Nat → Int32) : Prop := (∀ i, i < 50 → f' i = f i)
theorem rx_set_lo {f f' : Nat → Int32} {j : Nat} {v : Int32} (hj : 50 ≤ j) (h : LoL f f') : LoL f (rx_set f' j v) := fun i hi => by
  unfold rx_set
  rw [if_neg (by omega)]
  exact h i hi
theorem Gd_nn {T : Nat → Int32} {n c fs : Nat} {mo : Int32} (hc : 50 ≤ c) : ∀ (k e : Nat) (f0 f : Nat → Int32), LoL f0 f → Gd (rx_nn T n c fs mo k e f) (fun _ f' => LoL f0 f')
  | 0, _, _, _, _ => Gd_no
  | k + 1, e, f0, f, h => by
    unfold rx_nn
    have hp : LoL f0 (rx_set (rx_put T n e f (fs + (f c).toNatClampNeg)) c (f c + 1)) := rx_set_lo hc (fun i hi => by
      unfold rx_put
      rw [if_neg (by omega), if_neg (by omega)]
      exact h i hi)
    exact Gd_ite (fun _ => Gd_ite (fun _ => Gd_no) (fun _ => Gd_ite (fun _ => Gd_no) (fun _ => Gd_ite (fun _ => Gd_nn hc k _ f0 _ hp) (fun _ => Gd_in hp)))) (fun _ => Gd_no)
theorem Gd_pt {T : Nat → Int32} {n l : Nat} : ∀ (r : Nat) (u : Nat → Bool) (e : Nat) (f0 f : Nat → Int32), LoL f0 f → Gd (rx_pt T n l r u e f) (fun _ f' => LoL f0 f')
  | 0, _, _, _, _, h => Gd_in h
  | r + 1, u, e, f0, f, h => by
    unfold rx_pt
    refine Gd_bind (Q := fun _ f' => f' = f) (Gd_ite (fun _ => Gd_in rfl) (fun _ => Gd_sign)) (fun _ e0 f1 q1 => Gd_bind Gd_name (fun p e2 f2 q2 => Gd_ite (fun _ => Gd_no) (fun _ => Gd_pt r _ _ f0 _ (rx_set_lo (by omega) ?_))))
    rw [q2.1, q1]
    exact h
theorem Gd_pa {T : Nat → Int32} {n l : Nat} : ∀ (r : Nat) (an : Bool) (e : Nat) (f0 f : Nat → Int32), LoL f0 f → Gd (rx_pa T n l r an e f) (fun _ f' => LoL f0 f')
  | 0, _, _, _, _, h => Gd_in (rx_set_lo (by omega) h)
  | r + 1, an, e, f0, f, h => by
    unfold rx_pa
    refine Gd_bind (Q := fun _ f' => f' = f) (Gd_ite (fun _ => Gd_in rfl) (fun _ => Gd_sign)) (fun _ e0 f1 q1 => Gd_bind Gd_num (fun p e2 f2 q2 => Gd_ite (fun _ => Gd_no) (fun _ => Gd_pa r _ _ f0 _ (rx_set_lo (by omega) ?_))))
    rw [q2.1, q1]
    exact h
theorem Gd_st {T : Nat → Int32} {n l : Nat} : ∀ (r : Nat) (e : Nat) (f0 f : Nat → Int32), LoL f0 f → Gd (rx_st T n l r e f) (fun _ f' => LoL f0 f')
  | 0, e, f0, f, h => by
    unfold rx_st
    exact Gd_bind Gd_name (fun _ _ _ _ => Gd_no)
  | r + 1, e, f0, f, h => by
    unfold rx_st
    refine Gd_bind Gd_name (fun k e1 f1 q1 => Gd_bind Gd_num (fun v e2 f2 q2 => ?_))
    have h2 : LoL f0 f2 := by rw [q2.1, q1.1]; exact h
    exact Gd_ite (fun _ => Gd_st r _ f0 _ (rx_set_lo (by omega) (rx_set_lo (by omega) h2))) (fun _ => Gd_in (rx_set_lo (by omega) (rx_set_lo (by omega) (rx_set_lo (by omega) (rx_set_lo (by omega) h2)))))
/-- what holds of a draft -/
def TIf (f : Nat → Int32) : Prop := (0 ≤ (f 49).toInt ∧ (f 49).toInt ≤ 60) ∧ (0 ≤ (f 0).toInt ∧ (f 0).toInt ≤ 8) ∧ ∀ s : Nat, s < 8 → ((s : Int) < (f 0).toInt → TS f s) ∧ ((f 0).toInt ≤ (s : Int) → ∀ o, o < 4 → f (17 + 4 * s + o) = 0)
theorem TIf_lo {f f' : Nat → Int32} (h : LoL f f') (t : TIf f) : TIf f' := by
  obtain ⟨t1, t2, t3⟩ := t
  unfold TIf
  rw [h 49 (by omega), h 0 (by omega)]
  refine ⟨t1, t2, fun s hs => ⟨fun q => TS_sE ⟨h _ (by omega), h _ (by omega), fun o ho => h _ (by omega)⟩ ((t3 s hs).1 q), fun q o ho => ?_⟩⟩
  rw [h _ (by omega)]
  exact (t3 s hs).2 q o ho
theorem Gd_mono {α : Type} {o : rx_O α} {Q Q' : α → (Nat → Int32) → Prop} (h : Gd o Q) (hq : ∀ v f, Q v f → Q' v f) : Gd o Q' := fun v e f q => hq v f (h v e f q)
theorem Gd_law {T : Nat → Int32} {n e : Nat} {f : Nat → Int32} (t : TIf f) : Gd (rx_lawL T n e f) (fun _ f' => TIf f') := by
  unfold rx_lawL
  refine Gd_ite (fun _ => Gd_bind Gd_word (fun _ e1 f1 q1 => Gd_bind Gd_num (fun v e2 f2 q2 => Gd_in ?_))) (fun _ => Gd_no)
  have e2 : f2 = f := q2.1.trans q1
  rw [e2]
  obtain ⟨t1, t2, t3⟩ := t
  have o : ∀ i, ¬ i = 49 → rx_set f 49 v i = f i := fun i hi => by unfold rx_set; rw [if_neg hi]
  refine ⟨?_, by rw [o 0 (by omega)]; exact t2, fun s hs => ?_⟩
  · unfold rx_set
    rw [if_pos rfl]
    have a := q2.2.1
    have b := q2.2.2
    rw [show (1 : Int32).toInt = 1 from by decide] at a
    rw [show (60 : Int32).toInt = 60 from by decide] at b
    omega
  · rw [o 0 (by omega)]
    refine ⟨fun q => TS_sE ⟨o _ (by omega), o _ (by omega), fun i hi => o _ (by omega)⟩ ((t3 s hs).1 q), fun q i hi => ?_⟩
    rw [o _ (by omega)]
    exact (t3 s hs).2 q i hi
/-- the numbers of a set that is read: what stands so far -/
def TMf (s many r : Nat) (two : Int32) (sum : Int32) (f : Nat → Int32) : Prop := (0 ≤ (f 49).toInt ∧ (f 49).toInt ≤ 60) ∧ (f 0).toInt = (s : Int) ∧ (∀ q, q < 8 → (q < s → TS f q) ∧ (s < q → ∀ o, o < 4 → f (17 + 4 * q + o) = 0)) ∧ f (9 + s) = two ∧ (∀ i, i < 4 → many - r ≤ i → f (17 + 4 * s + i) = 0) ∧ (∀ i, i < 4 → 0 ≤ (f (17 + 4 * s + i)).toInt ∧ (f (17 + 4 * s + i)).toInt ≤ 60) ∧ (f (17 + 4 * s)).toInt + (f (17 + 4 * s + 1)).toInt + (f (17 + 4 * s + 2)).toInt + (f (17 + 4 * s + 3)).toInt = sum.toInt ∧ (r = 0 → sum = f 49)
theorem Gd_tm {T : Nat → Int32} {n s many : Nat} {two : Int32} (s8 : s < 8) (hm : (many = 2 ∧ two = -2) ∨ (many = 4 ∧ 0 ≤ two.toInt)) : ∀ (r : Nat) (sum : Int32) (e : Nat) (f : Nat → Int32), r ≤ many → TMf s many r two sum f → Gd (rx_tm T n s many r sum e f) (fun _ f' => TIf f')
  | 0, sum, e, f, hr, t => by
    unfold rx_tm
    obtain ⟨t1, t2, t3, t4, t5, t6, t7, t8⟩ := t
    refine Gd_in ?_
    have o : ∀ i, ¬ i = 0 → rx_set f 0 (f 0 + 1) i = f i := fun i hi => by unfold rx_set; rw [if_neg hi]
    have o0 : (rx_set f 0 (f 0 + 1) 0).toInt = (s : Int) + 1 := by
      unfold rx_set
      rw [if_pos rfl, i_inc t2 (by omega)]
      omega
    refine ⟨by rw [o 49 (by omega)]; exact t1, by omega, fun q hq => ⟨fun h => ?_, fun h i hi => ?_⟩⟩
    · refine TS_sE (b := f) (q := q) ⟨o _ (by omega), o _ (by omega), fun i hi => o _ (by omega)⟩ ?_
      by_cases e' : q = s
      · subst e'
        have a0 := t6 0 (by omega)
        have a1 := t6 1 (by omega)
        have a2 := t6 2 (by omega)
        have a3 := t6 3 (by omega)
        rw [Nat.add_zero] at a0
        have e8 := t8 rfl
        rw [e8] at t7
        refine ⟨?_, a0.1, a1.1, a2.1, a3.1, by omega⟩
        rcases hm with ⟨m2, m3⟩ | ⟨m2, m3⟩
        · exact Or.inl ⟨by rw [t4, m3], t5 2 (by omega) (by omega), t5 3 (by omega) (by omega)⟩
        · exact Or.inr (by rw [t4]; exact m3)
      · exact (t3 q hq).1 (by omega)
    · rw [o _ (by omega)]
      exact (t3 q hq).2 (by omega) i hi
  | r + 1, sum, e, f, hr, t => by
    unfold rx_tm
    refine Gd_bind (Q := fun _ f' => f' = f) (Gd_ite (fun _ => Gd_in rfl) (fun _ => Gd_sign)) (fun _ e0 f0 q0 => Gd_bind Gd_num (fun v e1 f1 q1 => Gd_ite (fun _ => Gd_no) (fun hz => Gd_tm s8 hm r _ _ _ (by omega) ?_)))
    have ef : f1 = f := q1.1.trans q0
    rw [ef] at hz ⊢
    obtain ⟨t1, t2, t3, t4, t5, t6, t7, t8⟩ := t
    have v0 := q1.2.1
    have v1 := q1.2.2
    rw [i_0] at v0
    rw [show (60 : Int32).toInt = 60 from by decide] at v1
    have m4 : many ≤ 4 := by rcases hm with m | m <;> omega
    have p4 : many - (r + 1) < 4 := by omega
    have o : ∀ i, ¬ i = 17 + 4 * s + (many - (r + 1)) → rx_set f (17 + 4 * s + (many - (r + 1))) v i = f i := fun i hi => by unfold rx_set; rw [if_neg hi]
    have oi : rx_set f (17 + 4 * s + (many - (r + 1))) v (17 + 4 * s + (many - (r + 1))) = v := by unfold rx_set; rw [if_pos rfl]
    have a0 := t6 0 (by omega)
    have a1 := t6 1 (by omega)
    have a2 := t6 2 (by omega)
    have a3 := t6 3 (by omega)
    rw [Nat.add_zero] at a0
    have es : (sum + v).toInt = sum.toInt + v.toInt := i_add rfl rfl (by omega)
    have zz := t5 (many - (r + 1)) p4 (Nat.le_refl _)
    refine ⟨by rw [o 49 (by omega)]; exact t1, by rw [o 0 (by omega)]; exact t2, fun q hq => ⟨fun h => TS_sE ⟨o _ (by omega), o _ (by omega), fun i hi => o _ (by omega)⟩ ((t3 q hq).1 h), fun h i hi => by rw [o _ (by omega)]; exact (t3 q hq).2 h i hi⟩, by rw [o _ (by omega)]; exact t4, fun i hi h => by rw [o _ (by omega)]; exact t5 i hi (by omega), fun i hi => ?_, ?_, fun hr0 => ?_⟩
    · by_cases e' : i = many - (r + 1)
      · rw [e', oi]; exact ⟨v0, v1⟩
      · rw [o _ (by omega)]; exact t6 i hi
    · rw [es, ← t7]
      have hp : many - (r + 1) = 0 ∨ many - (r + 1) = 1 ∨ many - (r + 1) = 2 ∨ many - (r + 1) = 3 := by omega
      have zi : (0 : Int32).toInt = 0 := by decide
      rcases hp with w | w | w | w
      · rw [w, Nat.add_zero] at oi o zz ⊢
        rw [oi, o _ (by omega), o _ (by omega), o _ (by omega), zz, zi]
        omega
      · rw [w] at oi o zz ⊢
        rw [oi, o _ (by omega), o _ (by omega), o _ (by omega), zz, zi]
        omega
      · rw [w] at oi o zz ⊢
        rw [oi, o _ (by omega), o _ (by omega), o _ (by omega), zz, zi]
        omega
      · rw [w] at oi o zz ⊢
        rw [oi, o _ (by omega), o _ (by omega), o _ (by omega), zz, zi]
        omega
    · rw [o 49 (by omega)]
      exact Decidable.byContradiction (fun w => hz ⟨hr0, w⟩)
theorem Gd_tell {T : Nat → Int32} {n one e : Nat} {two : Int32} {f : Nat → Int32} (hm : two = -2 ∨ 0 ≤ two.toInt) (t : TIf f) (h8 : ¬ f 0 = 8) : Gd (rx_tell T n one two e f) (fun _ f' => TIf f') := by
  unfold rx_tell
  obtain ⟨t1, t2, t3⟩ := t
  obtain ⟨s, es⟩ : ∃ s : Nat, (f 0).toInt = (s : Int) := ⟨(f 0).toInt.toNat, by omega⟩
  have s8 : s < 8 := by
    have : ¬ (f 0).toInt = 8 := fun z => h8 (Int32.toInt_inj.mp (by rw [z]; decide))
    omega
  rw [i_nat es]
  refine Gd_bind Gd_word (fun _ e1 f1 q1 => ?_)
  have o : ∀ i, ¬ i = 1 + s → ¬ i = 9 + s → f1 i = f i := fun i h1 h2 => by rw [q1]; unfold rx_set; rw [if_neg h2, if_neg h1]
  have o9 : f1 (9 + s) = two := by rw [q1]; unfold rx_set; rw [if_pos rfl]
  have n2 : (-2 : Int32).toInt = -2 := by decide
  have tm : ∀ many : Nat, TMf s many many two 0 f1 ∨ many = 0 := fun many => by
    by_cases m0 : many = 0
    · exact Or.inr m0
    · refine Or.inl ⟨by rw [o 49 (by omega) (by omega)]; exact t1, by rw [o 0 (by omega) (by omega)]; exact es, fun q hq => ⟨fun h => TS_sE ⟨o _ (by omega) (by omega), o _ (by omega) (by omega), fun i hi => o _ (by omega) (by omega)⟩ ((t3 q hq).1 (by omega)), fun h i hi => by rw [o _ (by omega) (by omega)]; exact (t3 q hq).2 (by omega) i hi⟩, o9, fun i hi _ => by rw [o _ (by omega) (by omega)]; exact (t3 s s8).2 (by omega) i hi, fun i hi => ?_, ?_, fun w => absurd w m0⟩
      · rw [o _ (by omega) (by omega), (t3 s s8).2 (by omega) i hi]
        exact ⟨by decide, by decide⟩
      · have z := (t3 s s8).2 (by omega)
        have z0 := z 0 (by omega)
        rw [Nat.add_zero] at z0
        rw [o _ (by omega) (by omega), o _ (by omega) (by omega), o _ (by omega) (by omega), o _ (by omega) (by omega), z0, z 1 (by omega), z 2 (by omega), z 3 (by omega)]
        decide
  by_cases w : two = -2
  · rw [if_pos w]
    exact Gd_tm s8 (Or.inl ⟨rfl, w⟩) 2 0 e1 f1 (Nat.le_refl _) ((tm 2).elim id (fun z => absurd z (by decide)))
  · rw [if_neg w]
    exact Gd_tm s8 (Or.inr ⟨rfl, hm.elim (fun z => absurd z w) id⟩) 4 0 e1 f1 (Nat.le_refl _) ((tm 4).elim id (fun z => absurd z (by decide)))
theorem Gd_setL {T : Nat → Int32} {n e : Nat} {f : Nat → Int32} (t : TIf f) : Gd (rx_setL T n e f) (fun _ f' => TIf f') := by
  unfold rx_setL
  refine Gd_ite (fun _ => Gd_no) (fun _ => Gd_ite (fun _ => Gd_no) (fun h8 => Gd_bind Gd_name (fun one e1 f1 q1 => ?_)))
  have e1' : f1 = f := q1.1
  subst e1'
  refine Gd_ite (fun _ => Gd_bind Gd_name (fun two e2 f2 q2 => Gd_ite (fun _ => Gd_no) (fun _ => ?_))) (fun _ => Gd_tell (Or.inl rfl) t h8)
  have e2' : f2 = f1 := q2.1
  subst e2'
  refine Gd_tell (Or.inr ?_) t h8
  rw [Int32.toInt_ofNat_of_lt (by have := q2.2; omega)]
  omega
theorem Gd_line {T : Nat → Int32} {n e : Nat} {f : Nat → Int32} (t : TIf f) : Gd (rx_line T n e f) (fun _ f' => TIf f') := by
  have lo : ∀ {o : rx_O Unit}, Gd o (fun _ f' => LoL f f') → Gd o (fun _ f' => TIf f') := fun h => Gd_mono h (fun _ f' q => TIf_lo q t)
  have rf : LoL f f := fun _ _ => rfl
  unfold rx_line
  refine Gd_ite (fun _ => Gd_law t) (fun _ => Gd_ite (fun _ => lo (Gd_nn (by decide) _ _ f f rf)) (fun _ => Gd_ite (fun _ => lo (Gd_nn (by decide) _ _ f f rf)) (fun _ => Gd_ite (fun _ => Gd_setL t) (fun _ => Gd_ite (fun _ => lo ?_) (fun _ => Gd_ite (fun _ => lo ?_) (fun _ => Gd_ite (fun _ => lo ?_) (fun _ => Gd_no)))))))
  · unfold rx_lineL
    refine Gd_ite (fun _ => Gd_no) (fun _ => Gd_bind (Gd_pt 3 _ _ f f rf) (fun _ e1 f1 q1 => Gd_bind Gd_word (fun _ e2 f2 q2 => ?_)))
    have h2 : LoL f f2 := by rw [q2]; exact q1
    exact Gd_ite (fun _ => Gd_in (rx_set_lo (by omega) (rx_set_lo (by omega) h2))) (fun _ => Gd_ite (fun _ => Gd_in (rx_set_lo (by omega) h2)) (fun _ => Gd_no))
  · unfold rx_rayL
    exact Gd_ite (fun _ => Gd_no) (fun _ => Gd_pa 4 _ _ f f rf)
  · unfold rx_runL
    exact Gd_ite (fun _ => Gd_no) (fun _ => Gd_st 6 _ f f rf)
theorem Gd_text {T : Nat → Int32} {n : Nat} : ∀ (k e : Nat) (f : Nat → Int32), TIf f → Gd (rx_text T n k e f) (fun _ f' => TIf f')
  | 0, _, _, _ => Gd_no
  | k + 1, e, f, t => by
    unfold rx_text
    exact Gd_bind (Gd_line t) (fun _ e1 f1 q1 => Gd_ite (fun _ => Gd_ite (fun _ => Gd_no) (fun _ => Gd_in q1)) (fun _ => Gd_ite (fun _ => Gd_text k _ _ q1) (fun _ => Gd_no)))
theorem book_TZ {T : Nat → Int32} {n e : Nat} {f : Nat → Int32} (h : rx_book T n = .inr ((), e, f)) : TZ f := by
  have t : TIf f := Gd_text (n + 1) 0 (fun _ => 0) ⟨⟨by decide, by decide⟩, ⟨by decide, by decide⟩, fun s hs => ⟨fun q => absurd q (by show ¬ (s : Int) < (0 : Int32).toInt; rw [show (0 : Int32).toInt = 0 from by decide]; omega), fun _ _ _ => rfl⟩⟩ () e f h
  obtain ⟨t1, t2, t3⟩ := t
  exact ⟨t2.1, t2.2, fun s hs => (t3 s (by unfold sn at hs; omega)).1 (by unfold sn at hs; omega)⟩
/-- the relation after a book -/
theorem RH_book {f : Nat → Int32} {h h1 h2 : mh_T} (rh : RH h) (tz : TZ f) (r1 : h1.2.2 40 = h.2.2 40 ∧ h1.2.2 41 = h.2.2 41) (tb : Tb f h1) (e31 : mI h1 3 1 = f 50) (k : ∀ k, k < 62 → k ∉ [11, 44, 45, 46, 47] → h2.1 k = h1.1 k ∧ h2.2.2 k = h1.2.2 k) (e45 : ∀ j, j < 346 → mI h2 45 j = f j) (e14 : mI h2 11 14 = 1) (z47 : ∀ j, j < 32 → h2.1 47 j = 0) (e24 : mI h2 11 24 = 0 ∧ mI h2 11 25 = 0 ∧ mI h2 11 26 = 0) : RH h2 := by
  obtain ⟨b1, b2, b3, b4, b5, b6, b7⟩ := tb
  have ri := rh.2.1
  have n8 : sn f ≤ 8 := by unfold sn; have := tz.2.1; omega
  have c3 : ∀ j, mI h2 3 j = mI h1 3 j := fun j => congrFun (k 3 (by decide) (by decide)).1 j
  have c10 : ∀ j, mI h2 10 j = mI h1 10 j := fun j => congrFun (k 10 (by decide) (by decide)).1 j
  have tq : Rq (tC h2) (h2.1 45) := by
    refine Rq_cg (a := tC h2) (b := f) ⟨?_, tz, fun s hs => ⟨?_, ?_, fun o ho => ?_⟩⟩ (fun _ _ => rfl) (fun j hj => e45 j (by omega))
    · rw [tC_0, c3]; exact b1
    · have q := (b2 s (by omega) (by unfold sn at hs; omega)).1
      rw [tC_1 h2 (by omega)]
      show h2.1 24 s = _
      rw [(k 24 (by decide) (by decide)).1]
      exact q
    · have q := (b2 s (by omega) (by unfold sn at hs; omega)).2
      rw [tC_9 h2 (by omega)]
      show h2.1 25 s = _
      rw [(k 25 (by decide) (by decide)).1]
      exact q
    · rw [show 17 + 4 * s + o = 17 + (4 * s + o) by omega, tC_17]
      show h2.1 26 _ = _
      rw [(k 26 (by decide) (by decide)).1]
      exact b3 _ (by omega)
  refine ⟨⟨tq, fun s hs o ho => ?_⟩, RI_cg ((k 40 (by decide) (by decide)).2.trans r1.1) ((k 41 (by decide) (by decide)).2.trans r1.2) ri, ⟨?_, fun z => absurd (e14.symm.trans z) (by decide)⟩, 0, 0, 0, ⟨by omega, by omega⟩, ⟨?_, ?_, ?_⟩, ⟨?_, ?_, ?_⟩, fun i hi => absurd hi (Nat.not_lt_zero _), fun k hk => absurd hk (Nat.not_lt_zero _), fun hq => absurd hq (Nat.lt_irrefl _), fun i hi => absurd hi (Nat.not_lt_zero _)⟩
  · have s8 : s < 8 := by have := tq.2.1.2.1; unfold sn at hs; omega
    rw [(k 27 (by decide) (by decide)).1, b4 _ (by omega), z47 _ (by omega)]
  · rw [c3, e31, e45 50 (by omega)]
  · rw [c10, b5]; rfl
  · rw [c10, b6]; rfl
  · rw [c10, b7]; rfl
  · rw [e24.1]; rfl
  · rw [e24.2.1]; rfl
  · rw [e24.2.2]; rfl
/-! bets, and looks that are disturbed: both sides compute one function of the table -/
/-- the outcome of set s that hidden answers h fit -/
def fo (a : Nat → Int32) (s : Nat) (h : Int32) : Int32 := if a (9 + s) = -2 then bv h (a (1 + s)) else (2 * bv h (a (1 + s))) + bv h (a (9 + s))
theorem bv01 (v x : Int32) : R 0 1 (bv v x) := R_and (show R 1 1 1 from ⟨by decide, by decide⟩) (by decide)
/-! hidden answers: which fit; disturbed looks -/
def fB (a : Nat → Int32) (s : Nat) (h : Int32) : Bool := decide (¬ a (17 + 4 * s + (fo a s h).toInt.toNat) = 0)
def cN (p : Nat → Bool) : Nat → Nat
  | 0 => 0
  | k + 1 => cN p k + (if p k = true then 1 else 0)
theorem cN_le (p : Nat → Bool) : ∀ k, cN p k ≤ k
  | 0 => Nat.le_refl _
  | k + 1 => by
    have := cN_le p k
    show cN p k + (if p k = true then 1 else 0) ≤ k + 1
    split <;> omega
theorem cN_cg {p q : Nat → Bool} : ∀ n, (∀ k, k < n → p k = q k) → cN p n = cN q n
  | 0, _ => rfl
  | n + 1, h => by
    show cN p n + (if p n = true then 1 else 0) = cN q n + (if q n = true then 1 else 0)
    rw [cN_cg n (fun k hk => h k (by omega)), h n (by omega)]
theorem twoP : ∀ p, p < 32 → (1 <<< (Int32.ofNat p &&& 31) : Int32).toBitVec = BitVec.twoPow 32 p := by decide
theorem bt_orA {x r : Int32} {p : Nat} (e : r.toInt = (p : Int)) (hp : p < 32) (q : Nat) : bt (x ||| (1 <<< (r &&& 31))) q = (bt x q || decide (p = q)) := by
  unfold bt
  rw [Int32.toBitVec_or, BitVec.getLsbD_or, i_of e (by omega), twoP p hp, BitVec.getLsbD_twoPow]
  by_cases h : p = q
  · subst h
    simp [hp]
  · simp [h]
theorem bt_nul {x : Int32} : x = 0 ↔ ∀ t, bt x t = false := by
  constructor
  · intro h t
    subst h
    unfold bt
    show (0#32).getLsbD t = false
    exact BitVec.getLsbD_zero
  · intro h
    apply Int32.toBitVec_inj.mp
    apply BitVec.eq_of_getLsbD_eq
    intro i hi
    exact (h i).trans (BitVec.getLsbD_zero (w := 32)).symm
-- disturbed
/-! extend -/
/-! fair: both sides divide by the same common part -/
/-! cycles: what is a ring -/
theorem bt_ano (x y : Int32) (t : Nat) : bt (x &&& y) t = (bt x t && bt y t) := by
  unfold bt
  rw [Int32.toBitVec_and, BitVec.getLsbD_and]
theorem bt_oro (x y : Int32) (t : Nat) : bt (x ||| y) t = (bt x t || bt y t) := by
  unfold bt
  rw [Int32.toBitVec_or, BitVec.getLsbD_or]
theorem bt_ext2 {x y : Int32} (h : ∀ t, bt x t = bt y t) : x = y := by
  apply Int32.toBitVec_inj.mp
  apply BitVec.eq_of_getLsbD_eq
  intro i _
  exact h i
theorem and_nul {x y : Int32} : (x &&& y) = 0 ↔ ∀ t, ¬ (bt x t = true ∧ bt y t = true) := by
  rw [bt_nul]
  constructor
  · intro q t ⟨a, b⟩
    have := q t
    rw [bt_ano, a, b] at this
    cases this
  · intro q t
    rw [bt_ano]
    cases a : bt x t <;> cases b : bt y t <;> first | rfl | exact absurd ⟨a, b⟩ (q t)
theorem or_nul {x y : Int32} : (x ||| y) = 0 ↔ x = 0 ∧ y = 0 := by
  rw [bt_nul, bt_nul, bt_nul]
  constructor
  · intro q
    refine ⟨fun t => ?_, fun t => ?_⟩
    · have := q t
      rw [bt_oro] at this
      cases a : bt x t
      · rfl
      · rw [a] at this; cases this
    · have := q t
      rw [bt_oro] at this
      cases b : bt y t
      · rfl
      · rw [b, Bool.or_true] at this; cases this
  · intro ⟨q1, q2⟩ t
    rw [bt_oro, q1 t, q2 t]
    rfl
/-- the looks of a set, as bits -/
def lo (a : Nat → Int32) (s : Nat) : Int32 := (1 <<< (a (1 + s) &&& 31)) ||| (1 <<< (a (9 + s) &&& 31))
theorem lo_cg {a b : Nat → Int32} {s : Nat} (e : sE a s b s) : lo a s = lo b s := by
  unfold lo
  rw [e.1, e.2.1]
def hB (l : Int32) (s : Nat) : Bool := decide (¬ bv l (Int32.ofNat s) = 0)
theorem bv_01 (v x : Int32) : bv v x = 0 ∨ bv v x = 1 := by
  have f := bv01 v x
  have f1 := f.1
  have f2 := f.2
  by_cases h : (bv v x).toInt = 0
  · exact Or.inl (Int32.toInt_inj.mp (by rw [h]; decide))
  · exact Or.inr (Int32.toInt_inj.mp (by rw [show (1 : Int32).toInt = 1 from by decide]; omega))
def oF (E : Nat → Int32) (B : Nat → Bool) : Nat → Int32
  | 0 => 0
  | s + 1 => if B s = true then oF E B s ||| E s else oF E B s
def tF (E : Nat → Int32) (B : Nat → Bool) : Nat → Int32
  | 0 => 0
  | s + 1 => if B s = true then tF E B s ||| (oF E B s &&& E s) else tF E B s
def hF (E : Nat → Int32) (B : Nat → Bool) : Nat → Int32
  | 0 => 0
  | s + 1 => if B s = true then hF E B s ||| (tF E B s &&& E s) else hF E B s
def lF (E : Nat → Int32) (B : Nat → Bool) : Nat → Int32
  | 0 => 0
  | s + 1 => if B s = true then E s else lF E B s
theorem hF_0 {E : Nat → Int32} {B : Nat → Bool} : ∀ n, hF E B n = 0 ↔ ∀ s, s < n → B s = true → (tF E B s &&& E s) = 0
  | 0 => ⟨fun _ s hs => absurd hs (Nat.not_lt_zero _), fun _ => rfl⟩
  | n + 1 => by
    show (if B n = true then hF E B n ||| (tF E B n &&& E n) else hF E B n) = 0 ↔ _
    by_cases b : B n = true
    · rw [if_pos b, or_nul, hF_0 n]
      constructor
      · rintro ⟨q1, q2⟩ s hs hb
        by_cases e : s = n
        · rw [e]; exact q2
        · exact q1 s (by omega) hb
      · intro q
        exact ⟨fun s hs hb => q s (by omega) hb, q n (by omega) b⟩
    · rw [if_neg b, hF_0 n]
      constructor
      · intro q s hs hb
        by_cases e : s = n
        · rw [e] at hb; exact absurd hb b
        · exact q s (by omega) hb
      · intro q s hs hb
        exact q s (by omega) hb
theorem oF_bt {E : Nat → Int32} {B : Nat → Bool} : ∀ n t, bt (oF E B n) t = true ↔ ∃ s, s < n ∧ B s = true ∧ bt (E s) t = true
  | 0, t => by
    constructor
    · intro z
      rw [show oF E B 0 = 0 from rfl, (bt_nul (x := 0)).mp rfl t] at z
      cases z
    · rintro ⟨s, hs, -⟩; omega
  | n + 1, t => by
    show bt (if B n = true then oF E B n ||| E n else oF E B n) t = true ↔ _
    by_cases b : B n = true
    · rw [if_pos b, bt_oro, Bool.or_eq_true, oF_bt n t]
      constructor
      · rintro (⟨s, h1, h2, h3⟩ | q)
        · exact ⟨s, by omega, h2, h3⟩
        · exact ⟨n, by omega, b, q⟩
      · rintro ⟨s, h1, h2, h3⟩
        by_cases e : s = n
        · rw [e] at h3; exact Or.inr h3
        · exact Or.inl ⟨s, by omega, h2, h3⟩
    · rw [if_neg b, oF_bt n t]
      constructor
      · rintro ⟨s, h1, h2, h3⟩; exact ⟨s, by omega, h2, h3⟩
      · rintro ⟨s, h1, h2, h3⟩
        by_cases e : s = n
        · rw [e] at h2; exact absurd h2 b
        · exact ⟨s, by omega, h2, h3⟩
theorem lF_s {E : Nat → Int32} {B : Nat → Bool} : ∀ n, (∃ s, s < n ∧ B s = true) → ∃ s, s < n ∧ B s = true ∧ lF E B n = E s
  | 0, ⟨s, hs, _⟩ => absurd hs (Nat.not_lt_zero _)
  | n + 1, ⟨s, hs, hb⟩ => by
    by_cases b : B n = true
    · exact ⟨n, by omega, b, by show (if B n = true then E n else lF E B n) = E n; rw [if_pos b]⟩
    · have : s ≠ n := fun e => b (by rw [← e]; exact hb)
      obtain ⟨q, h1, h2, h3⟩ := lF_s n ⟨s, by omega, hb⟩
      exact ⟨q, by omega, h2, by show (if B n = true then E n else lF E B n) = E q; rw [if_neg b]; exact h3⟩
/-- a round: what hangs on what is reached is reached -/
def rdF (E : Nat → Int32) (B : Nat → Bool) (x : Int32) : Nat → Int32
  | 0 => x
  | s + 1 => if B s = true then (if (E s &&& rdF E B x s) = 0 then rdF E B x s else rdF E B x s ||| E s) else rdF E B x s
def sbx (x y : Int32) : Prop := ∀ t, bt x t = true → bt y t = true
theorem rd_mono {E : Nat → Int32} {B : Nat → Bool} {x : Int32} {j : Nat} : ∀ n, j ≤ n → sbx (rdF E B x j) (rdF E B x n)
  | 0, h => by
    have : j = 0 := by omega
    rw [this]
    exact fun _ q => q
  | n + 1, h => by
    by_cases e : j = n + 1
    · rw [e]; exact fun _ q => q
    · have i := rd_mono (E := E) (B := B) (x := x) n (by omega : j ≤ n)
      intro t q
      have i := i t q
      show bt (if B n = true then (if (E n &&& rdF E B x n) = 0 then rdF E B x n else rdF E B x n ||| E n) else rdF E B x n) t = true
      split
      · split
        · exact i
        · rw [bt_oro, i]; rfl
      · exact i
def cloP (E : Nat → Int32) (B : Nat → Bool) (n : Nat) (p : Nat → Prop) : Prop := ∀ s, s < n → B s = true → (∃ t, bt (E s) t = true ∧ p t) → ∀ t, bt (E s) t = true → p t
theorem sub_eq {x y : Int32} (a : sbx x y) (b : sbx y x) : x = y := bt_ext2 (fun t => by
  cases h : bt x t
  · cases k : bt y t
    · rfl
    · rw [b t k] at h; cases h
  · rw [a t h])
/-- a round that adds nothing: what is reached is closed -/
theorem rd_fix {E : Nat → Int32} {B : Nat → Bool} {x : Int32} {n : Nat} (h : rdF E B x n = x) : cloP E B n (fun t => bt x t = true) := by
  intro s hs hb ⟨t, t1, t2⟩ u hu
  have m1 := rd_mono (E := E) (B := B) (x := x) (j := s) n (by omega)
  have m0 := rd_mono (E := E) (B := B) (x := x) (j := 0) s (Nat.zero_le _)
  have e : rdF E B x s = x := sub_eq (by rw [h] at m1; exact m1) m0
  have m2 := rd_mono (E := E) (B := B) (x := x) (j := s + 1) n (by omega)
  rw [h] at m2
  refine m2 u ?_
  show bt (if B s = true then (if (E s &&& rdF E B x s) = 0 then rdF E B x s else rdF E B x s ||| E s) else rdF E B x s) u = true
  rw [if_pos hb, e, if_neg (fun z => and_nul.mp z t ⟨t1, t2⟩), bt_oro, hu, Bool.or_true]
/-- a round stays within what is closed -/
theorem rd_min {E : Nat → Int32} {B : Nat → Bool} {x : Int32} {N : Nat} {p : Nat → Prop} (c : cloP E B N p) (h : ∀ t, bt x t = true → p t) : ∀ n, n ≤ N → ∀ t, bt (rdF E B x n) t = true → p t
  | 0, _, t, q => h t q
  | n + 1, hn, t, q => by
    have i := rd_min c h n (by omega)
    have q : bt (if B n = true then (if (E n &&& rdF E B x n) = 0 then rdF E B x n else rdF E B x n ||| E n) else rdF E B x n) t = true := q
    split at q
    · rename_i b
      split at q
      · exact i t q
      · rename_i z
        rw [bt_oro, Bool.or_eq_true] at q
        rcases q with q | q
        · exact i t q
        · refine c n (by omega) b ?_ t q
          by_cases w : ∃ u, bt (E n) u = true ∧ p u
          · exact w
          · exact absurd (and_nul.mpr (fun u v => w ⟨u, v.1, i u v.2⟩)) z
    · exact i t q
/-- connected, from any start -/
theorem conn_iff {E : Nat → Int32} {B : Nat → Bool} {n : Nat} {X Y o x0 y0 : Int32} (ho : ∀ t, bt o t = true ↔ ∃ s, s < n ∧ B s = true ∧ bt (E s) t = true) (cX : cloP E B n (fun t => bt X t = true)) (mX : ∀ p : Nat → Prop, cloP E B n p → (∀ t, bt x0 t = true → p t) → ∀ t, bt X t = true → p t) (cY : cloP E B n (fun t => bt Y t = true)) (mY : ∀ p : Nat → Prop, cloP E B n p → (∀ t, bt y0 t = true → p t) → ∀ t, bt Y t = true → p t) (sX : sbx X o) (sY : sbx Y o) (nx : ∀ p : Nat → Prop, cloP E B n p → (∀ t, bt x0 t = true → p t) ∨ (∀ t, bt x0 t = true → bt o t = true ∧ ¬ p t)) (ny : ∀ p : Nat → Prop, cloP E B n p → (∀ t, bt y0 t = true → p t) ∨ (∀ t, bt y0 t = true → bt o t = true ∧ ¬ p t)) (eX : ∃ t, bt X t = true) (eY : ∃ t, bt Y t = true) : X = o ↔ Y = o := by
  have key : ∀ (X Y x0 : Int32), sbx Y o → cloP E B n (fun t => bt Y t = true) → (∀ p : Nat → Prop, cloP E B n p → (∀ t, bt x0 t = true → p t) → ∀ t, bt X t = true → p t) → (∀ p : Nat → Prop, cloP E B n p → (∀ t, bt x0 t = true → p t) ∨ (∀ t, bt x0 t = true → bt o t = true ∧ ¬ p t)) → X = o → (∃ t, bt Y t = true) → Y = o := by
    intro X Y x0 sY cY mX nx e ⟨w, hw⟩
    refine sub_eq sY (fun t ht => ?_)
    have cc : cloP E B n (fun t => bt o t = true ∧ ¬ bt Y t = true) := by
      rintro s hs hb ⟨u, u1, u2, u3⟩ v hv
      refine ⟨(ho v).mpr ⟨s, hs, hb, hv⟩, fun z => u3 (cY s hs hb ⟨v, hv, z⟩ u u1)⟩
    rcases nx _ cY with q | q
    · have := mX _ cY q t (by rw [e]; exact ht)
      exact this
    · have := (mX _ cc q w (by rw [e]; exact sY w hw)).2
      exact absurd hw this
  exact ⟨fun e => key X Y x0 sY cY mX nx e eY, fun e => key Y X y0 sX cX mY ny e eX⟩
theorem cN_lt {p q : Nat → Bool} : ∀ n, (∀ k, k < n → p k = true → q k = true) → (∃ j, j < n ∧ q j = true ∧ ¬ p j = true) → cN p n < cN q n
  | 0, _, ⟨j, hj, _⟩ => absurd hj (Nat.not_lt_zero _)
  | n + 1, h, ⟨j, hj, q1, q2⟩ => by
    show cN p n + (if p n = true then 1 else 0) < cN q n + (if q n = true then 1 else 0)
    have le : cN p n ≤ cN q n := by
      have : ∀ m, m ≤ n → cN p m ≤ cN q m := by
        intro m
        induction m with
        | zero => intro _; exact Nat.le_refl _
        | succ m im =>
          intro hm
          have i := im (by omega)
          show cN p m + (if p m = true then 1 else 0) ≤ cN q m + (if q m = true then 1 else 0)
          by_cases a : p m = true
          · rw [if_pos a, if_pos (h m (by omega) a)]; omega
          · rw [if_neg a]; omega
      exact this n (Nat.le_refl _)
    by_cases e : j = n
    · rw [← e, if_neg q2, if_pos q1]
      rw [e] at *
      omega
    · have i := cN_lt n (fun k hk => h k (by omega)) ⟨j, by omega, q1, q2⟩
      by_cases a : p n = true
      · rw [if_pos a, if_pos (h n (by omega) a)]; omega
      · rw [if_neg a]; omega
def w6 (x : Int32) : Prop := ∀ t, 6 ≤ t → bt x t = false
abbrev cb (x : Int32) : Nat := cN (fun t => bt x t) 6
theorem cb_lt {x y : Int32} (wy : w6 y) (s : sbx x y) (ne : ¬ y = x) : cb x < cb y := by
  refine cN_lt 6 (fun k _ h => s k h) ?_
  by_cases h : ∃ j, j < 6 ∧ bt y j = true ∧ ¬ bt x j = true
  · exact h
  · refine absurd (sub_eq (fun t ht => ?_) s) ne
    by_cases t6 : t < 6
    · by_cases b : bt x t = true
      · exact b
      · exact absurd ⟨t, t6, ht, b⟩ h
    · rw [wy t (by omega)] at ht; cases ht
def itR (E : Nat → Int32) (B : Nat → Bool) (n : Nat) (x : Int32) : Nat → Int32
  | 0 => x
  | k + 1 => rdF E B (itR E B n x k) n
theorem rd_w6 {E : Nat → Int32} {B : Nat → Bool} {x : Int32} {N : Nat} (hE : ∀ s, s < N → B s = true → w6 (E s)) (hx : w6 x) : ∀ n, n ≤ N → w6 (rdF E B x n)
  | 0, _ => hx
  | n + 1, hn => by
    have i := rd_w6 hE hx n (by omega)
    intro t ht
    show bt (if B n = true then (if (E n &&& rdF E B x n) = 0 then rdF E B x n else rdF E B x n ||| E n) else rdF E B x n) t = false
    split
    · rename_i b
      split
      · exact i t ht
      · rw [bt_oro, i t ht, hE n (by omega) b t ht]; rfl
    · exact i t ht
theorem it_w6 {E : Nat → Int32} {B : Nat → Bool} {n : Nat} {x : Int32} (hE : ∀ s, s < n → B s = true → w6 (E s)) (hx : w6 x) : ∀ k, w6 (itR E B n x k)
  | 0 => hx
  | k + 1 => rd_w6 hE (it_w6 hE hx k) n (Nat.le_refl _)
theorem it_fix {E : Nat → Int32} {B : Nat → Bool} {n : Nat} {x : Int32} (hE : ∀ s, s < n → B s = true → w6 (E s)) (hx : w6 x) : rdF E B (itR E B n x 8) n = itR E B n x 8 := by
  have L : ∀ k, rdF E B (itR E B n x k) n = itR E B n x k ∨ k ≤ cb (itR E B n x k) := by
    intro k
    induction k with
    | zero => exact Or.inr (Nat.zero_le _)
    | succ k ih =>
      rcases ih with h | h
      · exact Or.inl (by show rdF E B (rdF E B (itR E B n x k) n) n = rdF E B (itR E B n x k) n; rw [h, h])
      · by_cases f : rdF E B (itR E B n x k) n = itR E B n x k
        · exact Or.inl (by show rdF E B (rdF E B (itR E B n x k) n) n = rdF E B (itR E B n x k) n; rw [f, f])
        · refine Or.inr ?_
          have := cb_lt (x := itR E B n x k) (y := itR E B n x (k + 1)) (it_w6 hE hx (k + 1)) (rd_mono (j := 0) n (Nat.zero_le _)) f
          omega
  rcases L 8 with h | h
  · exact h
  · have h2 := cN_le (fun t => bt (itR E B n x 8) t) 6
    have h' : 8 ≤ cN (fun t => bt (itR E B n x 8) t) 6 := h
    omega
theorem it_min {E : Nat → Int32} {B : Nat → Bool} {n : Nat} {x : Int32} {p : Nat → Prop} (c : cloP E B n p) (h : ∀ t, bt x t = true → p t) : ∀ k t, bt (itR E B n x k) t = true → p t
  | 0, t, q => h t q
  | k + 1, t, q => rd_min c (it_min c h k) n (Nat.le_refl _) t q
theorem it_sub {E : Nat → Int32} {B : Nat → Bool} {n : Nat} {x : Int32} : ∀ k, sbx x (itR E B n x k)
  | 0 => fun _ q => q
  | k + 1 => fun t q => rd_mono (E := E) (B := B) (x := itR E B n x k) (j := 0) n (Nat.zero_le _) t (it_sub k t q)
/-- the least bit -/
theorem low_all : ∀ v, v < 64 → 0 < v → ∃ t, t < 6 ∧ bt (Int32.ofNat v) t = true ∧ (Int32.ofNat v &&& (-Int32.ofNat v)) = Int32.ofNat (2 ^ t) := by decide
theorem pow_bt : ∀ t, t < 6 → ∀ q, q < 32 → bt (Int32.ofNat (2 ^ t)) q = decide (q = t) := by decide
theorem low_bit {o : Int32} (w : w6 o) (h : ¬ o = 0) : ∃ t, bt o t = true ∧ ∀ q, bt (o &&& (-o)) q = true ↔ q = t := by
  have e : o = o &&& 63 := bt_ext2 (fun t => by
    rw [bt_ano]
    by_cases t6 : t < 6
    · have : ∀ t, t < 6 → bt 63 t = true := by decide
      rw [this t t6, Bool.and_true]
    · rw [w t (by omega), Bool.false_and])
  have r : R 0 63 o := by rw [e]; exact R_and (show R 63 63 63 from ⟨by decide, by decide⟩) (by decide)
  obtain ⟨v, ev, -, hv⟩ := i_R r (by decide)
  have eo := i_of ev (by omega)
  have v0 : 0 < v := by
    by_cases z : v = 0
    · rw [z] at ev; exact absurd (Int32.toInt_inj.mp (by rw [ev]; decide)) h
    · omega
  obtain ⟨t, t6, t1, t2⟩ := low_all v (by omega) v0
  rw [eo]
  refine ⟨t, t1, fun q => ?_⟩
  rw [t2]
  by_cases q32 : q < 32
  · rw [pow_bt t t6 q q32, decide_eq_true_iff]
  · constructor
    · intro z
      unfold bt at z
      rw [BitVec.getLsbD_of_ge _ _ (by omega)] at z
      cases z
    · intro z; omega
