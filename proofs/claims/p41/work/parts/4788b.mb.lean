/-! MARK and BACK of the reference; UNDO, REDO, MARK, BACK of the class -/
theorem v_no {g : gT} {h h1 : mh_T} {P : Int32 → mh_T → Prop} (l : Int32) (hl : ¬ l = 4) (o1 : Ok [300, 11] h h1) (hp : ∀ h', Ok [300, 11] h h' → P (-1) h') : MCi g yX11_no uX11_no [.ref 11, .int l] h1 P := e_X11_no l (hp _ (Ok_w11 o1 hl (by decide)))
def MD (m : Nat) (h h' : mh_T) : Prop := (mI h' 11 26).toInt = (m : Int) + 1 ∧ mI h' 11 24 = mI h 11 24 ∧ mI h' 11 25 = mI h 11 25 ∧ ∀ i j, i < 4 → j < 49 → h'.1 51 (49 * i + j) = if i = m then h.1 45 j else h.1 51 (49 * i + j)
set_option maxRecDepth 100000 in
set_option maxHeartbeats 4000000 in
theorem v_X11_mark {g : gT} {h : mh_T} {P : Int32 → mh_T → Prop} (m : Nat) (em : (mI h 11 26).toInt = (m : Int)) (m4 : m ≤ 4) (hG : GI h) (hI : TVs h) (h0 : mI h 11 14 = 0 ∨ m = 4 → ∀ h', Ok [300, 11] h h' → P (-1) h') (hp : ¬ mI h 11 14 = 0 → ¬ m = 4 → ∀ (v : Int32) (h' : mh_T), v.toInt = (m : Int) → Ok [301, 300, 11, 51] h h' → TVs h' → MD m h h' → P v h') : MCi g yX11_mark uX11_mark [.ref 11] h P := by
  refine e_X11_mark (v_good hG (fun h1 k1 => ?_))
  have e1 : ∀ j, 24 ≤ j → j ≤ 26 → mI h1 11 j = mI h 11 j := Ok_24 k1 (by decide)
  have e14 : mI h1 11 14 = mI h 11 14 := k1.2.2.2.2.1 11 14 (by decide)
  have e26 := e1 26 (by decide) (by decide)
  have z4 : (4 : Int32).toInt = 4 := by decide
  rw [e14, e26]
  refine ⟨fun z => ⟨fun z2 => ?_, fun z2 => v_no 3 (by decide) k1 (h0 (Or.inr (by rw [z2, z4] at em; omega)))⟩, fun z => v_no 1 (by decide) k1 (h0 (Or.inl z))⟩
  have n4 : ¬ m = 4 := fun y => z2 (Int32.toInt_inj.mp (by rw [em, y, z4]; rfl))
  refine t_copy 45 346 0 51 196 (49 * (mI h 11 26)) rfl rfl (by decide) (by decide) 0 m (by decide) (mul49 em (by omega)) (by decide) (by omega) (by decide) (by omega) rr45 (rr51 m) (by decide) k1.1 (fun h4 k4 cp => ?_)
  have o4 : Ok [301, 300, 11, 51] h h4 := Ok_tr (Ok_mono k1 (by decide)) k4 (by decide)
  have e11 : ∀ j, mI h4 11 j = mI h1 11 j := fun j => congrFun (OkC k4 (k := 11) (by decide)) j
  have e45 : h1.1 45 = h.1 45 := OkC k1 (by decide)
  have e51 : h1.1 51 = h.1 51 := OkC k1 (by decide)
  rw [e11 26, e26]
  have em1 : (mI h 11 26 + 1).toInt = (m : Int) + 1 := by rw [i_inc em (by omega)]; omega
  have w51 : ∀ i j, i < 4 → j < 49 → h4.1 51 (49 * i + j) = if i = m then h.1 45 j else h.1 51 (49 * i + j) := fun i j hi hj => by
    by_cases e : i = m
    · rw [if_pos e, e, cp.1 j hj, e45, Nat.mul_zero, Nat.zero_add]
    · rw [if_neg e, cp.2 _ (by omega), e51]
  have t4 : TVs h4 := by
    have t1 := TVs_ok hI k1 (by decide)
    have f45 := OkC k4 (k := 45) (by decide)
    refine ⟨?_, ?_, ?_, ?_, ?_, ?_⟩
    · rw [f45]; exact t1.1
    · rw [OkC k4 (k := 48) (by decide)]; exact t1.2.1
    · rw [OkC k4 (k := 49) (by decide)]; exact t1.2.2.1
    · rw [OkC k4 (k := 50) (by decide)]; exact t1.2.2.2.1
    · intro q hq
      by_cases e : q = m
      · rw [e]
        exact TQ_cp t1.1 cp.1
      · exact TQ_cp (t1.2.2.2.2.1 q hq) (fun j hj => cp.2 _ (by omega))
    · rw [f45]; exact t1.2.2.2.2.2
  have hv : mI (wI h4 11 26 (mI h 11 26 + 1)) 11 26 - 1 = mI h 11 26 := by
    rw [mI_wI, if_pos ⟨rfl, rfl⟩]
    exact Int32.toInt_inj.mp (by rw [ti_sub1 (x := mI h 11 26 + 1) (hi := 5) ⟨by omega, by omega⟩ (by decide), em1, em]; omega)
  rw [hv]
  refine hp z n4 _ _ em (Ok_w o4 (k := 11) (j := 26) (v := mI h 11 26 + 1) (lo := 0) (hi := 4) rfl ⟨by omega, by omega⟩ (by decide) (by decide)) (TVs_11 t4) ⟨?_, ?_, ?_, fun i j hi hj => ?_⟩
  · rw [mI_wI, if_pos ⟨rfl, rfl⟩]; exact em1
  · rw [mI_wI, if_neg (by decide), e11, e1 24 (by decide) (by decide)]
  · rw [mI_wI, if_neg (by decide), e11, e1 25 (by decide) (by decide)]
  · rw [wI_o (by decide)]; exact w51 i j hi hj
def BD (l : Nat) (h h' : mh_T) : Prop := mI h' 11 24 = 0 ∧ mI h' 11 25 = 0 ∧ mI h' 11 26 = mI h 11 26 ∧ (∀ j, j < 49 → h'.1 45 j = h.1 51 (49 * l + j)) ∧ ∀ j, j < 32 → h'.1 47 j = 0
set_option maxRecDepth 100000 in
set_option maxHeartbeats 4000000 in
theorem v_X11_back {g : gT} {h : mh_T} {P : Int32 → mh_T → Prop} (l1 : Int32) (m : Nat) (em : (mI h 11 26).toInt = (m : Int)) (m4 : m ≤ 4) (hG : GI h) (hI : TVs h) (h0 : ¬ (0 ≤ l1.toInt ∧ l1.toInt < (m : Int)) → ∀ h', Ok [300, 11] h h' → P 0 h') (hp : 0 ≤ l1.toInt → l1.toInt < (m : Int) → ∀ h', Ok [301, 300, 11, 45, 47] h h' → TVs h' → BD l1.toInt.toNat h h' → P 1 h') : MCi g yX11_back uX11_back [.ref 11, .int l1] h P := by
  refine e_X11_back l1 (v_good hG (fun h1 k1 => ?_))
  have e1 : ∀ j, 24 ≤ j → j ≤ 26 → mI h1 11 j = mI h 11 j := Ok_24 k1 (by decide)
  have e26 := e1 26 (by decide) (by decide)
  have es : (mI h1 11 26 - 1).toInt = (m : Int) - 1 := by rw [e26, ti_sub1 (x := mI h 11 26) (hi := 20) ⟨by omega, by omega⟩ (by decide)]; omega
  refine b_within l1 0 _ (fun q => ⟨fun _ => ?_, fun z => absurd z (by decide)⟩) (fun q => ⟨fun z => absurd rfl z, fun _ => v_isNot 1 (by decide) k1 (h0 (fun y => q ?_))⟩)
  · rw [i_le, i_le, i_0, es] at q
    obtain ⟨p, ep⟩ : ∃ p : Nat, l1.toInt = (p : Int) := ⟨l1.toInt.toNat, by omega⟩
    have pn : l1.toInt.toNat = p := by omega
    have t1 := TVs_ok hI k1 (by decide)
    refine v_cp45 51 196 (49 * l1) rfl (by decide) (by decide) p (mul49 ep (by omega)) (by omega) (by omega) (rr51 p) k1.1 (fun h2 k2 e2 => ?_)
    have o2 : Ok [301, 300, 11, 45, 47] h h2 := Ok_tr (Ok_mono k1 (by decide)) k2 (by decide)
    have o3 := Ok_w o2 (k := 11) (j := 24) (v := 0) (lo := 0) (hi := 20) rfl ⟨by decide, by decide⟩ (by decide) (by decide)
    have o4 := Ok_w o3 (k := 11) (j := 25) (v := 0) (lo := 0) (hi := 20) rfl ⟨by decide, by decide⟩ (by decide) (by decide)
    refine v_noCoins o4.1 (fun h3 k3 z3 => ?_)
    have o5 : Ok [301, 300, 11, 45, 47] h h3 := Ok_tr o4 k3 (by decide)
    have e11 : ∀ j, mI h3 11 j = mI (wI (wI h2 11 24 0) 11 25 0) 11 j := fun j => congrFun (OkC k3 (k := 11) (by decide)) j
    have q45 : ∀ j, j < 49 → h3.1 45 j = h.1 51 (49 * p + j) := fun j hj => by rw [OkC k3 (k := 45) (by decide), wI_o (by decide), wI_o (by decide), e2 j hj, OkC k1 (k := 51) (by decide)]
    refine hp q.1 (by omega) h3 o5 (TVs_k hI ?_ ?_ ?_ ?_ (OkC o5 (by decide)) (o5.2.2.2.2.1 45 49 (by decide)) (o5.2.2.2.2.1 45 50 (by decide))) ⟨?_, ?_, ?_, by rw [pn]; exact q45, z3⟩
    · exact TQ_cp (hI.2.2.2.2.1 p (by omega)) (fun j hj => by rw [Nat.zero_add]; exact q45 j hj)
    · rw [OkC o5 (k := 48) (by decide)]; exact hI.2.1
    · rw [OkC o5 (k := 49) (by decide)]; exact hI.2.2.1
    · rw [OkC o5 (k := 50) (by decide)]; exact hI.2.2.2.1
    · rw [e11, mI_wI, if_neg (by decide), mI_wI, if_pos ⟨rfl, rfl⟩]
    · rw [e11, mI_wI, if_pos ⟨rfl, rfl⟩]
    · rw [e11, mI_wI, if_neg (by decide), mI_wI, if_neg (by decide), show mI h2 11 26 = mI h1 11 26 from congrFun (OkC k2 (k := 11) (by decide)) 26, e26]
  · rw [i_le, i_le, i_0, es]
    omega
/-- UNDO of the class -/
def TBk (u : Nat) (h h' : mh_T) : Prop := (mI h' 10 0).toInt = (u : Int) - 1 ∧ mI h' 10 1 = mI h 10 1 ∧ mI h' 10 2 = mI h 10 2 ∧ RI h' ∧ (∀ i j, i < 21 → j < 49 → hrw h' i j = if i = u then tC h j else hrw h i j) ∧ (∀ i, i < 20 → hac h' i = hac h i) ∧ (∀ k, 137 ≤ k → h'.1 k = h.1 k) ∧ (∀ j, j < 49 → tC h' j = hrw h (u - 1) j) ∧ ∀ j, j < 32 → h'.1 27 j = 0
/-- REDO of the class, BACK too: a row is the table again -/
theorem v_done0 {g : gT} {h : mh_T} {P : Int32 → mh_T → Prop} (hp : P 1 (wI h 0 11 0)) : MCi g yX10_done uX10_done [.ref 0] h (fun r h' => (r = 0 ∨ r = 1) ∧ P r h') := e_X10_done ⟨Or.inr rfl, hp⟩
set_option maxRecDepth 100000 in
set_option maxHeartbeats 4000000 in
theorem v_X10_undo {g : gT} {h : mh_T} {P : Int32 → mh_T → Prop} (u : Nat) (eu : (mI h 10 0).toInt = (u : Int)) (hG : GI h) (ri : RI h) (h0 : u = 0 → ∀ h', Ok [0] h h' → P 0 h') (hp : ¬ u = 0 → ∀ h', Ok msK h h' → TBk u h h' → P 1 h') : MCi g yX10_undo uX10_undo [.ref 0] h P := by
  have f0 : R 0 20 (mI h 10 0) := GI_rd hG 10 0 rfl
  have u20 : u ≤ 20 := by have := f0.2; omega
  refine e_X10_undo (e_X4_takeBack ⟨fun z => ?_, fun z => ⟨fun _ => v_denied 6 hG (h0 (by rw [z, i_0] at eu; omega)), fun y => absurd rfl y⟩⟩)
  have u0 : ¬ u = 0 := fun y => z (Int32.toInt_inj.mp (by rw [eu, y, i_0]; rfl))
  have sr := hG.2.2 u (by omega)
  have eR : (mI h 10 0).toNatClampNeg = u := i_nat eu
  rw [eR]
  refine ⟨i_vp eu (by omega), sr.1, v_save (mR h 41 u) sr.1 sr.2 hG (fun h4 k4 r4 o4 s4 => ?_)⟩
  have e10 : ∀ j, mI h4 10 j = mI h 10 j := fun j => congrFun (o4 10 (by have := sr.2; omega)) j
  have ed : (mI h 10 0 - 1).toInt = ((u - 1 : Nat) : Int) := by rw [ti_sub1 f0 (by decide)]; omega
  rw [show mI (wI h4 10 0 (mI h4 10 0 - 1)) 10 0 = mI h 10 0 - 1 by rw [mI_wI, if_pos ⟨rfl, rfl⟩, e10], i_nat ed, e10 0, mR_wI]
  have eM : ∀ k j, mR h4 k j = mR h k j := fun k j => by show h4.2.2 k j = h.2.2 k j; rw [r4]
  rw [eM 41 (u - 1)]
  have sr1 := hG.2.2 (u - 1) (by omega)
  have o5 : Ok [10, 302] h (wI h4 10 0 (mI h 10 0 - 1)) := Ok_w (Ok_mono k4 (by decide)) (k := 10) (j := 0) (v := mI h 10 0 - 1) (lo := 0) (hi := 20) rfl ⟨by omega, by omega⟩ (by decide) (by decide)
  refine ⟨i_vp ed (by omega), sr1.1, v_restore (mR h 41 (u - 1)) sr1.1 sr1.2 o5.1 (fun h6 k6 t6 c6 => ⟨fun y => absurd y (by decide), fun _ => v_done0 (hp u0 _ ?_ ⟨?_, ?_, ?_, ?_, fun i j hi hj => ?_, fun i hi => ?_, fun k hk => ?_, fun j hj => ?_, fun j hj => ?_⟩)⟩)⟩
  all_goals have h62 := Ok_62 k6 (by decide)
  all_goals have w0 : ∀ k, ¬ k = 0 → (wI h6 0 11 0).1 k = h6.1 k := fun k hk => wI_o hk
  all_goals have w10 : ∀ k, ¬ k = 10 → (wI h4 10 0 (mI h 10 0 - 1)).1 k = h4.1 k := fun k hk => wI_o hk
  all_goals have y10 : ∀ j, mI (wI h6 0 11 0) 10 j = mI (wI h4 10 0 (mI h 10 0 - 1)) 10 j := fun j => by rw [mI_wI, if_neg (fun z => absurd z.1 (by decide))]; exact congrFun (OkC k6 (k := 10) (by decide)) j
  all_goals have y41 : ∀ i, mR (wI h6 0 11 0) 41 i = mR h 41 i := fun i => by rw [mR_wI, show mR h6 41 i = mR (wI h4 10 0 (mI h 10 0 - 1)) 41 i from congrFun (k6.2.1 41 (by decide) (by decide)).2.2 i, mR_wI, eM]
  all_goals have y40 : ∀ i, mR (wI h6 0 11 0) 40 i = mR h 40 i := fun i => by rw [mR_wI, show mR h6 40 i = mR (wI h4 10 0 (mI h 10 0 - 1)) 40 i from congrFun (k6.2.1 40 (by decide) (by decide)).2.2 i, mR_wI, eM]
  · exact Ok_0 (Ok_tr (Ok_mono o5 (by decide)) k6 (by decide)) (by decide)
  · rw [y10, mI_wI, if_pos ⟨rfl, rfl⟩, ed]; omega
  · rw [y10, mI_wI, if_neg (by decide), e10]
  · rw [y10, mI_wI, if_neg (by decide), e10]
  · refine ⟨fun i hi => by rw [y41]; exact ri.1 i hi, fun i j hi hj e => ri.2.1 i j hi hj (by rw [y41, y41] at e; exact e), fun i j hi hj e => ri.2.2 i j hi hj (by rw [y40, y40] at e; exact e)⟩
  · have r1 := ri.1 i hi
    show (wI h6 0 11 0).1 (mR (wI h6 0 11 0) 41 i) j = _
    rw [y41, w0 _ (by omega), h62 _ (by omega), w10 _ (by omega)]
    by_cases e : i = u
    · rw [if_pos e, e]; exact s4 j hj
    · rw [if_neg e, o4 _ (fun z => e (ri.2.1 i u hi (by omega) z))]
  · have g1 := sh5 (hG.2.1 i hi)
    show (wI h6 0 11 0).1 (mR (wI h6 0 11 0) 40 i) = _
    rw [y40, w0 _ (by omega), h62 _ (by omega), w10 _ (by omega), o4 _ (by have := sr.2; omega)]
  · have r1 := ri.1 u (by omega)
    rw [w0 _ (by omega), h62 _ (by omega), w10 _ (by omega), o4 _ (by omega)]
  · have r1 := ri.1 (u - 1) (by omega)
    rw [tC_wo _ _ _ _ (by decide), t6 j hj, w10 _ (by omega), o4 _ (fun z => by have := ri.2.1 (u - 1) u (by omega) (by omega) z; omega)]
  · rw [w0 _ (by decide)]; exact c6 j hj
/-- rows stay, one of them is the table again -/
def RD (a : Nat → Int32) (h h' : mh_T) : Prop := mI h' 10 2 = mI h 10 2 ∧ RI h' ∧ (∀ i, i < 21 → hrw h' i = hrw h i) ∧ (∀ i, i < 20 → hac h' i = hac h i) ∧ (∀ k, 137 ≤ k → h'.1 k = h.1 k) ∧ (∀ j, j < 49 → tC h' j = a j) ∧ ∀ j, j < 32 → h'.1 27 j = 0
theorem RD_of {a : Nat → Int32} {h h' : mh_T} (hG : GI h) (ri : RI h) (e2 : mI h' 10 2 = mI h 10 2) (e40 : h'.2.2 40 = h.2.2 40) (e41 : h'.2.2 41 = h.2.2 41) (h62 : H62 h h') (t : ∀ j, j < 49 → tC h' j = a j) (c : ∀ j, j < 32 → h'.1 27 j = 0) : RD a h h' := by
  refine ⟨e2, RI_cg e40 e41 ri, fun i hi => ?_, fun i hi => ?_, fun k hk => h62 k (by omega), t, c⟩
  · have r1 := ri.1 i hi
    show h'.1 (mR h' 41 i) = _
    rw [show mR h' 41 i = mR h 41 i from congrFun e41 i, h62 _ (by omega)]
  · have g1 := sh5 (hG.2.1 i hi)
    show h'.1 (mR h' 40 i) = _
    rw [show mR h' 40 i = mR h 40 i from congrFun e40 i, h62 _ (by omega)]
set_option maxRecDepth 100000 in
set_option maxHeartbeats 4000000 in
theorem v_X10_redo {g : gT} {h : mh_T} {P : Int32 → mh_T → Prop} (u n : Nat) (eu : (mI h 10 0).toInt = (u : Int)) (en : (mI h 10 1).toInt = (n : Int)) (hG : GI h) (ri : RI h) (h0 : ¬ u < n → ∀ h', Ok [0] h h' → P 0 h') (hp : u < n → ∀ h', Ok msK h h' → (mI h' 10 0).toInt = (u : Int) + 1 → mI h' 10 1 = mI h 10 1 → RD (hrw h (u + 1)) h h' → P 1 h') : MCi g yX10_redo uX10_redo [.ref 0] h P := by
  have f1 : R 0 20 (mI h 10 1) := GI_rd hG 10 1 rfl
  have n20 : n ≤ 20 := by have := f1.2; omega
  refine e_X10_redo (e_X4_makeAgain ⟨fun z => ?_, fun z => ⟨fun _ => v_denied 6 hG (h0 (fun y => z (i_lt.mpr (by omega)))), fun y => absurd rfl y⟩⟩)
  have z := i_lt.mp z
  have un : u < n := by omega
  have eu1 : (mI h 10 0 + 1).toInt = ((u + 1 : Nat) : Int) := i_inc eu (by omega)
  have sr1 := hG.2.2 (u + 1) (by omega)
  rw [show mI (wI h 10 0 (mI h 10 0 + 1)) 10 0 = mI h 10 0 + 1 by rw [mI_wI, if_pos ⟨rfl, rfl⟩], i_nat eu1, mR_wI]
  have o5 : Ok [10] h (wI h 10 0 (mI h 10 0 + 1)) := Ok_w (Ok_rf hG) (k := 10) (j := 0) (v := mI h 10 0 + 1) (lo := 0) (hi := 20) rfl ⟨by omega, by omega⟩ (by decide) (by decide)
  refine ⟨i_vp eu1 (by omega), sr1.1, v_restore (mR h 41 (u + 1)) sr1.1 sr1.2 o5.1 (fun h6 k6 t6 c6 => ⟨fun y => absurd y (by decide), fun _ => v_done0 ?_⟩)⟩
  have o6 : Ok [0, 3, 10, 24, 25, 26, 27] h (wI h6 0 11 0) := Ok_0 (Ok_tr (Ok_mono o5 (by decide)) k6 (by decide)) (by decide)
  have y10 : ∀ j, mI (wI h6 0 11 0) 10 j = mI (wI h 10 0 (mI h 10 0 + 1)) 10 j := fun j => by rw [mI_wI, if_neg (fun z => absurd z.1 (by decide))]; exact congrFun (OkC k6 (k := 10) (by decide)) j
  have r1 := ri.1 (u + 1) (by omega)
  refine hp un _ (Ok_mono o6 (by decide)) ?_ ?_ (RD_of hG ri ?_ (o6.2.1 40 (by decide) (by decide)).2.2 (o6.2.1 41 (by decide) (by decide)).2.2 (Ok_62 o6 (by decide)) (fun j hj => ?_) (fun j hj => ?_))
  · rw [y10, mI_wI, if_pos ⟨rfl, rfl⟩, eu1]; omega
  · rw [y10, mI_wI, if_neg (by decide)]
  · rw [y10, mI_wI, if_neg (by decide)]
  · rw [tC_wo _ _ _ _ (by decide), t6 j hj, wI_o (by omega)]
  · rw [wI_o (by decide)]; exact c6 j hj
set_option maxRecDepth 100000 in
set_option maxHeartbeats 4000000 in
theorem v_X10_back {g : gT} {h : mh_T} {P : Int32 → mh_T → Prop} (l1 : Int32) (m : Nat) (em : (mI h 10 2).toInt = (m : Int)) (hG : GI h) (ri : RI h) (h0 : ¬ (0 ≤ l1.toInt ∧ l1.toInt < (m : Int)) → ∀ h', Ok [0] h h' → P 0 h') (hp : 0 ≤ l1.toInt → l1.toInt < (m : Int) → ∀ h', Ok msK h h' → mI h' 10 0 = 0 → mI h' 10 1 = 0 → RD (h.1 (137 + l1.toInt.toNat)) h h' → P 1 h') : MCi g yX10_back uX10_back [.ref 0, .int l1] h P := by
  have f2 : R 0 4 (mI h 10 2) := GI_rd hG 10 2 rfl
  have m4 : m ≤ 4 := by have := f2.2; omega
  refine e_X10_back l1 (e_X4_goBack l1 ⟨fun c => ⟨fun _ => v_denied 1 hG (h0 (fun y => ?_)), fun y => absurd rfl y⟩, fun c => ⟨fun c2 => ?_, fun c2 => ⟨fun _ => v_denied 1 hG (h0 (fun y => c2 (i_lt.mpr (by omega)))), fun y => absurd rfl y⟩⟩⟩)
  · have c := i_lt.mp c
    rw [i_0] at c
    omega
  · have c : ¬ l1.toInt < (0 : Int32).toInt := fun z => c (i_lt.mpr z)
    rw [i_0] at c
    have c2 := i_lt.mp c2
    obtain ⟨p, ep⟩ : ∃ p : Nat, l1.toInt = (p : Int) := ⟨l1.toInt.toNat, by omega⟩
    have pn : l1.toInt.toNat = p := by omega
    rw [i_nat ep]
    have p4 : p < 4 := by omega
    have sh : shp (137 + p) = (20, 49, []) := (show ∀ p, p < 4 → shp (137 + p) = (20, 49, []) by decide) p p4
    refine ⟨i_vp ep (by omega), v_restore (137 + p) sh (by omega) hG (fun h6 k6 t6 c6 => ⟨fun y => absurd y (by decide), fun _ => v_done0 ?_⟩)⟩
    have o6 : Ok [0, 3, 10, 24, 25, 26, 27] h (wI (wI (wI h6 10 0 0) 10 1 0) 0 11 0) := Ok_0 (Ok_w (Ok_w (Ok_mono k6 (by decide)) (k := 10) (j := 0) (v := 0) (lo := 0) (hi := 20) rfl ⟨by decide, by decide⟩ (by decide) (by decide)) (k := 10) (j := 1) (v := 0) (lo := 0) (hi := 20) rfl ⟨by decide, by decide⟩ (by decide) (by decide)) (by decide)
    rw [pn] at hp
    refine hp (by omega) (by omega) _ (Ok_mono o6 (by decide)) ?_ ?_ (RD_of hG ri ?_ (o6.2.1 40 (by decide) (by decide)).2.2 (o6.2.1 41 (by decide) (by decide)).2.2 (Ok_62 o6 (by decide)) (fun j hj => ?_) (fun j hj => ?_))
    · rw [mI_wI, if_neg (by decide), mI_wI, if_neg (by decide), mI_wI, if_pos ⟨rfl, rfl⟩]
    · rw [mI_wI, if_neg (by decide), mI_wI, if_pos ⟨rfl, rfl⟩]
    · rw [mI_wI, if_neg (by decide), mI_wI, if_neg (by decide), mI_wI, if_neg (by decide)]
      exact congrFun (OkC k6 (k := 10) (by decide)) 2
    · rw [tC_wo _ _ _ _ (by decide), tC_wo _ _ _ _ (by decide), tC_wo _ _ _ _ (by decide), t6 j hj]
    · rw [wI_o (by decide), wI_o (by decide), wI_o (by decide)]; exact c6 j hj
/-- MARK of the class -/
def MK (m : Nat) (h h' : mh_T) : Prop := (mI h' 10 2).toInt = (m : Int) + 1 ∧ mI h' 10 0 = mI h 10 0 ∧ mI h' 10 1 = mI h 10 1 ∧ h'.2 = h.2 ∧ (∀ k, 62 ≤ k → ¬ k = 137 + m → h'.1 k = h.1 k) ∧ ∀ j, j < 49 → h'.1 (137 + m) j = tC h j
set_option maxRecDepth 100000 in
set_option maxHeartbeats 4000000 in
theorem v_X10_mark {g : gT} {h : mh_T} {P : Int32 → mh_T → Prop} (m : Nat) (em : (mI h 10 2).toInt = (m : Int)) (hG : GI h) (h0 : mI h 3 0 = 0 ∨ m = 4 → ∀ h', Ok [0] h h' → P (-1) h') (hp : ¬ mI h 3 0 = 0 → ¬ m = 4 → ∀ (v : Int32) (h' : mh_T), v.toInt = (m : Int) → Ok [0, 10, 302] h h' → MK m h h' → P v h') : MCi g yX10_mark uX10_mark [.ref 0] h P := by
  have f2 : R 0 4 (mI h 10 2) := GI_rd hG 10 2 rfl
  have m4 : m ≤ 4 := by have := f2.2; omega
  have z4 : (4 : Int32).toInt = 4 := by decide
  have rf : ∀ l : Int32, (mI h 3 0 = 0 ∨ m = 4) → MCi g yX10_refused uX10_refused [.ref 0, .int l] h P := fun l q => e_X10_refused l (h0 q _ (Ok_0 (Ok_rf hG) (by decide)))
  refine e_X10_mark (e_X10_noBook ⟨fun z => ⟨fun _ => ⟨fun c => ?_, fun c => rf 3 (Or.inr ?_)⟩, fun y => absurd rfl y⟩, fun z => ⟨fun y => absurd y (by decide), fun _ => rf 1 (Or.inl z)⟩⟩)
  · have c := i_lt.mp c
    have m3 : m < 4 := by omega
    have sh : shp (137 + m) = (20, 49, []) := (show ∀ p, p < 4 → shp (137 + p) = (20, 49, []) by decide) m m3
    refine e_X4_keep ⟨i_vp em (by omega), ?_⟩
    rw [i_nat em]
    refine v_save (137 + m) sh (by omega) hG (fun h4 k4 r4 o4 s4 => ?_)
    have e10 : ∀ j, mI h4 10 j = mI h 10 j := fun j => congrFun (o4 10 (by omega)) j
    rw [e10 2]
    have em1 : (mI h 10 2 + 1).toInt = (m : Int) + 1 := by rw [i_inc em (by omega)]; omega
    have hv : mI (wI h4 10 2 (mI h 10 2 + 1)) 10 2 - 1 = mI h 10 2 := by
      rw [mI_wI, if_pos ⟨rfl, rfl⟩]
      exact Int32.toInt_inj.mp (by rw [ti_sub1 (x := mI h 10 2 + 1) (hi := 5) ⟨by omega, by omega⟩ (by decide), em1, em]; omega)
    rw [hv]
    have o5 : Ok [0, 10, 302] h (wI h4 10 2 (mI h 10 2 + 1)) := Ok_w (Ok_mono k4 (by decide)) (k := 10) (j := 2) (lo := 0) (hi := 4) rfl ⟨by omega, by omega⟩ (by decide) (by decide)
    refine e_X10_told _ (hp z (by omega) _ _ em (Ok_0 o5 (by decide)) ⟨?_, ?_, ?_, r4, fun k h1 h2 => ?_, fun j hj => ?_⟩)
    · rw [mI_wI, if_neg (by decide), mI_wI, if_pos ⟨rfl, rfl⟩]; exact em1
    · rw [mI_wI, if_neg (by decide), mI_wI, if_neg (by decide), e10]
    · rw [mI_wI, if_neg (by decide), mI_wI, if_neg (by decide), e10]
    · rw [wI_o (by omega), wI_o (by omega), o4 k h2]
    · rw [wI_o (by omega), wI_o (by omega)]; exact s4 j hj
  · have c := i_le.mp (nlt c)
    omega
