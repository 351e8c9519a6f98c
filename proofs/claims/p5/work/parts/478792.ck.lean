/-! the class's book -/
set_option maxRecDepth 100000 in
set_option maxHeartbeats 4000000 in
theorem v_X8_open {g : gT} {h : mh_T} {P : mh_T → Prop}  (hG : GI h)  (hp : ∀ h', Ok [3, 24, 25, 26, 27] h h' → mI h' 3 1 = mI h 2 1 → P h') : MCv g yX8_open uX8_open [.ref 3, .ref 2] h P := by
  have ok : Ok [3, 24, 25, 26, 27] h h := Ok_rf hG
  refine e_X8_open   ?_
  have f_20 : R 0 60 (mI h 2 0) := GI_rd ok.1 2 _ (by decide)
  have ok_21 := Ok_w ok (k := 3) (j := 0) (v := (mI h 2 0)) (lo := 0) (hi := 60) (by decide) f_20 (by decide) (by decide)
  have f_23 : R 0 6 (mI h 2 1) := GI_rd ok.1 2 _ (by decide)
  have f_22 : R 0 6 (mI (wI h 3 0 (mI h 2 0)) 2 1) := (rd_ne f_23 (by decide))
  have ok_24 := Ok_w ok_21 (k := 3) (j := 1) (v := (mI (wI h 3 0 (mI h 2 0)) 2 1)) (lo := 0) (hi := 6) (by decide) f_22 (by decide) (by decide)
  have f_27 : R 0 8 (mI h 2 3) := GI_rd ok.1 2 _ (by decide)
  have f_26 : R 0 8 (mI (wI h 3 0 (mI h 2 0)) 2 3) := (rd_ne f_27 (by decide))
  have f_25 : R 0 8 (mI (wI (wI h 3 0 (mI h 2 0)) 3 1 (mI (wI h 3 0 (mI h 2 0)) 2 1)) 2 3) := (rd_ne f_26 (by decide))
  have ok_28 := Ok_w ok_24 (k := 3) (j := 2) (v := (mI (wI (wI h 3 0 (mI h 2 0)) 3 1 (mI (wI h 3 0 (mI h 2 0)) 2 1)) 2 3)) (lo := 0) (hi := 8) (by decide) f_25 (by decide) (by decide)
  have ok_29 := Ok_cp ok_28 (k0 := 15) (sp := (Int32.toNatClampNeg 0)) (k1 := 24) (dp := (Int32.toNatClampNeg 0)) (n := (Int32.toNatClampNeg 8)) (cp_ok (sp := 0) (dp := 0) (n := 8) (by decide)) (by decide) (by decide)
  have ok_30 := Ok_cp ok_29 (k0 := 16) (sp := (Int32.toNatClampNeg 0)) (k1 := 25) (dp := (Int32.toNatClampNeg 0)) (n := (Int32.toNatClampNeg 8)) (cp_ok (sp := 0) (dp := 0) (n := 8) (by decide)) (by decide) (by decide)
  have ok_31 := Ok_cp ok_30 (k0 := 17) (sp := (Int32.toNatClampNeg 0)) (k1 := 26) (dp := (Int32.toNatClampNeg 0)) (n := (Int32.toNatClampNeg 32)) (cp_ok (sp := 0) (dp := 0) (n := 32) (by decide)) (by decide) (by decide)
  refine s_X8_clearCoins ok_31.1 (fun h1 ko_32 => ?_)
  have ok_33 := Ok_tr ok_31 ko_32 (by decide)
  have f_36 : R (-2147483648) 2147483647 (mI (cpI (cpI (cpI (wI (wI (wI h 3 0 (mI h 2 0)) 3 1 (mI (wI h 3 0 (mI h 2 0)) 2 1)) 3 2 (mI (wI (wI h 3 0 (mI h 2 0)) 3 1 (mI (wI h 3 0 (mI h 2 0)) 2 1)) 2 3)) 15 (Int32.toNatClampNeg 0) 24 (Int32.toNatClampNeg 0) (Int32.toNatClampNeg 8)) 16 (Int32.toNatClampNeg 0) 25 (Int32.toNatClampNeg 0) (Int32.toNatClampNeg 8)) 17 (Int32.toNatClampNeg 0) 26 (Int32.toNatClampNeg 0) (Int32.toNatClampNeg 32)) 3 3) := R_full _
  have f_35 : R (-2147483648) 2147483647 (mI h1 3 3) := Ok_rd ko_32 (by decide) f_36
  have f_37 : R 1 1 1 := ⟨by decide, by decide⟩
  have f_34 : R (-2147483648) 2147483647 ((mI h1 3 3) + 1) := R_full _
  have ok_38 := Ok_w ok_33 (k := 3) (j := 3) (v := ((mI h1 3 3) + 1)) (lo := (-2147483648)) (hi := 2147483647) (by decide) f_34 (by decide) (by decide)
  refine hp _ ok_38 ?_
  rw [mI_wI, if_neg (by decide), Ok_eq ko_32 (by decide), mI_cpI, if_neg (by decide), mI_cpI, if_neg (by decide), mI_cpI, if_neg (by decide), mI_wI, if_neg (by decide), mI_wI, if_pos ⟨rfl, rfl⟩, mI_wI, if_neg (by decide)]
abbrev msD : List Nat := [0, 1, 2, 3, 4, 5, 6, 7, 8, 9, 10, 13, 14, 15, 16, 17, 18, 19, 20, 21, 22, 23, 24, 25, 26, 27, 28, 29, 30, 31, 32, 33, 34, 35, 36, 37, 38, 39, 40, 41, 42]
/-- the class's book: what it answers, what stays -/
theorem c_book {g : gT} {h : mh_T} {P : Int32 → mh_T → Prop} {T : Nat → Int32} (l1 : Int32) (hG : GI h) (hT : ∀ j : Nat, (j : Int) < (mI h 0 10).toInt → mI h 12 j = T j) (hn : ¬ (0 ≤ l1.toInt ∧ l1.toInt ≤ (mI h 0 10).toInt) → P (-1) (wI h 0 11 2)) (hs : ∀ (n e : Nat) (f : Nat → Int32) (h' : mh_T), l1.toInt = (n : Int) → (n : Int) ≤ (mI h 0 10).toInt → rx_book T n = .inr ((), e, f) → GI h' → Fr msD h h' → mI h' 0 10 = 0 ∧ mI h' 0 11 = 0 ∧ mI h' 0 12 = 0 → P (f 50) h') (hx : ∀ (n : Nat) (w : Int32) (p : Nat) (h' : mh_T), l1.toInt = (n : Int) → (n : Int) ≤ (mI h 0 10).toInt → rx_book T n = .inl (w, p) → GI h' → Fr msD h h' → mI h' 0 10 = 0 ∧ mI h' 0 11 = 4 ∧ mI h' 0 12 = w → (mI h' 0 13).toInt = (p : Int) → P (-1) h') : MCi g yX10_book uX10_book [.ref 0, .int l1] h P := by
  have z0 : (0 : Int32).toInt = 0 := by decide
  have f0 : R 0 900 (mI h 0 10) := GI_rd hG 0 10 (by decide)
  refine e_X10_book l1 ⟨fun c => e_X10_refused 2 (hn (fun z => by have := lt_ti c; omega)), fun c => ⟨fun c2 => ?_, fun c2 => e_X10_refused 2 (hn (fun z => by have := lt_ti (nle c2); omega))⟩⟩
  have a1 := le_ti (nlt c)
  have a2 := le_ti c2
  obtain ⟨n, en⟩ : ∃ n : Nat, l1.toInt = (n : Int) := ⟨l1.toInt.toNat, by omega⟩
  have n9 : n ≤ 900 := by have := f0.2; omega
  have g0 : GI (wI h 0 10 0) := GI_w hG (k := 0) (j := 10) (lo := 0) (hi := 900) (by decide) ⟨by decide, by decide⟩
  have fr1 : Fr msD h (wI h 0 10 0) := Fr_w (Fr_rf h) (by decide)
  have e0 : mI (wI h 0 10 0) 0 10 = 0 := by rw [mI_wI, if_pos ⟨rfl, rfl⟩]
  have t12 : ∀ j, j < n → mI (wI h 0 10 0) 12 j = T j := fun j hj => by
    rw [mI_wI, if_neg (fun z => absurd z.1 (by decide))]
    exact hT j (by omega)
  generalize wI h 0 10 0 = h1 at g0 fr1 e0 t12
  refine c_read l1 g0 en n9 t12 (fun h5 cz => ?_)
  have e12 : mI (wI h5 0 12 (mI h5 1 1)) 0 12 = mI h5 1 1 := by rw [mI_wI, if_pos ⟨rfl, rfl⟩]
  have e10 : mI (wI h5 0 12 (mI h5 1 1)) 0 10 = mI h5 0 10 := by rw [mI_wI, if_neg (by decide)]
  rw [e12]
  rcases cz with ⟨e, f, eo, cs⟩ | ⟨w, p, eo, cx⟩
  · have c11 : mI h5 1 1 = 0 := cs.2.2.2.2.2.2
    have c21 : mI h5 2 1 = f 50 := cs.2.2.2.2.1.1.2.1
    have ok5 : Ok msD h1 h5 := Ok_mono cs.1 (by decide)
    refine ⟨fun _ => ?_, fun z => absurd c11 z⟩
    have g6 : GI (wI h5 0 12 (mI h5 1 1)) := GI_w ok5.1 (k := 0) (j := 12) (lo := -2147483648) (hi := 2147483647) (by decide) (R_full _)
    have fr6 : Fr msD h (wI h5 0 12 (mI h5 1 1)) := Fr_w (Fr_tr fr1 ok5.2.1) (by decide)
    have v10 : mI (wI h5 0 12 (mI h5 1 1)) 0 10 = 0 := e10.trans (ok5.2.2.1.trans e0)
    have v12 : mI (wI h5 0 12 (mI h5 1 1)) 0 12 = 0 := e12.trans c11
    have v21 : mI (wI h5 0 12 (mI h5 1 1)) 2 1 = f 50 := by rw [mI_wI, if_neg (by decide)]; exact c21
    generalize wI h5 0 12 (mI h5 1 1) = h6 at g6 fr6 v10 v12 v21
    refine v_X8_open g6 (fun h7 k7 v7 => ?_)
    have ok7 := Ok_tr (Ok_rf (ms := msD) g6) k7 (by decide)
    refine s_X5_open ok7.1 (fun h8 k8 => ?_)
    have ok8 := Ok_tr ok7 k8 (by decide)
    refine s_X3_open ok8.1 (fun h9 k9 => ?_)
    have ok9 := Ok_tr ok8 k9 (by decide)
    refine s_X9_open ok9.1 (fun h10 k10 => ?_)
    have ok10 := Ok_tr ok9 k10 (by decide)
    refine s_X4_open ok10.1 (fun h11 k11 => ?_)
    have ok11 := Ok_tr ok10 k11 (by decide)
    have v31 : mI h11 3 1 = f 50 := by rw [Ok_eq k11 (by decide), Ok_eq k10 (by decide), Ok_eq k9 (by decide), Ok_eq k8 (by decide), v7, v21]
    have w12 : mI h11 0 12 = 0 := by rw [Ok_eq k11 (by decide), Ok_eq k10 (by decide), Ok_eq k9 (by decide), Ok_eq k8 (by decide), Ok_eq k7 (by decide), v12]
    rw [v31]
    have ok12 := Ok_w ok11 (k := 0) (j := 11) (v := 0) (lo := -2147483648) (hi := 2147483647) (by decide) (R_full _) (by decide) (by decide)
    refine e_X10_told _ (hs n e f _ en (by omega) eo ok12.1 (Fr_tr fr6 ok12.2.1) ⟨ok12.2.2.1.trans v10, ?_, ?_⟩)
    · rw [mI_wI, if_pos ⟨rfl, rfl⟩]
    · rw [mI_wI, if_neg (by decide)]; exact w12
  · have c11 : mI h5 1 1 = w := cx.2.1
    have ok5 : Ok msD h1 h5 := Ok_mono cx.1 (by decide)
    refine ⟨fun z => absurd (c11.symm.trans z) cx.2.2.2, fun _ => ?_⟩
    have g6 : GI (wI h5 0 12 (mI h5 1 1)) := GI_w ok5.1 (k := 0) (j := 12) (lo := -2147483648) (hi := 2147483647) (by decide) (R_full _)
    have fr6 : Fr msD h (wI h5 0 12 (mI h5 1 1)) := Fr_w (Fr_tr fr1 ok5.2.1) (by decide)
    have v10 : mI (wI h5 0 12 (mI h5 1 1)) 0 10 = 0 := e10.trans (ok5.2.2.1.trans e0)
    have v12 : mI (wI h5 0 12 (mI h5 1 1)) 0 12 = w := e12.trans c11
    have v2 : (mI (wI h5 0 12 (mI h5 1 1)) 1 2).toInt = (p : Int) := by rw [mI_wI, if_neg (by decide)]; exact cx.2.2.1
    generalize wI h5 0 12 (mI h5 1 1) = h6 at g6 fr6 v10 v12 v2
    have g8 : GI (wI (wI h6 0 13 (mI h6 1 2)) 0 11 4) := GI_w (GI_w g6 (k := 0) (j := 13) (lo := -2147483648) (hi := 2147483647) (by decide) (R_full _)) (k := 0) (j := 11) (lo := -2147483648) (hi := 2147483647) (by decide) (R_full _)
    refine e_X10_refused 4 (hx n w p _ en (by omega) eo g8 (Fr_w (Fr_w fr6 (by decide)) (by decide)) ⟨?_, ?_, ?_⟩ ?_)
    · rw [mI_wI, if_neg (by decide), mI_wI, if_neg (by decide)]; exact v10
    · rw [mI_wI, if_pos ⟨rfl, rfl⟩]
    · rw [mI_wI, if_neg (by decide), mI_wI, if_neg (by decide)]; exact v12
    · rw [mI_wI, if_neg (by decide), mI_wI, if_pos ⟨rfl, rfl⟩]; exact v2
