/-! the law's calls -/
def JJ (h : mh_T) : Prop := GI h ∧ TVs h
/-- what the calls but feed and book leave -/
def SY (h h' : mh_T) : Prop := (mI h' 8 0 = mI h 8 0 ∧ h'.1 32 = h.1 32 ∧ mI h' 11 14 = mI h 11 14 ∧ ∀ j, 49 ≤ j → mI h' 45 j = mI h 45 j) ∧ mI h' 3 0 = mI h 3 0 ∧ h'.1 7 = h.1 7 ∧ h'.1 31 = h.1 31
def S0 (h h' : mh_T) : Prop := (mI h' 0 10 = mI h 0 10 ∧ mI h' 11 2 = mI h 11 2 ∧ h'.1 12 = h.1 12 ∧ h'.1 43 = h.1 43) ∧ SY h h'
def SS (h h' : mh_T) : Prop := S0 h h' ∧ LC h h' ∧ LR h h'
/-- both tapes hold the same bytes -/
def RT (h : mh_T) : Prop := mI h 0 10 = mI h 11 2 ∧ ∀ j : Nat, (j : Int) < (mI h 0 10).toInt → mI h 12 j = mI h 43 j ∧ 0 ≤ (mI h 43 j).toInt
/-- the same rays; the class knows which are square -/
def RY (h : mh_T) : Prop := mI h 8 0 = mI h 45 85 ∧ (mI h 11 14 = 0 → mI h 45 85 = 0) ∧ ∀ i j : Nat, (i : Int) < (mI h 45 85).toInt → (j : Int) < (mI h 45 85).toInt → ¬ j = i → (bt (mI h 32 i) j = true ↔ dtk (fun q => mI h 45 (86 + q)) i j 4 = 0)
/-- both have a book, or none; the class knows what can be asked of the lines -/
def RW (h : mh_T) : Prop := ((mI h 3 0 = 0 ↔ mI h 11 14 = 0) ∧ mI h 3 0 = mI h 45 49) ∧ (mI h 11 14 = 0 → mI h 7 0 = 0) ∧ (¬ mI h 11 14 = 0 → LF (fun j => mI h 45 j) (mI h 45 52).toInt.toNat (mI h 45 51).toInt.toNat h)
def RR (h : mh_T) : Prop := RT h ∧ RY h ∧ RW h ∧ RH h
theorem SY_rf (h : mh_T) : SY h h := ⟨⟨rfl, rfl, rfl, fun _ _ => rfl⟩, rfl, rfl, rfl⟩
theorem S0_rf (h : mh_T) : S0 h h := ⟨⟨rfl, rfl, rfl, rfl⟩, SY_rf h⟩
theorem SS_rf (h : mh_T) : SS h h := ⟨S0_rf h, LC_rf h, LR_rf h⟩
theorem SS_wL {h : mh_T} {k j : Nat} {v : Int64} : SS h (wL h k j v) := ⟨⟨⟨rfl, rfl, rfl, rfl⟩, ⟨rfl, rfl, rfl, fun _ _ => rfl⟩, rfl, rfl, rfl⟩, ⟨rfl, rfl, rfl, rfl, rfl, fun _ _ => rfl, rfl⟩, ⟨rfl, rfl, rfl, rfl, rfl, rfl, rfl, rfl, fun _ _ _ => rfl⟩⟩
theorem S0_ok {ms : List Nat} {h h' : mh_T} (ok : Ok ms h h') (hm : 12 ∉ ms ∧ 43 ∉ ms ∧ 32 ∉ ms ∧ 7 ∉ ms ∧ 31 ∉ ms) : S0 h h' := ⟨⟨ok.2.2.1, ok.2.2.2.1, OkC ok ⟨by decide, hm.1⟩, OkC ok ⟨by decide, hm.2.1⟩⟩, ⟨ok.2.2.2.2.1 8 0 (by decide), OkC ok ⟨by decide, hm.2.2.1⟩, ok.2.2.2.2.1 11 14 (by decide), fun j hj => ok.2.2.2.2.1 45 j (by unfold Pk; omega)⟩, ok.2.2.2.2.1 3 0 (by decide), OkC ok ⟨by decide, hm.2.2.2.1⟩, OkC ok ⟨by decide, hm.2.2.2.2⟩⟩
def SSm : List Nat := [12, 43, 32, 7, 31, 3, 24, 25, 26, 27, 10, 40, 41, 302, 45, 47, 49, 50, 51, 52, 53, 301]
theorem SS_ok {ms : List Nat} {h h' : mh_T} (ok : Ok ms h h') (hm : ∀ k ∈ SSm, k ∉ ms) : SS h h' := ⟨S0_ok ok ⟨hm 12 (by decide), hm 43 (by decide), hm 32 (by decide), hm 7 (by decide), hm 31 (by decide)⟩, LC_ok ok ⟨hm 3 (by decide), hm 24 (by decide), hm 25 (by decide), hm 26 (by decide), hm 27 (by decide), hm 10 (by decide), hm 40 (by decide), hm 41 (by decide), hm 302 (by decide)⟩, LR_ok ok ⟨hm 45 (by decide), hm 47 (by decide), hm 49 (by decide), hm 50 (by decide), hm 51 (by decide), hm 52 (by decide), hm 53 (by decide), hm 301 (by decide)⟩⟩
theorem RT_s {h h' : mh_T} (s : S0 h h') (r : RT h) : RT h' := by
  have e12 : ∀ j, mI h' 12 j = mI h 12 j := fun j => congrFun s.1.2.2.1 j
  have e43 : ∀ j, mI h' 43 j = mI h 43 j := fun j => congrFun s.1.2.2.2 j
  unfold RT
  rw [s.1.1, s.1.2.1]
  exact ⟨r.1, fun j hj => by rw [e12, e43]; exact r.2 j hj⟩
theorem RY_s {h h' : mh_T} (s : SY h h') (r : RY h) : RY h' := by
  have e32 : ∀ j, mI h' 32 j = mI h 32 j := fun j => congrFun s.1.2.1 j
  have e45 : (fun q => mI h' 45 (86 + q)) = fun q => mI h 45 (86 + q) := by
    funext q
    exact s.1.2.2.2 _ (by omega)
  unfold RY
  rw [s.1.1, s.1.2.2.1, s.1.2.2.2 85 (by omega), e45]
  exact ⟨r.1, r.2.1, fun i j hi hj hij => by rw [e32]; exact r.2.2 i j hi hj hij⟩
theorem RW_s {h h' : mh_T} (hJ : GI h) (s : SY h h') (r : RW h) : RW h' := by
  have e7 : ∀ j, mI h' 7 j = mI h 7 j := fun j => congrFun s.2.2.1 j
  have r52 : R 0 8 (mI h 45 52) := GI_rd hJ 45 52 (by decide)
  unfold RW
  rw [s.2.1, s.1.2.2.1, e7, s.1.2.2.2 52 (by omega), s.1.2.2.2 51 (by omega), s.1.2.2.2 49 (by omega)]
  exact ⟨r.1, r.2.1, fun z => LF_cg (by have := r52.1; have := r52.2; omega) (fun i hi _ => (s.1.2.2.2 i (by omega)).symm) s.2.2.1 s.2.2.2 (r.2.2 z)⟩
theorem RR_s {h h' : mh_T} (hJ : JJ h) (s : SS h h') (r : RR h) : RR h' := ⟨RT_s s.1 r.1, RY_s s.1.2 r.2.1, RW_s hJ.1 s.1.2 r.2.2.1, RH_s hJ.1 s.2.1 s.2.2 r.2.2.2⟩
/-- two calls, the relation of the tables given -/
theorem RR_2 {h h1 h2 : mh_T} (hJ : JJ h) (hJ1 : JJ h1) (r : RR h) (s1 : S0 h h1) (s2 : S0 h1 h2) (rh : RH h2) : RR h2 := ⟨RT_s s2 (RT_s s1 r.1), RY_s s2.2 (RY_s s1.2 r.2.1), RW_s hJ1.1 s2.2 (RW_s hJ.1 s1.2 r.2.2.1), rh⟩
theorem LC_fr {ms : List Nat} {h h' : mh_T} (fr : Fr ms h h') (h62 : H62 h h') (hm : 3 ∉ ms ∧ 24 ∉ ms ∧ 25 ∉ ms ∧ 26 ∉ ms ∧ 27 ∉ ms ∧ 10 ∉ ms ∧ 40 ∉ ms ∧ 41 ∉ ms) : LC h h' := ⟨tC_cg (congrFun (fr 3 (by decide) hm.1).1 2) (fr 24 (by decide) hm.2.1).1 (fr 25 (by decide) hm.2.2.1).1 (fr 26 (by decide) hm.2.2.2.1).1, (fr 27 (by decide) hm.2.2.2.2.1).1, (fr 10 (by decide) hm.2.2.2.2.2.1).1, (fr 40 (by decide) hm.2.2.2.2.2.2.1).2.2, (fr 41 (by decide) hm.2.2.2.2.2.2.2).2.2, h62, congrFun (fr 3 (by decide) hm.1).1 1⟩
theorem LR_fr {ms : List Nat} {h h' : mh_T} (fr : Fr ms h h') (hm : 49 ∉ ms ∧ 50 ∉ ms ∧ 51 ∉ ms ∧ 52 ∉ ms ∧ 53 ∉ ms) (e45 : h'.1 45 = h.1 45) (e47 : h'.1 47 = h.1 47) (e14 : mI h' 11 14 = mI h 11 14) (e24 : ∀ j, 24 ≤ j → j ≤ 26 → mI h' 11 j = mI h 11 j) : LR h h' := ⟨e45, e47, (fr 49 (by decide) hm.1).1, (fr 50 (by decide) hm.2.1).1, (fr 51 (by decide) hm.2.2.1).1, (fr 52 (by decide) hm.2.2.2.1).1, (fr 53 (by decide) hm.2.2.2.2).1, e14, e24⟩
theorem LR_fc {ms : List Nat} {h h' : mh_T} (fr : Fr ms h h') (hm : 11 ∉ ms ∧ 45 ∉ ms ∧ 47 ∉ ms ∧ 49 ∉ ms ∧ 50 ∉ ms ∧ 51 ∉ ms ∧ 52 ∉ ms ∧ 53 ∉ ms) : LR h h' := LR_fr fr hm.2.2.2 (fr 45 (by decide) hm.2.1).1 (fr 47 (by decide) hm.2.2.1).1 (congrFun (fr 11 (by decide) hm.1).1 14) (fun j _ _ => congrFun (fr 11 (by decide) hm.1).1 j)
abbrev SL := SS
theorem SL_rf (h : mh_T) : SL h h := SS_rf h
theorem SL_wL {h : mh_T} {k j : Nat} {v : Int64} : SL h (wL h k j v) := SS_wL
theorem RR_l {h h1 h2 : mh_T} (hJ : JJ h) (hJ1 : JJ h1) (he : RR h) (s1 : SL h h1) (s2 : SL h1 h2) : RR h2 := RR_s hJ1 s2 (RR_s hJ s1 he)
theorem l_in {i c : Int32} {k d n : Nat} (ei : i.toInt = (k : Int)) (hc : c.toInt = (d : Int)) (h : k + d < n) (hn : n < 2147483647) : vp_in (i + c) n := i_vp (i_off ei c d hc (by omega)) h
def FA (a1 a2 a3 a4 a5 : Int32) (h : mh_T) (r : Int32) (h' : mh_T) : Prop := (SY h h' ∧ LC h h' ∧ LR h h') ∧ (mI h' 11 2 = mI h 11 2 ∧ h'.1 43 = h.1 43) ∧ ((mI h 0 10).toInt ≤ 880 → ((mI h' 0 10).toInt = (mI h 0 10).toInt + 20 ∧ r = mI h' 0 10) ∧ (∀ i : Nat, (i : Int) < (mI h 0 10).toInt → mI h' 12 i = mI h 12 i) ∧ ∀ m, m < 20 → mI h' 12 ((mI h 0 10).toInt.toNat + m) = fw a1 a2 a3 a4 a5 m) ∧ (¬ (mI h 0 10).toInt ≤ 880 → (mI h' 0 10 = mI h 0 10 ∧ r = -1) ∧ h'.1 12 = h.1 12)
def FB (a1 a2 a3 a4 a5 : Int32) (h : mh_T) (r : Int32) (h' : mh_T) : Prop := (SY h h' ∧ LC h h' ∧ LR h h') ∧ (mI h' 0 10 = mI h 0 10 ∧ h'.1 12 = h.1 12) ∧ ((mI h 11 2).toInt ≤ 880 → ((mI h' 11 2).toInt = (mI h 11 2).toInt + 20 ∧ r = mI h' 11 2) ∧ (∀ i : Nat, (i : Int) < (mI h 11 2).toInt → mI h' 43 i = mI h 43 i) ∧ ∀ m, m < 20 → mI h' 43 ((mI h 11 2).toInt.toNat + m) = fw a1 a2 a3 a4 a5 m) ∧ (¬ (mI h 11 2).toInt ≤ 880 → (mI h' 11 2 = mI h 11 2 ∧ r = -1) ∧ h'.1 43 = h.1 43)
theorem k_X10_feed {g : gT} {h : mh_T} {P : Int32 → mh_T → Prop} (a1 a2 a3 a4 a5 : Int32) (hJ : JJ h) (hp : ∀ (r : Int32) (h' : mh_T), JJ h' → FA a1 a2 a3 a4 a5 h r h' → P r h') : MCi g yX10_feed uX10_feed [.ref 0, .int a1, .int a2, .int a3, .int a4, .int a5] h P := by
  obtain ⟨F, eF, F0, F9⟩ := i_R (GI_rd hJ.1 0 10 (lo := 0) (hi := 900) (by decide)) (by decide)
  refine v_feed a1 a2 a3 a4 a5 hJ.1 eF (fun hF h' ok e1 e2 e3 _ => hp _ h' ⟨ok.1, TVs_fr ok.2.1 (by decide) hJ.2⟩ ⟨⟨⟨⟨congrFun (ok.2.1 8 (by decide) (by decide)).1 0, (ok.2.1 32 (by decide) (by decide)).1, congrFun (ok.2.1 11 (by decide) (by decide)).1 14, fun j _ => congrFun (ok.2.1 45 (by decide) (by decide)).1 j⟩, congrFun (ok.2.1 3 (by decide) (by decide)).1 0, (ok.2.1 7 (by decide) (by decide)).1, (ok.2.1 31 (by decide) (by decide)).1⟩, LC_fr ok.2.1 ok.2.2 (by decide), LR_fc ok.2.1 (by decide)⟩, ⟨congrFun (ok.2.1 11 (by decide) (by decide)).1 2, (ok.2.1 43 (by decide) (by decide)).1⟩, fun _ => ⟨⟨by rw [e1, eF]; omega, rfl⟩, fun i hi => e2 i (by omega), fun m hm => by rw [eF]; exact e3 m hm⟩, fun z => absurd (by omega) z⟩) (fun hF => hp _ h hJ ⟨⟨SY_rf h, LC_rf h, LR_rf h⟩, ⟨rfl, rfl⟩, fun z => absurd (by omega) hF, fun _ => ⟨⟨rfl, rfl⟩, rfl⟩⟩)
theorem k_X11_feed {g : gT} {h : mh_T} {P : Int32 → mh_T → Prop} (a1 a2 a3 a4 a5 : Int32) (hJ : JJ h) (hp : ∀ (r : Int32) (h' : mh_T), JJ h' → FB a1 a2 a3 a4 a5 h r h' → P r h') : MCi g yX11_feed uX11_feed [.ref 11, .int a1, .int a2, .int a3, .int a4, .int a5] h P := by
  obtain ⟨F, eF, F0, F9⟩ := i_R (GI_rd hJ.1 11 2 (lo := 0) (hi := 900) (by decide)) (by decide)
  refine w_feed a1 a2 a3 a4 a5 hJ.1 eF (fun hF h' ok e1 e2 e3 e4 => hp _ h' ⟨ok.1, TVs_fr ok.2.1 (by decide) hJ.2⟩ ⟨⟨⟨⟨congrFun (ok.2.1 8 (by decide) (by decide)).1 0, (ok.2.1 32 (by decide) (by decide)).1, e4 14 (by omega), fun j _ => congrFun (ok.2.1 45 (by decide) (by decide)).1 j⟩, congrFun (ok.2.1 3 (by decide) (by decide)).1 0, (ok.2.1 7 (by decide) (by decide)).1, (ok.2.1 31 (by decide) (by decide)).1⟩, LC_fr ok.2.1 ok.2.2 (by decide), LR_fr ok.2.1 (by decide) (ok.2.1 45 (by decide) (by decide)).1 (ok.2.1 47 (by decide) (by decide)).1 (e4 14 (by omega)) (fun j _ _ => e4 j (by omega))⟩, ⟨congrFun (ok.2.1 0 (by decide) (by decide)).1 10, (ok.2.1 12 (by decide) (by decide)).1⟩, fun _ => ⟨⟨by rw [e1, eF]; omega, rfl⟩, fun i hi => e2 i (by omega), fun m hm => by rw [eF]; exact e3 m hm⟩, fun z => absurd (by omega) z⟩) (fun hF => hp _ _ ⟨GI_w hJ.1 (k := 11) (j := 0) (lo := -2147483648) (hi := 2147483647) (by decide) (R_full _), TVs_11 hJ.2⟩ ⟨⟨⟨⟨?_, ?_, ?_, fun j _ => ?_⟩, ?_, ?_, ?_⟩, LC_fr (Fr_w (ms := [11]) (Fr_rf h) (by decide)) (H62_w (fun _ _ => rfl) (by decide)) (by decide), LR_fr (Fr_w (ms := [11]) (Fr_rf h) (by decide)) (by decide) (wI_o (by decide)) (wI_o (by decide)) (by rw [mI_wI, if_neg (by decide)]) (fun j h1 h2 => by rw [mI_wI, if_neg (by omega)])⟩, ⟨?_, ?_⟩, fun z => absurd (by omega) hF, fun _ => ⟨⟨?_, rfl⟩, ?_⟩⟩)
  · rw [mI_wI, if_neg (by decide)]
  · exact ((Fr_w (ms := [11]) (Fr_rf h) (by decide)) 32 (by decide) (by decide)).1
  · rw [mI_wI, if_neg (by decide)]
  · rw [mI_wI, if_neg (fun z => absurd z.1 (by decide))]
  · rw [mI_wI, if_neg (by decide)]
  · exact ((Fr_w (ms := [11]) (Fr_rf h) (by decide)) 7 (by decide) (by decide)).1
  · exact ((Fr_w (ms := [11]) (Fr_rf h) (by decide)) 31 (by decide) (by decide)).1
  · rw [mI_wI, if_neg (by decide)]
  · exact ((Fr_w (ms := [11]) (Fr_rf h) (by decide)) 12 (by decide) (by decide)).1
  · rw [mI_wI, if_neg (by decide)]
  · exact ((Fr_w (ms := [11]) (Fr_rf h) (by decide)) 43 (by decide) (by decide)).1
theorem feed_RR {h h1 h2 : mh_T} {r1 r2 a1 a2 a3 a4 a5 : Int32} (hJ : JJ h) (hJ1 : JJ h1) (he : RR h) (s1 : FA a1 a2 a3 a4 a5 h r1 h1) (s2 : FB a1 a2 a3 a4 a5 h1 r2 h2) : RR h2 := by
  have e := he.1.1
  have e1 := s1.2.1.1
  have t1 : ∀ j, mI h1 43 j = mI h 43 j := fun j => congrFun s1.2.1.2 j
  have t2 : ∀ j, mI h2 12 j = mI h1 12 j := fun j => congrFun s2.2.1.2 j
  refine ⟨?_, RY_s s2.1.1 (RY_s s1.1.1 he.2.1), RW_s hJ1.1 s2.1.1 (RW_s hJ.1 s1.1.1 he.2.2.1), RH_s hJ1.1 s2.1.2.1 s2.1.2.2 (RH_s hJ.1 s1.1.2.1 s1.1.2.2 he.2.2.2)⟩
  unfold RT
  rw [s2.2.1.1]
  by_cases q : (mI h 0 10).toInt ≤ 880
  · obtain ⟨⟨b1, -⟩, b3, b4⟩ := s1.2.2.1 q
    obtain ⟨⟨c1, -⟩, c3, c4⟩ := s2.2.2.1 (by rw [e1, ← e]; exact q)
    rw [e1, ← e] at c1 c3 c4
    refine ⟨Int32.toInt_inj.mp (by rw [b1, c1]), fun j hj => ?_⟩
    rw [t2]
    by_cases z : (j : Int) < (mI h 0 10).toInt
    · rw [b3 j z, c3 j z, t1]
      exact he.1.2 j z
    · by_cases y : 0 ≤ (mI h 0 10).toInt
      · have w : j = (mI h 0 10).toInt.toNat + (j - (mI h 0 10).toInt.toNat) := by omega
        rw [w, b4 _ (by omega), c4 _ (by omega)]
        exact ⟨rfl, fw_nn _ _ _ _ _ _⟩
      · have w : j = (mI h 0 10).toInt.toNat + (j - (mI h 0 10).toInt.toNat) := by omega
        rw [w, b4 _ (by omega), c4 _ (by omega)]
        exact ⟨rfl, fw_nn _ _ _ _ _ _⟩
  · obtain ⟨⟨b1, -⟩, b3⟩ := s1.2.2.2 q
    obtain ⟨⟨c1, -⟩, c3⟩ := s2.2.2.2 (by rw [e1, ← e]; exact q)
    have t3 : ∀ j, mI h1 12 j = mI h 12 j := fun j => congrFun b3 j
    have t4 : ∀ j, mI h2 43 j = mI h1 43 j := fun j => congrFun c3 j
    rw [b1, c1, e1]
    refine ⟨e, fun j hj => ?_⟩
    rw [t2, t3, t4, t1]
    exact he.1.2 j hj
theorem rx_law {T : Nat → Int32} {n : Nat} : ∀ (k e e1 : Nat) (f f1 : Nat → Int32), rx_text T n k e f = .inr ((), e1, f1) → ¬ f1 49 = 0
  | 0, _, _, _, _, h => by cases h
  | k + 1, e, e1, f, f1, h => by
    change rx_bind (rx_line T n e f) (fun _ e1 f1 => if rx_k T n e1 = 0 then (if f1 49 = 0 ∨ f1 50 = 0 then rx_no T n e1 6 else .inr ((), e1, f1)) else if rx_k T n e1 = 59 then rx_text T n k (rx_e T n e1) f1 else rx_no T n e1 1) = _ at h
    cases a : rx_line T n e f with
    | inl q => rw [a] at h; cases h
    | inr q =>
      obtain ⟨u, e2, f2⟩ := q
      rw [a] at h
      change (if rx_k T n e2 = 0 then (if f2 49 = 0 ∨ f2 50 = 0 then rx_no T n e2 6 else .inr ((), e2, f2)) else if rx_k T n e2 = 59 then rx_text T n k (rx_e T n e2) f2 else rx_no T n e2 1) = _ at h
      split at h
      · split at h
        · cases h
        · rename_i z
          cases h
          exact fun y => z (Or.inl y)
      · split at h
        · exact rx_law k _ _ _ _ h
        · cases h
/-- the reference's book leaves the class's cells -/
def FX (h h' : mh_T) : Prop := ∀ k, k < 62 → k ∉ [11, 44, 45, 46, 47] → h'.1 k = h.1 k ∧ h'.2.2 k = h.2.2 k
theorem FX_fr {ms : List Nat} {h h' : mh_T} (fr : Fr ms h h') (hm : ∀ k ∈ ms, k < 62 → k ∈ [11, 44, 45, 46, 47]) : FX h h' := fun k hk hn => ⟨(fr k hk (fun z => hn (hm k z hk))).1, (fr k hk (fun z => hn (hm k z hk))).2.2⟩
def BA (T : Nat → Int32) (a1 : Int32) (h : mh_T) (r : Int32) (h' : mh_T) : Prop := (mI h' 11 2 = mI h 11 2 ∧ h'.1 43 = h.1 43 ∧ mI h' 11 14 = mI h 11 14 ∧ h'.1 45 = h.1 45 ∧ LR h h') ∧ ((0 ≤ a1.toInt ∧ a1.toInt ≤ (mI h 0 10).toInt) → mI h' 0 10 = 0 ∧ ((∃ w p, rx_book T a1.toInt.toNat = .inl (w, p) ∧ r = -1 ∧ (mI h' 8 0 = mI h 8 0 ∧ mI h' 3 0 = mI h 3 0 ∧ h'.1 7 = h.1 7 ∧ h'.1 31 = h.1 31) ∧ h'.1 32 = h.1 32 ∧ LC h h') ∨ (∃ e f, rx_book T a1.toInt.toNat = .inr ((), e, f) ∧ r = f 50 ∧ (mI h' 8 0 = f 85 ∧ mI h' 3 0 = f 49 ∧ LF f (f 52).toInt.toNat (f 51).toInt.toNat h') ∧ (Tb f h' ∧ mI h' 3 1 = f 50 ∧ h'.2.2 40 = h.2.2 40 ∧ h'.2.2 41 = h.2.2 41) ∧ ∀ i j : Nat, (i : Int) < (f 85).toInt → (j : Int) < (f 85).toInt → ¬ j = i → (bt (mI h' 32 i) j = true ↔ dtk (fun q => f (86 + q)) i j 4 = 0)))) ∧ (¬ (0 ≤ a1.toInt ∧ a1.toInt ≤ (mI h 0 10).toInt) → (mI h' 0 10 = mI h 0 10 ∧ r = -1 ∧ (mI h' 8 0 = mI h 8 0 ∧ mI h' 3 0 = mI h 3 0 ∧ h'.1 7 = h.1 7 ∧ h'.1 31 = h.1 31) ∧ h'.1 32 = h.1 32 ∧ LC h h') ∧ h'.1 12 = h.1 12)
def BB (T : Nat → Int32) (a1 : Int32) (h : mh_T) (r : Int32) (h' : mh_T) : Prop := (mI h' 0 10 = mI h 0 10 ∧ h'.1 12 = h.1 12 ∧ (mI h' 8 0 = mI h 8 0 ∧ mI h' 3 0 = mI h 3 0 ∧ h'.1 7 = h.1 7 ∧ h'.1 31 = h.1 31) ∧ h'.1 32 = h.1 32 ∧ FX h h') ∧ ((0 ≤ a1.toInt ∧ a1.toInt ≤ (mI h 11 2).toInt) → mI h' 11 2 = 0 ∧ ((∃ w p, rx_book T a1.toInt.toNat = .inl (w, p) ∧ r = -1 ∧ h'.1 45 = h.1 45 ∧ mI h' 11 14 = mI h 11 14 ∧ LC h h' ∧ LR h h') ∨ (∃ e f, rx_book T a1.toInt.toNat = .inr ((), e, f) ∧ r = f 50 ∧ (∀ j, j < 346 → mI h' 45 j = f j) ∧ mI h' 11 14 = 1 ∧ (∀ j, j < 32 → h'.1 47 j = 0) ∧ mI h' 11 24 = 0 ∧ mI h' 11 25 = 0 ∧ mI h' 11 26 = 0))) ∧ (¬ (0 ≤ a1.toInt ∧ a1.toInt ≤ (mI h 11 2).toInt) → (mI h' 11 2 = mI h 11 2 ∧ r = -1 ∧ h'.1 45 = h.1 45 ∧ mI h' 11 14 = mI h 11 14 ∧ LC h h' ∧ LR h h') ∧ h'.1 43 = h.1 43)
theorem k_X10_book {g : gT} {h : mh_T} {P : Int32 → mh_T → Prop} (a1 : Int32) (hJ : JJ h) (hp : ∀ (r : Int32) (h' : mh_T), JJ h' → BA (fun j => mI h 12 j) a1 h r h' → P r h') : MCi g yX10_book uX10_book [.ref 0, .int a1] h P := by
  have fr2 : Fr [0] h (wI h 0 11 2) := Fr_w (Fr_rf h) (by decide)
  have z : ∀ {ms : List Nat} {h' : mh_T}, Fr ms h h' → 11 ∉ ms → 43 ∉ ms → 45 ∉ ms → (47 ∉ ms ∧ 49 ∉ ms ∧ 50 ∉ ms ∧ 51 ∉ ms ∧ 52 ∉ ms ∧ 53 ∉ ms) → mI h' 11 2 = mI h 11 2 ∧ h'.1 43 = h.1 43 ∧ mI h' 11 14 = mI h 11 14 ∧ h'.1 45 = h.1 45 ∧ LR h h' := fun fr m1 m2 m3 m4 => ⟨congrFun (fr 11 (by decide) m1).1 2, (fr 43 (by decide) m2).1, congrFun (fr 11 (by decide) m1).1 14, (fr 45 (by decide) m3).1, LR_fc fr ⟨m1, m3, m4⟩⟩
  refine c_book (T := fun j => mI h 12 j) a1 hJ.1 (fun _ _ => rfl) (fun q => hp _ _ ⟨GI_w hJ.1 (k := 0) (j := 11) (lo := -2147483648) (hi := 2147483647) (by decide) (R_full _), TVs_fr fr2 (by decide) hJ.2⟩ ⟨z fr2 (by decide) (by decide) (by decide) (by decide), fun y => absurd y q, fun _ => ⟨⟨?_, rfl, ⟨?_, congrFun (fr2 3 (by decide) (by decide)).1 0, (fr2 7 (by decide) (by decide)).1, (fr2 31 (by decide) (by decide)).1⟩, (fr2 32 (by decide) (by decide)).1, LC_fr fr2 (H62_w (fun _ _ => rfl) (by decide)) (by decide)⟩, (fr2 12 (by decide) (by decide)).1⟩⟩) (fun n e f h' en hn ro g1 fr v vy vw vt => hp _ h' ⟨g1, TVs_fr fr (by decide) hJ.2⟩ ⟨z fr (by decide) (by decide) (by decide) (by decide), fun _ => ⟨v.1, Or.inr ⟨e, f, ?_, rfl, ⟨vy.2.2.1, vy.1, vw⟩, ⟨vt, vy.2.1, (fr 40 (by decide) (by decide)).2.2, (fr 41 (by decide) (by decide)).2.2⟩, vy.2.2.2⟩⟩, fun y => absurd (by omega) y⟩) (fun n w p h' en hn ro g1 fr v vp vx vz => hp _ h' ⟨g1, TVs_fr fr (by decide) hJ.2⟩ ⟨z fr (by decide) (by decide) (by decide) (by decide), fun _ => ⟨v.1, Or.inl ⟨w, p, ?_, rfl, ⟨congrFun vx.2.1 0, congrFun vx.1 0, vx.2.2.2⟩, vx.2.2.1, LC_fr vz.1 vz.2 (by decide)⟩⟩, fun y => absurd (by omega) y⟩)
  · rw [mI_wI, if_neg (by decide)]
  · rw [mI_wI, if_neg (by decide)]
  · rw [en, Int.toNat_natCast, ro]
  · rw [en, Int.toNat_natCast, ro]
theorem k_X11_book {g : gT} {h : mh_T} {P : Int32 → mh_T → Prop} (a1 : Int32) {T : Nat → Int32} (hJ : JJ h) (hT : ∀ j : Nat, (j : Int) < (mI h 11 2).toInt → mI h 43 j = T j ∧ 0 ≤ (T j).toInt) (hp : ∀ (r : Int32) (h' : mh_T), JJ h' → BB T a1 h r h' → P r h') : MCi g yX11_book uX11_book [.ref 11, .int a1] h P := by
  have fr2 : Fr [11] h (wI (wI (wI h 11 0 0) 11 11 0) 11 11 2) := Fr_w (Fr_w (Fr_w (Fr_rf h) (by decide)) (by decide)) (by decide)
  have z : ∀ {ms : List Nat} {h' : mh_T}, Fr ms h h' → 0 ∉ ms → 12 ∉ ms → 8 ∉ ms → 32 ∉ ms → 3 ∉ ms → 7 ∉ ms → 31 ∉ ms → (∀ k ∈ ms, k < 62 → k ∈ [11, 44, 45, 46, 47]) → mI h' 0 10 = mI h 0 10 ∧ h'.1 12 = h.1 12 ∧ (mI h' 8 0 = mI h 8 0 ∧ mI h' 3 0 = mI h 3 0 ∧ h'.1 7 = h.1 7 ∧ h'.1 31 = h.1 31) ∧ h'.1 32 = h.1 32 ∧ FX h h' := fun fr m0 m12 m8 m32 m3 m7 m31 mx => ⟨congrFun (fr 0 (by decide) m0).1 10, (fr 12 (by decide) m12).1, ⟨congrFun (fr 8 (by decide) m8).1 0, congrFun (fr 3 (by decide) m3).1 0, (fr 7 (by decide) m7).1, (fr 31 (by decide) m31).1⟩, (fr 32 (by decide) m32).1, FX_fr fr mx⟩
  refine b_book (T := T) a1 hJ.1 hJ.2 hT (fun q => hp _ _ ⟨GI_w (GI_w (GI_w hJ.1 (k := 11) (j := 0) (lo := -2147483648) (hi := 2147483647) (by decide) (R_full _)) (k := 11) (j := 11) (lo := -2147483648) (hi := 2147483647) (by decide) (R_full _)) (k := 11) (j := 11) (lo := -2147483648) (hi := 2147483647) (by decide) (R_full _), TVs_11 (TVs_11 (TVs_11 hJ.2))⟩ ⟨z fr2 (by decide) (by decide) (by decide) (by decide) (by decide) (by decide) (by decide) (by decide), fun y => absurd y q, fun _ => ⟨⟨?_, rfl, (fr2 45 (by decide) (by decide)).1, ?_, LC_fr fr2 (H62_w (H62_w (H62_w (fun _ _ => rfl) (by decide)) (by decide)) (by decide)) (by decide), LR_fr fr2 (by decide) (fr2 45 (by decide) (by decide)).1 (fr2 47 (by decide) (by decide)).1 (by rw [mI_wI, if_neg (by decide), mI_wI, if_neg (by decide), mI_wI, if_neg (by decide)]) (fun j h1 h2 => by rw [mI_wI, if_neg (by omega), mI_wI, if_neg (by omega), mI_wI, if_neg (by omega)])⟩, (fr2 43 (by decide) (by decide)).1⟩⟩) (fun n e f h' en hn ro g1 fr t v vy => hp _ h' ⟨g1, t⟩ ⟨z fr (by decide) (by decide) (by decide) (by decide) (by decide) (by decide) (by decide) (by decide), fun _ => ⟨v.2.1, Or.inr ⟨e, f, ?_, rfl, vy.1, vy.2⟩⟩, fun y => absurd (by omega) y⟩) (fun n w p h' en hn ro g1 fr t v vp vx => hp _ h' ⟨g1, t⟩ ⟨z fr (by decide) (by decide) (by decide) (by decide) (by decide) (by decide) (by decide) (by decide), fun _ => ⟨v.2.1, Or.inl ⟨w, p, ?_, rfl, vx.1, vx.2.1, LC_fr fr vx.2.2.2.1 (by decide), LR_fr fr (by decide) vx.1 vx.2.2.1 vx.2.1 vx.2.2.2.2⟩⟩, fun y => absurd (by omega) y⟩)
  · rw [mI_wI, if_neg (by decide), mI_wI, if_neg (by decide), mI_wI, if_neg (by decide)]
  · rw [mI_wI, if_neg (by decide), mI_wI, if_neg (by decide), mI_wI, if_neg (by decide)]
  · rw [en, Int.toNat_natCast, ro]
  · rw [en, Int.toNat_natCast, ro]
theorem book_T {h h1 : mh_T} {T : Nat → Int32} {r1 n : Int32} (he : RR h) (s1 : BA T n h r1 h1) : ∀ j : Nat, (j : Int) < (mI h1 11 2).toInt → mI h1 43 j = mI h 12 j ∧ 0 ≤ (mI h 12 j).toInt := by
  intro j hj
  have t1 : mI h1 43 j = mI h 43 j := congrFun s1.1.2.1 j
  rw [s1.1.1, ← he.1.1] at hj
  obtain ⟨a, b⟩ := he.1.2 j hj
  rw [t1, a]
  exact ⟨rfl, b⟩
theorem book_RR {h h1 h2 : mh_T} {T : Nat → Int32} {r1 r2 n : Int32} (hJ : JJ h) (hJ1 : JJ h1) (hJ2 : JJ h2) (he : RR h) (s1 : BA T n h r1 h1) (s2 : BB T n h1 r2 h2) : RR h2 := by
  by_cases q : 0 ≤ n.toInt ∧ n.toInt ≤ (mI h 0 10).toInt
  · have q2 : 0 ≤ n.toInt ∧ n.toInt ≤ (mI h1 11 2).toInt := by rw [s1.1.1, ← he.1.1]; exact q
    refine ⟨?_, ?_⟩
    · unfold RT
      rw [s2.1.1, (s1.2.1 q).1, (s2.2.1 q2).1]
      refine ⟨rfl, fun j hj => ?_⟩
      rw [show (0 : Int32).toInt = 0 from by decide] at hj
      omega
    · rcases (s1.2.1 q).2 with ⟨w, p, a, -, b1, b2⟩ | ⟨e, f, a, -, b1, b2⟩ <;> rcases (s2.2.1 q2).2 with ⟨w', p', a', -, c1, c2⟩ | ⟨e', f', a', -, c1, c2⟩
      · have y1 : SY h h1 := ⟨⟨b1.1, b2.1, s1.1.2.2.1, fun j _ => congrFun s1.1.2.2.2.1 j⟩, b1.2⟩
        have y2 : SY h1 h2 := ⟨⟨s2.1.2.2.1.1, s2.1.2.2.2.1, c2.1, fun j _ => congrFun c1 j⟩, s2.1.2.2.1.2⟩
        exact ⟨RY_s y2 (RY_s y1 he.2.1), RW_s hJ1.1 y2 (RW_s hJ.1 y1 he.2.2.1), RH_s hJ1.1 c2.2.1 c2.2.2 (RH_s hJ.1 b2.2 s1.1.2.2.2.2 he.2.2.2)⟩
      · rw [a] at a'; cases a'
      · rw [a] at a'; cases a'
      · rw [a] at a'
        cases a'
        have e32 : ∀ j, mI h2 32 j = mI h1 32 j := fun j => congrFun s2.1.2.2.2.1 j
        have r85 : (mI h2 45 85).toInt = (f 85).toInt := by rw [c1 85 (by decide)]
        have nb : ¬ mI h2 11 14 = 0 := fun z => absurd (c2.1.symm.trans z) (by decide)
        refine ⟨⟨by rw [s2.1.2.2.1.1, b1.1, c1 85 (by decide)], fun z => absurd z nb, fun i j hi hj hij => ?_⟩, ⟨⟨⟨fun z => ?_, fun z => absurd z nb⟩, by rw [s2.1.2.2.1.2.1, b1.2.1, c1 49 (by decide)]⟩, fun z => absurd z nb, fun _ => ?_⟩, RH_book he.2.2.2 (book_TZ a) b2.1.2.2 b2.1.1 b2.1.2.1 s2.1.2.2.2.2 c1 c2.1 c2.2.1 c2.2.2⟩
        rotate_left
        · rw [s2.1.2.2.1.2.1, b1.2.1] at z
          exact absurd z (rx_law _ _ _ _ _ a)
        · have r52 : R 0 8 (mI h2 45 52) := GI_rd hJ2.1 45 52 (by decide)
          rw [c1 52 (by decide)] at r52
          rw [c1 52 (by decide), c1 51 (by decide)]
          exact LF_cg (by have := r52.1; have := r52.2; omega) (fun i _ h2' => (c1 i (by omega)).symm) s2.1.2.2.1.2.2.1 s2.1.2.2.1.2.2.2 b1.2.2
        rw [r85] at hi hj
        rw [e32, b2.2 i j hi hj hij]
        have h18 : (f 85).toInt ≤ 18 := by
          rw [← r85]
          exact (GI_rd hJ2.1 45 85 (lo := 0) (hi := 18) (by decide)).2
        rw [dtk_cg (y := fun q => mI h2 45 (86 + q)) 4 (Nat.le_refl _) (fun q hq => ⟨?_, ?_⟩)]
        · show f (86 + (4 * i + q)) = mI h2 45 (86 + (4 * i + q))
          rw [c1 _ (by omega)]
        · show f (86 + (4 * j + q)) = mI h2 45 (86 + (4 * j + q))
          rw [c1 _ (by omega)]
  · obtain ⟨⟨b1, -, b4, b5⟩, b3⟩ := s1.2.2 q
    obtain ⟨⟨c1, -, c4, c5⟩, c3⟩ := s2.2.2 (by rw [s1.1.1, ← he.1.1]; exact q)
    have y1 : SY h h1 := ⟨⟨b4.1, b5.1, s1.1.2.2.1, fun j _ => congrFun s1.1.2.2.2.1 j⟩, b4.2⟩
    have y2 : SY h1 h2 := ⟨⟨s2.1.2.2.1.1, s2.1.2.2.2.1, c5.1, fun j _ => congrFun c4 j⟩, s2.1.2.2.1.2⟩
    refine ⟨?_, RY_s y2 (RY_s y1 he.2.1), RW_s hJ1.1 y2 (RW_s hJ.1 y1 he.2.2.1), RH_s hJ1.1 c5.2.1 c5.2.2 (RH_s hJ.1 b5.2 s1.1.2.2.2.2 he.2.2.2)⟩
    have t1 : ∀ j, mI h1 43 j = mI h 43 j := fun j => congrFun s1.1.2.1 j
    have t2 : ∀ j, mI h2 12 j = mI h1 12 j := fun j => congrFun s2.1.2.1 j
    have t3 : ∀ j, mI h1 12 j = mI h 12 j := fun j => congrFun b3 j
    have t4 : ∀ j, mI h2 43 j = mI h1 43 j := fun j => congrFun c3 j
    unfold RT
    rw [s2.1.1, b1, c1, s1.1.1]
    refine ⟨he.1.1, fun j hj => ?_⟩
    rw [t2, t3, t4, t1]
    exact he.1.2 j hj
/-! the acts -/
def PC (h : mh_T) : Prop := RI h ∧ TZ (tC h)
def PR (h : mh_T) : Prop := NB h ∧ TZ (h.1 45) ∧ (mI h 11 24).toInt + (mI h 11 25).toInt ≤ 20
theorem Rq_TZ {a b : Nat → Int32} (r : Rq a b) : TZ a := by
  obtain ⟨e, ⟨z0, z8, z⟩, hs⟩ := r
  have e0 : sn a = sn b := by unfold sn; rw [e]
  exact ⟨by rw [e]; exact z0, by rw [e]; exact z8, fun s h => TS_sE (hs s (by omega)) (z s (by omega))⟩
theorem RH_pc {h : mh_T} (r : RH h) : PC h := ⟨r.2.1, Rq_TZ r.1.1⟩
theorem PR_lr {h h1 : mh_T} (r : RH h) (l : LR h h1) : PR h1 := by
  have n := NB_lr l r.2.2.1.2
  obtain ⟨rc, ri, -, u, q, m, ⟨b1, b2⟩, c1, c2, -⟩ := r
  refine ⟨n, by rw [l.1]; exact rc.1.2.1, ?_⟩
  rw [l.2.2.2.2.2.2.2.2 24 (by decide) (by decide), l.2.2.2.2.2.2.2.2 25 (by decide) (by decide), c2.1, c2.2.1]
  omega
def AC (cond : Prop) (rel : (Nat → Int32) → (Nat → Int32) → (Nat → Int32) → (Nat → Int32) → Prop) (a : Nat → Int32) (h : mh_T) (r : Int32) (h' : mh_T) : Prop := S0 h h' ∧ LR h h' ∧ ((¬ cond ∧ r = 0 ∧ LC h h') ∨ (cond ∧ r = 1 ∧ Ok msK h h' ∧ rel (tC h) (h.1 27) (tC h') (h'.1 27) ∧ HC (mI h 10 0).toInt.toNat a h h'))
def AR (cond : Prop) (rel : (Nat → Int32) → (Nat → Int32) → (Nat → Int32) → (Nat → Int32) → Prop) (a : Nat → Int32) (h : mh_T) (r : Int32) (h' : mh_T) : Prop := S0 h h' ∧ LC h h' ∧ ((¬ cond ∧ r = 0 ∧ LR h h') ∨ (cond ∧ r = 1 ∧ Ok msR h h' ∧ rel (h.1 45) (h.1 47) (h'.1 45) (h'.1 47) ∧ HD (mI h 11 24).toInt.toNat a h h'))
theorem nn_10 {h : mh_T} (hG : GI h) (j : Nat) {hi : Int} (e : rgT 10 j = (0, hi)) : (mI h 10 j).toInt = ((mI h 10 j).toInt.toNat : Int) := by have := (GI_rd hG 10 j e).1; omega
theorem nn_11 {h : mh_T} (hG : GI h) (j : Nat) {hi : Int} (e : rgT 11 j = (0, hi)) : (mI h 11 j).toInt = ((mI h 11 j).toInt.toNat : Int) := by have := (GI_rd hG 11 j e).1; omega
theorem JK {ms : List Nat} {h h' : mh_T} (hJ : JJ h) (ok : Ok ms h h') (hm : 45 ∉ ms ∧ 48 ∉ ms ∧ 49 ∉ ms ∧ 50 ∉ ms ∧ 51 ∉ ms) : JJ h' := ⟨ok.1, TVs_ok hJ.2 ok hm⟩
theorem AC_0 {cond : Prop} {rel : (Nat → Int32) → (Nat → Int32) → (Nat → Int32) → (Nat → Int32) → Prop} {a : Nat → Int32} {h h' : mh_T} (c : ¬ cond) (ok : Ok [0] h h') : AC cond rel a h 0 h' := ⟨S0_ok ok (by decide), LR_ok ok (by decide), Or.inl ⟨c, rfl, LC_ok ok (by decide)⟩⟩
theorem AC_1 {cond : Prop} {rel : (Nat → Int32) → (Nat → Int32) → (Nat → Int32) → (Nat → Int32) → Prop} {a : Nat → Int32} {h h' : mh_T} (c : cond) (ok : Ok msK h h') (r : rel (tC h) (h.1 27) (tC h') (h'.1 27)) (hc : HC (mI h 10 0).toInt.toNat a h h') : AC cond rel a h 1 h' := ⟨S0_ok ok (by decide), LR_ok ok (by decide), Or.inr ⟨c, rfl, ok, r, hc⟩⟩
theorem AR_0 {cond : Prop} {rel : (Nat → Int32) → (Nat → Int32) → (Nat → Int32) → (Nat → Int32) → Prop} {a : Nat → Int32} {h h' : mh_T} (c : ¬ cond) (ok : Ok [300, 11] h h') : AR cond rel a h 0 h' := ⟨S0_ok ok (by decide), LC_ok ok (by decide), Or.inl ⟨c, rfl, LR_ok ok (by decide)⟩⟩
theorem AR_1 {cond : Prop} {rel : (Nat → Int32) → (Nat → Int32) → (Nat → Int32) → (Nat → Int32) → Prop} {a : Nat → Int32} {h h' : mh_T} (c : cond) (ok : Ok msR h h') (r : rel (h.1 45) (h.1 47) (h'.1 45) (h'.1 47)) (hc : HD (mI h 11 24).toInt.toNat a h h') : AR cond rel a h 1 h' := ⟨S0_ok ok (by decide), LC_ok ok (by decide), Or.inr ⟨c, rfl, ok, r, hc⟩⟩
theorem acts_RH {cC cR : Prop} {rC rR : (Nat → Int32) → (Nat → Int32) → (Nat → Int32) → (Nat → Int32) → Prop} {a : Nat → Int32} {h h1 h2 : mh_T} {r1 r2 : Int32} (hJ : JJ h) (hJ1 : JJ h1) (he : RH h) (s1 : AC cC rC a h r1 h1) (s2 : AR cR rR a h1 r2 h2) (iff : cC ↔ cR) (hB : cC → ¬ mI h 11 14 = 0) (cg : cC → rC (tC h) (h.1 27) (tC h1) (h1.1 27) → rR (h.1 45) (h.1 47) (h2.1 45) (h2.1 47) → Rc (tC h1) (h1.1 27) (h2.1 45) (h2.1 47)) : RH h2 := by
  rcases s1.2.2 with ⟨c, e, l1⟩ | ⟨c, e, k1, q1, hc⟩ <;> rcases s2.2.2 with ⟨d, f, l2⟩ | ⟨d, f, k2, q2, hd⟩
  · exact RH_s hJ1.1 s2.2.1 l2 (RH_s hJ.1 l1 s1.2.1 he)
  · exact absurd (iff.mpr d) c
  · exact absurd (iff.mp c) d
  · have lr := s1.2.1
    rw [lr.1, lr.2.1] at q2
    have eu := nn_10 hJ.1 0 (hi := 20) rfl
    have e24 : (mI h1 11 24).toInt.toNat = (mI h 10 0).toInt.toNat := by
      rw [lr.2.2.2.2.2.2.2.2 24 (by decide) (by decide)]
      obtain ⟨-, -, -, u, q, m, -, c1, c2, -⟩ := he
      rw [c1.1, c2.1]
    rw [e24] at hd
    exact RH_act he eu (hB c) k1 hc k2 hd (cg c q1 q2)
-- flip
theorem k_X10_flip {g : gT} {h : mh_T} {P : Int32 → mh_T → Prop} (a1 : Int32) (hJ : JJ h) (pc : PC h) (hp : ∀ (r : Int32) (h' : mh_T), JJ h' → AC (LKc h a1) (flp a1) (ac5 0 a1 (-2) (-2) (-2)) h r h' → P r h') : MCi g yX10_flip uX10_flip [.ref 0, .int a1] h P :=
  v_X10_flip a1 (mI h 10 0).toInt.toNat (nn_10 hJ.1 0 (hi := 20) rfl) hJ.1 pc.1 pc.2 (fun c h' ok => hp 0 h' (JK hJ ok (by decide)) (AC_0 c ok)) (fun c h' ok r hc => hp 1 h' (JK hJ ok (by decide)) (AC_1 c ok r hc))
theorem k_X11_flip {g : gT} {h : mh_T} {P : Int32 → mh_T → Prop} (a1 : Int32) (hJ : JJ h) (pr : PR h) (hp : ∀ (r : Int32) (h' : mh_T), JJ h' → AR (LKb h a1) (flp a1) (ac5 0 a1 (-2) (-2) (-2)) h r h' → P r h') : MCi g yX11_flip uX11_flip [.ref 11, .int a1] h P :=
  v_X11_flip a1 (mI h 11 24).toInt.toNat (nn_11 hJ.1 24 (hi := 20) rfl) hJ.1 hJ.2 pr.1 pr.2.1 (fun c h' ok => hp 0 h' (JK hJ ok (by decide)) (AR_0 c ok)) (fun c h' ok t r hc => hp 1 h' ⟨ok.1, t⟩ (AR_1 c ok r hc))
theorem lk_iff {h h1 : mh_T} {a : Int32} (he : RH h) (l : LR h h1) : LKc h a ↔ LKb h1 a := by
  unfold LKc LKb
  rw [he.2.2.1.1, show mI h1 45 50 = mI h 45 50 from congrFun l.1 50]
theorem lk_B {h : mh_T} {a : Int32} (he : RH h) (c : LKc h a) : ¬ mI h 11 14 = 0 := fun z => by
  have := (he.2.2.1.2 z).1
  unfold LKc at c
  rw [he.2.2.1.1, this, i_0] at c
  omega
theorem flip_RR {h h1 h2 : mh_T} {r1 r2 a1 : Int32} (hJ : JJ h) (hJ1 : JJ h1) (he : RR h) (s1 : AC (LKc h a1) (flp a1) (ac5 0 a1 (-2) (-2) (-2)) h r1 h1) (s2 : AR (LKb h1 a1) (flp a1) (ac5 0 a1 (-2) (-2) (-2)) h1 r2 h2) : RR h2 := RR_2 hJ hJ1 he s1.1 s2.1 (acts_RH hJ hJ1 he.2.2.2 s1 s2 (lk_iff he.2.2.2 s1.2.1) (lk_B he.2.2.2) (fun _ x y => Rc_flp he.2.2.2.1 x y))
-- drop
theorem k_X10_drop {g : gT} {h : mh_T} {P : Int32 → mh_T → Prop} (a1 : Int32) (hJ : JJ h) (pc : PC h) (hp : ∀ (r : Int32) (h' : mh_T), JJ h' → AC (SEb (tC h) a1) (drp a1.toInt.toNat) (ac5 1 a1 (-2) (-2) (-2)) h r h' → P r h') : MCi g yX10_drop uX10_drop [.ref 0, .int a1] h P :=
  v_X10_drop a1 (mI h 10 0).toInt.toNat (nn_10 hJ.1 0 (hi := 20) rfl) hJ.1 pc.1 (fun c h' ok => hp 0 h' (JK hJ ok (by decide)) (AC_0 c ok)) (fun c h' ok r hc => hp 1 h' (JK hJ ok (by decide)) (AC_1 c ok r hc))
theorem k_X11_drop {g : gT} {h : mh_T} {P : Int32 → mh_T → Prop} (a1 : Int32) (hJ : JJ h) (pr : PR h) (hp : ∀ (r : Int32) (h' : mh_T), JJ h' → AR (SEb (h.1 45) a1) (drp a1.toInt.toNat) (ac5 1 a1 (-2) (-2) (-2)) h r h' → P r h') : MCi g yX11_drop uX11_drop [.ref 11, .int a1] h P :=
  v_X11_drop a1 (mI h 11 24).toInt.toNat (nn_11 hJ.1 24 (hi := 20) rfl) hJ.1 hJ.2 pr.1 (fun c h' ok => hp 0 h' (JK hJ ok (by decide)) (AR_0 c ok)) (fun c h' ok t r hc => hp 1 h' ⟨ok.1, t⟩ (AR_1 c ok r hc))
theorem se_iff {h h1 : mh_T} {a : Int32} (he : RH h) (l : LR h h1) : SEb (tC h) a ↔ SEb (h1.1 45) a := by
  unfold SEb
  rw [he.1.1.1, l.1]
theorem se_B {h : mh_T} {a : Int32} (he : RH h) (c : SEb (tC h) a) : ¬ mI h 11 14 = 0 := fun z => by
  have z0 : h.1 45 0 = 0 := (he.2.2.1.2 z).2.1
  unfold SEb at c
  rw [he.1.1.1, z0, i_0] at c
  omega
theorem drop_RR {h h1 h2 : mh_T} {r1 r2 a1 : Int32} (hJ : JJ h) (hJ1 : JJ h1) (he : RR h) (s1 : AC (SEb (tC h) a1) (drp a1.toInt.toNat) (ac5 1 a1 (-2) (-2) (-2)) h r1 h1) (s2 : AR (SEb (h1.1 45) a1) (drp a1.toInt.toNat) (ac5 1 a1 (-2) (-2) (-2)) h1 r2 h2) : RR h2 := RR_2 hJ hJ1 he s1.1 s2.1 (acts_RH hJ hJ1 he.2.2.2 s1 s2 (se_iff he.2.2.2 s1.2.1) (se_B he.2.2.2) (fun c x y => Rc_drp he.2.2.2.1 (by
    have c' := c
    unfold SEb at c'
    rw [he.2.2.2.1.1.1] at c'
    unfold sn
    omega) x y))
-- forget
theorem k_X10_forget {g : gT} {h : mh_T} {P : Int32 → mh_T → Prop} (a1 : Int32) (hJ : JJ h) (pc : PC h) (hp : ∀ (r : Int32) (h' : mh_T), JJ h' → AC (LKc h a1 ∧ LA (tC h) a1) (fgt a1 (sn (tC h))) (ac5 2 a1 (-2) (-2) (-2)) h r h' → P r h') : MCi g yX10_forget uX10_forget [.ref 0, .int a1] h P :=
  v_X10_forget a1 (mI h 10 0).toInt.toNat (nn_10 hJ.1 0 (hi := 20) rfl) hJ.1 pc.1 pc.2 (fun c h' ok => hp 0 h' (JK hJ ok (by decide)) (AC_0 c ok)) (fun c c2 h' ok r hc => hp 1 h' (JK hJ ok (by decide)) (AC_1 ⟨c, c2⟩ ok r hc))
theorem k_X11_forget {g : gT} {h : mh_T} {P : Int32 → mh_T → Prop} (a1 : Int32) (hJ : JJ h) (pr : PR h) (hp : ∀ (r : Int32) (h' : mh_T), JJ h' → AR (LKb h a1 ∧ LA (h.1 45) a1) (fgt a1 (sn (h.1 45))) (ac5 2 a1 (-2) (-2) (-2)) h r h' → P r h') : MCi g yX11_forget uX11_forget [.ref 11, .int a1] h P :=
  v_X11_forget a1 (mI h 11 24).toInt.toNat (nn_11 hJ.1 24 (hi := 20) rfl) hJ.1 hJ.2 pr.1 pr.2.1 (fun c h' ok => hp 0 h' (JK hJ ok (by decide)) (AR_0 c ok)) (fun c c2 h' ok t r hc => hp 1 h' ⟨ok.1, t⟩ (AR_1 ⟨c, c2⟩ ok r hc))
theorem sn_eq {a b : Nat → Int32} (r : Rq a b) : sn a = sn b := by unfold sn; rw [r.1]
theorem la_iff {a b : Nat → Int32} {l : Int32} (r : Rq a b) : LA a l ↔ LA b l := by
  have e := sn_eq r
  constructor
  · rintro ⟨s, hs, q⟩
    have x := r.2.2 s (by omega)
    rw [x.1, x.2.1] at q
    exact ⟨s, by omega, q⟩
  · rintro ⟨s, hs, q⟩
    have x := r.2.2 s hs
    rw [← x.1, ← x.2.1] at q
    exact ⟨s, by omega, q⟩
theorem fo_iff {h h1 : mh_T} {a : Int32} (he : RH h) (l : LR h h1) : (LKc h a ∧ LA (tC h) a) ↔ (LKb h1 a ∧ LA (h1.1 45) a) := by
  have e := lk_iff (a := a) he l
  have f := la_iff (l := a) he.1.1
  rw [l.1]
  exact ⟨fun q => ⟨e.mp q.1, f.mp q.2⟩, fun q => ⟨e.mpr q.1, f.mpr q.2⟩⟩
theorem forget_RR {h h1 h2 : mh_T} {r1 r2 a1 : Int32} (hJ : JJ h) (hJ1 : JJ h1) (he : RR h) (s1 : AC (LKc h a1 ∧ LA (tC h) a1) (fgt a1 (sn (tC h))) (ac5 2 a1 (-2) (-2) (-2)) h r1 h1) (s2 : AR (LKb h1 a1 ∧ LA (h1.1 45) a1) (fgt a1 (sn (h1.1 45))) (ac5 2 a1 (-2) (-2) (-2)) h1 r2 h2) : RR h2 := RR_2 hJ hJ1 he s1.1 s2.1 (acts_RH hJ hJ1 he.2.2.2 s1 s2 (fo_iff he.2.2.2 s1.2.1) (fun c => lk_B he.2.2.2 c.1) (fun c x y => by
    have e := sn_eq he.2.2.2.1.1
    rw [s1.2.1.1] at y
    rw [e] at x
    exact Rc_fg _ he.2.2.2.1 (Nat.le_refl _) x y))
-- shift
theorem k_X10_shift {g : gT} {h : mh_T} {P : Int32 → mh_T → Prop} (a1 a2 a3 a4 : Int32) (hJ : JJ h) (pc : PC h) (hp : ∀ (r : Int32) (h' : mh_T), JJ h' → AC (SHc (tC h) a1 a2 a3 a4) (shf a1.toInt.toNat a2.toInt.toNat a3.toInt.toNat a4) (ac5 3 a1 a2 a3 a4) h r h' → P r h') : MCi g yX10_shift uX10_shift [.ref 0, .int a1, .int a2, .int a3, .int a4] h P :=
  v_X10_shift a1 a2 a3 a4 (mI h 10 0).toInt.toNat (nn_10 hJ.1 0 (hi := 20) rfl) hJ.1 pc.1 pc.2 (fun c h' ok => hp 0 h' (JK hJ ok (by decide)) (AC_0 c ok)) (fun c h' ok r hc => hp 1 h' (JK hJ ok (by decide)) (AC_1 c ok r hc))
theorem k_X11_shift {g : gT} {h : mh_T} {P : Int32 → mh_T → Prop} (a1 a2 a3 a4 : Int32) (hJ : JJ h) (pr : PR h) (hp : ∀ (r : Int32) (h' : mh_T), JJ h' → AR (SHc (h.1 45) a1 a2 a3 a4) (shf a1.toInt.toNat a2.toInt.toNat a3.toInt.toNat a4) (ac5 3 a1 a2 a3 a4) h r h' → P r h') : MCi g yX11_shift uX11_shift [.ref 11, .int a1, .int a2, .int a3, .int a4] h P :=
  v_X11_shift a1 a2 a3 a4 (mI h 11 24).toInt.toNat (nn_11 hJ.1 24 (hi := 20) rfl) hJ.1 hJ.2 pr.1 pr.2.1 (fun c h' ok => hp 0 h' (JK hJ ok (by decide)) (AR_0 c ok)) (fun c h' ok t r hc => hp 1 h' ⟨ok.1, t⟩ (AR_1 c ok r hc))
theorem oc_iff {a b : Nat → Int32} {l o : Int32} (r : Rq a b) : OCb a l o ↔ OCb b l o := by
  have e : SEb a l ↔ SEb b l := by unfold SEb; rw [r.1]
  have f : SEb b l → ocs a l.toInt.toNat = ocs b l.toInt.toNat := fun q => by
    have q1 := q.1
    have q2 := q.2
    unfold ocs
    rw [(r.2.2 l.toInt.toNat (by unfold sn; omega)).2.1]
  unfold OCb
  constructor
  · rintro ⟨q, x⟩
    have q' := e.mp q
    exact ⟨q', by rw [← f q']; exact x⟩
  · rintro ⟨q, x⟩
    exact ⟨e.mpr q, by rw [f q]; exact x⟩
theorem oc_B {h : mh_T} {a b : Int32} (he : RH h) (c : OCb (tC h) a b) : ¬ mI h 11 14 = 0 := se_B he c.1
theorem sh_iff {a b : Nat → Int32} {l1 l2 l3 l4 : Int32} (r : Rq a b) : SHc a l1 l2 l3 l4 ↔ SHc b l1 l2 l3 l4 := by
  have e2 := oc_iff (l := l1) (o := l2) r
  have e3 := oc_iff (l := l1) (o := l3) r
  have h8 := r.2.1.2.1
  have f : OCb b l1 l2 → a (17 + 4 * l1.toInt.toNat + l2.toInt.toNat) = b (17 + 4 * l1.toInt.toNat + l2.toInt.toNat) := fun q => by
    obtain ⟨-, s8, -, o4, sl⟩ := OC_n q h8
    exact (r.2.2 _ sl).2.2 _ o4
  unfold SHc
  constructor
  · rintro ⟨q1, q2, q3, q4, q5, q6⟩
    have w := e2.mp q1
    exact ⟨w, e3.mp q2, q3, q4, q5, by rw [← f w]; exact q6⟩
  · rintro ⟨q1, q2, q3, q4, q5, q6⟩
    exact ⟨e2.mpr q1, e3.mpr q2, q3, q4, q5, by rw [f q1]; exact q6⟩
theorem shift_RR {h h1 h2 : mh_T} {r1 r2 a1 a2 a3 a4 : Int32} (hJ : JJ h) (hJ1 : JJ h1) (he : RR h) (s1 : AC (SHc (tC h) a1 a2 a3 a4) (shf a1.toInt.toNat a2.toInt.toNat a3.toInt.toNat a4) (ac5 3 a1 a2 a3 a4) h r1 h1) (s2 : AR (SHc (h1.1 45) a1 a2 a3 a4) (shf a1.toInt.toNat a2.toInt.toNat a3.toInt.toNat a4) (ac5 3 a1 a2 a3 a4) h1 r2 h2) : RR h2 := RR_2 hJ hJ1 he s1.1 s2.1 (acts_RH hJ hJ1 he.2.2.2 s1 s2 (by rw [s1.2.1.1]; exact sh_iff he.2.2.2.1.1) (fun c => oc_B he.2.2.2 c.1) (fun c x y => by
    have c' := (sh_iff he.2.2.2.1.1).mp c
    have oc : ∀ o : Int32, OCb (h.1 45) a1 o → o.toInt.toNat < (if (h.1 45 (9 + a1.toInt.toNat)).toInt < 0 then 2 else 4) := fun o q => by
      obtain ⟨⟨q1, q2⟩, q3, q4⟩ := q
      have ts := (he.2.2.2.1.1.2.1.2.2 a1.toInt.toNat (by unfold sn; omega)).1
      unfold ocs at q4
      by_cases w : h.1 45 (9 + a1.toInt.toNat) = -2
      · rw [if_pos w] at q4
        rw [if_pos (by rw [w]; decide)]
        omega
      · rw [if_neg w] at q4
        rcases ts with z | z
        · exact absurd z.1 w
        · rw [if_neg (by omega)]
          omega
    refine Rc_sh he.2.2.2.1 (oc a2 c'.1) (oc a3 c'.2.1) (fun z => c'.2.2.1 (Int32.toInt_inj.mp ?_)) ⟨by have := c'.2.2.2.1; omega, c'.2.2.2.2.2⟩ x y
    have p1 := c'.1.2.1
    have p2 := c'.2.1.2.1
    omega))
-- stake
def KC (cond : Prop) (a1 a2 a3 : Int32) (h : mh_T) (r : Int32) (h' : mh_T) : Prop := S0 h h' ∧ LR h h' ∧ ((¬ cond ∧ r = 0 ∧ LC h h') ∨ (cond ∧ r = 1 ∧ Ok [0, 27] h h' ∧ ∀ j, h'.1 27 j = if j = 4 * a1.toInt.toNat + a2.toInt.toNat then a3 else h.1 27 j))
def KR (cond : Prop) (a1 a2 a3 : Int32) (h : mh_T) (r : Int32) (h' : mh_T) : Prop := S0 h h' ∧ LC h h' ∧ ((¬ cond ∧ r = 0 ∧ LR h h') ∨ (cond ∧ r = 1 ∧ Ok [300, 11, 47] h h' ∧ ∀ j, h'.1 47 j = if j = 4 * a1.toInt.toNat + a2.toInt.toNat then a3 else h.1 47 j))
theorem k_X10_stake {g : gT} {h : mh_T} {P : Int32 → mh_T → Prop} (a1 a2 a3 : Int32) (hJ : JJ h) (pc : PC h) (hp : ∀ (r : Int32) (h' : mh_T), JJ h' → KC (SKc (tC h) a1 a2 a3) a1 a2 a3 h r h' → P r h') : MCi g yX10_stake uX10_stake [.ref 0, .int a1, .int a2, .int a3] h P :=
  v_X10_stake a1 a2 a3 hJ.1 pc.2 (fun c h' ok => hp 0 h' (JK hJ ok (by decide)) ⟨S0_ok ok (by decide), LR_ok ok (by decide), Or.inl ⟨c, rfl, LC_ok ok (by decide)⟩⟩) (fun c h' ok r => hp 1 h' (JK hJ ok (by decide)) ⟨S0_ok ok (by decide), LR_ok ok (by decide), Or.inr ⟨c, rfl, ok, r⟩⟩)
theorem k_X11_stake {g : gT} {h : mh_T} {P : Int32 → mh_T → Prop} (a1 a2 a3 : Int32) (hJ : JJ h) (pr : PR h) (hp : ∀ (r : Int32) (h' : mh_T), JJ h' → KR (SKc (h.1 45) a1 a2 a3) a1 a2 a3 h r h' → P r h') : MCi g yX11_stake uX11_stake [.ref 11, .int a1, .int a2, .int a3] h P :=
  v_X11_stake a1 a2 a3 hJ.1 pr.1 pr.2.1.2.1 (fun c h' ok => hp 0 h' (JK hJ ok (by decide)) ⟨S0_ok ok (by decide), LC_ok ok (by decide), Or.inl ⟨c, rfl, LR_ok ok (by decide)⟩⟩) (fun c h' ok r => hp 1 h' (JK hJ ok (by decide)) ⟨S0_ok ok (by decide), LC_ok ok (by decide), Or.inr ⟨c, rfl, ok, r⟩⟩)
theorem sk_iff {h h1 : mh_T} {a1 a2 a3 : Int32} (he : RH h) (l : LR h h1) : SKc (tC h) a1 a2 a3 ↔ SKc (h1.1 45) a1 a2 a3 := by
  rw [l.1]
  unfold SKc
  rw [oc_iff he.1.1]
theorem stake_RR {h h1 h2 : mh_T} {r1 r2 a1 a2 a3 : Int32} (hJ : JJ h) (hJ1 : JJ h1) (he : RR h) (s1 : KC (SKc (tC h) a1 a2 a3) a1 a2 a3 h r1 h1) (s2 : KR (SKc (h1.1 45) a1 a2 a3) a1 a2 a3 h1 r2 h2) : RR h2 := by
  have iff := sk_iff (a1 := a1) (a2 := a2) (a3 := a3) he.2.2.2 s1.2.1
  refine RR_2 hJ hJ1 he s1.1 s2.1 ?_
  rcases s1.2.2 with ⟨c, e, l1⟩ | ⟨c, e, k1, q1⟩ <;> rcases s2.2.2 with ⟨d, f, l2⟩ | ⟨d, f, k2, q2⟩
  · exact RH_s hJ1.1 s2.2.1 l2 (RH_s hJ.1 l1 s1.2.1 he.2.2.2)
  · exact absurd (iff.mpr d) c
  · exact absurd (iff.mp c) d
  · exact RH_stake hJ.1 he.2.2.2 k1 q1 k2 q2
-- undo
abbrev u10 (h : mh_T) : Nat := (mI h 10 0).toInt.toNat
abbrev n10 (h : mh_T) : Nat := (mI h 10 1).toInt.toNat
abbrev m10 (h : mh_T) : Nat := (mI h 10 2).toInt.toNat
abbrev u11 (h : mh_T) : Nat := (mI h 11 24).toInt.toNat
abbrev r11 (h : mh_T) : Nat := (mI h 11 25).toInt.toNat
abbrev m11 (h : mh_T) : Nat := (mI h 11 26).toInt.toNat
theorem un_eq {h h1 : mh_T} (he : RH h) (l : LR h h1) : u11 h1 = u10 h ∧ r11 h1 = r11 h ∧ m11 h1 = m10 h ∧ n10 h = u10 h + r11 h ∧ u10 h + r11 h ≤ 20 ∧ m10 h ≤ 4 := by
  unfold u11 r11 m11 u10 n10 m10
  rw [l.2.2.2.2.2.2.2.2 24 (by decide) (by decide), l.2.2.2.2.2.2.2.2 25 (by decide) (by decide), l.2.2.2.2.2.2.2.2 26 (by decide) (by decide)]
  obtain ⟨-, -, -, u, q, m, b, c1, c2, -⟩ := he
  rw [c1.1, c1.2.1, c1.2.2, c2.1, c2.2.1, c2.2.2]
  omega
def UC (h : mh_T) (r : Int32) (h' : mh_T) : Prop := S0 h h' ∧ LR h h' ∧ ((u10 h = 0 ∧ r = 0 ∧ LC h h') ∨ (¬ u10 h = 0 ∧ r = 1 ∧ Ok msK h h' ∧ TBk (u10 h) h h'))
def UM (h : mh_T) (r : Int32) (h' : mh_T) : Prop := S0 h h' ∧ LC h h' ∧ ((u11 h = 0 ∧ r = 0 ∧ LR h h') ∨ (¬ u11 h = 0 ∧ r = 1 ∧ Ok msU h h' ∧ UD (u11 h) (r11 h) h h'))
theorem k_X10_undo {g : gT} {h : mh_T} {P : Int32 → mh_T → Prop} (hJ : JJ h) (pc : PC h) (hp : ∀ (r : Int32) (h' : mh_T), JJ h' → UC h r h' → P r h') : MCi g yX10_undo uX10_undo [.ref 0] h P :=
  v_X10_undo (u10 h) (nn_10 hJ.1 0 (hi := 20) rfl) hJ.1 pc.1 (fun c h' ok => hp 0 h' (JK hJ ok (by decide)) ⟨S0_ok ok (by decide), LR_ok ok (by decide), Or.inl ⟨c, rfl, LC_ok ok (by decide)⟩⟩) (fun c h' ok r => hp 1 h' (JK hJ ok (by decide)) ⟨S0_ok ok (by decide), LR_ok ok (by decide), Or.inr ⟨c, rfl, ok, r⟩⟩)
theorem pr_ur {h : mh_T} (hJ : JJ h) (pr : PR h) : u11 h + r11 h ≤ 20 := by
  have a := nn_11 hJ.1 24 (hi := 20) rfl
  have b := nn_11 hJ.1 25 (hi := 20) rfl
  have c := pr.2.2
  unfold u11 r11
  omega
theorem k_X11_undo {g : gT} {h : mh_T} {P : Int32 → mh_T → Prop} (hJ : JJ h) (pr : PR h) (hp : ∀ (r : Int32) (h' : mh_T), JJ h' → UM h r h' → P r h') : MCi g yX11_undo uX11_undo [.ref 11] h P :=
  v_X11_undo (u11 h) (r11 h) (nn_11 hJ.1 24 (hi := 20) rfl) (nn_11 hJ.1 25 (hi := 20) rfl) (pr_ur hJ pr) hJ.1 hJ.2 (fun c h' ok => hp 0 h' (JK hJ ok (by decide)) ⟨S0_ok ok (by decide), LC_ok ok (by decide), Or.inl ⟨c, rfl, LR_ok ok (by decide)⟩⟩) (fun c h' ok t r => hp 1 h' ⟨ok.1, t⟩ ⟨S0_ok ok (by decide), LC_ok ok (by decide), Or.inr ⟨c, rfl, ok, r⟩⟩)
theorem undo_RR {h h1 h2 : mh_T} {r1 r2 : Int32} (hJ : JJ h) (hJ1 : JJ h1) (he : RR h) (s1 : UC h r1 h1) (s2 : UM h1 r2 h2) : RR h2 := by
  obtain ⟨e1, e2, -⟩ := un_eq he.2.2.2 s1.2.1
  refine RR_2 hJ hJ1 he s1.1 s2.1 ?_
  rcases s1.2.2 with ⟨c, e, l1⟩ | ⟨c, e, k1, q1⟩ <;> rcases s2.2.2 with ⟨d, f, l2⟩ | ⟨d, f, k2, q2⟩
  · exact RH_s hJ1.1 s2.2.1 l2 (RH_s hJ.1 l1 s1.2.1 he.2.2.2)
  · exact absurd (e1.trans c) d
  · exact absurd (e1.symm.trans d) c
  · rw [e1, e2] at q2
    exact RH_undo he.2.2.2 (nn_10 hJ.1 0 (hi := 20) rfl) (nn_11 hJ.1 25 (hi := 20) rfl) c k1 q1 k2 q2
-- redo
def VC (h : mh_T) (r : Int32) (h' : mh_T) : Prop := S0 h h' ∧ LR h h' ∧ ((¬ u10 h < n10 h ∧ r = 0 ∧ LC h h') ∨ (u10 h < n10 h ∧ r = 1 ∧ Ok msK h h' ∧ (mI h' 10 0).toInt = (u10 h : Int) + 1 ∧ mI h' 10 1 = mI h 10 1 ∧ RD (hrw h (u10 h + 1)) h h'))
def VM (h : mh_T) (r : Int32) (h' : mh_T) : Prop := S0 h h' ∧ LC h h' ∧ ((r11 h = 0 ∧ r = 0 ∧ LR h h') ∨ (¬ r11 h = 0 ∧ r = 1 ∧ Ok msU h h' ∧ UR (u11 h) (r11 h) h h'))
theorem k_X10_redo {g : gT} {h : mh_T} {P : Int32 → mh_T → Prop} (hJ : JJ h) (pc : PC h) (hp : ∀ (r : Int32) (h' : mh_T), JJ h' → VC h r h' → P r h') : MCi g yX10_redo uX10_redo [.ref 0] h P :=
  v_X10_redo (u10 h) (n10 h) (nn_10 hJ.1 0 (hi := 20) rfl) (nn_10 hJ.1 1 (hi := 20) rfl) hJ.1 pc.1 (fun c h' ok => hp 0 h' (JK hJ ok (by decide)) ⟨S0_ok ok (by decide), LR_ok ok (by decide), Or.inl ⟨c, rfl, LC_ok ok (by decide)⟩⟩) (fun c h' ok r1 r2 r3 => hp 1 h' (JK hJ ok (by decide)) ⟨S0_ok ok (by decide), LR_ok ok (by decide), Or.inr ⟨c, rfl, ok, r1, r2, r3⟩⟩)
theorem k_X11_redo {g : gT} {h : mh_T} {P : Int32 → mh_T → Prop} (hJ : JJ h) (pr : PR h) (hp : ∀ (r : Int32) (h' : mh_T), JJ h' → VM h r h' → P r h') : MCi g yX11_redo uX11_redo [.ref 11] h P :=
  v_X11_redo (u11 h) (r11 h) (nn_11 hJ.1 24 (hi := 20) rfl) (nn_11 hJ.1 25 (hi := 20) rfl) (pr_ur hJ pr) hJ.1 hJ.2 (fun c h' ok => hp 0 h' (JK hJ ok (by decide)) ⟨S0_ok ok (by decide), LC_ok ok (by decide), Or.inl ⟨c, rfl, LR_ok ok (by decide)⟩⟩) (fun c h' ok t r => hp 1 h' ⟨ok.1, t⟩ ⟨S0_ok ok (by decide), LC_ok ok (by decide), Or.inr ⟨c, rfl, ok, r⟩⟩)
theorem redo_RR {h h1 h2 : mh_T} {r1 r2 : Int32} (hJ : JJ h) (hJ1 : JJ h1) (he : RR h) (s1 : VC h r1 h1) (s2 : VM h1 r2 h2) : RR h2 := by
  obtain ⟨e1, e2, e3, e4, -⟩ := un_eq he.2.2.2 s1.2.1
  refine RR_2 hJ hJ1 he s1.1 s2.1 ?_
  rcases s1.2.2 with ⟨c, e, l1⟩ | ⟨c, e, k1, q1, q2, q3⟩ <;> rcases s2.2.2 with ⟨d, f, l2⟩ | ⟨d, f, k2, p2⟩
  · exact RH_s hJ1.1 s2.2.1 l2 (RH_s hJ.1 l1 s1.2.1 he.2.2.2)
  · exact absurd (show u10 h < n10 h by omega) c
  · exact absurd d (by omega)
  · rw [e1, e2] at p2
    exact RH_redo hJ.1 he.2.2.2 (nn_10 hJ.1 0 (hi := 20) rfl) (nn_11 hJ.1 25 (hi := 20) rfl) (show ¬ r11 h = 0 by omega) k1 q1 q2 q3 k2 p2
-- mark
def WC (h : mh_T) (r : Int32) (h' : mh_T) : Prop := S0 h h' ∧ LR h h' ∧ (((mI h 3 0 = 0 ∨ m10 h = 4) ∧ r = -1 ∧ LC h h') ∨ (¬ (mI h 3 0 = 0 ∨ m10 h = 4) ∧ r.toInt = (m10 h : Int) ∧ Ok [0, 10, 302] h h' ∧ MK (m10 h) h h'))
def WM (h : mh_T) (r : Int32) (h' : mh_T) : Prop := S0 h h' ∧ LC h h' ∧ (((mI h 11 14 = 0 ∨ m11 h = 4) ∧ r = -1 ∧ LR h h') ∨ (¬ (mI h 11 14 = 0 ∨ m11 h = 4) ∧ r.toInt = (m11 h : Int) ∧ Ok [301, 300, 11, 51] h h' ∧ MD (m11 h) h h'))
theorem k_X10_mark {g : gT} {h : mh_T} {P : Int32 → mh_T → Prop} (hJ : JJ h) (pc : PC h) (hp : ∀ (r : Int32) (h' : mh_T), JJ h' → WC h r h' → P r h') : MCi g yX10_mark uX10_mark [.ref 0] h P :=
  v_X10_mark (m10 h) (nn_10 hJ.1 2 (hi := 4) rfl) hJ.1 (fun c h' ok => hp (-1) h' (JK hJ ok (by decide)) ⟨S0_ok ok (by decide), LR_ok ok (by decide), Or.inl ⟨c, rfl, LC_ok ok (by decide)⟩⟩) (fun c1 c2 v h' ev ok r => hp v h' (JK hJ ok (by decide)) ⟨S0_ok ok (by decide), LR_ok ok (by decide), Or.inr ⟨fun z => z.elim c1 c2, ev, ok, r⟩⟩)
theorem k_X11_mark {g : gT} {h : mh_T} {P : Int32 → mh_T → Prop} (hJ : JJ h) (pr : PR h) (hp : ∀ (r : Int32) (h' : mh_T), JJ h' → WM h r h' → P r h') : MCi g yX11_mark uX11_mark [.ref 11] h P :=
  v_X11_mark (m11 h) (nn_11 hJ.1 26 (hi := 4) rfl) (by have := (GI_rd hJ.1 11 26 (lo := 0) (hi := 4) rfl).2; unfold m11; omega) hJ.1 hJ.2 (fun c h' ok => hp (-1) h' (JK hJ ok (by decide)) ⟨S0_ok ok (by decide), LC_ok ok (by decide), Or.inl ⟨c, rfl, LR_ok ok (by decide)⟩⟩) (fun c1 c2 v h' ev ok t r => hp v h' ⟨ok.1, t⟩ ⟨S0_ok ok (by decide), LC_ok ok (by decide), Or.inr ⟨fun z => z.elim c1 c2, ev, ok, r⟩⟩)
theorem mk_iff {h h1 : mh_T} (he : RR h) (l : LR h h1) : (mI h 3 0 = 0 ∨ m10 h = 4) ↔ (mI h1 11 14 = 0 ∨ m11 h1 = 4) := by
  obtain ⟨-, -, e3, -⟩ := un_eq he.2.2.2 l
  rw [e3, l.2.2.2.2.2.2.2.1, he.2.2.1.1.1]
theorem mark_RR {h h1 h2 : mh_T} {r1 r2 : Int32} (hJ : JJ h) (hJ1 : JJ h1) (he : RR h) (s1 : WC h r1 h1) (s2 : WM h1 r2 h2) : RR h2 := by
  have iff := mk_iff he s1.2.1
  obtain ⟨-, -, e3, -⟩ := un_eq he.2.2.2 s1.2.1
  refine RR_2 hJ hJ1 he s1.1 s2.1 ?_
  rcases s1.2.2 with ⟨c, e, l1⟩ | ⟨c, e, k1, q1⟩ <;> rcases s2.2.2 with ⟨d, f, l2⟩ | ⟨d, f, k2, q2⟩
  · exact RH_s hJ1.1 s2.2.1 l2 (RH_s hJ.1 l1 s1.2.1 he.2.2.2)
  · exact absurd (iff.mp c) d
  · exact absurd (iff.mpr d) c
  · rw [e3] at q2
    exact RH_mark hJ.1 he.2.2.2 (nn_10 hJ.1 2 (hi := 4) rfl) (fun z => c (Or.inl (he.2.2.1.1.1.mpr z))) (fun z => c (Or.inr z)) k1 q1 k2 q2
-- back
def ZC (a1 : Int32) (h : mh_T) (r : Int32) (h' : mh_T) : Prop := S0 h h' ∧ LR h h' ∧ ((¬ (0 ≤ a1.toInt ∧ a1.toInt < (m10 h : Int)) ∧ r = 0 ∧ LC h h') ∨ ((0 ≤ a1.toInt ∧ a1.toInt < (m10 h : Int)) ∧ r = 1 ∧ Ok msK h h' ∧ mI h' 10 0 = 0 ∧ mI h' 10 1 = 0 ∧ RD (h.1 (137 + a1.toInt.toNat)) h h'))
def ZM (a1 : Int32) (h : mh_T) (r : Int32) (h' : mh_T) : Prop := S0 h h' ∧ LC h h' ∧ ((¬ (0 ≤ a1.toInt ∧ a1.toInt < (m11 h : Int)) ∧ r = 0 ∧ LR h h') ∨ ((0 ≤ a1.toInt ∧ a1.toInt < (m11 h : Int)) ∧ r = 1 ∧ Ok [301, 300, 11, 45, 47] h h' ∧ BD a1.toInt.toNat h h'))
theorem k_X10_back {g : gT} {h : mh_T} {P : Int32 → mh_T → Prop} (a1 : Int32) (hJ : JJ h) (pc : PC h) (hp : ∀ (r : Int32) (h' : mh_T), JJ h' → ZC a1 h r h' → P r h') : MCi g yX10_back uX10_back [.ref 0, .int a1] h P :=
  v_X10_back a1 (m10 h) (nn_10 hJ.1 2 (hi := 4) rfl) hJ.1 pc.1 (fun c h' ok => hp 0 h' (JK hJ ok (by decide)) ⟨S0_ok ok (by decide), LR_ok ok (by decide), Or.inl ⟨c, rfl, LC_ok ok (by decide)⟩⟩) (fun c1 c2 h' ok r1 r2 r3 => hp 1 h' (JK hJ ok (by decide)) ⟨S0_ok ok (by decide), LR_ok ok (by decide), Or.inr ⟨⟨c1, c2⟩, rfl, ok, r1, r2, r3⟩⟩)
theorem k_X11_back {g : gT} {h : mh_T} {P : Int32 → mh_T → Prop} (a1 : Int32) (hJ : JJ h) (pr : PR h) (hp : ∀ (r : Int32) (h' : mh_T), JJ h' → ZM a1 h r h' → P r h') : MCi g yX11_back uX11_back [.ref 11, .int a1] h P :=
  v_X11_back a1 (m11 h) (nn_11 hJ.1 26 (hi := 4) rfl) (by have := (GI_rd hJ.1 11 26 (lo := 0) (hi := 4) rfl).2; unfold m11; omega) hJ.1 hJ.2 (fun c h' ok => hp 0 h' (JK hJ ok (by decide)) ⟨S0_ok ok (by decide), LC_ok ok (by decide), Or.inl ⟨c, rfl, LR_ok ok (by decide)⟩⟩) (fun c1 c2 h' ok t r => hp 1 h' ⟨ok.1, t⟩ ⟨S0_ok ok (by decide), LC_ok ok (by decide), Or.inr ⟨⟨c1, c2⟩, rfl, ok, r⟩⟩)
theorem back_RR {h h1 h2 : mh_T} {r1 r2 a1 : Int32} (hJ : JJ h) (hJ1 : JJ h1) (he : RR h) (s1 : ZC a1 h r1 h1) (s2 : ZM a1 h1 r2 h2) : RR h2 := by
  obtain ⟨-, -, e3, -⟩ := un_eq he.2.2.2 s1.2.1
  refine RR_2 hJ hJ1 he s1.1 s2.1 ?_
  rcases s1.2.2 with ⟨c, e, l1⟩ | ⟨c, e, k1, q1, q2, q3⟩ <;> rcases s2.2.2 with ⟨d, f, l2⟩ | ⟨d, f, k2, p2⟩
  · exact RH_s hJ1.1 s2.2.1 l2 (RH_s hJ.1 l1 s1.2.1 he.2.2.2)
  · rw [e3] at d; exact absurd d c
  · rw [e3] at d; exact absurd c d
  · have em := nn_10 hJ.1 2 (hi := 4) rfl
    have cc : a1.toInt < ((mI h 10 2).toInt.toNat : Int) := c.2
    exact RH_back he.2.2.2 (l := a1.toInt.toNat) (by have := c.1; omega) k1 q1 q2 q3 k2 p2
/-! what is asked of the table -/
theorem out0 {h : mh_T} {v : Int32} (hJ : JJ h) : JJ (wI h 0 11 v) ∧ SS h (wI h 0 11 v) := by
  have ok := Ok_w (Ok_rf (ms := [0]) hJ.1) (k := 0) (j := 11) (v := v) (lo := -2147483648) (hi := 2147483647) (by decide) (R_full _) (by decide) (by decide)
  exact ⟨JK hJ ok (by decide), SS_ok ok (by decide)⟩
theorem out11 {h h' : mh_T} (hJ : JJ h) (ok : Ok [300, 11] h h') : JJ h' ∧ SS h h' := ⟨JK hJ ok (by decide), SS_ok ok (by decide)⟩
-- times
/-! bets -/
theorem toldC {g : gT} {h : mh_T} {P : Int32 → mh_T → Prop} {V : Int32 → Prop} {r : Int32} (hJ : JJ h) (hp : ∀ (r : Int32) (h' : mh_T), JJ h' → (V r ∧ SS h h') → P r h') (v : V r) : MCi g yX10_told uX10_told [.ref 0, .int r] h P := e_X10_told r (hp _ _ (out0 hJ).1 ⟨v, (out0 hJ).2⟩)
theorem bk_iff {h h1 : mh_T} (he : RR h) (l : LR h h1) : mI h 3 0 = 0 ↔ mI h1 11 14 = 0 := by rw [l.2.2.2.2.2.2.2.1]; exact he.2.2.1.1.1
/-! hidden, answer, disturbed -/
/-! extend -/
/-! fair -/
/-! cycles, cycle -/
theorem PW_lr {h h1 : mh_T} (hG : GI h) (r : RH h) (l : LR h h1) : PW (h1.1 45) := by
  rw [l.1]
  exact PW_cg r.1.1 (PW_C hG (Rq_TZ r.1.1))
theorem rgB_eq {a b : Nat → Int32} (r : Rq a b) : rgB a = rgB b := funext (fun w => rgB_cg r w)
/-! excess, widest -/
def wdV (b : Prop) (a : Nat → Int32) (law r : Int32) : Prop := (b → r = -1) ∧ (¬ b → r = gtF (rgB a) (sfn a law) (2 ^ sn a))
theorem k_X10_widest {g : gT} {h : mh_T} {P : Int32 → mh_T → Prop} (hJ : JJ h) (pc : PC h) (hp : ∀ (r : Int32) (h' : mh_T), JJ h' → (wdV (mI h 3 0 = 0) (tC h) (mI h 3 0) r ∧ SS h h') → P r h') : MCi g yX10_widest uX10_widest [.ref 0] h P :=
  e_X10_widest (e_X10_noBook ⟨fun z => ⟨fun _ => v_greatest pc.2 (toldC hJ hp ⟨fun y => absurd y z, fun _ => rfl⟩), fun y => absurd rfl y⟩, fun z => ⟨fun y => absurd y (by decide), fun _ => e_X10_refused 1 (hp _ _ (out0 hJ).1 ⟨⟨fun _ => rfl, fun y => absurd z y⟩, (out0 hJ).2⟩)⟩⟩)
theorem k_X11_widest {g : gT} {h : mh_T} {P : Int32 → mh_T → Prop} (hJ : JJ h) (pr : PR h) (pw : PW (h.1 45)) (hp : ∀ (r : Int32) (h' : mh_T), JJ h' → (wdV (mI h 11 14 = 0) (h.1 45) (mI h 45 49) r ∧ SS h h') → P r h') : MCi g yX11_widest uX11_widest [.ref 11] h P := by
  refine e_X11_widest (v_good hJ.1 (fun h1 k1 => ?_))
  have e45 : h1.1 45 = h.1 45 := OkC k1 (by decide)
  have e14 : mI h1 11 14 = mI h 11 14 := k1.2.2.2.2.1 11 14 (by decide)
  rw [e14]
  refine ⟨fun z => v_widest (by rw [e45]; exact pr.2.1) (by rw [e45]; exact pw) (hp _ h1 (out11 hJ k1).1 ⟨⟨fun y => absurd y z, fun _ => ?_⟩, (out11 hJ k1).2⟩), fun z => v_no 1 (by decide) k1 (fun h' k' => hp _ h' (out11 hJ k').1 ⟨⟨fun _ => rfl, fun y => absurd z y⟩, (out11 hJ k').2⟩)⟩
  rw [e45, show mI h1 45 49 = mI h 45 49 from congrFun e45 49]
theorem widest_r {h h1 h2 : mh_T} {r1 r2 : Int32} (hJ : JJ h) (he : RR h) (s1 : wdV (mI h 3 0 = 0) (tC h) (mI h 3 0) r1 ∧ SS h h1) (s2 : wdV (mI h1 11 14 = 0) (h1.1 45) (mI h1 45 49) r2 ∧ SS h1 h2) : r1 = r2 := by
  have iff := bk_iff he s1.2.2.2
  have x := s2.1
  rw [show mI h1 45 49 = mI h 45 49 from congrFun s1.2.2.2.1 49, s1.2.2.2.1, ← he.2.2.1.1.2] at x
  by_cases q : mI h 3 0 = 0
  · rw [s1.1.1 q, x.1 (iff.mp q)]
  · rw [s1.1.2 q, x.2 (fun z => q (iff.mpr z)), rgB_eq he.2.2.2.1.1, sfn_cg he.2.2.2.1.1, sn_eq he.2.2.2.1.1]

theorem k_X10_fault {g : gT} {h : mh_T} {P : Int32 → mh_T → Prop} (hJ : JJ h) (hp : ∀ (r : Int32) (h' : mh_T), JJ h' → SS h h' → P r h') : MCi g yX10_fault uX10_fault [.ref 0] h P := s_X10_fault  hJ.1 (fun r => hp r h hJ (SS_rf h))
theorem k_X11_fault {g : gT} {h : mh_T} {P : Int32 → mh_T → Prop} (hJ : JJ h) (hp : ∀ (r : Int32) (h' : mh_T), JJ h' → SS h h' → P r h') : MCi g yX11_fault uX11_fault [.ref 11] h P := s_X11_fault  hJ.1 (fun r h' ok => hp r h' ⟨ok.1, TVs_fr ok.2.1 (by decide) hJ.2⟩ (SS_ok ok (by decide)))
theorem k_X10_where {g : gT} {h : mh_T} {P : Int32 → mh_T → Prop} (hJ : JJ h) (hp : ∀ (r : Int32) (h' : mh_T), JJ h' → SS h h' → P r h') : MCi g yX10_where uX10_where [.ref 0] h P := s_X10_where  hJ.1 (fun r => hp r h hJ (SS_rf h))
theorem k_X11_where {g : gT} {h : mh_T} {P : Int32 → mh_T → Prop} (hJ : JJ h) (hp : ∀ (r : Int32) (h' : mh_T), JJ h' → SS h h' → P r h') : MCi g yX11_where uX11_where [.ref 11] h P := s_X11_where  hJ.1 (fun r h' ok => hp r h' ⟨ok.1, TVs_fr ok.2.1 (by decide) hJ.2⟩ (SS_ok ok (by decide)))
theorem k_X10_share {g : gT} {h : mh_T} {P : Int32 → mh_T → Prop} (a1 : Int32) (hJ : JJ h) (hp : ∀ (r : Int32) (h' : mh_T), JJ h' → SS h h' → P r h') : MCi g yX10_share uX10_share [.ref 0, .int a1] h P := s_X10_share a1 hJ.1 (fun r h' ok _ => hp r h' ⟨ok.1, TVs_fr ok.2.1 (by decide) hJ.2⟩ (SS_ok ok (by decide)))
theorem k_X11_share {g : gT} {h : mh_T} {P : Int32 → mh_T → Prop} (a1 : Int32) (hJ : JJ h) (hp : ∀ (r : Int32) (h' : mh_T), JJ h' → SS h h' → P r h') : MCi g yX11_share uX11_share [.ref 11, .int a1] h P := u_X11_share a1 hJ.1 hJ.2 (fun r h' ok _ => hp r h' ⟨ok.1, TVs_fr ok.2.1 (by decide) hJ.2⟩ (SS_ok ok (by decide)))
theorem k_X10_together {g : gT} {h : mh_T} {P : Int32 → mh_T → Prop} (a1 : Int32) (a2 : Int32) (a3 : Int32) (a4 : Int32) (a5 : Int32) (a6 : Int32) (hJ : JJ h) (hp : ∀ (r : Int32) (h' : mh_T), JJ h' → SS h h' → P r h') : MCi g yX10_together uX10_together [.ref 0, .int a1, .int a2, .int a3, .int a4, .int a5, .int a6] h P := s_X10_together a1 a2 a3 a4 a5 a6 hJ.1 (fun r h' ok _ => hp r h' ⟨ok.1, TVs_fr ok.2.1 (by decide) hJ.2⟩ (SS_ok ok (by decide)))
theorem k_X11_together {g : gT} {h : mh_T} {P : Int32 → mh_T → Prop} (a1 : Int32) (a2 : Int32) (a3 : Int32) (a4 : Int32) (a5 : Int32) (a6 : Int32) (hJ : JJ h) (hp : ∀ (r : Int32) (h' : mh_T), JJ h' → SS h h' → P r h') : MCi g yX11_together uX11_together [.ref 11, .int a1, .int a2, .int a3, .int a4, .int a5, .int a6] h P := u_X11_together a1 a2 a3 a4 a5 a6 hJ.1 hJ.2 (fun r h' ok _ => hp r h' ⟨ok.1, TVs_fr ok.2.1 (by decide) hJ.2⟩ (SS_ok ok (by decide)))
theorem k_X10_extend {g : gT} {h : mh_T} {P : Int32 → mh_T → Prop} (a1 : Int32) (a2 : Int32) (hJ : JJ h) (hp : ∀ (r : Int32) (h' : mh_T), JJ h' → SS h h' → P r h') : MCi g yX10_extend uX10_extend [.ref 0, .int a1, .int a2] h P := s_X10_extend a1 a2 hJ.1 (fun r h' ok _ => hp r h' ⟨ok.1, TVs_fr ok.2.1 (by decide) hJ.2⟩ (SS_ok ok (by decide)))
theorem k_X11_extend {g : gT} {h : mh_T} {P : Int32 → mh_T → Prop} (a1 : Int32) (a2 : Int32) (hJ : JJ h) (hp : ∀ (r : Int32) (h' : mh_T), JJ h' → SS h h' → P r h') : MCi g yX11_extend uX11_extend [.ref 11, .int a1, .int a2] h P := s_X11_extend a1 a2 hJ.1 (fun r h' ok _ _ => hp r h' ⟨ok.1, TVs_fr ok.2.1 (by decide) hJ.2⟩ (SS_ok ok (by decide)))
theorem k_X10_level {g : gT} {h : mh_T} {P : Int32 → mh_T → Prop} (hJ : JJ h) (hp : ∀ (r : Int32) (h' : mh_T), JJ h' → SS h h' → P r h') : MCi g yX10_level uX10_level [.ref 0] h P := s_X10_level  hJ.1 (fun r h' ok _ => hp r h' ⟨ok.1, TVs_fr ok.2.1 (by decide) hJ.2⟩ (SS_ok ok (by decide)))
theorem k_X11_level {g : gT} {h : mh_T} {P : Int32 → mh_T → Prop} (hJ : JJ h) (hp : ∀ (r : Int32) (h' : mh_T), JJ h' → SS h h' → P r h') : MCi g yX11_level uX11_level [.ref 11] h P := u_X11_level  hJ.1 hJ.2 (fun r h' ok _ => hp r h' ⟨ok.1, TVs_fr ok.2.1 (by decide) hJ.2⟩ (SS_ok ok (by decide)))
theorem k_X10_hidden {g : gT} {h : mh_T} {P : Int32 → mh_T → Prop} (hJ : JJ h) (hp : ∀ (r : Int32) (h' : mh_T), JJ h' → SS h h' → P r h') : MCi g yX10_hidden uX10_hidden [.ref 0] h P := s_X10_hidden  hJ.1 (fun r h' ok _ => hp r h' ⟨ok.1, TVs_fr ok.2.1 (by decide) hJ.2⟩ (SS_ok ok (by decide)))
theorem k_X11_hidden {g : gT} {h : mh_T} {P : Int32 → mh_T → Prop} (hJ : JJ h) (hp : ∀ (r : Int32) (h' : mh_T), JJ h' → SS h h' → P r h') : MCi g yX11_hidden uX11_hidden [.ref 11] h P := s_X11_hidden  hJ.1 (fun r h' ok _ => hp r h' ⟨ok.1, TVs_fr ok.2.1 (by decide) hJ.2⟩ (SS_ok ok (by decide)))
theorem k_X10_answer {g : gT} {h : mh_T} {P : Int32 → mh_T → Prop} (a1 : Int32) (hJ : JJ h) (hp : ∀ (r : Int32) (h' : mh_T), JJ h' → SS h h' → P r h') : MCi g yX10_answer uX10_answer [.ref 0, .int a1] h P := s_X10_answer a1 hJ.1 (fun r h' ok _ => hp r h' ⟨ok.1, TVs_fr ok.2.1 (by decide) hJ.2⟩ (SS_ok ok (by decide)))
theorem k_X11_answer {g : gT} {h : mh_T} {P : Int32 → mh_T → Prop} (a1 : Int32) (hJ : JJ h) (hp : ∀ (r : Int32) (h' : mh_T), JJ h' → SS h h' → P r h') : MCi g yX11_answer uX11_answer [.ref 11, .int a1] h P := s_X11_answer a1 hJ.1 (fun r h' ok _ _ => hp r h' ⟨ok.1, TVs_fr ok.2.1 (by decide) hJ.2⟩ (SS_ok ok (by decide)))
theorem k_X10_disturbed {g : gT} {h : mh_T} {P : Int32 → mh_T → Prop} (hJ : JJ h) (hp : ∀ (r : Int32) (h' : mh_T), JJ h' → SS h h' → P r h') : MCi g yX10_disturbed uX10_disturbed [.ref 0] h P := s_X10_disturbed  hJ.1 (fun r h' ok _ => hp r h' ⟨ok.1, TVs_fr ok.2.1 (by decide) hJ.2⟩ (SS_ok ok (by decide)))
theorem k_X11_disturbed {g : gT} {h : mh_T} {P : Int32 → mh_T → Prop} (hJ : JJ h) (hp : ∀ (r : Int32) (h' : mh_T), JJ h' → SS h h' → P r h') : MCi g yX11_disturbed uX11_disturbed [.ref 11] h P := s_X11_disturbed  hJ.1 (fun r h' ok _ _ => hp r h' ⟨ok.1, TVs_fr ok.2.1 (by decide) hJ.2⟩ (SS_ok ok (by decide)))
theorem k_X10_same {g : gT} {h : mh_T} {P : Int32 → mh_T → Prop} (a1 : Int32) (hJ : JJ h) (hp : ∀ (r : Int32) (h' : mh_T), JJ h' → SS h h' → P r h') : MCi g yX10_same uX10_same [.ref 0, .int a1] h P := s_X10_same a1 hJ.1 (fun r h' ok _ => hp r h' ⟨ok.1, TVs_fr ok.2.1 (by decide) hJ.2⟩ (SS_ok ok (by decide)))
theorem k_X11_same {g : gT} {h : mh_T} {P : Int32 → mh_T → Prop} (a1 : Int32) (hJ : JJ h) (hp : ∀ (r : Int32) (h' : mh_T), JJ h' → SS h h' → P r h') : MCi g yX11_same uX11_same [.ref 11, .int a1] h P := s_X11_same a1 hJ.1 (fun r h' ok _ => hp r h' ⟨ok.1, TVs_fr ok.2.1 (by decide) hJ.2⟩ (SS_ok ok (by decide)))
theorem k_X10_cycles {g : gT} {h : mh_T} {P : Int32 → mh_T → Prop} (hJ : JJ h) (hp : ∀ (r : Int32) (h' : mh_T), JJ h' → SS h h' → P r h') : MCi g yX10_cycles uX10_cycles [.ref 0] h P := s_X10_cycles  hJ.1 (fun r h' ok _ => hp r h' ⟨ok.1, TVs_fr ok.2.1 (by decide) hJ.2⟩ (SS_ok ok (by decide)))
theorem k_X11_cycles {g : gT} {h : mh_T} {P : Int32 → mh_T → Prop} (hJ : JJ h) (hp : ∀ (r : Int32) (h' : mh_T), JJ h' → SS h h' → P r h') : MCi g yX11_cycles uX11_cycles [.ref 11] h P := s_X11_cycles  hJ.1 (fun r h' ok _ => hp r h' ⟨ok.1, TVs_fr ok.2.1 (by decide) hJ.2⟩ (SS_ok ok (by decide)))
theorem k_X10_cycle {g : gT} {h : mh_T} {P : Int32 → mh_T → Prop} (a1 : Int32) (hJ : JJ h) (hp : ∀ (r : Int32) (h' : mh_T), JJ h' → SS h h' → P r h') : MCi g yX10_cycle uX10_cycle [.ref 0, .int a1] h P := s_X10_cycle a1 hJ.1 (fun r h' ok _ => hp r h' ⟨ok.1, TVs_fr ok.2.1 (by decide) hJ.2⟩ (SS_ok ok (by decide)))
theorem k_X11_cycle {g : gT} {h : mh_T} {P : Int32 → mh_T → Prop} (a1 : Int32) (hJ : JJ h) (hp : ∀ (r : Int32) (h' : mh_T), JJ h' → SS h h' → P r h') : MCi g yX11_cycle uX11_cycle [.ref 11, .int a1] h P := s_X11_cycle a1 hJ.1 (fun r h' ok _ _ => hp r h' ⟨ok.1, TVs_fr ok.2.1 (by decide) hJ.2⟩ (SS_ok ok (by decide)))
theorem k_X10_excess {g : gT} {h : mh_T} {P : Int32 → mh_T → Prop} (a1 : Int32) (hJ : JJ h) (hp : ∀ (r : Int32) (h' : mh_T), JJ h' → SS h h' → P r h') : MCi g yX10_excess uX10_excess [.ref 0, .int a1] h P := s_X10_excess a1 hJ.1 (fun r h' ok _ => hp r h' ⟨ok.1, TVs_fr ok.2.1 (by decide) hJ.2⟩ (SS_ok ok (by decide)))
theorem k_X11_excess {g : gT} {h : mh_T} {P : Int32 → mh_T → Prop} (a1 : Int32) (hJ : JJ h) (hp : ∀ (r : Int32) (h' : mh_T), JJ h' → SS h h' → P r h') : MCi g yX11_excess uX11_excess [.ref 11, .int a1] h P := s_X11_excess a1 hJ.1 (fun r h' ok _ => hp r h' ⟨ok.1, TVs_fr ok.2.1 (by decide) hJ.2⟩ (SS_ok ok (by decide)))
theorem k_X10_wins {g : gT} {h : mh_T} {P : Int32 → mh_T → Prop} (hJ : JJ h) (hp : ∀ (r : Int32) (h' : mh_T), JJ h' → SS h h' → P r h') : MCi g yX10_wins uX10_wins [.ref 0] h P := s_X10_wins  hJ.1 (fun r h' ok _ => hp r h' ⟨ok.1, TVs_fr ok.2.1 (by decide) hJ.2⟩ (SS_ok ok (by decide)))
theorem k_X11_wins {g : gT} {h : mh_T} {P : Int32 → mh_T → Prop} (hJ : JJ h) (hp : ∀ (r : Int32) (h' : mh_T), JJ h' → SS h h' → P r h') : MCi g yX11_wins uX11_wins [.ref 11] h P := s_X11_wins  hJ.1 (fun r h' ok _ => hp r h' ⟨ok.1, TVs_fr ok.2.1 (by decide) hJ.2⟩ (SS_ok ok (by decide)))
theorem k_X10_worst {g : gT} {h : mh_T} {P : Int32 → mh_T → Prop} (hJ : JJ h) (hp : ∀ (r : Int32) (h' : mh_T), JJ h' → SS h h' → P r h') : MCi g yX10_worst uX10_worst [.ref 0] h P := s_X10_worst  hJ.1 (fun r h' ok _ => hp r h' ⟨ok.1, TVs_fr ok.2.1 (by decide) hJ.2⟩ (SS_ok ok (by decide)))
theorem k_X11_worst {g : gT} {h : mh_T} {P : Int32 → mh_T → Prop} (hJ : JJ h) (hp : ∀ (r : Int32) (h' : mh_T), JJ h' → SS h h' → P r h') : MCi g yX11_worst uX11_worst [.ref 11] h P := s_X11_worst  hJ.1 (fun r h' ok _ => hp r h' ⟨ok.1, TVs_fr ok.2.1 (by decide) hJ.2⟩ (SS_ok ok (by decide)))
theorem k_X10_worstAt {g : gT} {h : mh_T} {P : Int32 → mh_T → Prop} (hJ : JJ h) (hp : ∀ (r : Int32) (h' : mh_T), JJ h' → SS h h' → P r h') : MCi g yX10_worstAt uX10_worstAt [.ref 0] h P := s_X10_worstAt  hJ.1 (fun r h' ok _ => hp r h' ⟨ok.1, TVs_fr ok.2.1 (by decide) hJ.2⟩ (SS_ok ok (by decide)))
theorem k_X11_worstAt {g : gT} {h : mh_T} {P : Int32 → mh_T → Prop} (hJ : JJ h) (hp : ∀ (r : Int32) (h' : mh_T), JJ h' → SS h h' → P r h') : MCi g yX11_worstAt uX11_worstAt [.ref 11] h P := s_X11_worstAt  hJ.1 (fun r h' ok _ _ => hp r h' ⟨ok.1, TVs_fr ok.2.1 (by decide) hJ.2⟩ (SS_ok ok (by decide)))
theorem k_X10_bars {g : gT} {h : mh_T} {P : Int32 → mh_T → Prop} (hJ : JJ h) (hp : ∀ (r : Int32) (h' : mh_T), JJ h' → SS h h' → P r h') : MCi g yX10_bars uX10_bars [.ref 0] h P := s_X10_bars  hJ.1 (fun r h' ok _ => hp r h' ⟨ok.1, TVs_fr ok.2.1 (by decide) hJ.2⟩ (SS_ok ok (by decide)))
theorem k_X11_bars {g : gT} {h : mh_T} {P : Int32 → mh_T → Prop} (hJ : JJ h) (hp : ∀ (r : Int32) (h' : mh_T), JJ h' → SS h h' → P r h') : MCi g yX11_bars uX11_bars [.ref 11] h P := s_X11_bars  hJ.1 (fun r h' ok _ _ => hp r h' ⟨ok.1, TVs_fr ok.2.1 (by decide) hJ.2⟩ (SS_ok ok (by decide)))
theorem k_X10_fair {g : gT} {h : mh_T} {P : Int32 → mh_T → Prop} (a1 : Int32) (hJ : JJ h) (hp : ∀ (r : Int32) (h' : mh_T), JJ h' → SS h h' → P r h') : MCi g yX10_fair uX10_fair [.ref 0, .int a1] h P := s_X10_fair a1 hJ.1 (fun r h' ok _ => hp r h' ⟨ok.1, TVs_fr ok.2.1 (by decide) hJ.2⟩ (SS_ok ok (by decide)))
theorem k_X11_fair {g : gT} {h : mh_T} {P : Int32 → mh_T → Prop} (a1 : Int32) (hJ : JJ h) (hp : ∀ (r : Int32) (h' : mh_T), JJ h' → SS h h' → P r h') : MCi g yX11_fair uX11_fair [.ref 11, .int a1] h P := s_X11_fair a1 hJ.1 (fun r h' ok _ => hp r h' ⟨ok.1, TVs_fr ok.2.1 (by decide) hJ.2⟩ (SS_ok ok (by decide)))
theorem k_X10_ways {g : gT} {h : mh_T} {P : Int32 → mh_T → Prop} (hJ : JJ h) (hp : ∀ (r : Int32) (h' : mh_T), JJ h' → SS h h' → P r h') : MCi g yX10_ways uX10_ways [.ref 0] h P := s_X10_ways  hJ.1 (fun r h' ok _ => hp r h' ⟨ok.1, TVs_fr ok.2.1 (by decide) hJ.2⟩ (SS_ok ok (by decide)))
theorem k_X11_ways {g : gT} {h : mh_T} {P : Int32 → mh_T → Prop} (hJ : JJ h) (hp : ∀ (r : Int32) (h' : mh_T), JJ h' → SS h h' → P r h') : MCi g yX11_ways uX11_ways [.ref 11] h P := s_X11_ways  hJ.1 (fun r h' ok _ => hp r h' ⟨ok.1, TVs_fr ok.2.1 (by decide) hJ.2⟩ (SS_ok ok (by decide)))
theorem k_X10_forced {g : gT} {h : mh_T} {P : Int32 → mh_T → Prop} (a1 : Int32) (hJ : JJ h) (hp : ∀ (r : Int32) (h' : mh_T), JJ h' → SS h h' → P r h') : MCi g yX10_forced uX10_forced [.ref 0, .int a1] h P := s_X10_forced a1 hJ.1 (fun r h' ok _ => hp r h' ⟨ok.1, TVs_fr ok.2.1 (by decide) hJ.2⟩ (SS_ok ok (by decide)))
theorem k_X11_forced {g : gT} {h : mh_T} {P : Int32 → mh_T → Prop} (a1 : Int32) (hJ : JJ h) (hp : ∀ (r : Int32) (h' : mh_T), JJ h' → SS h h' → P r h') : MCi g yX11_forced uX11_forced [.ref 11, .int a1] h P := s_X11_forced a1 hJ.1 (fun r h' ok _ _ => hp r h' ⟨ok.1, TVs_fr ok.2.1 (by decide) hJ.2⟩ (SS_ok ok (by decide)))
theorem k_X10_core {g : gT} {h : mh_T} {P : Int32 → mh_T → Prop} (hJ : JJ h) (hp : ∀ (r : Int32) (h' : mh_T), JJ h' → SS h h' → P r h') : MCi g yX10_core uX10_core [.ref 0] h P := s_X10_core  hJ.1 (fun r h' ok _ => hp r h' ⟨ok.1, TVs_fr ok.2.1 (by decide) hJ.2⟩ (SS_ok ok (by decide)))
theorem k_X11_core {g : gT} {h : mh_T} {P : Int32 → mh_T → Prop} (hJ : JJ h) (hp : ∀ (r : Int32) (h' : mh_T), JJ h' → SS h h' → P r h') : MCi g yX11_core uX11_core [.ref 11] h P := s_X11_core  hJ.1 (fun r h' ok _ _ => hp r h' ⟨ok.1, TVs_fr ok.2.1 (by decide) hJ.2⟩ (SS_ok ok (by decide)))
theorem k_X10_can {g : gT} {h : mh_T} {P : Int32 → mh_T → Prop} (a1 : Int32) (hJ : JJ h) (hp : ∀ (r : Int32) (h' : mh_T), JJ h' → SS h h' → P r h') : MCi g yX10_can uX10_can [.ref 0, .int a1] h P := s_X10_can a1 hJ.1 (fun r h' ok _ => hp r h' ⟨ok.1, TVs_fr ok.2.1 (by decide) hJ.2⟩ (SS_ok ok (by decide)))
theorem k_X11_can {g : gT} {h : mh_T} {P : Int32 → mh_T → Prop} (a1 : Int32) (hJ : JJ h) (hp : ∀ (r : Int32) (h' : mh_T), JJ h' → SS h h' → P r h') : MCi g yX11_can uX11_can [.ref 11, .int a1] h P := s_X11_can a1 hJ.1 (fun r h' ok _ _ => hp r h' ⟨ok.1, TVs_fr ok.2.1 (by decide) hJ.2⟩ (SS_ok ok (by decide)))
theorem k_X10_game {g : gT} {h : mh_T} {P : Int32 → mh_T → Prop} (hJ : JJ h) (hp : ∀ (r : Int32) (h' : mh_T), JJ h' → SS h h' → P r h') : MCi g yX10_game uX10_game [.ref 0] h P := s_X10_game  hJ.1 (fun r h' ok _ => hp r h' ⟨ok.1, TVs_fr ok.2.1 (by decide) hJ.2⟩ (SS_ok ok (by decide)))
theorem k_X11_game {g : gT} {h : mh_T} {P : Int32 → mh_T → Prop} (hJ : JJ h) (hp : ∀ (r : Int32) (h' : mh_T), JJ h' → SS h h' → P r h') : MCi g yX11_game uX11_game [.ref 11] h P := s_X11_game  hJ.1 (fun r h' ok _ => hp r h' ⟨ok.1, TVs_fr ok.2.1 (by decide) hJ.2⟩ (SS_ok ok (by decide)))
theorem k_X10_square {g : gT} {h : mh_T} {P : Int32 → mh_T → Prop} (a1 : Int32) (a2 : Int32) (hJ : JJ h) (hp : ∀ (r : Int32) (h' : mh_T), JJ h' → SS h h' → P r h') : MCi g yX10_square uX10_square [.ref 0, .int a1, .int a2] h P := s_X10_square a1 a2 hJ.1 (fun r h' ok _ => hp r h' ⟨ok.1, TVs_fr ok.2.1 (by decide) hJ.2⟩ (SS_ok ok (by decide)))
theorem k_X11_square {g : gT} {h : mh_T} {P : Int32 → mh_T → Prop} (a1 : Int32) (a2 : Int32) (hJ : JJ h) (hp : ∀ (r : Int32) (h' : mh_T), JJ h' → SS h h' → P r h') : MCi g yX11_square uX11_square [.ref 11, .int a1, .int a2] h P := s_X11_square a1 a2 hJ.1 (fun r h' ok _ _ => hp r h' ⟨ok.1, TVs_fr ok.2.1 (by decide) hJ.2⟩ (SS_ok ok (by decide)))
theorem k_X10_corners {g : gT} {h : mh_T} {P : Int32 → mh_T → Prop} (hJ : JJ h) (hp : ∀ (r : Int32) (h' : mh_T), JJ h' → SS h h' → P r h') : MCi g yX10_corners uX10_corners [.ref 0] h P := s_X10_corners  hJ.1 (fun r h' ok _ => hp r h' ⟨ok.1, TVs_fr ok.2.1 (by decide) hJ.2⟩ (SS_ok ok (by decide)))
theorem k_X11_corners {g : gT} {h : mh_T} {P : Int32 → mh_T → Prop} (hJ : JJ h) (hp : ∀ (r : Int32) (h' : mh_T), JJ h' → SS h h' → P r h') : MCi g yX11_corners uX11_corners [.ref 11] h P := s_X11_corners  hJ.1 (fun r h' ok _ _ => hp r h' ⟨ok.1, TVs_fr ok.2.1 (by decide) hJ.2⟩ (SS_ok ok (by decide)))
theorem k_X10_colours {g : gT} {h : mh_T} {P : Int32 → mh_T → Prop} (hJ : JJ h) (hp : ∀ (r : Int32) (h' : mh_T), JJ h' → SS h h' → P r h') : MCi g yX10_colours uX10_colours [.ref 0] h P := s_X10_colours  hJ.1 (fun r h' ok _ => hp r h' ⟨ok.1, TVs_fr ok.2.1 (by decide) hJ.2⟩ (SS_ok ok (by decide)))
theorem k_X11_colours {g : gT} {h : mh_T} {P : Int32 → mh_T → Prop} (hJ : JJ h) (hp : ∀ (r : Int32) (h' : mh_T), JJ h' → SS h h' → P r h') : MCi g yX11_colours uX11_colours [.ref 11] h P := s_X11_colours  hJ.1 (fun r h' ok _ => hp r h' ⟨ok.1, TVs_fr ok.2.1 (by decide) hJ.2⟩ (SS_ok ok (by decide)))
theorem k_X10_ones {g : gT} {h : mh_T} {P : Int32 → mh_T → Prop} (hJ : JJ h) (hp : ∀ (r : Int32) (h' : mh_T), JJ h' → SS h h' → P r h') : MCi g yX10_ones uX10_ones [.ref 0] h P := s_X10_ones  hJ.1 (fun r h' ok _ => hp r h' ⟨ok.1, TVs_fr ok.2.1 (by decide) hJ.2⟩ (SS_ok ok (by decide)))
theorem k_X11_ones {g : gT} {h : mh_T} {P : Int32 → mh_T → Prop} (hJ : JJ h) (hp : ∀ (r : Int32) (h' : mh_T), JJ h' → SS h h' → P r h') : MCi g yX11_ones uX11_ones [.ref 11] h P := s_X11_ones  hJ.1 (fun r h' ok _ => hp r h' ⟨ok.1, TVs_fr ok.2.1 (by decide) hJ.2⟩ (SS_ok ok (by decide)))
theorem k_X10_spare {g : gT} {h : mh_T} {P : Int32 → mh_T → Prop} (hJ : JJ h) (hp : ∀ (r : Int32) (h' : mh_T), JJ h' → SS h h' → P r h') : MCi g yX10_spare uX10_spare [.ref 0] h P := s_X10_spare  hJ.1 (fun r h' ok _ => hp r h' ⟨ok.1, TVs_fr ok.2.1 (by decide) hJ.2⟩ (SS_ok ok (by decide)))
theorem k_X11_spare {g : gT} {h : mh_T} {P : Int32 → mh_T → Prop} (hJ : JJ h) (hp : ∀ (r : Int32) (h' : mh_T), JJ h' → SS h h' → P r h') : MCi g yX11_spare uX11_spare [.ref 11] h P := s_X11_spare  hJ.1 (fun r h' ok _ _ => hp r h' ⟨ok.1, TVs_fr ok.2.1 (by decide) hJ.2⟩ (SS_ok ok (by decide)))
theorem k_X10_critical {g : gT} {h : mh_T} {P : Int32 → mh_T → Prop} (hJ : JJ h) (hp : ∀ (r : Int32) (h' : mh_T), JJ h' → SS h h' → P r h') : MCi g yX10_critical uX10_critical [.ref 0] h P := s_X10_critical  hJ.1 (fun r h' ok _ => hp r h' ⟨ok.1, TVs_fr ok.2.1 (by decide) hJ.2⟩ (SS_ok ok (by decide)))
theorem k_X11_critical {g : gT} {h : mh_T} {P : Int32 → mh_T → Prop} (hJ : JJ h) (hp : ∀ (r : Int32) (h' : mh_T), JJ h' → SS h h' → P r h') : MCi g yX11_critical uX11_critical [.ref 11] h P := s_X11_critical  hJ.1 (fun r h' ok _ _ => hp r h' ⟨ok.1, TVs_fr ok.2.1 (by decide) hJ.2⟩ (SS_ok ok (by decide)))
theorem k_X10_memory {g : gT} {h : mh_T} {P : Int32 → mh_T → Prop} (hJ : JJ h) (hp : ∀ (r : Int32) (h' : mh_T), JJ h' → SS h h' → P r h') : MCi g yX10_memory uX10_memory [.ref 0] h P := s_X10_memory  hJ.1 (fun r h' ok _ => hp r h' ⟨ok.1, TVs_fr ok.2.1 (by decide) hJ.2⟩ (SS_ok ok (by decide)))
theorem k_X11_memory {g : gT} {h : mh_T} {P : Int32 → mh_T → Prop} (hJ : JJ h) (hp : ∀ (r : Int32) (h' : mh_T), JJ h' → SS h h' → P r h') : MCi g yX11_memory uX11_memory [.ref 11] h P := s_X11_memory  hJ.1 (fun r h' ok _ _ => hp r h' ⟨ok.1, TVs_fr ok.2.1 (by decide) hJ.2⟩ (SS_ok ok (by decide)))
theorem k_X10_machine {g : gT} {h : mh_T} {P : Int32 → mh_T → Prop} (a1 : Int32) (a2 : Int32) (a3 : Int32) (hJ : JJ h) (hp : ∀ (r : Int32) (h' : mh_T), JJ h' → SS h h' → P r h') : MCi g yX10_machine uX10_machine [.ref 0, .int a1, .int a2, .int a3] h P := s_X10_machine a1 a2 a3 hJ.1 (fun r h' ok _ => hp r h' ⟨ok.1, TVs_fr ok.2.1 (by decide) hJ.2⟩ (SS_ok ok (by decide)))
theorem k_X11_machine {g : gT} {h : mh_T} {P : Int32 → mh_T → Prop} (a1 : Int32) (a2 : Int32) (a3 : Int32) (hJ : JJ h) (hp : ∀ (r : Int32) (h' : mh_T), JJ h' → SS h h' → P r h') : MCi g yX11_machine uX11_machine [.ref 11, .int a1, .int a2, .int a3] h P := s_X11_machine a1 a2 a3 hJ.1 (fun r h' ok _ _ => hp r h' ⟨ok.1, TVs_fr ok.2.1 (by decide) hJ.2⟩ (SS_ok ok (by decide)))
theorem k_X10_act {g : gT} {h : mh_T} {P : Int32 → mh_T → Prop} (a1 : Int32) (a2 : Int32) (hJ : JJ h) (hp : ∀ (r : Int32) (h' : mh_T), JJ h' → SS h h' → P r h') : MCi g yX10_act uX10_act [.ref 0, .int a1, .int a2] h P := s_X10_act a1 a2 hJ.1 (fun r h' ok _ => hp r h' ⟨ok.1, TVs_fr ok.2.1 (by decide) hJ.2⟩ (SS_ok ok (by decide)))
theorem k_X11_act {g : gT} {h : mh_T} {P : Int32 → mh_T → Prop} (a1 : Int32) (a2 : Int32) (hJ : JJ h) (hp : ∀ (r : Int32) (h' : mh_T), JJ h' → SS h h' → P r h') : MCi g yX11_act uX11_act [.ref 11, .int a1, .int a2] h P := s_X11_act a1 a2 hJ.1 (fun r h' ok _ => hp r h' ⟨ok.1, TVs_fr ok.2.1 (by decide) hJ.2⟩ (SS_ok ok (by decide)))
theorem k_X10_times {g : gT} {h : mh_T} {P : Int32 → mh_T → Prop} (a1 : Int32) (a2 : Int32) (hJ : JJ h) (hp : ∀ (r : Int32) (h' : mh_T), JJ h' → SS h h' → P r h') : MCi g yX10_times uX10_times [.ref 0, .int a1, .int a2] h P := s_X10_times a1 a2 hJ.1 (fun r h' ok _ => hp r h' ⟨ok.1, TVs_fr ok.2.1 (by decide) hJ.2⟩ (SS_ok ok (by decide)))
theorem k_X11_times {g : gT} {h : mh_T} {P : Int32 → mh_T → Prop} (a1 : Int32) (a2 : Int32) (hJ : JJ h) (hp : ∀ (r : Int32) (h' : mh_T), JJ h' → SS h h' → P r h') : MCi g yX11_times uX11_times [.ref 11, .int a1, .int a2] h P := s_X11_times a1 a2 hJ.1 (fun r h' ok _ => hp r h' ⟨ok.1, TVs_fr ok.2.1 (by decide) hJ.2⟩ (SS_ok ok (by decide)))
theorem k_X10_look {g : gT} {h : mh_T} {P : Int32 → mh_T → Prop} (a1 : Int32) (a2 : Int32) (hJ : JJ h) (hp : ∀ (r : Int32) (h' : mh_T), JJ h' → SS h h' → P r h') : MCi g yX10_look uX10_look [.ref 0, .int a1, .int a2] h P := s_X10_look a1 a2 hJ.1 (fun r h' ok _ => hp r h' ⟨ok.1, TVs_fr ok.2.1 (by decide) hJ.2⟩ (SS_ok ok (by decide)))
theorem k_X11_look {g : gT} {h : mh_T} {P : Int32 → mh_T → Prop} (a1 : Int32) (a2 : Int32) (hJ : JJ h) (hp : ∀ (r : Int32) (h' : mh_T), JJ h' → SS h h' → P r h') : MCi g yX11_look uX11_look [.ref 11, .int a1, .int a2] h P := s_X11_look a1 a2 hJ.1 (fun r h' ok _ _ => hp r h' ⟨ok.1, TVs_fr ok.2.1 (by decide) hJ.2⟩ (SS_ok ok (by decide)))
theorem k_X10_coins {g : gT} {h : mh_T} {P : Int32 → mh_T → Prop} (a1 : Int32) (a2 : Int32) (hJ : JJ h) (hp : ∀ (r : Int32) (h' : mh_T), JJ h' → SS h h' → P r h') : MCi g yX10_coins uX10_coins [.ref 0, .int a1, .int a2] h P := s_X10_coins a1 a2 hJ.1 (fun r h' ok _ => hp r h' ⟨ok.1, TVs_fr ok.2.1 (by decide) hJ.2⟩ (SS_ok ok (by decide)))
theorem k_X11_coins {g : gT} {h : mh_T} {P : Int32 → mh_T → Prop} (a1 : Int32) (a2 : Int32) (hJ : JJ h) (hp : ∀ (r : Int32) (h' : mh_T), JJ h' → SS h h' → P r h') : MCi g yX11_coins uX11_coins [.ref 11, .int a1, .int a2] h P := s_X11_coins a1 a2 hJ.1 (fun r h' ok _ => hp r h' ⟨ok.1, TVs_fr ok.2.1 (by decide) hJ.2⟩ (SS_ok ok (by decide)))
theorem k_X10_size {g : gT} {h : mh_T} {P : Int32 → mh_T → Prop} (a1 : Int32) (hJ : JJ h) (hp : ∀ (r : Int32) (h' : mh_T), JJ h' → SS h h' → P r h') : MCi g yX10_size uX10_size [.ref 0, .int a1] h P := s_X10_size a1 hJ.1 (fun r _ => hp r h hJ (SS_rf h))
theorem k_X11_size {g : gT} {h : mh_T} {P : Int32 → mh_T → Prop} (a1 : Int32) (hJ : JJ h) (hp : ∀ (r : Int32) (h' : mh_T), JJ h' → SS h h' → P r h') : MCi g yX11_size uX11_size [.ref 11, .int a1] h P := s_X11_size a1 hJ.1 (fun r h' ok _ => hp r h' ⟨ok.1, TVs_fr ok.2.1 (by decide) hJ.2⟩ (SS_ok ok (by decide)))
theorem k_X10_trouble {g : gT} {h : mh_T} {P : Int32 → mh_T → Prop} (hJ : JJ h) (hp : ∀ (r : Int32) (h' : mh_T), JJ h' → SS h h' → P r h') : MCi g yX10_trouble uX10_trouble [.ref 0] h P := s_X10_trouble  hJ.1 (fun r => hp r h hJ (SS_rf h))
theorem k_X11_trouble {g : gT} {h : mh_T} {P : Int32 → mh_T → Prop} (hJ : JJ h) (hp : ∀ (r : Int32) (h' : mh_T), JJ h' → SS h h' → P r h') : MCi g yX11_trouble uX11_trouble [.ref 11] h P := s_X11_trouble  hJ.1 (fun r h' ok => hp r h' ⟨ok.1, TVs_fr ok.2.1 (by decide) hJ.2⟩ (SS_ok ok (by decide)))
theorem k_X11_led {g : gT} {h : mh_T} {P : Int32 → mh_T → Prop} (a1 : Int32) (hJ : JJ h) (hp : ∀ (r : Int32) (h' : mh_T), JJ h' → SS h h' → P r h') : MCi g yX11_led uX11_led [.ref 11, .int a1] h P := s_X11_led a1 hJ.1 (fun r h' ok _ => hp r h' ⟨ok.1, TVs_fr ok.2.1 (by decide) hJ.2⟩ (SS_ok ok (by decide)))
