/-! the law's calls -/
def JJ (h : mh_T) : Prop := GI h ∧ TVs h
/-- what the calls but feed and book leave -/
def SY (h h' : mh_T) : Prop := mI h' 8 0 = mI h 8 0 ∧ h'.1 32 = h.1 32 ∧ mI h' 11 14 = mI h 11 14 ∧ ∀ j, 49 ≤ j → mI h' 45 j = mI h 45 j
def SS (h h' : mh_T) : Prop := (mI h' 0 10 = mI h 0 10 ∧ mI h' 11 2 = mI h 11 2 ∧ h'.1 12 = h.1 12 ∧ h'.1 43 = h.1 43) ∧ SY h h'
/-- both tapes hold the same bytes -/
def RT (h : mh_T) : Prop := mI h 0 10 = mI h 11 2 ∧ ∀ j : Nat, (j : Int) < (mI h 0 10).toInt → mI h 12 j = mI h 43 j ∧ 0 ≤ (mI h 43 j).toInt
/-- the same rays; the class knows which are square -/
def RY (h : mh_T) : Prop := mI h 8 0 = mI h 45 85 ∧ (mI h 11 14 = 0 → mI h 45 85 = 0) ∧ ∀ i j : Nat, (i : Int) < (mI h 45 85).toInt → (j : Int) < (mI h 45 85).toInt → ¬ j = i → (bt (mI h 32 i) j = true ↔ dtk (fun q => mI h 45 (86 + q)) i j 4 = 0)
def RR (h : mh_T) : Prop := RT h ∧ RY h
theorem SY_rf (h : mh_T) : SY h h := ⟨rfl, rfl, rfl, fun _ _ => rfl⟩
theorem SS_rf (h : mh_T) : SS h h := ⟨⟨rfl, rfl, rfl, rfl⟩, SY_rf h⟩
theorem SS_wL {h : mh_T} {k j : Nat} {v : Int64} : SS h (wL h k j v) := ⟨⟨rfl, rfl, rfl, rfl⟩, rfl, rfl, rfl, fun _ _ => rfl⟩
theorem SS_ok {ms : List Nat} {h h' : mh_T} (ok : Ok ms h h') (hm : 12 ∉ ms ∧ 43 ∉ ms ∧ 32 ∉ ms) : SS h h' := ⟨⟨ok.2.2.1, ok.2.2.2.1, OkC ok ⟨by decide, hm.1⟩, OkC ok ⟨by decide, hm.2.1⟩⟩, ok.2.2.2.2.1 8 0 (by decide), OkC ok ⟨by decide, hm.2.2⟩, ok.2.2.2.2.1 11 14 (by decide), fun j hj => ok.2.2.2.2.1 45 j (by unfold Pk; omega)⟩
theorem RT_s {h h' : mh_T} (s : SS h h') (r : RT h) : RT h' := by
  have e12 : ∀ j, mI h' 12 j = mI h 12 j := fun j => congrFun s.1.2.2.1 j
  have e43 : ∀ j, mI h' 43 j = mI h 43 j := fun j => congrFun s.1.2.2.2 j
  unfold RT
  rw [s.1.1, s.1.2.1]
  exact ⟨r.1, fun j hj => by rw [e12, e43]; exact r.2 j hj⟩
theorem RY_s {h h' : mh_T} (s : SY h h') (r : RY h) : RY h' := by
  have e32 : ∀ j, mI h' 32 j = mI h 32 j := fun j => congrFun s.2.1 j
  have e45 : (fun q => mI h' 45 (86 + q)) = fun q => mI h 45 (86 + q) := by
    funext q
    exact s.2.2.2 _ (by omega)
  unfold RY
  rw [s.1, s.2.2.1, s.2.2.2 85 (by omega), e45]
  exact ⟨r.1, r.2.1, fun i j hi hj hij => by rw [e32]; exact r.2.2 i j hi hj hij⟩
theorem RR_s {h h' : mh_T} (s : SS h h') (r : RR h) : RR h' := ⟨RT_s s r.1, RY_s s.2 r.2⟩
abbrev SL := SS
theorem SL_rf (h : mh_T) : SL h h := SS_rf h
theorem SL_wL {h : mh_T} {k j : Nat} {v : Int64} : SL h (wL h k j v) := SS_wL
theorem RR_l {h h1 h2 : mh_T} (he : RR h) (s1 : SL h h1) (s2 : SL h1 h2) : RR h2 := RR_s s2 (RR_s s1 he)
theorem l_in {i c : Int32} {k d n : Nat} (ei : i.toInt = (k : Int)) (hc : c.toInt = (d : Int)) (h : k + d < n) (hn : n < 2147483647) : vp_in (i + c) n := i_vp (i_off ei c d hc (by omega)) h
def FA (a1 a2 a3 a4 a5 : Int32) (h : mh_T) (r : Int32) (h' : mh_T) : Prop := SY h h' ∧ (mI h' 11 2 = mI h 11 2 ∧ h'.1 43 = h.1 43) ∧ ((mI h 0 10).toInt ≤ 880 → ((mI h' 0 10).toInt = (mI h 0 10).toInt + 20 ∧ r = mI h' 0 10) ∧ (∀ i : Nat, (i : Int) < (mI h 0 10).toInt → mI h' 12 i = mI h 12 i) ∧ ∀ m, m < 20 → mI h' 12 ((mI h 0 10).toInt.toNat + m) = fw a1 a2 a3 a4 a5 m) ∧ (¬ (mI h 0 10).toInt ≤ 880 → (mI h' 0 10 = mI h 0 10 ∧ r = -1) ∧ h'.1 12 = h.1 12)
def FB (a1 a2 a3 a4 a5 : Int32) (h : mh_T) (r : Int32) (h' : mh_T) : Prop := SY h h' ∧ (mI h' 0 10 = mI h 0 10 ∧ h'.1 12 = h.1 12) ∧ ((mI h 11 2).toInt ≤ 880 → ((mI h' 11 2).toInt = (mI h 11 2).toInt + 20 ∧ r = mI h' 11 2) ∧ (∀ i : Nat, (i : Int) < (mI h 11 2).toInt → mI h' 43 i = mI h 43 i) ∧ ∀ m, m < 20 → mI h' 43 ((mI h 11 2).toInt.toNat + m) = fw a1 a2 a3 a4 a5 m) ∧ (¬ (mI h 11 2).toInt ≤ 880 → (mI h' 11 2 = mI h 11 2 ∧ r = -1) ∧ h'.1 43 = h.1 43)
theorem k_X10_feed {g : gT} {h : mh_T} {P : Int32 → mh_T → Prop} (a1 a2 a3 a4 a5 : Int32) (hJ : JJ h) (hp : ∀ (r : Int32) (h' : mh_T), JJ h' → FA a1 a2 a3 a4 a5 h r h' → P r h') : MCi g yX10_feed uX10_feed [.ref 0, .int a1, .int a2, .int a3, .int a4, .int a5] h P := by
  obtain ⟨F, eF, F0, F9⟩ := i_R (GI_rd hJ.1 0 10 (lo := 0) (hi := 900) (by decide)) (by decide)
  refine v_feed a1 a2 a3 a4 a5 hJ.1 eF (fun hF h' ok e1 e2 e3 _ => hp _ h' ⟨ok.1, TVs_fr ok.2 (by decide) hJ.2⟩ ⟨⟨congrFun (ok.2 8 (by decide) (by decide)).1 0, (ok.2 32 (by decide) (by decide)).1, congrFun (ok.2 11 (by decide) (by decide)).1 14, fun j _ => congrFun (ok.2 45 (by decide) (by decide)).1 j⟩, ⟨congrFun (ok.2 11 (by decide) (by decide)).1 2, (ok.2 43 (by decide) (by decide)).1⟩, fun _ => ⟨⟨by rw [e1, eF]; omega, rfl⟩, fun i hi => e2 i (by omega), fun m hm => by rw [eF]; exact e3 m hm⟩, fun z => absurd (by omega) z⟩) (fun hF => hp _ h hJ ⟨SY_rf h, ⟨rfl, rfl⟩, fun z => absurd (by omega) hF, fun _ => ⟨⟨rfl, rfl⟩, rfl⟩⟩)
theorem k_X11_feed {g : gT} {h : mh_T} {P : Int32 → mh_T → Prop} (a1 a2 a3 a4 a5 : Int32) (hJ : JJ h) (hp : ∀ (r : Int32) (h' : mh_T), JJ h' → FB a1 a2 a3 a4 a5 h r h' → P r h') : MCi g yX11_feed uX11_feed [.ref 11, .int a1, .int a2, .int a3, .int a4, .int a5] h P := by
  obtain ⟨F, eF, F0, F9⟩ := i_R (GI_rd hJ.1 11 2 (lo := 0) (hi := 900) (by decide)) (by decide)
  refine w_feed a1 a2 a3 a4 a5 hJ.1 eF (fun hF h' ok e1 e2 e3 e4 => hp _ h' ⟨ok.1, TVs_fr ok.2 (by decide) hJ.2⟩ ⟨⟨congrFun (ok.2 8 (by decide) (by decide)).1 0, (ok.2 32 (by decide) (by decide)).1, e4 14 (by omega), fun j _ => congrFun (ok.2 45 (by decide) (by decide)).1 j⟩, ⟨congrFun (ok.2 0 (by decide) (by decide)).1 10, (ok.2 12 (by decide) (by decide)).1⟩, fun _ => ⟨⟨by rw [e1, eF]; omega, rfl⟩, fun i hi => e2 i (by omega), fun m hm => by rw [eF]; exact e3 m hm⟩, fun z => absurd (by omega) z⟩) (fun hF => hp _ _ ⟨GI_w hJ.1 (k := 11) (j := 0) (lo := -2147483648) (hi := 2147483647) (by decide) (R_full _), TVs_11 hJ.2⟩ ⟨⟨?_, ?_, ?_, fun j _ => ?_⟩, ⟨?_, ?_⟩, fun z => absurd (by omega) hF, fun _ => ⟨⟨?_, rfl⟩, ?_⟩⟩)
  · rw [mI_wI, if_neg (by decide)]
  · exact ((Fr_w (ms := [11]) (Fr_rf h) (by decide)) 32 (by decide) (by decide)).1
  · rw [mI_wI, if_neg (by decide)]
  · rw [mI_wI, if_neg (fun z => absurd z.1 (by decide))]
  · rw [mI_wI, if_neg (by decide)]
  · exact ((Fr_w (ms := [11]) (Fr_rf h) (by decide)) 12 (by decide) (by decide)).1
  · rw [mI_wI, if_neg (by decide)]
  · exact ((Fr_w (ms := [11]) (Fr_rf h) (by decide)) 43 (by decide) (by decide)).1
theorem feed_r {h h1 h2 : mh_T} {r1 r2 a1 a2 a3 a4 a5 : Int32} (he : RR h) (s1 : FA a1 a2 a3 a4 a5 h r1 h1) (s2 : FB a1 a2 a3 a4 a5 h1 r2 h2) : r1 = r2 := by
  have e := he.1.1
  have e1 := s1.2.1.1
  by_cases q : (mI h 0 10).toInt ≤ 880
  · obtain ⟨⟨b1, b2⟩, -⟩ := s1.2.2.1 q
    obtain ⟨⟨c1, c2⟩, -⟩ := s2.2.2.1 (by rw [e1, ← e]; exact q)
    rw [b2, c2]
    exact Int32.toInt_inj.mp (by rw [b1, c1, e1, e])
  · obtain ⟨⟨-, b2⟩, -⟩ := s1.2.2.2 q
    obtain ⟨⟨-, c2⟩, -⟩ := s2.2.2.2 (by rw [e1, ← e]; exact q)
    rw [b2, c2]
theorem feed_RR {h h1 h2 : mh_T} {r1 r2 a1 a2 a3 a4 a5 : Int32} (he : RR h) (s1 : FA a1 a2 a3 a4 a5 h r1 h1) (s2 : FB a1 a2 a3 a4 a5 h1 r2 h2) : RR h2 := by
  have e := he.1.1
  have e1 := s1.2.1.1
  have t1 : ∀ j, mI h1 43 j = mI h 43 j := fun j => congrFun s1.2.1.2 j
  have t2 : ∀ j, mI h2 12 j = mI h1 12 j := fun j => congrFun s2.2.1.2 j
  refine ⟨?_, RY_s s2.1 (RY_s s1.1 he.2)⟩
  unfold RT
  rw [s2.2.1.1]
  by_cases q : (mI h 0 10).toInt ≤ 880
  · obtain ⟨⟨b1, -⟩, b3, b4⟩ := s1.2.2.1 q
    obtain ⟨⟨c1, -⟩, c3, c4⟩ := s2.2.2.1 (by rw [e1, ← e]; exact q)
    rw [e1, ← e] at c1 c3 c4
    refine ⟨Int32.toInt_inj.mp (by rw [b1, c1]), fun j hj => ?_⟩
    rw [t2]
    by_cases z : (j : Int) < (mI h 0 10).toInt
    · rw [b3 j z, c3 j z, t1]
      exact he.1.2 j z
    · by_cases y : 0 ≤ (mI h 0 10).toInt
      · have w : j = (mI h 0 10).toInt.toNat + (j - (mI h 0 10).toInt.toNat) := by omega
        rw [w, b4 _ (by omega), c4 _ (by omega)]
        exact ⟨rfl, fw_nn _ _ _ _ _ _⟩
      · have w : j = (mI h 0 10).toInt.toNat + (j - (mI h 0 10).toInt.toNat) := by omega
        rw [w, b4 _ (by omega), c4 _ (by omega)]
        exact ⟨rfl, fw_nn _ _ _ _ _ _⟩
  · obtain ⟨⟨b1, -⟩, b3⟩ := s1.2.2.2 q
    obtain ⟨⟨c1, -⟩, c3⟩ := s2.2.2.2 (by rw [e1, ← e]; exact q)
    have t3 : ∀ j, mI h1 12 j = mI h 12 j := fun j => congrFun b3 j
    have t4 : ∀ j, mI h2 43 j = mI h1 43 j := fun j => congrFun c3 j
    rw [b1, c1, e1]
    refine ⟨e, fun j hj => ?_⟩
    rw [t2, t3, t4, t1]
    exact he.1.2 j hj
def BA (T : Nat → Int32) (a1 : Int32) (h : mh_T) (r : Int32) (h' : mh_T) : Prop := (mI h' 11 2 = mI h 11 2 ∧ h'.1 43 = h.1 43 ∧ mI h' 11 14 = mI h 11 14 ∧ h'.1 45 = h.1 45) ∧ ((0 ≤ a1.toInt ∧ a1.toInt ≤ (mI h 0 10).toInt) → mI h' 0 10 = 0 ∧ ((∃ w p, rx_book T a1.toInt.toNat = .inl (w, p) ∧ r = -1 ∧ mI h' 8 0 = mI h 8 0 ∧ h'.1 32 = h.1 32) ∨ (∃ e f, rx_book T a1.toInt.toNat = .inr ((), e, f) ∧ r = f 50 ∧ mI h' 8 0 = f 85 ∧ ∀ i j : Nat, (i : Int) < (f 85).toInt → (j : Int) < (f 85).toInt → ¬ j = i → (bt (mI h' 32 i) j = true ↔ dtk (fun q => f (86 + q)) i j 4 = 0)))) ∧ (¬ (0 ≤ a1.toInt ∧ a1.toInt ≤ (mI h 0 10).toInt) → (mI h' 0 10 = mI h 0 10 ∧ r = -1 ∧ mI h' 8 0 = mI h 8 0 ∧ h'.1 32 = h.1 32) ∧ h'.1 12 = h.1 12)
def BB (T : Nat → Int32) (a1 : Int32) (h : mh_T) (r : Int32) (h' : mh_T) : Prop := (mI h' 0 10 = mI h 0 10 ∧ h'.1 12 = h.1 12 ∧ mI h' 8 0 = mI h 8 0 ∧ h'.1 32 = h.1 32) ∧ ((0 ≤ a1.toInt ∧ a1.toInt ≤ (mI h 11 2).toInt) → mI h' 11 2 = 0 ∧ ((∃ w p, rx_book T a1.toInt.toNat = .inl (w, p) ∧ r = -1 ∧ h'.1 45 = h.1 45 ∧ mI h' 11 14 = mI h 11 14) ∨ (∃ e f, rx_book T a1.toInt.toNat = .inr ((), e, f) ∧ r = f 50 ∧ (∀ j, j < 346 → mI h' 45 j = f j) ∧ mI h' 11 14 = 1))) ∧ (¬ (0 ≤ a1.toInt ∧ a1.toInt ≤ (mI h 11 2).toInt) → (mI h' 11 2 = mI h 11 2 ∧ r = -1 ∧ h'.1 45 = h.1 45 ∧ mI h' 11 14 = mI h 11 14) ∧ h'.1 43 = h.1 43)
theorem k_X10_book {g : gT} {h : mh_T} {P : Int32 → mh_T → Prop} (a1 : Int32) (hJ : JJ h) (hp : ∀ (r : Int32) (h' : mh_T), JJ h' → BA (fun j => mI h 12 j) a1 h r h' → P r h') : MCi g yX10_book uX10_book [.ref 0, .int a1] h P := by
  have fr2 : Fr [0] h (wI h 0 11 2) := Fr_w (Fr_rf h) (by decide)
  have z : ∀ {ms : List Nat} {h' : mh_T}, Fr ms h h' → 11 ∉ ms → 43 ∉ ms → 45 ∉ ms → mI h' 11 2 = mI h 11 2 ∧ h'.1 43 = h.1 43 ∧ mI h' 11 14 = mI h 11 14 ∧ h'.1 45 = h.1 45 := fun fr m1 m2 m3 => ⟨congrFun (fr 11 (by decide) m1).1 2, (fr 43 (by decide) m2).1, congrFun (fr 11 (by decide) m1).1 14, (fr 45 (by decide) m3).1⟩
  refine c_book (T := fun j => mI h 12 j) a1 hJ.1 (fun _ _ => rfl) (fun q => hp _ _ ⟨GI_w hJ.1 (k := 0) (j := 11) (lo := -2147483648) (hi := 2147483647) (by decide) (R_full _), TVs_fr fr2 (by decide) hJ.2⟩ ⟨z fr2 (by decide) (by decide) (by decide), fun y => absurd y q, fun _ => ⟨⟨?_, rfl, ?_, (fr2 32 (by decide) (by decide)).1⟩, (fr2 12 (by decide) (by decide)).1⟩⟩) (fun n e f h' en hn ro g1 fr v vy => hp _ h' ⟨g1, TVs_fr fr (by decide) hJ.2⟩ ⟨z fr (by decide) (by decide) (by decide), fun _ => ⟨v.1, Or.inr ⟨e, f, ?_, rfl, vy.2.2.1, vy.2.2.2⟩⟩, fun y => absurd (by omega) y⟩) (fun n w p h' en hn ro g1 fr v vp vx => hp _ h' ⟨g1, TVs_fr fr (by decide) hJ.2⟩ ⟨z fr (by decide) (by decide) (by decide), fun _ => ⟨v.1, Or.inl ⟨w, p, ?_, rfl, congrFun vx.2.1 0, vx.2.2⟩⟩, fun y => absurd (by omega) y⟩)
  · rw [mI_wI, if_neg (by decide)]
  · rw [mI_wI, if_neg (by decide)]
  · rw [en, Int.toNat_natCast, ro]
  · rw [en, Int.toNat_natCast, ro]
theorem k_X11_book {g : gT} {h : mh_T} {P : Int32 → mh_T → Prop} (a1 : Int32) {T : Nat → Int32} (hJ : JJ h) (hT : ∀ j : Nat, (j : Int) < (mI h 11 2).toInt → mI h 43 j = T j ∧ 0 ≤ (T j).toInt) (hp : ∀ (r : Int32) (h' : mh_T), JJ h' → BB T a1 h r h' → P r h') : MCi g yX11_book uX11_book [.ref 11, .int a1] h P := by
  have fr2 : Fr [11] h (wI (wI (wI h 11 0 0) 11 11 0) 11 11 2) := Fr_w (Fr_w (Fr_w (Fr_rf h) (by decide)) (by decide)) (by decide)
  have z : ∀ {ms : List Nat} {h' : mh_T}, Fr ms h h' → 0 ∉ ms → 12 ∉ ms → 8 ∉ ms → 32 ∉ ms → mI h' 0 10 = mI h 0 10 ∧ h'.1 12 = h.1 12 ∧ mI h' 8 0 = mI h 8 0 ∧ h'.1 32 = h.1 32 := fun fr m0 m12 m8 m32 => ⟨congrFun (fr 0 (by decide) m0).1 10, (fr 12 (by decide) m12).1, congrFun (fr 8 (by decide) m8).1 0, (fr 32 (by decide) m32).1⟩
  refine b_book (T := T) a1 hJ.1 hJ.2 hT (fun q => hp _ _ ⟨GI_w (GI_w (GI_w hJ.1 (k := 11) (j := 0) (lo := -2147483648) (hi := 2147483647) (by decide) (R_full _)) (k := 11) (j := 11) (lo := -2147483648) (hi := 2147483647) (by decide) (R_full _)) (k := 11) (j := 11) (lo := -2147483648) (hi := 2147483647) (by decide) (R_full _), TVs_11 (TVs_11 (TVs_11 hJ.2))⟩ ⟨z fr2 (by decide) (by decide) (by decide) (by decide), fun y => absurd y q, fun _ => ⟨⟨?_, rfl, (fr2 45 (by decide) (by decide)).1, ?_⟩, (fr2 43 (by decide) (by decide)).1⟩⟩) (fun n e f h' en hn ro g1 fr t v vy => hp _ h' ⟨g1, t⟩ ⟨z fr (by decide) (by decide) (by decide) (by decide), fun _ => ⟨v.2.1, Or.inr ⟨e, f, ?_, rfl, vy.1, vy.2⟩⟩, fun y => absurd (by omega) y⟩) (fun n w p h' en hn ro g1 fr t v vp vx => hp _ h' ⟨g1, t⟩ ⟨z fr (by decide) (by decide) (by decide) (by decide), fun _ => ⟨v.2.1, Or.inl ⟨w, p, ?_, rfl, vx.1, vx.2⟩⟩, fun y => absurd (by omega) y⟩)
  · rw [mI_wI, if_neg (by decide), mI_wI, if_neg (by decide), mI_wI, if_neg (by decide)]
  · rw [mI_wI, if_neg (by decide), mI_wI, if_neg (by decide), mI_wI, if_neg (by decide)]
  · rw [en, Int.toNat_natCast, ro]
  · rw [en, Int.toNat_natCast, ro]
theorem book_T {h h1 : mh_T} {T : Nat → Int32} {r1 n : Int32} (he : RR h) (s1 : BA T n h r1 h1) : ∀ j : Nat, (j : Int) < (mI h1 11 2).toInt → mI h1 43 j = mI h 12 j ∧ 0 ≤ (mI h 12 j).toInt := by
  intro j hj
  have t1 : mI h1 43 j = mI h 43 j := congrFun s1.1.2.1 j
  rw [s1.1.1, ← he.1.1] at hj
  obtain ⟨a, b⟩ := he.1.2 j hj
  rw [t1, a]
  exact ⟨rfl, b⟩
theorem book_r {h h1 h2 : mh_T} {T : Nat → Int32} {r1 r2 n : Int32} (he : RR h) (s1 : BA T n h r1 h1) (s2 : BB T n h1 r2 h2) : r1 = r2 := by
  by_cases q : 0 ≤ n.toInt ∧ n.toInt ≤ (mI h 0 10).toInt
  · have q2 : 0 ≤ n.toInt ∧ n.toInt ≤ (mI h1 11 2).toInt := by rw [s1.1.1, ← he.1.1]; exact q
    rcases (s1.2.1 q).2 with ⟨w, p, a, b, -⟩ | ⟨e, f, a, b, -⟩ <;> rcases (s2.2.1 q2).2 with ⟨w', p', a', b', -⟩ | ⟨e', f', a', b', -⟩
    · rw [b, b']
    · rw [a] at a'; cases a'
    · rw [a] at a'; cases a'
    · rw [a] at a'; cases a'; rw [b, b']
  · rw [(s1.2.2 q).1.2.1, (s2.2.2 (by rw [s1.1.1, ← he.1.1]; exact q)).1.2.1]
theorem book_RR {h h1 h2 : mh_T} {T : Nat → Int32} {r1 r2 n : Int32} (hJ2 : JJ h2) (he : RR h) (s1 : BA T n h r1 h1) (s2 : BB T n h1 r2 h2) : RR h2 := by
  by_cases q : 0 ≤ n.toInt ∧ n.toInt ≤ (mI h 0 10).toInt
  · have q2 : 0 ≤ n.toInt ∧ n.toInt ≤ (mI h1 11 2).toInt := by rw [s1.1.1, ← he.1.1]; exact q
    refine ⟨?_, ?_⟩
    · unfold RT
      rw [s2.1.1, (s1.2.1 q).1, (s2.2.1 q2).1]
      refine ⟨rfl, fun j hj => ?_⟩
      rw [show (0 : Int32).toInt = 0 from by decide] at hj
      omega
    · rcases (s1.2.1 q).2 with ⟨w, p, a, -, b1, b2⟩ | ⟨e, f, a, -, b1, b2⟩ <;> rcases (s2.2.1 q2).2 with ⟨w', p', a', -, c1, c2⟩ | ⟨e', f', a', -, c1, c2⟩
      · exact RY_s ⟨s2.1.2.2.1, s2.1.2.2.2, c2, fun j _ => congrFun c1 j⟩ (RY_s ⟨b1, b2, s1.1.2.2.1, fun j _ => congrFun s1.1.2.2.2 j⟩ he.2)
      · rw [a] at a'; cases a'
      · rw [a] at a'; cases a'
      · rw [a] at a'
        cases a'
        have e32 : ∀ j, mI h2 32 j = mI h1 32 j := fun j => congrFun s2.1.2.2.2 j
        have r85 : (mI h2 45 85).toInt = (f 85).toInt := by rw [c1 85 (by decide)]
        refine ⟨by rw [s2.1.2.2.1, b1, c1 85 (by decide)], fun z => absurd (c2.symm.trans z) (by decide), fun i j hi hj hij => ?_⟩
        rw [r85] at hi hj
        rw [e32, b2 i j hi hj hij]
        have h18 : (f 85).toInt ≤ 18 := by
          rw [← r85]
          exact (GI_rd hJ2.1 45 85 (lo := 0) (hi := 18) (by decide)).2
        rw [dtk_cg (y := fun q => mI h2 45 (86 + q)) 4 (Nat.le_refl _) (fun q hq => ⟨?_, ?_⟩)]
        · show f (86 + (4 * i + q)) = mI h2 45 (86 + (4 * i + q))
          rw [c1 _ (by omega)]
        · show f (86 + (4 * j + q)) = mI h2 45 (86 + (4 * j + q))
          rw [c1 _ (by omega)]
  · obtain ⟨⟨b1, -, b4, b5⟩, b3⟩ := s1.2.2 q
    obtain ⟨⟨c1, -, c4, c5⟩, c3⟩ := s2.2.2 (by rw [s1.1.1, ← he.1.1]; exact q)
    refine ⟨?_, RY_s ⟨s2.1.2.2.1, s2.1.2.2.2, c5, fun j _ => congrFun c4 j⟩ (RY_s ⟨b4, b5, s1.1.2.2.1, fun j _ => congrFun s1.1.2.2.2 j⟩ he.2)⟩
    have t1 : ∀ j, mI h1 43 j = mI h 43 j := fun j => congrFun s1.1.2.1 j
    have t2 : ∀ j, mI h2 12 j = mI h1 12 j := fun j => congrFun s2.1.2.1 j
    have t3 : ∀ j, mI h1 12 j = mI h 12 j := fun j => congrFun b3 j
    have t4 : ∀ j, mI h2 43 j = mI h1 43 j := fun j => congrFun c3 j
    unfold RT
    rw [s2.1.1, b1, c1, s1.1.1]
    refine ⟨he.1.1, fun j hj => ?_⟩
    rw [t2, t3, t4, t1]
    exact he.1.2 j hj
/-! square -/
def qC (h : mh_T) (a b : Int32) : Int32 := if (0 ≤ a.toInt ∧ a.toInt < (mI h 8 0).toInt) ∧ (0 ≤ b.toInt ∧ b.toInt < (mI h 8 0).toInt) ∧ ¬ a = b then (if bt (mI h 32 a.toInt.toNat) b.toInt.toNat = true then 1 else 0) else -1
def qM (h : mh_T) (a b : Int32) : Int32 := if ¬ mI h 11 14 = 0 ∧ (0 ≤ a.toInt ∧ a.toInt < (mI h 45 85).toInt) ∧ (0 ≤ b.toInt ∧ b.toInt < (mI h 45 85).toInt) ∧ ¬ a = b then (if dtk (fun q => mI h 45 (86 + q)) a.toInt.toNat b.toInt.toNat 4 = 0 then 1 else 0) else -1
theorem v_hasRay {g : gT} {h : mh_T} {P : Int32 → mh_T → Prop} (l1 : Int32) (h1 : (0 ≤ l1.toInt ∧ l1.toInt < (mI h 8 0).toInt) → P 1 h) (h0 : ¬ (0 ≤ l1.toInt ∧ l1.toInt < (mI h 8 0).toInt) → P 0 h) : MCi g yX3_hasRay uX3_hasRay [.ref 8, .int l1] h P := by
  have z0 : (0 : Int32).toInt = 0 := by decide
  refine e_X3_hasRay l1 ⟨fun z => ?_, fun z => ⟨fun y => ?_, fun y => ?_⟩⟩
  · rw [i_lt, z0] at z
    exact h0 (by omega)
  · rw [i_le] at y
    exact h0 (by omega)
  · rw [i_lt, z0] at z
    rw [i_le] at y
    exact h1 (by omega)
theorem k_X10_square {g : gT} {h : mh_T} {P : Int32 → mh_T → Prop} (a1 a2 : Int32) (hJ : JJ h) (hp : ∀ (r : Int32) (h' : mh_T), JJ h' → (r = qC h a1 a2 ∧ SS h h') → P r h') : MCi g yX10_square uX10_square [.ref 0, .int a1, .int a2] h P := by
  have r8 : R 0 18 (mI h 8 0) := GI_rd hJ.1 8 0 (by decide)
  have out : ∀ (r v : Int32), r = qC h a1 a2 → P r (wI h 0 11 v) := fun r v e => by
    have ok := Ok_w (Ok_rf (ms := [0]) hJ.1) (k := 0) (j := 11) (v := v) (lo := -2147483648) (hi := 2147483647) (by decide) (R_full _) (by decide) (by decide)
    exact hp r _ ⟨ok.1, TVs_fr ok.2.1 (by decide) hJ.2⟩ ⟨e, SS_ok ok (by decide)⟩
  have no : ¬ ((0 ≤ a1.toInt ∧ a1.toInt < (mI h 8 0).toInt) ∧ (0 ≤ a2.toInt ∧ a2.toInt < (mI h 8 0).toInt) ∧ ¬ a1 = a2) → MCi g yX10_refused uX10_refused [.ref 0, .int 1] h (fun r5 h4 => P r5 h4) := fun q => e_X10_refused 1 (out (-1) 1 (by unfold qC; rw [if_neg q]))
  refine e_X10_square a1 a2 (v_hasRay a1 (fun q1 => ⟨fun y => absurd y (by decide), fun _ => v_hasRay a2 (fun q2 => ⟨fun y => absurd y (by decide), fun _ => ⟨fun ne => ?_, fun eq => no (fun z => z.2.2 eq)⟩⟩) (fun q2 => ⟨fun _ => no (fun z => q2 z.2.1), fun y => absurd rfl y⟩)⟩) (fun q1 => ⟨fun _ => no (fun z => q1 z.1), fun y => absurd rfl y⟩))
  obtain ⟨i, ei⟩ : ∃ i : Nat, a1.toInt = (i : Int) := ⟨a1.toInt.toNat, by omega⟩
  obtain ⟨j, ej⟩ : ∃ j : Nat, a2.toInt = (j : Int) := ⟨a2.toInt.toNat, by omega⟩
  have h18 := r8.2
  refine ⟨i_vp ei (by omega), e_X10_told _ (out _ 0 ?_)⟩
  unfold qC
  rw [if_pos ⟨q1, q2, ne⟩, i_nat ei, bt_s18 ej (by omega), ei, ej, Int.toNat_natCast, Int.toNat_natCast]
theorem w_isRay {g : gT} {h : mh_T} {P : Int32 → mh_T → Prop} (l1 : Int32) (hG : GI h) (h1 : (¬ mI h 11 14 = 0 ∧ 0 ≤ l1.toInt ∧ l1.toInt < (mI h 45 85).toInt) → P 1 h) (h0 : ¬ (¬ mI h 11 14 = 0 ∧ 0 ≤ l1.toInt ∧ l1.toInt < (mI h 45 85).toInt) → P 0 h) : MCi g yX11_isRay uX11_isRay [.ref 11, .int l1] h P := by
  have z0 : (0 : Int32).toInt = 0 := by decide
  have r85 : R 0 18 (mI h 45 85) := GI_rd hG 45 85 (by decide)
  have e1 : (mI h 45 (Int32.toNatClampNeg 85) - 1).toInt = (mI h 45 85).toInt - 1 := by
    rw [show Int32.toNatClampNeg 85 = 85 from by decide]
    exact i_sub rfl (by decide) (by have := r85.1; have := r85.2; omega)
  refine e_X11_isRay l1 ⟨fun z => h0 (fun y => y.1 z), fun z => b_within l1 0 _ (fun y => ⟨fun x => absurd x (by decide), fun _ => ?_⟩) (fun y => ⟨fun _ => ?_, fun x => absurd rfl x⟩)⟩
  · rw [i_le, i_le, z0, e1] at y
    exact h1 ⟨z, by omega⟩
  · rw [i_le, i_le, z0, e1] at y
    exact h0 (fun x => y (by omega))
theorem w_areSquare {g : gT} {h : mh_T} {P : Int32 → mh_T → Prop} {i j : Nat} (l1 l2 : Int32) (e1 : l1.toInt = (i : Int)) (e2 : l2.toInt = (j : Int)) (hi : i < 18) (hj : j < 18) (h1 : dtk (fun q => mI h 45 (86 + q)) i j 4 = 0 → P 1 h) (h0 : ¬ dtk (fun q => mI h 45 (86 + q)) i j 4 = 0 → P 0 h) : MCi g yX11_areSquare uX11_areSquare [.ref 11, .int l1, .int l2] h P := by
  have i4 : (4 : Int32).toInt = 4 := by decide
  have ix : ∀ (l m : Int32) (s o : Nat), l.toInt = (s : Int) → s < 18 → m.toInt = (o : Int) → o < 4 → ((86 + (4 * l)) + m).toInt = ((86 + (4 * s + o) : Nat) : Int) := fun l m s o hl hs hm ho => by
    have a : (4 * l).toInt = 4 * (s : Int) := by
      rw [Int32.toInt_mul, hl, i4, bm (by omega) (by omega)]
    have b : (86 + (4 * l)).toInt = 86 + 4 * (s : Int) := i_add (by decide) a (by omega)
    rw [i_add b hm (by omega)]
    omega
  have L : ∀ (m : Nat) (l3 l4 : Int32) (k : Nat), l4.toInt = (k : Int) → k ≤ 4 → 4 - k < m → l3 = dtk (fun q => mI h 45 (86 + q)) i j k → ME g uX11_areSquare 5 [.ref 11, .int l1, .int l2, .int l3, .int l4] [] h (qI P) := by
    intro m
    induction m with
    | zero => intro l3 l4 k _ _ hm; exact absurd hm (Nat.not_lt_zero _)
    | succ m ih =>
      intro l3 l4 k e4 hk hm e3
      refine r_X11_areSquare_5 l1 l2 l3 l4 ⟨fun z => ?_, fun z => ?_⟩
      · rw [i_le, i4, e4] at z
        have : k = 4 := by omega
        subst this
        rw [e3]
        exact ⟨h0, h1⟩
      · rw [i_le, i4, e4] at z
        have ia := ix l1 l4 i k e1 hi e4 (by omega)
        have ib := ix l2 l4 j k e2 hj e4 (by omega)
        refine ⟨i_vp ia (by omega), i_vp ib (by omega), fun x5 ex => ih x5 (l4 + 1) (k + 1) (i_inc e4 (by omega)) (by omega) (by omega) ?_⟩
        rw [ex, i_nat ia, i_nat ib, e3]
        rfl
  exact e_X11_areSquare l1 l2 (L 5 0 0 0 (by decide) (by omega) (by omega) rfl)
theorem k_X11_square {g : gT} {h : mh_T} {P : Int32 → mh_T → Prop} (a1 a2 : Int32) (hJ : JJ h) (hp : ∀ (r : Int32) (h' : mh_T), JJ h' → (r = qM h a1 a2 ∧ SS h h') → P r h') : MCi g yX11_square uX11_square [.ref 11, .int a1, .int a2] h P := by
  refine e_X11_square a1 a2 (s_X11_good hJ.1 (fun h1 k1 _ => ?_))
  have e45 : ∀ j, mI h1 45 j = mI h 45 j := fun j => Ok_eq k1 (by decide)
  have e14 : mI h1 11 14 = mI h 11 14 := k1.2.2.2.2.1 11 14 (by decide)
  have r85 : R 0 18 (mI h1 45 85) := GI_rd k1.1 45 85 (by decide)
  have out : ∀ (r : Int32) (h' : mh_T), Ok [300, 11] h h' → r = qM h a1 a2 → P r h' := fun r h' ok e => hp r h' ⟨ok.1, TVs_fr ok.2.1 (by decide) hJ.2⟩ ⟨e, SS_ok ok (by decide)⟩
  have no : ¬ (¬ mI h 11 14 = 0 ∧ (0 ≤ a1.toInt ∧ a1.toInt < (mI h 45 85).toInt) ∧ (0 ≤ a2.toInt ∧ a2.toInt < (mI h 45 85).toInt) ∧ ¬ a1 = a2) → MCi g yX11_no uX11_no [.ref 11, .int 1] h1 (fun r6 h5 => P r6 h5) := fun q => s_X11_no 1 k1.1 (fun r h5 k5 fr => out r h5 (Ok_tr k1 k5 (by decide)) (by
    unfold qM
    rw [if_neg q]
    exact Int32.toInt_inj.mp (by have := fr.1; have := fr.2; rw [show (-1 : Int32).toInt = -1 from by decide]; omega)))
  refine w_isRay a1 k1.1 (fun q1 => ⟨fun y => absurd y (by decide), fun _ => w_isRay a2 k1.1 (fun q2 => ⟨fun y => absurd y (by decide), fun _ => ⟨fun eq => no (fun z => z.2.2.2 eq), fun ne => ?_⟩⟩) (fun q2 => ⟨fun _ => no (fun z => q2 (by rw [e14, e45]; exact ⟨z.1, z.2.2.1⟩)), fun y => absurd rfl y⟩)⟩) (fun q1 => ⟨fun _ => no (fun z => q1 (by rw [e14, e45]; exact ⟨z.1, z.2.1⟩)), fun y => absurd rfl y⟩)
  obtain ⟨i, ei⟩ : ∃ i : Nat, a1.toInt = (i : Int) := ⟨a1.toInt.toNat, by omega⟩
  obtain ⟨j, ej⟩ : ∃ j : Nat, a2.toInt = (j : Int) := ⟨a2.toInt.toNat, by omega⟩
  have h18 := r85.2
  have ok : Ok [300, 11] h h1 := k1
  have ed : (fun q => mI h1 45 (86 + q)) = fun q => mI h 45 (86 + q) := by
    funext q
    exact e45 _
  rw [e14, e45] at q1 q2
  have val : qM h a1 a2 = if dtk (fun q => mI h 45 (86 + q)) i j 4 = 0 then 1 else 0 := by
    unfold qM
    rw [if_pos ⟨q1.1, q1.2, q2.2, ne⟩, ei, ej, Int.toNat_natCast, Int.toNat_natCast]
  rw [e45] at h18
  refine w_areSquare a1 a2 ei ej (by omega) (by omega) (fun z => ⟨fun y => absurd y (by decide), fun _ => out 1 h1 ok ?_⟩) (fun z => ⟨fun _ => out 0 h1 ok ?_, fun y => absurd rfl y⟩)
  · rw [ed] at z
    rw [val, if_pos z]
  · rw [ed] at z
    rw [val, if_neg z]
theorem square_r {h h1 h2 : mh_T} {a b r1 r2 : Int32} (he : RR h) (s1 : r1 = qC h a b ∧ SS h h1) (s2 : r2 = qM h1 a b ∧ SS h1 h2) : r1 = r2 := by
  have ry := RY_s s1.2.2 he.2
  have e80 : mI h1 8 0 = mI h 8 0 := s1.2.2.1
  have e32 : ∀ j, mI h1 32 j = mI h 32 j := fun j => congrFun s1.2.2.2.1 j
  rw [s1.1, s2.1]
  unfold qC qM
  rw [← e80, ry.1]
  by_cases q : (0 ≤ a.toInt ∧ a.toInt < (mI h1 45 85).toInt) ∧ (0 ≤ b.toInt ∧ b.toInt < (mI h1 45 85).toInt) ∧ ¬ a = b
  · have nb : ¬ mI h1 11 14 = 0 := fun z => by
      have := q.1
      rw [ry.2.1 z, show (0 : Int32).toInt = 0 from by decide] at this
      omega
    rw [if_pos q]
    have nij : ¬ b.toInt.toNat = a.toInt.toNat := fun z => q.2.2 (Int32.toInt_inj.mp (by omega))
    have k := ry.2.2 a.toInt.toNat b.toInt.toNat (by omega) (by omega) nij
    rw [← e32]
    by_cases z : bt (mI h1 32 a.toInt.toNat) b.toInt.toNat = true
    · rw [if_pos z, if_pos ⟨nb, q⟩, if_pos (k.mp z)]
    · rw [if_neg z, if_pos ⟨nb, q⟩, if_neg (fun y => z (k.mpr y))]
  · rw [if_neg q, if_neg (fun y => q y.2)]
theorem k_X10_fault {g : gT} {h : mh_T} {P : Int32 → mh_T → Prop} (hJ : JJ h) (hp : ∀ (r : Int32) (h' : mh_T), JJ h' → SS h h' → P r h') : MCi g yX10_fault uX10_fault [.ref 0] h P := s_X10_fault  hJ.1 (fun r => hp r h hJ (SS_rf h))
theorem k_X11_fault {g : gT} {h : mh_T} {P : Int32 → mh_T → Prop} (hJ : JJ h) (hp : ∀ (r : Int32) (h' : mh_T), JJ h' → SS h h' → P r h') : MCi g yX11_fault uX11_fault [.ref 11] h P := s_X11_fault  hJ.1 (fun r h' ok => hp r h' ⟨ok.1, TVs_fr ok.2.1 (by decide) hJ.2⟩ (SS_ok ok (by decide)))
theorem k_X10_where {g : gT} {h : mh_T} {P : Int32 → mh_T → Prop} (hJ : JJ h) (hp : ∀ (r : Int32) (h' : mh_T), JJ h' → SS h h' → P r h') : MCi g yX10_where uX10_where [.ref 0] h P := s_X10_where  hJ.1 (fun r => hp r h hJ (SS_rf h))
theorem k_X11_where {g : gT} {h : mh_T} {P : Int32 → mh_T → Prop} (hJ : JJ h) (hp : ∀ (r : Int32) (h' : mh_T), JJ h' → SS h h' → P r h') : MCi g yX11_where uX11_where [.ref 11] h P := s_X11_where  hJ.1 (fun r h' ok => hp r h' ⟨ok.1, TVs_fr ok.2.1 (by decide) hJ.2⟩ (SS_ok ok (by decide)))
theorem k_X10_share {g : gT} {h : mh_T} {P : Int32 → mh_T → Prop} (a1 : Int32) (hJ : JJ h) (hp : ∀ (r : Int32) (h' : mh_T), JJ h' → SS h h' → P r h') : MCi g yX10_share uX10_share [.ref 0, .int a1] h P := s_X10_share a1 hJ.1 (fun r h' ok _ => hp r h' ⟨ok.1, TVs_fr ok.2.1 (by decide) hJ.2⟩ (SS_ok ok (by decide)))
theorem k_X11_share {g : gT} {h : mh_T} {P : Int32 → mh_T → Prop} (a1 : Int32) (hJ : JJ h) (hp : ∀ (r : Int32) (h' : mh_T), JJ h' → SS h h' → P r h') : MCi g yX11_share uX11_share [.ref 11, .int a1] h P := u_X11_share a1 hJ.1 hJ.2 (fun r h' ok _ => hp r h' ⟨ok.1, TVs_fr ok.2.1 (by decide) hJ.2⟩ (SS_ok ok (by decide)))
theorem k_X10_together {g : gT} {h : mh_T} {P : Int32 → mh_T → Prop} (a1 : Int32) (a2 : Int32) (a3 : Int32) (a4 : Int32) (a5 : Int32) (a6 : Int32) (hJ : JJ h) (hp : ∀ (r : Int32) (h' : mh_T), JJ h' → SS h h' → P r h') : MCi g yX10_together uX10_together [.ref 0, .int a1, .int a2, .int a3, .int a4, .int a5, .int a6] h P := s_X10_together a1 a2 a3 a4 a5 a6 hJ.1 (fun r h' ok _ => hp r h' ⟨ok.1, TVs_fr ok.2.1 (by decide) hJ.2⟩ (SS_ok ok (by decide)))
theorem k_X11_together {g : gT} {h : mh_T} {P : Int32 → mh_T → Prop} (a1 : Int32) (a2 : Int32) (a3 : Int32) (a4 : Int32) (a5 : Int32) (a6 : Int32) (hJ : JJ h) (hp : ∀ (r : Int32) (h' : mh_T), JJ h' → SS h h' → P r h') : MCi g yX11_together uX11_together [.ref 11, .int a1, .int a2, .int a3, .int a4, .int a5, .int a6] h P := u_X11_together a1 a2 a3 a4 a5 a6 hJ.1 hJ.2 (fun r h' ok _ => hp r h' ⟨ok.1, TVs_fr ok.2.1 (by decide) hJ.2⟩ (SS_ok ok (by decide)))
theorem k_X10_extend {g : gT} {h : mh_T} {P : Int32 → mh_T → Prop} (a1 : Int32) (a2 : Int32) (hJ : JJ h) (hp : ∀ (r : Int32) (h' : mh_T), JJ h' → SS h h' → P r h') : MCi g yX10_extend uX10_extend [.ref 0, .int a1, .int a2] h P := s_X10_extend a1 a2 hJ.1 (fun r h' ok _ => hp r h' ⟨ok.1, TVs_fr ok.2.1 (by decide) hJ.2⟩ (SS_ok ok (by decide)))
theorem k_X11_extend {g : gT} {h : mh_T} {P : Int32 → mh_T → Prop} (a1 : Int32) (a2 : Int32) (hJ : JJ h) (hp : ∀ (r : Int32) (h' : mh_T), JJ h' → SS h h' → P r h') : MCi g yX11_extend uX11_extend [.ref 11, .int a1, .int a2] h P := s_X11_extend a1 a2 hJ.1 (fun r h' ok _ _ => hp r h' ⟨ok.1, TVs_fr ok.2.1 (by decide) hJ.2⟩ (SS_ok ok (by decide)))
theorem k_X10_level {g : gT} {h : mh_T} {P : Int32 → mh_T → Prop} (hJ : JJ h) (hp : ∀ (r : Int32) (h' : mh_T), JJ h' → SS h h' → P r h') : MCi g yX10_level uX10_level [.ref 0] h P := s_X10_level  hJ.1 (fun r h' ok _ => hp r h' ⟨ok.1, TVs_fr ok.2.1 (by decide) hJ.2⟩ (SS_ok ok (by decide)))
theorem k_X11_level {g : gT} {h : mh_T} {P : Int32 → mh_T → Prop} (hJ : JJ h) (hp : ∀ (r : Int32) (h' : mh_T), JJ h' → SS h h' → P r h') : MCi g yX11_level uX11_level [.ref 11] h P := u_X11_level  hJ.1 hJ.2 (fun r h' ok _ => hp r h' ⟨ok.1, TVs_fr ok.2.1 (by decide) hJ.2⟩ (SS_ok ok (by decide)))
theorem k_X10_hidden {g : gT} {h : mh_T} {P : Int32 → mh_T → Prop} (hJ : JJ h) (hp : ∀ (r : Int32) (h' : mh_T), JJ h' → SS h h' → P r h') : MCi g yX10_hidden uX10_hidden [.ref 0] h P := s_X10_hidden  hJ.1 (fun r h' ok _ => hp r h' ⟨ok.1, TVs_fr ok.2.1 (by decide) hJ.2⟩ (SS_ok ok (by decide)))
theorem k_X11_hidden {g : gT} {h : mh_T} {P : Int32 → mh_T → Prop} (hJ : JJ h) (hp : ∀ (r : Int32) (h' : mh_T), JJ h' → SS h h' → P r h') : MCi g yX11_hidden uX11_hidden [.ref 11] h P := s_X11_hidden  hJ.1 (fun r h' ok _ => hp r h' ⟨ok.1, TVs_fr ok.2.1 (by decide) hJ.2⟩ (SS_ok ok (by decide)))
theorem k_X10_answer {g : gT} {h : mh_T} {P : Int32 → mh_T → Prop} (a1 : Int32) (hJ : JJ h) (hp : ∀ (r : Int32) (h' : mh_T), JJ h' → SS h h' → P r h') : MCi g yX10_answer uX10_answer [.ref 0, .int a1] h P := s_X10_answer a1 hJ.1 (fun r h' ok _ => hp r h' ⟨ok.1, TVs_fr ok.2.1 (by decide) hJ.2⟩ (SS_ok ok (by decide)))
theorem k_X11_answer {g : gT} {h : mh_T} {P : Int32 → mh_T → Prop} (a1 : Int32) (hJ : JJ h) (hp : ∀ (r : Int32) (h' : mh_T), JJ h' → SS h h' → P r h') : MCi g yX11_answer uX11_answer [.ref 11, .int a1] h P := s_X11_answer a1 hJ.1 (fun r h' ok _ _ => hp r h' ⟨ok.1, TVs_fr ok.2.1 (by decide) hJ.2⟩ (SS_ok ok (by decide)))
theorem k_X10_disturbed {g : gT} {h : mh_T} {P : Int32 → mh_T → Prop} (hJ : JJ h) (hp : ∀ (r : Int32) (h' : mh_T), JJ h' → SS h h' → P r h') : MCi g yX10_disturbed uX10_disturbed [.ref 0] h P := s_X10_disturbed  hJ.1 (fun r h' ok _ => hp r h' ⟨ok.1, TVs_fr ok.2.1 (by decide) hJ.2⟩ (SS_ok ok (by decide)))
theorem k_X11_disturbed {g : gT} {h : mh_T} {P : Int32 → mh_T → Prop} (hJ : JJ h) (hp : ∀ (r : Int32) (h' : mh_T), JJ h' → SS h h' → P r h') : MCi g yX11_disturbed uX11_disturbed [.ref 11] h P := s_X11_disturbed  hJ.1 (fun r h' ok _ _ => hp r h' ⟨ok.1, TVs_fr ok.2.1 (by decide) hJ.2⟩ (SS_ok ok (by decide)))
theorem k_X10_same {g : gT} {h : mh_T} {P : Int32 → mh_T → Prop} (a1 : Int32) (hJ : JJ h) (hp : ∀ (r : Int32) (h' : mh_T), JJ h' → SS h h' → P r h') : MCi g yX10_same uX10_same [.ref 0, .int a1] h P := s_X10_same a1 hJ.1 (fun r h' ok _ => hp r h' ⟨ok.1, TVs_fr ok.2.1 (by decide) hJ.2⟩ (SS_ok ok (by decide)))
theorem k_X11_same {g : gT} {h : mh_T} {P : Int32 → mh_T → Prop} (a1 : Int32) (hJ : JJ h) (hp : ∀ (r : Int32) (h' : mh_T), JJ h' → SS h h' → P r h') : MCi g yX11_same uX11_same [.ref 11, .int a1] h P := s_X11_same a1 hJ.1 (fun r h' ok _ => hp r h' ⟨ok.1, TVs_fr ok.2.1 (by decide) hJ.2⟩ (SS_ok ok (by decide)))
theorem k_X10_cycles {g : gT} {h : mh_T} {P : Int32 → mh_T → Prop} (hJ : JJ h) (hp : ∀ (r : Int32) (h' : mh_T), JJ h' → SS h h' → P r h') : MCi g yX10_cycles uX10_cycles [.ref 0] h P := s_X10_cycles  hJ.1 (fun r h' ok _ => hp r h' ⟨ok.1, TVs_fr ok.2.1 (by decide) hJ.2⟩ (SS_ok ok (by decide)))
theorem k_X11_cycles {g : gT} {h : mh_T} {P : Int32 → mh_T → Prop} (hJ : JJ h) (hp : ∀ (r : Int32) (h' : mh_T), JJ h' → SS h h' → P r h') : MCi g yX11_cycles uX11_cycles [.ref 11] h P := s_X11_cycles  hJ.1 (fun r h' ok _ => hp r h' ⟨ok.1, TVs_fr ok.2.1 (by decide) hJ.2⟩ (SS_ok ok (by decide)))
theorem k_X10_cycle {g : gT} {h : mh_T} {P : Int32 → mh_T → Prop} (a1 : Int32) (hJ : JJ h) (hp : ∀ (r : Int32) (h' : mh_T), JJ h' → SS h h' → P r h') : MCi g yX10_cycle uX10_cycle [.ref 0, .int a1] h P := s_X10_cycle a1 hJ.1 (fun r h' ok _ => hp r h' ⟨ok.1, TVs_fr ok.2.1 (by decide) hJ.2⟩ (SS_ok ok (by decide)))
theorem k_X11_cycle {g : gT} {h : mh_T} {P : Int32 → mh_T → Prop} (a1 : Int32) (hJ : JJ h) (hp : ∀ (r : Int32) (h' : mh_T), JJ h' → SS h h' → P r h') : MCi g yX11_cycle uX11_cycle [.ref 11, .int a1] h P := s_X11_cycle a1 hJ.1 (fun r h' ok _ _ => hp r h' ⟨ok.1, TVs_fr ok.2.1 (by decide) hJ.2⟩ (SS_ok ok (by decide)))
theorem k_X10_excess {g : gT} {h : mh_T} {P : Int32 → mh_T → Prop} (a1 : Int32) (hJ : JJ h) (hp : ∀ (r : Int32) (h' : mh_T), JJ h' → SS h h' → P r h') : MCi g yX10_excess uX10_excess [.ref 0, .int a1] h P := s_X10_excess a1 hJ.1 (fun r h' ok _ => hp r h' ⟨ok.1, TVs_fr ok.2.1 (by decide) hJ.2⟩ (SS_ok ok (by decide)))
theorem k_X11_excess {g : gT} {h : mh_T} {P : Int32 → mh_T → Prop} (a1 : Int32) (hJ : JJ h) (hp : ∀ (r : Int32) (h' : mh_T), JJ h' → SS h h' → P r h') : MCi g yX11_excess uX11_excess [.ref 11, .int a1] h P := s_X11_excess a1 hJ.1 (fun r h' ok _ => hp r h' ⟨ok.1, TVs_fr ok.2.1 (by decide) hJ.2⟩ (SS_ok ok (by decide)))
theorem k_X10_widest {g : gT} {h : mh_T} {P : Int32 → mh_T → Prop} (hJ : JJ h) (hp : ∀ (r : Int32) (h' : mh_T), JJ h' → SS h h' → P r h') : MCi g yX10_widest uX10_widest [.ref 0] h P := s_X10_widest  hJ.1 (fun r h' ok _ => hp r h' ⟨ok.1, TVs_fr ok.2.1 (by decide) hJ.2⟩ (SS_ok ok (by decide)))
theorem k_X11_widest {g : gT} {h : mh_T} {P : Int32 → mh_T → Prop} (hJ : JJ h) (hp : ∀ (r : Int32) (h' : mh_T), JJ h' → SS h h' → P r h') : MCi g yX11_widest uX11_widest [.ref 11] h P := s_X11_widest  hJ.1 (fun r h' ok _ _ => hp r h' ⟨ok.1, TVs_fr ok.2.1 (by decide) hJ.2⟩ (SS_ok ok (by decide)))
theorem k_X10_stake {g : gT} {h : mh_T} {P : Int32 → mh_T → Prop} (a1 : Int32) (a2 : Int32) (a3 : Int32) (hJ : JJ h) (hp : ∀ (r : Int32) (h' : mh_T), JJ h' → SS h h' → P r h') : MCi g yX10_stake uX10_stake [.ref 0, .int a1, .int a2, .int a3] h P := s_X10_stake a1 a2 a3 hJ.1 (fun r h' ok _ _ => hp r h' ⟨ok.1, TVs_fr ok.2.1 (by decide) hJ.2⟩ (SS_ok ok (by decide)))
theorem k_X11_stake {g : gT} {h : mh_T} {P : Int32 → mh_T → Prop} (a1 : Int32) (a2 : Int32) (a3 : Int32) (hJ : JJ h) (hp : ∀ (r : Int32) (h' : mh_T), JJ h' → SS h h' → P r h') : MCi g yX11_stake uX11_stake [.ref 11, .int a1, .int a2, .int a3] h P := s_X11_stake a1 a2 a3 hJ.1 (fun r h' ok _ _ => hp r h' ⟨ok.1, TVs_fr ok.2.1 (by decide) hJ.2⟩ (SS_ok ok (by decide)))
theorem k_X10_wins {g : gT} {h : mh_T} {P : Int32 → mh_T → Prop} (hJ : JJ h) (hp : ∀ (r : Int32) (h' : mh_T), JJ h' → SS h h' → P r h') : MCi g yX10_wins uX10_wins [.ref 0] h P := s_X10_wins  hJ.1 (fun r h' ok _ => hp r h' ⟨ok.1, TVs_fr ok.2.1 (by decide) hJ.2⟩ (SS_ok ok (by decide)))
theorem k_X11_wins {g : gT} {h : mh_T} {P : Int32 → mh_T → Prop} (hJ : JJ h) (hp : ∀ (r : Int32) (h' : mh_T), JJ h' → SS h h' → P r h') : MCi g yX11_wins uX11_wins [.ref 11] h P := s_X11_wins  hJ.1 (fun r h' ok _ => hp r h' ⟨ok.1, TVs_fr ok.2.1 (by decide) hJ.2⟩ (SS_ok ok (by decide)))
theorem k_X10_worst {g : gT} {h : mh_T} {P : Int32 → mh_T → Prop} (hJ : JJ h) (hp : ∀ (r : Int32) (h' : mh_T), JJ h' → SS h h' → P r h') : MCi g yX10_worst uX10_worst [.ref 0] h P := s_X10_worst  hJ.1 (fun r h' ok _ => hp r h' ⟨ok.1, TVs_fr ok.2.1 (by decide) hJ.2⟩ (SS_ok ok (by decide)))
theorem k_X11_worst {g : gT} {h : mh_T} {P : Int32 → mh_T → Prop} (hJ : JJ h) (hp : ∀ (r : Int32) (h' : mh_T), JJ h' → SS h h' → P r h') : MCi g yX11_worst uX11_worst [.ref 11] h P := s_X11_worst  hJ.1 (fun r h' ok _ => hp r h' ⟨ok.1, TVs_fr ok.2.1 (by decide) hJ.2⟩ (SS_ok ok (by decide)))
theorem k_X10_worstAt {g : gT} {h : mh_T} {P : Int32 → mh_T → Prop} (hJ : JJ h) (hp : ∀ (r : Int32) (h' : mh_T), JJ h' → SS h h' → P r h') : MCi g yX10_worstAt uX10_worstAt [.ref 0] h P := s_X10_worstAt  hJ.1 (fun r h' ok _ => hp r h' ⟨ok.1, TVs_fr ok.2.1 (by decide) hJ.2⟩ (SS_ok ok (by decide)))
theorem k_X11_worstAt {g : gT} {h : mh_T} {P : Int32 → mh_T → Prop} (hJ : JJ h) (hp : ∀ (r : Int32) (h' : mh_T), JJ h' → SS h h' → P r h') : MCi g yX11_worstAt uX11_worstAt [.ref 11] h P := s_X11_worstAt  hJ.1 (fun r h' ok _ _ => hp r h' ⟨ok.1, TVs_fr ok.2.1 (by decide) hJ.2⟩ (SS_ok ok (by decide)))
theorem k_X10_bars {g : gT} {h : mh_T} {P : Int32 → mh_T → Prop} (hJ : JJ h) (hp : ∀ (r : Int32) (h' : mh_T), JJ h' → SS h h' → P r h') : MCi g yX10_bars uX10_bars [.ref 0] h P := s_X10_bars  hJ.1 (fun r h' ok _ => hp r h' ⟨ok.1, TVs_fr ok.2.1 (by decide) hJ.2⟩ (SS_ok ok (by decide)))
theorem k_X11_bars {g : gT} {h : mh_T} {P : Int32 → mh_T → Prop} (hJ : JJ h) (hp : ∀ (r : Int32) (h' : mh_T), JJ h' → SS h h' → P r h') : MCi g yX11_bars uX11_bars [.ref 11] h P := s_X11_bars  hJ.1 (fun r h' ok _ _ => hp r h' ⟨ok.1, TVs_fr ok.2.1 (by decide) hJ.2⟩ (SS_ok ok (by decide)))
theorem k_X10_fair {g : gT} {h : mh_T} {P : Int32 → mh_T → Prop} (a1 : Int32) (hJ : JJ h) (hp : ∀ (r : Int32) (h' : mh_T), JJ h' → SS h h' → P r h') : MCi g yX10_fair uX10_fair [.ref 0, .int a1] h P := s_X10_fair a1 hJ.1 (fun r h' ok _ => hp r h' ⟨ok.1, TVs_fr ok.2.1 (by decide) hJ.2⟩ (SS_ok ok (by decide)))
theorem k_X11_fair {g : gT} {h : mh_T} {P : Int32 → mh_T → Prop} (a1 : Int32) (hJ : JJ h) (hp : ∀ (r : Int32) (h' : mh_T), JJ h' → SS h h' → P r h') : MCi g yX11_fair uX11_fair [.ref 11, .int a1] h P := s_X11_fair a1 hJ.1 (fun r h' ok _ => hp r h' ⟨ok.1, TVs_fr ok.2.1 (by decide) hJ.2⟩ (SS_ok ok (by decide)))
theorem k_X10_ways {g : gT} {h : mh_T} {P : Int32 → mh_T → Prop} (hJ : JJ h) (hp : ∀ (r : Int32) (h' : mh_T), JJ h' → SS h h' → P r h') : MCi g yX10_ways uX10_ways [.ref 0] h P := s_X10_ways  hJ.1 (fun r h' ok _ => hp r h' ⟨ok.1, TVs_fr ok.2.1 (by decide) hJ.2⟩ (SS_ok ok (by decide)))
theorem k_X11_ways {g : gT} {h : mh_T} {P : Int32 → mh_T → Prop} (hJ : JJ h) (hp : ∀ (r : Int32) (h' : mh_T), JJ h' → SS h h' → P r h') : MCi g yX11_ways uX11_ways [.ref 11] h P := s_X11_ways  hJ.1 (fun r h' ok _ => hp r h' ⟨ok.1, TVs_fr ok.2.1 (by decide) hJ.2⟩ (SS_ok ok (by decide)))
theorem k_X10_forced {g : gT} {h : mh_T} {P : Int32 → mh_T → Prop} (a1 : Int32) (hJ : JJ h) (hp : ∀ (r : Int32) (h' : mh_T), JJ h' → SS h h' → P r h') : MCi g yX10_forced uX10_forced [.ref 0, .int a1] h P := s_X10_forced a1 hJ.1 (fun r h' ok _ => hp r h' ⟨ok.1, TVs_fr ok.2.1 (by decide) hJ.2⟩ (SS_ok ok (by decide)))
theorem k_X11_forced {g : gT} {h : mh_T} {P : Int32 → mh_T → Prop} (a1 : Int32) (hJ : JJ h) (hp : ∀ (r : Int32) (h' : mh_T), JJ h' → SS h h' → P r h') : MCi g yX11_forced uX11_forced [.ref 11, .int a1] h P := s_X11_forced a1 hJ.1 (fun r h' ok _ _ => hp r h' ⟨ok.1, TVs_fr ok.2.1 (by decide) hJ.2⟩ (SS_ok ok (by decide)))
theorem k_X10_core {g : gT} {h : mh_T} {P : Int32 → mh_T → Prop} (hJ : JJ h) (hp : ∀ (r : Int32) (h' : mh_T), JJ h' → SS h h' → P r h') : MCi g yX10_core uX10_core [.ref 0] h P := s_X10_core  hJ.1 (fun r h' ok _ => hp r h' ⟨ok.1, TVs_fr ok.2.1 (by decide) hJ.2⟩ (SS_ok ok (by decide)))
theorem k_X11_core {g : gT} {h : mh_T} {P : Int32 → mh_T → Prop} (hJ : JJ h) (hp : ∀ (r : Int32) (h' : mh_T), JJ h' → SS h h' → P r h') : MCi g yX11_core uX11_core [.ref 11] h P := s_X11_core  hJ.1 (fun r h' ok _ _ => hp r h' ⟨ok.1, TVs_fr ok.2.1 (by decide) hJ.2⟩ (SS_ok ok (by decide)))
theorem k_X10_can {g : gT} {h : mh_T} {P : Int32 → mh_T → Prop} (a1 : Int32) (hJ : JJ h) (hp : ∀ (r : Int32) (h' : mh_T), JJ h' → SS h h' → P r h') : MCi g yX10_can uX10_can [.ref 0, .int a1] h P := s_X10_can a1 hJ.1 (fun r h' ok _ => hp r h' ⟨ok.1, TVs_fr ok.2.1 (by decide) hJ.2⟩ (SS_ok ok (by decide)))
theorem k_X11_can {g : gT} {h : mh_T} {P : Int32 → mh_T → Prop} (a1 : Int32) (hJ : JJ h) (hp : ∀ (r : Int32) (h' : mh_T), JJ h' → SS h h' → P r h') : MCi g yX11_can uX11_can [.ref 11, .int a1] h P := s_X11_can a1 hJ.1 (fun r h' ok _ _ => hp r h' ⟨ok.1, TVs_fr ok.2.1 (by decide) hJ.2⟩ (SS_ok ok (by decide)))
theorem k_X10_game {g : gT} {h : mh_T} {P : Int32 → mh_T → Prop} (hJ : JJ h) (hp : ∀ (r : Int32) (h' : mh_T), JJ h' → SS h h' → P r h') : MCi g yX10_game uX10_game [.ref 0] h P := s_X10_game  hJ.1 (fun r h' ok _ => hp r h' ⟨ok.1, TVs_fr ok.2.1 (by decide) hJ.2⟩ (SS_ok ok (by decide)))
theorem k_X11_game {g : gT} {h : mh_T} {P : Int32 → mh_T → Prop} (hJ : JJ h) (hp : ∀ (r : Int32) (h' : mh_T), JJ h' → SS h h' → P r h') : MCi g yX11_game uX11_game [.ref 11] h P := s_X11_game  hJ.1 (fun r h' ok _ => hp r h' ⟨ok.1, TVs_fr ok.2.1 (by decide) hJ.2⟩ (SS_ok ok (by decide)))
theorem k_X10_corners {g : gT} {h : mh_T} {P : Int32 → mh_T → Prop} (hJ : JJ h) (hp : ∀ (r : Int32) (h' : mh_T), JJ h' → SS h h' → P r h') : MCi g yX10_corners uX10_corners [.ref 0] h P := s_X10_corners  hJ.1 (fun r h' ok _ => hp r h' ⟨ok.1, TVs_fr ok.2.1 (by decide) hJ.2⟩ (SS_ok ok (by decide)))
theorem k_X11_corners {g : gT} {h : mh_T} {P : Int32 → mh_T → Prop} (hJ : JJ h) (hp : ∀ (r : Int32) (h' : mh_T), JJ h' → SS h h' → P r h') : MCi g yX11_corners uX11_corners [.ref 11] h P := s_X11_corners  hJ.1 (fun r h' ok _ _ => hp r h' ⟨ok.1, TVs_fr ok.2.1 (by decide) hJ.2⟩ (SS_ok ok (by decide)))
theorem k_X10_colours {g : gT} {h : mh_T} {P : Int32 → mh_T → Prop} (hJ : JJ h) (hp : ∀ (r : Int32) (h' : mh_T), JJ h' → SS h h' → P r h') : MCi g yX10_colours uX10_colours [.ref 0] h P := s_X10_colours  hJ.1 (fun r h' ok _ => hp r h' ⟨ok.1, TVs_fr ok.2.1 (by decide) hJ.2⟩ (SS_ok ok (by decide)))
theorem k_X11_colours {g : gT} {h : mh_T} {P : Int32 → mh_T → Prop} (hJ : JJ h) (hp : ∀ (r : Int32) (h' : mh_T), JJ h' → SS h h' → P r h') : MCi g yX11_colours uX11_colours [.ref 11] h P := s_X11_colours  hJ.1 (fun r h' ok _ => hp r h' ⟨ok.1, TVs_fr ok.2.1 (by decide) hJ.2⟩ (SS_ok ok (by decide)))
theorem k_X10_ones {g : gT} {h : mh_T} {P : Int32 → mh_T → Prop} (hJ : JJ h) (hp : ∀ (r : Int32) (h' : mh_T), JJ h' → SS h h' → P r h') : MCi g yX10_ones uX10_ones [.ref 0] h P := s_X10_ones  hJ.1 (fun r h' ok _ => hp r h' ⟨ok.1, TVs_fr ok.2.1 (by decide) hJ.2⟩ (SS_ok ok (by decide)))
theorem k_X11_ones {g : gT} {h : mh_T} {P : Int32 → mh_T → Prop} (hJ : JJ h) (hp : ∀ (r : Int32) (h' : mh_T), JJ h' → SS h h' → P r h') : MCi g yX11_ones uX11_ones [.ref 11] h P := s_X11_ones  hJ.1 (fun r h' ok _ => hp r h' ⟨ok.1, TVs_fr ok.2.1 (by decide) hJ.2⟩ (SS_ok ok (by decide)))
theorem k_X10_spare {g : gT} {h : mh_T} {P : Int32 → mh_T → Prop} (hJ : JJ h) (hp : ∀ (r : Int32) (h' : mh_T), JJ h' → SS h h' → P r h') : MCi g yX10_spare uX10_spare [.ref 0] h P := s_X10_spare  hJ.1 (fun r h' ok _ => hp r h' ⟨ok.1, TVs_fr ok.2.1 (by decide) hJ.2⟩ (SS_ok ok (by decide)))
theorem k_X11_spare {g : gT} {h : mh_T} {P : Int32 → mh_T → Prop} (hJ : JJ h) (hp : ∀ (r : Int32) (h' : mh_T), JJ h' → SS h h' → P r h') : MCi g yX11_spare uX11_spare [.ref 11] h P := s_X11_spare  hJ.1 (fun r h' ok _ _ => hp r h' ⟨ok.1, TVs_fr ok.2.1 (by decide) hJ.2⟩ (SS_ok ok (by decide)))
theorem k_X10_critical {g : gT} {h : mh_T} {P : Int32 → mh_T → Prop} (hJ : JJ h) (hp : ∀ (r : Int32) (h' : mh_T), JJ h' → SS h h' → P r h') : MCi g yX10_critical uX10_critical [.ref 0] h P := s_X10_critical  hJ.1 (fun r h' ok _ => hp r h' ⟨ok.1, TVs_fr ok.2.1 (by decide) hJ.2⟩ (SS_ok ok (by decide)))
theorem k_X11_critical {g : gT} {h : mh_T} {P : Int32 → mh_T → Prop} (hJ : JJ h) (hp : ∀ (r : Int32) (h' : mh_T), JJ h' → SS h h' → P r h') : MCi g yX11_critical uX11_critical [.ref 11] h P := s_X11_critical  hJ.1 (fun r h' ok _ _ => hp r h' ⟨ok.1, TVs_fr ok.2.1 (by decide) hJ.2⟩ (SS_ok ok (by decide)))
theorem k_X10_memory {g : gT} {h : mh_T} {P : Int32 → mh_T → Prop} (hJ : JJ h) (hp : ∀ (r : Int32) (h' : mh_T), JJ h' → SS h h' → P r h') : MCi g yX10_memory uX10_memory [.ref 0] h P := s_X10_memory  hJ.1 (fun r h' ok _ => hp r h' ⟨ok.1, TVs_fr ok.2.1 (by decide) hJ.2⟩ (SS_ok ok (by decide)))
theorem k_X11_memory {g : gT} {h : mh_T} {P : Int32 → mh_T → Prop} (hJ : JJ h) (hp : ∀ (r : Int32) (h' : mh_T), JJ h' → SS h h' → P r h') : MCi g yX11_memory uX11_memory [.ref 11] h P := s_X11_memory  hJ.1 (fun r h' ok _ _ => hp r h' ⟨ok.1, TVs_fr ok.2.1 (by decide) hJ.2⟩ (SS_ok ok (by decide)))
theorem k_X10_machine {g : gT} {h : mh_T} {P : Int32 → mh_T → Prop} (a1 : Int32) (a2 : Int32) (a3 : Int32) (hJ : JJ h) (hp : ∀ (r : Int32) (h' : mh_T), JJ h' → SS h h' → P r h') : MCi g yX10_machine uX10_machine [.ref 0, .int a1, .int a2, .int a3] h P := s_X10_machine a1 a2 a3 hJ.1 (fun r h' ok _ => hp r h' ⟨ok.1, TVs_fr ok.2.1 (by decide) hJ.2⟩ (SS_ok ok (by decide)))
theorem k_X11_machine {g : gT} {h : mh_T} {P : Int32 → mh_T → Prop} (a1 : Int32) (a2 : Int32) (a3 : Int32) (hJ : JJ h) (hp : ∀ (r : Int32) (h' : mh_T), JJ h' → SS h h' → P r h') : MCi g yX11_machine uX11_machine [.ref 11, .int a1, .int a2, .int a3] h P := s_X11_machine a1 a2 a3 hJ.1 (fun r h' ok _ _ => hp r h' ⟨ok.1, TVs_fr ok.2.1 (by decide) hJ.2⟩ (SS_ok ok (by decide)))
theorem k_X10_flip {g : gT} {h : mh_T} {P : Int32 → mh_T → Prop} (a1 : Int32) (hJ : JJ h) (hp : ∀ (r : Int32) (h' : mh_T), JJ h' → SS h h' → P r h') : MCi g yX10_flip uX10_flip [.ref 0, .int a1] h P := s_X10_flip a1 hJ.1 (fun r h' ok _ _ => hp r h' ⟨ok.1, TVs_fr ok.2.1 (by decide) hJ.2⟩ (SS_ok ok (by decide)))
theorem k_X11_flip {g : gT} {h : mh_T} {P : Int32 → mh_T → Prop} (a1 : Int32) (hJ : JJ h) (hp : ∀ (r : Int32) (h' : mh_T), JJ h' → SS h h' → P r h') : MCi g yX11_flip uX11_flip [.ref 11, .int a1] h P := u_X11_flip a1 hJ.1 hJ.2 (fun r h' ok t _ => hp r h' ⟨ok.1, t⟩ (SS_ok ok (by decide)))
theorem k_X10_drop {g : gT} {h : mh_T} {P : Int32 → mh_T → Prop} (a1 : Int32) (hJ : JJ h) (hp : ∀ (r : Int32) (h' : mh_T), JJ h' → SS h h' → P r h') : MCi g yX10_drop uX10_drop [.ref 0, .int a1] h P := s_X10_drop a1 hJ.1 (fun r h' ok _ _ => hp r h' ⟨ok.1, TVs_fr ok.2.1 (by decide) hJ.2⟩ (SS_ok ok (by decide)))
theorem k_X11_drop {g : gT} {h : mh_T} {P : Int32 → mh_T → Prop} (a1 : Int32) (hJ : JJ h) (hp : ∀ (r : Int32) (h' : mh_T), JJ h' → SS h h' → P r h') : MCi g yX11_drop uX11_drop [.ref 11, .int a1] h P := u_X11_drop a1 hJ.1 hJ.2 (fun r h' ok t _ => hp r h' ⟨ok.1, t⟩ (SS_ok ok (by decide)))
theorem k_X10_forget {g : gT} {h : mh_T} {P : Int32 → mh_T → Prop} (a1 : Int32) (hJ : JJ h) (hp : ∀ (r : Int32) (h' : mh_T), JJ h' → SS h h' → P r h') : MCi g yX10_forget uX10_forget [.ref 0, .int a1] h P := s_X10_forget a1 hJ.1 (fun r h' ok _ _ => hp r h' ⟨ok.1, TVs_fr ok.2.1 (by decide) hJ.2⟩ (SS_ok ok (by decide)))
theorem k_X11_forget {g : gT} {h : mh_T} {P : Int32 → mh_T → Prop} (a1 : Int32) (hJ : JJ h) (hp : ∀ (r : Int32) (h' : mh_T), JJ h' → SS h h' → P r h') : MCi g yX11_forget uX11_forget [.ref 11, .int a1] h P := u_X11_forget a1 hJ.1 hJ.2 (fun r h' ok t _ => hp r h' ⟨ok.1, t⟩ (SS_ok ok (by decide)))
theorem k_X10_shift {g : gT} {h : mh_T} {P : Int32 → mh_T → Prop} (a1 : Int32) (a2 : Int32) (a3 : Int32) (a4 : Int32) (hJ : JJ h) (hp : ∀ (r : Int32) (h' : mh_T), JJ h' → SS h h' → P r h') : MCi g yX10_shift uX10_shift [.ref 0, .int a1, .int a2, .int a3, .int a4] h P := s_X10_shift a1 a2 a3 a4 hJ.1 (fun r h' ok _ _ => hp r h' ⟨ok.1, TVs_fr ok.2.1 (by decide) hJ.2⟩ (SS_ok ok (by decide)))
theorem k_X11_shift {g : gT} {h : mh_T} {P : Int32 → mh_T → Prop} (a1 : Int32) (a2 : Int32) (a3 : Int32) (a4 : Int32) (hJ : JJ h) (hp : ∀ (r : Int32) (h' : mh_T), JJ h' → SS h h' → P r h') : MCi g yX11_shift uX11_shift [.ref 11, .int a1, .int a2, .int a3, .int a4] h P := u_X11_shift a1 a2 a3 a4 hJ.1 hJ.2 (fun r h' ok t _ => hp r h' ⟨ok.1, t⟩ (SS_ok ok (by decide)))
theorem k_X10_undo {g : gT} {h : mh_T} {P : Int32 → mh_T → Prop} (hJ : JJ h) (hp : ∀ (r : Int32) (h' : mh_T), JJ h' → SS h h' → P r h') : MCi g yX10_undo uX10_undo [.ref 0] h P := s_X10_undo  hJ.1 (fun r h' ok _ _ => hp r h' ⟨ok.1, TVs_fr ok.2.1 (by decide) hJ.2⟩ (SS_ok ok (by decide)))
theorem k_X11_undo {g : gT} {h : mh_T} {P : Int32 → mh_T → Prop} (hJ : JJ h) (hp : ∀ (r : Int32) (h' : mh_T), JJ h' → SS h h' → P r h') : MCi g yX11_undo uX11_undo [.ref 11] h P := u_X11_undo  hJ.1 hJ.2 (fun r h' ok t _ => hp r h' ⟨ok.1, t⟩ (SS_ok ok (by decide)))
theorem k_X10_redo {g : gT} {h : mh_T} {P : Int32 → mh_T → Prop} (hJ : JJ h) (hp : ∀ (r : Int32) (h' : mh_T), JJ h' → SS h h' → P r h') : MCi g yX10_redo uX10_redo [.ref 0] h P := s_X10_redo  hJ.1 (fun r h' ok _ _ => hp r h' ⟨ok.1, TVs_fr ok.2.1 (by decide) hJ.2⟩ (SS_ok ok (by decide)))
theorem k_X11_redo {g : gT} {h : mh_T} {P : Int32 → mh_T → Prop} (hJ : JJ h) (hp : ∀ (r : Int32) (h' : mh_T), JJ h' → SS h h' → P r h') : MCi g yX11_redo uX11_redo [.ref 11] h P := u_X11_redo  hJ.1 hJ.2 (fun r h' ok t _ => hp r h' ⟨ok.1, t⟩ (SS_ok ok (by decide)))
theorem k_X10_mark {g : gT} {h : mh_T} {P : Int32 → mh_T → Prop} (hJ : JJ h) (hp : ∀ (r : Int32) (h' : mh_T), JJ h' → SS h h' → P r h') : MCi g yX10_mark uX10_mark [.ref 0] h P := s_X10_mark  hJ.1 (fun r h' ok _ => hp r h' ⟨ok.1, TVs_fr ok.2.1 (by decide) hJ.2⟩ (SS_ok ok (by decide)))
theorem k_X11_mark {g : gT} {h : mh_T} {P : Int32 → mh_T → Prop} (hJ : JJ h) (hp : ∀ (r : Int32) (h' : mh_T), JJ h' → SS h h' → P r h') : MCi g yX11_mark uX11_mark [.ref 11] h P := u_X11_mark  hJ.1 hJ.2 (fun r h' ok t _ => hp r h' ⟨ok.1, t⟩ (SS_ok ok (by decide)))
theorem k_X10_back {g : gT} {h : mh_T} {P : Int32 → mh_T → Prop} (a1 : Int32) (hJ : JJ h) (hp : ∀ (r : Int32) (h' : mh_T), JJ h' → SS h h' → P r h') : MCi g yX10_back uX10_back [.ref 0, .int a1] h P := s_X10_back a1 hJ.1 (fun r h' ok _ _ => hp r h' ⟨ok.1, TVs_fr ok.2.1 (by decide) hJ.2⟩ (SS_ok ok (by decide)))
theorem k_X11_back {g : gT} {h : mh_T} {P : Int32 → mh_T → Prop} (a1 : Int32) (hJ : JJ h) (hp : ∀ (r : Int32) (h' : mh_T), JJ h' → SS h h' → P r h') : MCi g yX11_back uX11_back [.ref 11, .int a1] h P := u_X11_back a1 hJ.1 hJ.2 (fun r h' ok t _ => hp r h' ⟨ok.1, t⟩ (SS_ok ok (by decide)))
theorem k_X10_act {g : gT} {h : mh_T} {P : Int32 → mh_T → Prop} (a1 : Int32) (a2 : Int32) (hJ : JJ h) (hp : ∀ (r : Int32) (h' : mh_T), JJ h' → SS h h' → P r h') : MCi g yX10_act uX10_act [.ref 0, .int a1, .int a2] h P := s_X10_act a1 a2 hJ.1 (fun r h' ok _ => hp r h' ⟨ok.1, TVs_fr ok.2.1 (by decide) hJ.2⟩ (SS_ok ok (by decide)))
theorem k_X11_act {g : gT} {h : mh_T} {P : Int32 → mh_T → Prop} (a1 : Int32) (a2 : Int32) (hJ : JJ h) (hp : ∀ (r : Int32) (h' : mh_T), JJ h' → SS h h' → P r h') : MCi g yX11_act uX11_act [.ref 11, .int a1, .int a2] h P := s_X11_act a1 a2 hJ.1 (fun r h' ok _ => hp r h' ⟨ok.1, TVs_fr ok.2.1 (by decide) hJ.2⟩ (SS_ok ok (by decide)))
theorem k_X10_times {g : gT} {h : mh_T} {P : Int32 → mh_T → Prop} (a1 : Int32) (a2 : Int32) (hJ : JJ h) (hp : ∀ (r : Int32) (h' : mh_T), JJ h' → SS h h' → P r h') : MCi g yX10_times uX10_times [.ref 0, .int a1, .int a2] h P := s_X10_times a1 a2 hJ.1 (fun r h' ok _ => hp r h' ⟨ok.1, TVs_fr ok.2.1 (by decide) hJ.2⟩ (SS_ok ok (by decide)))
theorem k_X11_times {g : gT} {h : mh_T} {P : Int32 → mh_T → Prop} (a1 : Int32) (a2 : Int32) (hJ : JJ h) (hp : ∀ (r : Int32) (h' : mh_T), JJ h' → SS h h' → P r h') : MCi g yX11_times uX11_times [.ref 11, .int a1, .int a2] h P := s_X11_times a1 a2 hJ.1 (fun r h' ok _ => hp r h' ⟨ok.1, TVs_fr ok.2.1 (by decide) hJ.2⟩ (SS_ok ok (by decide)))
theorem k_X10_look {g : gT} {h : mh_T} {P : Int32 → mh_T → Prop} (a1 : Int32) (a2 : Int32) (hJ : JJ h) (hp : ∀ (r : Int32) (h' : mh_T), JJ h' → SS h h' → P r h') : MCi g yX10_look uX10_look [.ref 0, .int a1, .int a2] h P := s_X10_look a1 a2 hJ.1 (fun r h' ok _ => hp r h' ⟨ok.1, TVs_fr ok.2.1 (by decide) hJ.2⟩ (SS_ok ok (by decide)))
theorem k_X11_look {g : gT} {h : mh_T} {P : Int32 → mh_T → Prop} (a1 : Int32) (a2 : Int32) (hJ : JJ h) (hp : ∀ (r : Int32) (h' : mh_T), JJ h' → SS h h' → P r h') : MCi g yX11_look uX11_look [.ref 11, .int a1, .int a2] h P := s_X11_look a1 a2 hJ.1 (fun r h' ok _ _ => hp r h' ⟨ok.1, TVs_fr ok.2.1 (by decide) hJ.2⟩ (SS_ok ok (by decide)))
theorem k_X10_coins {g : gT} {h : mh_T} {P : Int32 → mh_T → Prop} (a1 : Int32) (a2 : Int32) (hJ : JJ h) (hp : ∀ (r : Int32) (h' : mh_T), JJ h' → SS h h' → P r h') : MCi g yX10_coins uX10_coins [.ref 0, .int a1, .int a2] h P := s_X10_coins a1 a2 hJ.1 (fun r h' ok _ => hp r h' ⟨ok.1, TVs_fr ok.2.1 (by decide) hJ.2⟩ (SS_ok ok (by decide)))
theorem k_X11_coins {g : gT} {h : mh_T} {P : Int32 → mh_T → Prop} (a1 : Int32) (a2 : Int32) (hJ : JJ h) (hp : ∀ (r : Int32) (h' : mh_T), JJ h' → SS h h' → P r h') : MCi g yX11_coins uX11_coins [.ref 11, .int a1, .int a2] h P := s_X11_coins a1 a2 hJ.1 (fun r h' ok _ => hp r h' ⟨ok.1, TVs_fr ok.2.1 (by decide) hJ.2⟩ (SS_ok ok (by decide)))
theorem k_X10_size {g : gT} {h : mh_T} {P : Int32 → mh_T → Prop} (a1 : Int32) (hJ : JJ h) (hp : ∀ (r : Int32) (h' : mh_T), JJ h' → SS h h' → P r h') : MCi g yX10_size uX10_size [.ref 0, .int a1] h P := s_X10_size a1 hJ.1 (fun r _ => hp r h hJ (SS_rf h))
theorem k_X11_size {g : gT} {h : mh_T} {P : Int32 → mh_T → Prop} (a1 : Int32) (hJ : JJ h) (hp : ∀ (r : Int32) (h' : mh_T), JJ h' → SS h h' → P r h') : MCi g yX11_size uX11_size [.ref 11, .int a1] h P := s_X11_size a1 hJ.1 (fun r h' ok _ => hp r h' ⟨ok.1, TVs_fr ok.2.1 (by decide) hJ.2⟩ (SS_ok ok (by decide)))
theorem k_X10_trouble {g : gT} {h : mh_T} {P : Int32 → mh_T → Prop} (hJ : JJ h) (hp : ∀ (r : Int32) (h' : mh_T), JJ h' → SS h h' → P r h') : MCi g yX10_trouble uX10_trouble [.ref 0] h P := s_X10_trouble  hJ.1 (fun r => hp r h hJ (SS_rf h))
theorem k_X11_trouble {g : gT} {h : mh_T} {P : Int32 → mh_T → Prop} (hJ : JJ h) (hp : ∀ (r : Int32) (h' : mh_T), JJ h' → SS h h' → P r h') : MCi g yX11_trouble uX11_trouble [.ref 11] h P := s_X11_trouble  hJ.1 (fun r h' ok => hp r h' ⟨ok.1, TVs_fr ok.2.1 (by decide) hJ.2⟩ (SS_ok ok (by decide)))
theorem k_X11_led {g : gT} {h : mh_T} {P : Int32 → mh_T → Prop} (a1 : Int32) (hJ : JJ h) (hp : ∀ (r : Int32) (h' : mh_T), JJ h' → SS h h' → P r h') : MCi g yX11_led uX11_led [.ref 11, .int a1] h P := s_X11_led a1 hJ.1 (fun r h' ok _ => hp r h' ⟨ok.1, TVs_fr ok.2.1 (by decide) hJ.2⟩ (SS_ok ok (by decide)))
