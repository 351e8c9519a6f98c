/-! the law's calls -/
def JJ (h : mh_T) : Prop := GI h ∧ TVs h
/-- what the calls but feed and book leave -/
def SS (h h' : mh_T) : Prop := (mI h' 0 10 = mI h 0 10 ∧ mI h' 11 2 = mI h 11 2 ∧ h'.1 12 = h.1 12 ∧ h'.1 43 = h.1 43) ∧ Sl h h'
/-- both tapes hold the same bytes; both keep the same fault -/
def RT (h : mh_T) : Prop := mI h 0 10 = mI h 11 2 ∧ ∀ j : Nat, (j : Int) < (mI h 0 10).toInt → mI h 12 j = mI h 43 j ∧ 0 ≤ (mI h 43 j).toInt
/-- and both or none have refused a text, and then at the same place -/
def RR (h : mh_T) : Prop := RT h ∧ (mI h 0 11 = 4 ↔ mI h 11 11 = 4) ∧ (mI h 0 11 = 4 → mI h 0 13 = mI h 11 10)
def SA (h h' : mh_T) : Prop := SS h h' ∧ ¬ mI h' 0 11 = 4 ∧ mI h' 11 11 = mI h 11 11
def SB (h h' : mh_T) : Prop := SS h h' ∧ mI h' 0 11 = mI h 0 11 ∧ ¬ mI h' 11 11 = 4
def SU (h h' : mh_T) : Prop := SS h h' ∧ mI h' 0 11 = mI h 0 11 ∧ mI h' 11 11 = mI h 11 11
theorem SS_rf (h : mh_T) : SS h h := ⟨⟨rfl, rfl, rfl, rfl⟩, fun _ _ => rfl, fun _ _ => rfl⟩
theorem SS_wL {h : mh_T} {k j : Nat} {v : Int64} : SS h (wL h k j v) := ⟨⟨rfl, rfl, rfl, rfl⟩, fun _ _ => rfl, fun _ _ => rfl⟩
theorem SS_ok {ms : List Nat} {h h' : mh_T} (ok : Ok ms h h') (hm : 12 ∉ ms ∧ 43 ∉ ms) : SS h h' := ⟨⟨ok.2.2.1, ok.2.2.2.1, OkC ok ⟨by decide, hm.1⟩, OkC ok ⟨by decide, hm.2⟩⟩, ok.2.2.2.2.1⟩
theorem SA_ok {ms : List Nat} {h h' : mh_T} (ok : Ok ms h h') (hm : 12 ∉ ms ∧ 43 ∉ ms ∧ 11 ∉ ms) (t : ¬ mI h' 0 11 = 4) : SA h h' := ⟨SS_ok ok ⟨hm.1, hm.2.1⟩, t, congrFun (OkC ok ⟨by decide, hm.2.2⟩) 11⟩
theorem SB_ok {ms : List Nat} {h h' : mh_T} (ok : Ok ms h h') (hm : 12 ∉ ms ∧ 43 ∉ ms ∧ 0 ∉ ms) (t : ¬ mI h' 11 11 = 4) : SB h h' := ⟨SS_ok ok ⟨hm.1, hm.2.1⟩, congrFun (OkC ok ⟨by decide, hm.2.2⟩) 11, t⟩
theorem SU_ok {ms : List Nat} {h h' : mh_T} (ok : Ok ms h h') (hm : 12 ∉ ms ∧ 43 ∉ ms ∧ 0 ∉ ms ∧ 300 ∉ ms) : SU h h' := ⟨SS_ok ok ⟨hm.1, hm.2.1⟩, congrFun (OkC ok ⟨by decide, hm.2.2.1⟩) 11, ok.2.2.2.2.2.1.resolve_left hm.2.2.2⟩
theorem SU_rf (h : mh_T) : SU h h := ⟨SS_rf h, rfl, rfl⟩
theorem RT_s {h h' : mh_T} (s : SS h h') (r : RT h) : RT h' := by
  have e12 : ∀ j, mI h' 12 j = mI h 12 j := fun j => congrFun s.1.2.2.1 j
  have e43 : ∀ j, mI h' 43 j = mI h 43 j := fun j => congrFun s.1.2.2.2 j
  unfold RT
  rw [s.1.1, s.1.2.1]
  exact ⟨r.1, fun j hj => by rw [e12, e43]; exact r.2 j hj⟩
theorem RR_t {h h1 h2 : mh_T} (r : RR h) (s1 : SA h h1) (s2 : SB h1 h2) : RR h2 := by
  refine ⟨RT_s s2.1 (RT_s s1.1 r.1), ?_, ?_⟩
  · rw [s2.2.1]
    exact ⟨fun z => absurd z s1.2.1, fun z => absurd z s2.2.2⟩
  · rw [s2.2.1]
    exact fun z => absurd z s1.2.1
theorem RR_u {h h1 h2 : mh_T} (r : RR h) (s1 : SU h h1) (s2 : SU h1 h2) : RR h2 := by
  refine ⟨RT_s s2.1 (RT_s s1.1 r.1), ?_, ?_⟩
  · rw [s2.2.1, s1.2.1, s2.2.2, s1.2.2]
    exact r.2.1
  · rw [s2.2.1, s1.2.1, s2.1.2.1 13 (by omega), s1.1.2.1 13 (by omega), s2.1.2.2 10 (by omega), s1.1.2.2 10 (by omega)]
    exact r.2.2
abbrev SL := SU
theorem SL_rf (h : mh_T) : SL h h := SU_rf h
theorem SL_wL {h : mh_T} {k j : Nat} {v : Int64} : SL h (wL h k j v) := ⟨SS_wL, rfl, rfl⟩
theorem RR_l {h h1 h2 : mh_T} (he : RR h) (s1 : SL h h1) (s2 : SL h1 h2) : RR h2 := RR_u he s1 s2
theorem l_in {i c : Int32} {k d n : Nat} (ei : i.toInt = (k : Int)) (hc : c.toInt = (d : Int)) (h : k + d < n) (hn : n < 2147483647) : vp_in (i + c) n := i_vp (i_off ei c d hc (by omega)) h
def S5 (h h' : mh_T) : Prop := Sl h h' ∧ mI h' 0 11 = mI h 0 11 ∧ mI h' 11 11 = mI h 11 11
def FA (a1 a2 a3 a4 a5 : Int32) (h : mh_T) (r : Int32) (h' : mh_T) : Prop := S5 h h' ∧ (mI h' 11 2 = mI h 11 2 ∧ h'.1 43 = h.1 43) ∧ ((mI h 0 10).toInt ≤ 880 → ((mI h' 0 10).toInt = (mI h 0 10).toInt + 20 ∧ r = mI h' 0 10) ∧ (∀ i : Nat, (i : Int) < (mI h 0 10).toInt → mI h' 12 i = mI h 12 i) ∧ ∀ m, m < 20 → mI h' 12 ((mI h 0 10).toInt.toNat + m) = fw a1 a2 a3 a4 a5 m) ∧ (¬ (mI h 0 10).toInt ≤ 880 → (mI h' 0 10 = mI h 0 10 ∧ r = -1) ∧ h'.1 12 = h.1 12)
def FB (a1 a2 a3 a4 a5 : Int32) (h : mh_T) (r : Int32) (h' : mh_T) : Prop := S5 h h' ∧ (mI h' 0 10 = mI h 0 10 ∧ h'.1 12 = h.1 12) ∧ ((mI h 11 2).toInt ≤ 880 → ((mI h' 11 2).toInt = (mI h 11 2).toInt + 20 ∧ r = mI h' 11 2) ∧ (∀ i : Nat, (i : Int) < (mI h 11 2).toInt → mI h' 43 i = mI h 43 i) ∧ ∀ m, m < 20 → mI h' 43 ((mI h 11 2).toInt.toNat + m) = fw a1 a2 a3 a4 a5 m) ∧ (¬ (mI h 11 2).toInt ≤ 880 → (mI h' 11 2 = mI h 11 2 ∧ r = -1) ∧ h'.1 43 = h.1 43)
theorem k_X10_feed {g : gT} {h : mh_T} {P : Int32 → mh_T → Prop} (a1 a2 a3 a4 a5 : Int32) (hJ : JJ h) (hp : ∀ (r : Int32) (h' : mh_T), JJ h' → FA a1 a2 a3 a4 a5 h r h' → P r h') : MCi g yX10_feed uX10_feed [.ref 0, .int a1, .int a2, .int a3, .int a4, .int a5] h P := by
  obtain ⟨F, eF, F0, F9⟩ := i_R (GI_rd hJ.1 0 10 (lo := 0) (hi := 900) (by decide)) (by decide)
  refine v_feed a1 a2 a3 a4 a5 hJ.1 eF (fun hF h' ok e1 e2 e3 e4 => hp _ h' ⟨ok.1, TVs_fr ok.2 (by decide) hJ.2⟩ ⟨⟨⟨fun j hj => e4 j (by omega), fun j _ => congrFun (ok.2 11 (by decide) (by decide)).1 j⟩, e4 11 (by omega), congrFun (ok.2 11 (by decide) (by decide)).1 11⟩, ⟨congrFun (ok.2 11 (by decide) (by decide)).1 2, (ok.2 43 (by decide) (by decide)).1⟩, fun _ => ⟨⟨by rw [e1, eF]; omega, rfl⟩, fun i hi => e2 i (by omega), fun m hm => by rw [eF]; exact e3 m hm⟩, fun z => absurd (by omega) z⟩) (fun hF => hp _ h hJ ⟨⟨⟨fun _ _ => rfl, fun _ _ => rfl⟩, rfl, rfl⟩, ⟨rfl, rfl⟩, fun z => absurd (by omega) hF, fun _ => ⟨⟨rfl, rfl⟩, rfl⟩⟩)
theorem k_X11_feed {g : gT} {h : mh_T} {P : Int32 → mh_T → Prop} (a1 a2 a3 a4 a5 : Int32) (hJ : JJ h) (hp : ∀ (r : Int32) (h' : mh_T), JJ h' → FB a1 a2 a3 a4 a5 h r h' → P r h') : MCi g yX11_feed uX11_feed [.ref 11, .int a1, .int a2, .int a3, .int a4, .int a5] h P := by
  obtain ⟨F, eF, F0, F9⟩ := i_R (GI_rd hJ.1 11 2 (lo := 0) (hi := 900) (by decide)) (by decide)
  refine w_feed a1 a2 a3 a4 a5 hJ.1 eF (fun hF h' ok e1 e2 e3 e4 => hp _ h' ⟨ok.1, TVs_fr ok.2 (by decide) hJ.2⟩ ⟨⟨⟨fun j _ => congrFun (ok.2 0 (by decide) (by decide)).1 j, fun j hj => e4 j (by omega)⟩, congrFun (ok.2 0 (by decide) (by decide)).1 11, e4 11 (by omega)⟩, ⟨congrFun (ok.2 0 (by decide) (by decide)).1 10, (ok.2 12 (by decide) (by decide)).1⟩, fun _ => ⟨⟨by rw [e1, eF]; omega, rfl⟩, fun i hi => e2 i (by omega), fun m hm => by rw [eF]; exact e3 m hm⟩, fun z => absurd (by omega) z⟩) (fun hF => hp _ _ ⟨GI_w hJ.1 (k := 11) (j := 0) (lo := -2147483648) (hi := 2147483647) (by decide) (R_full _), TVs_11 hJ.2⟩ ⟨⟨⟨fun j hj => ?_, fun j hj => ?_⟩, ?_, ?_⟩, ⟨?_, ?_⟩, fun z => absurd (by omega) hF, fun _ => ⟨⟨?_, rfl⟩, ?_⟩⟩)
  · rw [mI_wI, if_neg (by omega)]
  · rw [mI_wI, if_neg (by omega)]
  · rw [mI_wI, if_neg (by decide)]
  · rw [mI_wI, if_neg (by decide)]
  · rw [mI_wI, if_neg (by decide)]
  · exact ((Fr_w (ms := [11]) (Fr_rf h) (by decide)) 12 (by decide) (by decide)).1
  · rw [mI_wI, if_neg (by decide)]
  · exact ((Fr_w (ms := [11]) (Fr_rf h) (by decide)) 43 (by decide) (by decide)).1
theorem feed_r {h h1 h2 : mh_T} {r1 r2 a1 a2 a3 a4 a5 : Int32} (he : RR h) (s1 : FA a1 a2 a3 a4 a5 h r1 h1) (s2 : FB a1 a2 a3 a4 a5 h1 r2 h2) : r1 = r2 := by
  have e := he.1.1
  have e1 := s1.2.1.1
  by_cases q : (mI h 0 10).toInt ≤ 880
  · obtain ⟨⟨b1, b2⟩, -⟩ := s1.2.2.1 q
    obtain ⟨⟨c1, c2⟩, -⟩ := s2.2.2.1 (by rw [e1, ← e]; exact q)
    rw [b2, c2]
    exact Int32.toInt_inj.mp (by rw [b1, c1, e1, e])
  · obtain ⟨⟨-, b2⟩, -⟩ := s1.2.2.2 q
    obtain ⟨⟨-, c2⟩, -⟩ := s2.2.2.2 (by rw [e1, ← e]; exact q)
    rw [b2, c2]
theorem feed_RR {h h1 h2 : mh_T} {r1 r2 a1 a2 a3 a4 a5 : Int32} (he : RR h) (s1 : FA a1 a2 a3 a4 a5 h r1 h1) (s2 : FB a1 a2 a3 a4 a5 h1 r2 h2) : RR h2 := by
  have e := he.1.1
  have e1 := s1.2.1.1
  have t1 : ∀ j, mI h1 43 j = mI h 43 j := fun j => congrFun s1.2.1.2 j
  have t2 : ∀ j, mI h2 12 j = mI h1 12 j := fun j => congrFun s2.2.1.2 j
  unfold RR
  rw [s2.1.1.1 13 (by omega), s2.1.1.2 10 (by omega), s1.1.1.1 13 (by omega), s1.1.1.2 10 (by omega), s2.1.2.1, s1.1.2.1, s2.1.2.2, s1.1.2.2]
  refine ⟨?_, he.2⟩
  unfold RT
  rw [s2.2.1.1]
  by_cases q : (mI h 0 10).toInt ≤ 880
  · obtain ⟨⟨b1, -⟩, b3, b4⟩ := s1.2.2.1 q
    obtain ⟨⟨c1, -⟩, c3, c4⟩ := s2.2.2.1 (by rw [e1, ← e]; exact q)
    rw [e1, ← e] at c1 c3 c4
    refine ⟨Int32.toInt_inj.mp (by rw [b1, c1]), fun j hj => ?_⟩
    rw [t2]
    by_cases z : (j : Int) < (mI h 0 10).toInt
    · rw [b3 j z, c3 j z, t1]
      exact he.1.2 j z
    · by_cases y : 0 ≤ (mI h 0 10).toInt
      · have w : j = (mI h 0 10).toInt.toNat + (j - (mI h 0 10).toInt.toNat) := by omega
        rw [w, b4 _ (by omega), c4 _ (by omega)]
        exact ⟨rfl, fw_nn _ _ _ _ _ _⟩
      · have w : j = (mI h 0 10).toInt.toNat + (j - (mI h 0 10).toInt.toNat) := by omega
        rw [w, b4 _ (by omega), c4 _ (by omega)]
        exact ⟨rfl, fw_nn _ _ _ _ _ _⟩
  · obtain ⟨⟨b1, -⟩, b3⟩ := s1.2.2.2 q
    obtain ⟨⟨c1, -⟩, c3⟩ := s2.2.2.2 (by rw [e1, ← e]; exact q)
    have t3 : ∀ j, mI h1 12 j = mI h 12 j := fun j => congrFun b3 j
    have t4 : ∀ j, mI h2 43 j = mI h1 43 j := fun j => congrFun c3 j
    rw [b1, c1, e1]
    refine ⟨e, fun j hj => ?_⟩
    rw [t2, t3, t4, t1]
    exact he.1.2 j hj
/-- what book tells of a text -/
def bkr (T : Nat → Int32) (n : Nat) : Int32 := match rx_book T n with
  | .inl _ => -1
  | .inr (_, _, f) => f 50
def bkp (T : Nat → Int32) (n : Nat) : Option Nat := match rx_book T n with
  | .inl (_, p) => some p
  | .inr _ => none
def BA (T : Nat → Int32) (a1 : Int32) (h : mh_T) (r : Int32) (h' : mh_T) : Prop := (mI h' 11 2 = mI h 11 2 ∧ h'.1 43 = h.1 43) ∧ ((0 ≤ a1.toInt ∧ a1.toInt ≤ (mI h 0 10).toInt) → mI h' 0 10 = 0 ∧ r = bkr T a1.toInt.toNat ∧ (mI h' 0 11 = 4 ↔ (bkp T a1.toInt.toNat).isSome = true) ∧ ∀ p, bkp T a1.toInt.toNat = some p → (mI h' 0 13).toInt = (p : Int)) ∧ (¬ (0 ≤ a1.toInt ∧ a1.toInt ≤ (mI h 0 10).toInt) → (mI h' 0 10 = mI h 0 10 ∧ r = -1 ∧ mI h' 0 11 = 2) ∧ h'.1 12 = h.1 12)
def BB (T : Nat → Int32) (a1 : Int32) (h : mh_T) (r : Int32) (h' : mh_T) : Prop := (mI h' 0 10 = mI h 0 10 ∧ h'.1 12 = h.1 12 ∧ mI h' 0 11 = mI h 0 11 ∧ mI h' 0 13 = mI h 0 13) ∧ ((0 ≤ a1.toInt ∧ a1.toInt ≤ (mI h 11 2).toInt) → mI h' 11 2 = 0 ∧ r = bkr T a1.toInt.toNat ∧ (mI h' 11 11 = 4 ↔ (bkp T a1.toInt.toNat).isSome = true) ∧ ∀ p, bkp T a1.toInt.toNat = some p → (mI h' 11 10).toInt = (p : Int)) ∧ (¬ (0 ≤ a1.toInt ∧ a1.toInt ≤ (mI h 11 2).toInt) → (mI h' 11 2 = mI h 11 2 ∧ r = -1 ∧ mI h' 11 11 = 2) ∧ h'.1 43 = h.1 43)
theorem k_X10_book {g : gT} {h : mh_T} {P : Int32 → mh_T → Prop} (a1 : Int32) (hJ : JJ h) (hp : ∀ (r : Int32) (h' : mh_T), JJ h' → BA (fun j => mI h 12 j) a1 h r h' → P r h') : MCi g yX10_book uX10_book [.ref 0, .int a1] h P := by
  have fr2 : Fr [0] h (wI h 0 11 2) := Fr_w (Fr_rf h) (by decide)
  refine c_book (T := fun j => mI h 12 j) a1 hJ.1 (fun _ _ => rfl) (fun q => hp _ _ ⟨GI_w hJ.1 (k := 0) (j := 11) (lo := -2147483648) (hi := 2147483647) (by decide) (R_full _), TVs_fr fr2 (by decide) hJ.2⟩ ⟨⟨congrFun (fr2 11 (by decide) (by decide)).1 2, (fr2 43 (by decide) (by decide)).1⟩, fun z => absurd z q, fun _ => ⟨⟨?_, rfl, ?_⟩, (fr2 12 (by decide) (by decide)).1⟩⟩) (fun n e f h' en hn ro g1 fr v => hp _ h' ⟨g1, TVs_fr fr (by decide) hJ.2⟩ ⟨⟨congrFun (fr 11 (by decide) (by decide)).1 2, (fr 43 (by decide) (by decide)).1⟩, fun _ => ⟨v.1, ?_, ?_⟩, fun z => absurd (by omega) z⟩) (fun n w p h' en hn ro g1 fr v vp => hp _ h' ⟨g1, TVs_fr fr (by decide) hJ.2⟩ ⟨⟨congrFun (fr 11 (by decide) (by decide)).1 2, (fr 43 (by decide) (by decide)).1⟩, fun _ => ⟨v.1, ?_, ?_⟩, fun z => absurd (by omega) z⟩)
  · rw [mI_wI, if_neg (by decide)]
  · rw [mI_wI, if_pos ⟨rfl, rfl⟩]
  · unfold bkr
    rw [en, Int.toNat_natCast, ro]
  · unfold bkp
    rw [en, Int.toNat_natCast, ro, v.2.1]
    exact ⟨⟨fun z => absurd z (by decide), fun z => by cases z⟩, fun p z => by cases z⟩
  · unfold bkr
    rw [en, Int.toNat_natCast, ro]
  · unfold bkp
    rw [en, Int.toNat_natCast, ro, v.2.1]
    exact ⟨⟨fun _ => rfl, fun _ => rfl⟩, fun q z => by cases z; exact vp⟩
theorem k_X11_book {g : gT} {h : mh_T} {P : Int32 → mh_T → Prop} (a1 : Int32) {T : Nat → Int32} (hJ : JJ h) (hT : ∀ j : Nat, (j : Int) < (mI h 11 2).toInt → mI h 43 j = T j ∧ 0 ≤ (T j).toInt) (hp : ∀ (r : Int32) (h' : mh_T), JJ h' → BB T a1 h r h' → P r h') : MCi g yX11_book uX11_book [.ref 11, .int a1] h P := by
  have fr2 : Fr [11] h (wI (wI (wI h 11 0 0) 11 11 0) 11 11 2) := Fr_w (Fr_w (Fr_w (Fr_rf h) (by decide)) (by decide)) (by decide)
  have z0 : ∀ {ms : List Nat} {h' : mh_T}, Fr ms h h' → 0 ∉ ms → 12 ∉ ms → mI h' 0 10 = mI h 0 10 ∧ h'.1 12 = h.1 12 ∧ mI h' 0 11 = mI h 0 11 ∧ mI h' 0 13 = mI h 0 13 := fun fr m0 m12 => ⟨congrFun (fr 0 (by decide) m0).1 10, (fr 12 (by decide) m12).1, congrFun (fr 0 (by decide) m0).1 11, congrFun (fr 0 (by decide) m0).1 13⟩
  refine b_book (T := T) a1 hJ.1 hJ.2 hT (fun q => hp _ _ ⟨GI_w (GI_w (GI_w hJ.1 (k := 11) (j := 0) (lo := -2147483648) (hi := 2147483647) (by decide) (R_full _)) (k := 11) (j := 11) (lo := -2147483648) (hi := 2147483647) (by decide) (R_full _)) (k := 11) (j := 11) (lo := -2147483648) (hi := 2147483647) (by decide) (R_full _), TVs_11 (TVs_11 (TVs_11 hJ.2))⟩ ⟨z0 fr2 (by decide) (by decide), fun z => absurd z q, fun _ => ⟨⟨?_, rfl, ?_⟩, (fr2 43 (by decide) (by decide)).1⟩⟩) (fun n e f h' en hn ro g1 fr t v => hp _ h' ⟨g1, t⟩ ⟨z0 fr (by decide) (by decide), fun _ => ⟨v.2.1, ?_, ?_⟩, fun z => absurd (by omega) z⟩) (fun n w p h' en hn ro g1 fr t v vp => hp _ h' ⟨g1, t⟩ ⟨z0 fr (by decide) (by decide), fun _ => ⟨v.2.1, ?_, ?_⟩, fun z => absurd (by omega) z⟩)
  · rw [mI_wI, if_neg (by decide), mI_wI, if_neg (by decide), mI_wI, if_neg (by decide)]
  · rw [mI_wI, if_pos ⟨rfl, rfl⟩]
  · unfold bkr
    rw [en, Int.toNat_natCast, ro]
  · unfold bkp
    rw [en, Int.toNat_natCast, ro, v.2.2.2]
    exact ⟨⟨fun z => absurd z (by decide), fun z => by cases z⟩, fun p z => by cases z⟩
  · unfold bkr
    rw [en, Int.toNat_natCast, ro]
  · unfold bkp
    rw [en, Int.toNat_natCast, ro, v.2.2.2]
    exact ⟨⟨fun _ => rfl, fun _ => rfl⟩, fun q z => by cases z; exact vp⟩
theorem book_T {h h1 : mh_T} {T : Nat → Int32} {r1 n : Int32} (he : RR h) (s1 : BA T n h r1 h1) : ∀ j : Nat, (j : Int) < (mI h1 11 2).toInt → mI h1 43 j = mI h 12 j ∧ 0 ≤ (mI h 12 j).toInt := by
  intro j hj
  have t1 : mI h1 43 j = mI h 43 j := congrFun s1.1.2 j
  rw [s1.1.1, ← he.1.1] at hj
  obtain ⟨a, b⟩ := he.1.2 j hj
  rw [t1, a]
  exact ⟨rfl, b⟩
theorem book_r {h h1 h2 : mh_T} {T : Nat → Int32} {r1 r2 n : Int32} (he : RR h) (s1 : BA T n h r1 h1) (s2 : BB T n h1 r2 h2) : r1 = r2 := by
  by_cases q : 0 ≤ n.toInt ∧ n.toInt ≤ (mI h 0 10).toInt
  · rw [(s1.2.1 q).2.1, (s2.2.1 (by rw [s1.1.1, ← he.1.1]; exact q)).2.1]
  · rw [(s1.2.2 q).1.2.1, (s2.2.2 (by rw [s1.1.1, ← he.1.1]; exact q)).1.2.1]
theorem book_RR {h h1 h2 : mh_T} {T : Nat → Int32} {r1 r2 n : Int32} (he : RR h) (s1 : BA T n h r1 h1) (s2 : BB T n h1 r2 h2) : RR h2 := by
  unfold RR RT
  rw [s2.1.1, s2.1.2.2.1, s2.1.2.2.2]
  by_cases q : 0 ≤ n.toInt ∧ n.toInt ≤ (mI h 0 10).toInt
  · have q2 : 0 ≤ n.toInt ∧ n.toInt ≤ (mI h1 11 2).toInt := by rw [s1.1.1, ← he.1.1]; exact q
    obtain ⟨b1, -, b3, b4⟩ := s1.2.1 q
    obtain ⟨c1, -, c3, c4⟩ := s2.2.1 q2
    rw [b1, c1, b3, c3]
    refine ⟨⟨rfl, fun j hj => ?_⟩, Iff.rfl, fun z => ?_⟩
    · rw [show (0 : Int32).toInt = 0 from by decide] at hj
      omega
    · obtain ⟨p, ep⟩ := Option.isSome_iff_exists.mp z
      exact Int32.toInt_inj.mp (by rw [b4 p ep, c4 p ep])
  · obtain ⟨⟨b1, -, b4⟩, b3⟩ := s1.2.2 q
    obtain ⟨⟨c1, -, c4⟩, c3⟩ := s2.2.2 (by rw [s1.1.1, ← he.1.1]; exact q)
    have t1 : ∀ j, mI h1 43 j = mI h 43 j := fun j => congrFun s1.1.2 j
    have t2 : ∀ j, mI h2 12 j = mI h1 12 j := fun j => congrFun s2.1.2.1 j
    have t3 : ∀ j, mI h1 12 j = mI h 12 j := fun j => congrFun b3 j
    have t4 : ∀ j, mI h2 43 j = mI h1 43 j := fun j => congrFun c3 j
    rw [b1, c1, s1.1.1, b4, c4]
    refine ⟨⟨he.1.1, fun j hj => ?_⟩, Iff.rfl, fun z => absurd z (by decide)⟩
    rw [t2, t3, t4, t1]
    exact he.1.2 j hj
theorem k_X10_where {g : gT} {h : mh_T} {P : Int32 → mh_T → Prop} (hJ : JJ h) (hp : ∀ (r : Int32) (h' : mh_T), JJ h' → (r = (if mI h 0 11 = 4 then mI h 0 13 else -1) ∧ SU h h') → P r h') : MCi g yX10_where uX10_where [.ref 0] h P :=
  e_X10_where ⟨fun z => hp _ h hJ ⟨by rw [if_neg z], SU_rf h⟩, fun z => hp _ h hJ ⟨by rw [if_pos z], SU_rf h⟩⟩
theorem k_X11_where {g : gT} {h : mh_T} {P : Int32 → mh_T → Prop} (hJ : JJ h) (hp : ∀ (r : Int32) (h' : mh_T), JJ h' → (r = (if mI h 11 11 = 4 then mI h 11 10 else -1) ∧ SU h h') → P r h') : MCi g yX11_where uX11_where [.ref 11] h P := by
  have ok := Ok_w (Ok_rf (ms := [11]) hJ.1) (k := 11) (j := 0) (v := 0) (lo := -2147483648) (hi := 2147483647) (by decide) (R_full _) (by decide) (by decide)
  have e11 : mI (wI h 11 0 0) 11 11 = mI h 11 11 := by rw [mI_wI, if_neg (by decide)]
  have e10 : mI (wI h 11 0 0) 11 10 = mI h 11 10 := by rw [mI_wI, if_neg (by decide)]
  refine e_X11_where ?_
  rw [e11, e10]
  exact ⟨fun z => hp _ _ ⟨ok.1, TVs_11 hJ.2⟩ ⟨by rw [if_neg z], SU_ok ok (by decide)⟩, fun z => hp _ _ ⟨ok.1, TVs_11 hJ.2⟩ ⟨by rw [if_pos z], SU_ok ok (by decide)⟩⟩
theorem where_r {h h1 h2 : mh_T} {r1 r2 : Int32} (he : RR h) (s1 : r1 = (if mI h 0 11 = 4 then mI h 0 13 else -1) ∧ SU h h1) (s2 : r2 = (if mI h1 11 11 = 4 then mI h1 11 10 else -1) ∧ SU h1 h2) : r1 = r2 := by
  rw [s1.1, s2.1, s1.2.2.2, s1.2.1.2.2 10 (by omega)]
  by_cases q : mI h 0 11 = 4
  · rw [if_pos q, if_pos (he.2.1.mp q)]
    exact he.2.2 q
  · rw [if_neg q, if_neg (fun z => q (he.2.1.mpr z))]
theorem k_X10_fault {g : gT} {h : mh_T} {P : Int32 → mh_T → Prop} (hJ : JJ h) (hp : ∀ (r : Int32) (h' : mh_T), JJ h' → SU h h' → P r h') : MCi g yX10_fault uX10_fault [.ref 0] h P := s_X10_fault  hJ.1 (fun r => hp r h hJ (SU_rf h))
theorem k_X11_fault {g : gT} {h : mh_T} {P : Int32 → mh_T → Prop} (hJ : JJ h) (hp : ∀ (r : Int32) (h' : mh_T), JJ h' → SU h h' → P r h') : MCi g yX11_fault uX11_fault [.ref 11] h P := s_X11_fault  hJ.1 (fun r h' ok => hp r h' ⟨ok.1, TVs_fr ok.2.1 (by decide) hJ.2⟩ (SU_ok ok (by decide)))
theorem k_X10_share {g : gT} {h : mh_T} {P : Int32 → mh_T → Prop} (a1 : Int32) (hJ : JJ h) (hp : ∀ (r : Int32) (h' : mh_T), JJ h' → SA h h' → P r h') : MCi g yX10_share uX10_share [.ref 0, .int a1] h P := s_X10_share a1 hJ.1 (fun r h' ok t4 => hp r h' ⟨ok.1, TVs_fr ok.2.1 (by decide) hJ.2⟩ (SA_ok ok (by decide) t4))
theorem k_X11_share {g : gT} {h : mh_T} {P : Int32 → mh_T → Prop} (a1 : Int32) (hJ : JJ h) (hp : ∀ (r : Int32) (h' : mh_T), JJ h' → SB h h' → P r h') : MCi g yX11_share uX11_share [.ref 11, .int a1] h P := u_X11_share a1 hJ.1 hJ.2 (fun r h' ok t4 => hp r h' ⟨ok.1, TVs_fr ok.2.1 (by decide) hJ.2⟩ (SB_ok ok (by decide) t4))
theorem k_X10_together {g : gT} {h : mh_T} {P : Int32 → mh_T → Prop} (a1 : Int32) (a2 : Int32) (a3 : Int32) (a4 : Int32) (a5 : Int32) (a6 : Int32) (hJ : JJ h) (hp : ∀ (r : Int32) (h' : mh_T), JJ h' → SA h h' → P r h') : MCi g yX10_together uX10_together [.ref 0, .int a1, .int a2, .int a3, .int a4, .int a5, .int a6] h P := s_X10_together a1 a2 a3 a4 a5 a6 hJ.1 (fun r h' ok t4 => hp r h' ⟨ok.1, TVs_fr ok.2.1 (by decide) hJ.2⟩ (SA_ok ok (by decide) t4))
theorem k_X11_together {g : gT} {h : mh_T} {P : Int32 → mh_T → Prop} (a1 : Int32) (a2 : Int32) (a3 : Int32) (a4 : Int32) (a5 : Int32) (a6 : Int32) (hJ : JJ h) (hp : ∀ (r : Int32) (h' : mh_T), JJ h' → SB h h' → P r h') : MCi g yX11_together uX11_together [.ref 11, .int a1, .int a2, .int a3, .int a4, .int a5, .int a6] h P := u_X11_together a1 a2 a3 a4 a5 a6 hJ.1 hJ.2 (fun r h' ok t4 => hp r h' ⟨ok.1, TVs_fr ok.2.1 (by decide) hJ.2⟩ (SB_ok ok (by decide) t4))
theorem k_X10_extend {g : gT} {h : mh_T} {P : Int32 → mh_T → Prop} (a1 : Int32) (a2 : Int32) (hJ : JJ h) (hp : ∀ (r : Int32) (h' : mh_T), JJ h' → SA h h' → P r h') : MCi g yX10_extend uX10_extend [.ref 0, .int a1, .int a2] h P := s_X10_extend a1 a2 hJ.1 (fun r h' ok t4 => hp r h' ⟨ok.1, TVs_fr ok.2.1 (by decide) hJ.2⟩ (SA_ok ok (by decide) t4))
theorem k_X11_extend {g : gT} {h : mh_T} {P : Int32 → mh_T → Prop} (a1 : Int32) (a2 : Int32) (hJ : JJ h) (hp : ∀ (r : Int32) (h' : mh_T), JJ h' → SB h h' → P r h') : MCi g yX11_extend uX11_extend [.ref 11, .int a1, .int a2] h P := s_X11_extend a1 a2 hJ.1 (fun r h' ok _ t4 => hp r h' ⟨ok.1, TVs_fr ok.2.1 (by decide) hJ.2⟩ (SB_ok ok (by decide) t4))
theorem k_X10_level {g : gT} {h : mh_T} {P : Int32 → mh_T → Prop} (hJ : JJ h) (hp : ∀ (r : Int32) (h' : mh_T), JJ h' → SA h h' → P r h') : MCi g yX10_level uX10_level [.ref 0] h P := s_X10_level  hJ.1 (fun r h' ok t4 => hp r h' ⟨ok.1, TVs_fr ok.2.1 (by decide) hJ.2⟩ (SA_ok ok (by decide) t4))
theorem k_X11_level {g : gT} {h : mh_T} {P : Int32 → mh_T → Prop} (hJ : JJ h) (hp : ∀ (r : Int32) (h' : mh_T), JJ h' → SB h h' → P r h') : MCi g yX11_level uX11_level [.ref 11] h P := u_X11_level  hJ.1 hJ.2 (fun r h' ok t4 => hp r h' ⟨ok.1, TVs_fr ok.2.1 (by decide) hJ.2⟩ (SB_ok ok (by decide) t4))
theorem k_X10_hidden {g : gT} {h : mh_T} {P : Int32 → mh_T → Prop} (hJ : JJ h) (hp : ∀ (r : Int32) (h' : mh_T), JJ h' → SA h h' → P r h') : MCi g yX10_hidden uX10_hidden [.ref 0] h P := s_X10_hidden  hJ.1 (fun r h' ok t4 => hp r h' ⟨ok.1, TVs_fr ok.2.1 (by decide) hJ.2⟩ (SA_ok ok (by decide) t4))
theorem k_X11_hidden {g : gT} {h : mh_T} {P : Int32 → mh_T → Prop} (hJ : JJ h) (hp : ∀ (r : Int32) (h' : mh_T), JJ h' → SB h h' → P r h') : MCi g yX11_hidden uX11_hidden [.ref 11] h P := s_X11_hidden  hJ.1 (fun r h' ok t4 => hp r h' ⟨ok.1, TVs_fr ok.2.1 (by decide) hJ.2⟩ (SB_ok ok (by decide) t4))
theorem k_X10_answer {g : gT} {h : mh_T} {P : Int32 → mh_T → Prop} (a1 : Int32) (hJ : JJ h) (hp : ∀ (r : Int32) (h' : mh_T), JJ h' → SA h h' → P r h') : MCi g yX10_answer uX10_answer [.ref 0, .int a1] h P := s_X10_answer a1 hJ.1 (fun r h' ok t4 => hp r h' ⟨ok.1, TVs_fr ok.2.1 (by decide) hJ.2⟩ (SA_ok ok (by decide) t4))
theorem k_X11_answer {g : gT} {h : mh_T} {P : Int32 → mh_T → Prop} (a1 : Int32) (hJ : JJ h) (hp : ∀ (r : Int32) (h' : mh_T), JJ h' → SB h h' → P r h') : MCi g yX11_answer uX11_answer [.ref 11, .int a1] h P := s_X11_answer a1 hJ.1 (fun r h' ok _ t4 => hp r h' ⟨ok.1, TVs_fr ok.2.1 (by decide) hJ.2⟩ (SB_ok ok (by decide) t4))
theorem k_X10_disturbed {g : gT} {h : mh_T} {P : Int32 → mh_T → Prop} (hJ : JJ h) (hp : ∀ (r : Int32) (h' : mh_T), JJ h' → SA h h' → P r h') : MCi g yX10_disturbed uX10_disturbed [.ref 0] h P := s_X10_disturbed  hJ.1 (fun r h' ok t4 => hp r h' ⟨ok.1, TVs_fr ok.2.1 (by decide) hJ.2⟩ (SA_ok ok (by decide) t4))
theorem k_X11_disturbed {g : gT} {h : mh_T} {P : Int32 → mh_T → Prop} (hJ : JJ h) (hp : ∀ (r : Int32) (h' : mh_T), JJ h' → SB h h' → P r h') : MCi g yX11_disturbed uX11_disturbed [.ref 11] h P := s_X11_disturbed  hJ.1 (fun r h' ok _ t4 => hp r h' ⟨ok.1, TVs_fr ok.2.1 (by decide) hJ.2⟩ (SB_ok ok (by decide) t4))
theorem k_X10_same {g : gT} {h : mh_T} {P : Int32 → mh_T → Prop} (a1 : Int32) (hJ : JJ h) (hp : ∀ (r : Int32) (h' : mh_T), JJ h' → SA h h' → P r h') : MCi g yX10_same uX10_same [.ref 0, .int a1] h P := s_X10_same a1 hJ.1 (fun r h' ok t4 => hp r h' ⟨ok.1, TVs_fr ok.2.1 (by decide) hJ.2⟩ (SA_ok ok (by decide) t4))
theorem k_X11_same {g : gT} {h : mh_T} {P : Int32 → mh_T → Prop} (a1 : Int32) (hJ : JJ h) (hp : ∀ (r : Int32) (h' : mh_T), JJ h' → SB h h' → P r h') : MCi g yX11_same uX11_same [.ref 11, .int a1] h P := s_X11_same a1 hJ.1 (fun r h' ok t4 => hp r h' ⟨ok.1, TVs_fr ok.2.1 (by decide) hJ.2⟩ (SB_ok ok (by decide) t4))
theorem k_X10_cycles {g : gT} {h : mh_T} {P : Int32 → mh_T → Prop} (hJ : JJ h) (hp : ∀ (r : Int32) (h' : mh_T), JJ h' → SA h h' → P r h') : MCi g yX10_cycles uX10_cycles [.ref 0] h P := s_X10_cycles  hJ.1 (fun r h' ok t4 => hp r h' ⟨ok.1, TVs_fr ok.2.1 (by decide) hJ.2⟩ (SA_ok ok (by decide) t4))
theorem k_X11_cycles {g : gT} {h : mh_T} {P : Int32 → mh_T → Prop} (hJ : JJ h) (hp : ∀ (r : Int32) (h' : mh_T), JJ h' → SB h h' → P r h') : MCi g yX11_cycles uX11_cycles [.ref 11] h P := s_X11_cycles  hJ.1 (fun r h' ok t4 => hp r h' ⟨ok.1, TVs_fr ok.2.1 (by decide) hJ.2⟩ (SB_ok ok (by decide) t4))
theorem k_X10_cycle {g : gT} {h : mh_T} {P : Int32 → mh_T → Prop} (a1 : Int32) (hJ : JJ h) (hp : ∀ (r : Int32) (h' : mh_T), JJ h' → SA h h' → P r h') : MCi g yX10_cycle uX10_cycle [.ref 0, .int a1] h P := s_X10_cycle a1 hJ.1 (fun r h' ok t4 => hp r h' ⟨ok.1, TVs_fr ok.2.1 (by decide) hJ.2⟩ (SA_ok ok (by decide) t4))
theorem k_X11_cycle {g : gT} {h : mh_T} {P : Int32 → mh_T → Prop} (a1 : Int32) (hJ : JJ h) (hp : ∀ (r : Int32) (h' : mh_T), JJ h' → SB h h' → P r h') : MCi g yX11_cycle uX11_cycle [.ref 11, .int a1] h P := s_X11_cycle a1 hJ.1 (fun r h' ok _ t4 => hp r h' ⟨ok.1, TVs_fr ok.2.1 (by decide) hJ.2⟩ (SB_ok ok (by decide) t4))
theorem k_X10_excess {g : gT} {h : mh_T} {P : Int32 → mh_T → Prop} (a1 : Int32) (hJ : JJ h) (hp : ∀ (r : Int32) (h' : mh_T), JJ h' → SA h h' → P r h') : MCi g yX10_excess uX10_excess [.ref 0, .int a1] h P := s_X10_excess a1 hJ.1 (fun r h' ok t4 => hp r h' ⟨ok.1, TVs_fr ok.2.1 (by decide) hJ.2⟩ (SA_ok ok (by decide) t4))
theorem k_X11_excess {g : gT} {h : mh_T} {P : Int32 → mh_T → Prop} (a1 : Int32) (hJ : JJ h) (hp : ∀ (r : Int32) (h' : mh_T), JJ h' → SB h h' → P r h') : MCi g yX11_excess uX11_excess [.ref 11, .int a1] h P := s_X11_excess a1 hJ.1 (fun r h' ok t4 => hp r h' ⟨ok.1, TVs_fr ok.2.1 (by decide) hJ.2⟩ (SB_ok ok (by decide) t4))
theorem k_X10_widest {g : gT} {h : mh_T} {P : Int32 → mh_T → Prop} (hJ : JJ h) (hp : ∀ (r : Int32) (h' : mh_T), JJ h' → SA h h' → P r h') : MCi g yX10_widest uX10_widest [.ref 0] h P := s_X10_widest  hJ.1 (fun r h' ok t4 => hp r h' ⟨ok.1, TVs_fr ok.2.1 (by decide) hJ.2⟩ (SA_ok ok (by decide) t4))
theorem k_X11_widest {g : gT} {h : mh_T} {P : Int32 → mh_T → Prop} (hJ : JJ h) (hp : ∀ (r : Int32) (h' : mh_T), JJ h' → SB h h' → P r h') : MCi g yX11_widest uX11_widest [.ref 11] h P := s_X11_widest  hJ.1 (fun r h' ok _ t4 => hp r h' ⟨ok.1, TVs_fr ok.2.1 (by decide) hJ.2⟩ (SB_ok ok (by decide) t4))
theorem k_X10_stake {g : gT} {h : mh_T} {P : Int32 → mh_T → Prop} (a1 : Int32) (a2 : Int32) (a3 : Int32) (hJ : JJ h) (hp : ∀ (r : Int32) (h' : mh_T), JJ h' → SA h h' → P r h') : MCi g yX10_stake uX10_stake [.ref 0, .int a1, .int a2, .int a3] h P := s_X10_stake a1 a2 a3 hJ.1 (fun r h' ok _ t4 => hp r h' ⟨ok.1, TVs_fr ok.2.1 (by decide) hJ.2⟩ (SA_ok ok (by decide) t4))
theorem k_X11_stake {g : gT} {h : mh_T} {P : Int32 → mh_T → Prop} (a1 : Int32) (a2 : Int32) (a3 : Int32) (hJ : JJ h) (hp : ∀ (r : Int32) (h' : mh_T), JJ h' → SB h h' → P r h') : MCi g yX11_stake uX11_stake [.ref 11, .int a1, .int a2, .int a3] h P := s_X11_stake a1 a2 a3 hJ.1 (fun r h' ok _ t4 => hp r h' ⟨ok.1, TVs_fr ok.2.1 (by decide) hJ.2⟩ (SB_ok ok (by decide) t4))
theorem k_X10_wins {g : gT} {h : mh_T} {P : Int32 → mh_T → Prop} (hJ : JJ h) (hp : ∀ (r : Int32) (h' : mh_T), JJ h' → SA h h' → P r h') : MCi g yX10_wins uX10_wins [.ref 0] h P := s_X10_wins  hJ.1 (fun r h' ok t4 => hp r h' ⟨ok.1, TVs_fr ok.2.1 (by decide) hJ.2⟩ (SA_ok ok (by decide) t4))
theorem k_X11_wins {g : gT} {h : mh_T} {P : Int32 → mh_T → Prop} (hJ : JJ h) (hp : ∀ (r : Int32) (h' : mh_T), JJ h' → SB h h' → P r h') : MCi g yX11_wins uX11_wins [.ref 11] h P := s_X11_wins  hJ.1 (fun r h' ok t4 => hp r h' ⟨ok.1, TVs_fr ok.2.1 (by decide) hJ.2⟩ (SB_ok ok (by decide) t4))
theorem k_X10_worst {g : gT} {h : mh_T} {P : Int32 → mh_T → Prop} (hJ : JJ h) (hp : ∀ (r : Int32) (h' : mh_T), JJ h' → SA h h' → P r h') : MCi g yX10_worst uX10_worst [.ref 0] h P := s_X10_worst  hJ.1 (fun r h' ok t4 => hp r h' ⟨ok.1, TVs_fr ok.2.1 (by decide) hJ.2⟩ (SA_ok ok (by decide) t4))
theorem k_X11_worst {g : gT} {h : mh_T} {P : Int32 → mh_T → Prop} (hJ : JJ h) (hp : ∀ (r : Int32) (h' : mh_T), JJ h' → SB h h' → P r h') : MCi g yX11_worst uX11_worst [.ref 11] h P := s_X11_worst  hJ.1 (fun r h' ok t4 => hp r h' ⟨ok.1, TVs_fr ok.2.1 (by decide) hJ.2⟩ (SB_ok ok (by decide) t4))
theorem k_X10_worstAt {g : gT} {h : mh_T} {P : Int32 → mh_T → Prop} (hJ : JJ h) (hp : ∀ (r : Int32) (h' : mh_T), JJ h' → SA h h' → P r h') : MCi g yX10_worstAt uX10_worstAt [.ref 0] h P := s_X10_worstAt  hJ.1 (fun r h' ok t4 => hp r h' ⟨ok.1, TVs_fr ok.2.1 (by decide) hJ.2⟩ (SA_ok ok (by decide) t4))
theorem k_X11_worstAt {g : gT} {h : mh_T} {P : Int32 → mh_T → Prop} (hJ : JJ h) (hp : ∀ (r : Int32) (h' : mh_T), JJ h' → SB h h' → P r h') : MCi g yX11_worstAt uX11_worstAt [.ref 11] h P := s_X11_worstAt  hJ.1 (fun r h' ok _ t4 => hp r h' ⟨ok.1, TVs_fr ok.2.1 (by decide) hJ.2⟩ (SB_ok ok (by decide) t4))
theorem k_X10_bars {g : gT} {h : mh_T} {P : Int32 → mh_T → Prop} (hJ : JJ h) (hp : ∀ (r : Int32) (h' : mh_T), JJ h' → SA h h' → P r h') : MCi g yX10_bars uX10_bars [.ref 0] h P := s_X10_bars  hJ.1 (fun r h' ok t4 => hp r h' ⟨ok.1, TVs_fr ok.2.1 (by decide) hJ.2⟩ (SA_ok ok (by decide) t4))
theorem k_X11_bars {g : gT} {h : mh_T} {P : Int32 → mh_T → Prop} (hJ : JJ h) (hp : ∀ (r : Int32) (h' : mh_T), JJ h' → SB h h' → P r h') : MCi g yX11_bars uX11_bars [.ref 11] h P := s_X11_bars  hJ.1 (fun r h' ok _ t4 => hp r h' ⟨ok.1, TVs_fr ok.2.1 (by decide) hJ.2⟩ (SB_ok ok (by decide) t4))
theorem k_X10_fair {g : gT} {h : mh_T} {P : Int32 → mh_T → Prop} (a1 : Int32) (hJ : JJ h) (hp : ∀ (r : Int32) (h' : mh_T), JJ h' → SA h h' → P r h') : MCi g yX10_fair uX10_fair [.ref 0, .int a1] h P := s_X10_fair a1 hJ.1 (fun r h' ok t4 => hp r h' ⟨ok.1, TVs_fr ok.2.1 (by decide) hJ.2⟩ (SA_ok ok (by decide) t4))
theorem k_X11_fair {g : gT} {h : mh_T} {P : Int32 → mh_T → Prop} (a1 : Int32) (hJ : JJ h) (hp : ∀ (r : Int32) (h' : mh_T), JJ h' → SB h h' → P r h') : MCi g yX11_fair uX11_fair [.ref 11, .int a1] h P := s_X11_fair a1 hJ.1 (fun r h' ok t4 => hp r h' ⟨ok.1, TVs_fr ok.2.1 (by decide) hJ.2⟩ (SB_ok ok (by decide) t4))
theorem k_X10_ways {g : gT} {h : mh_T} {P : Int32 → mh_T → Prop} (hJ : JJ h) (hp : ∀ (r : Int32) (h' : mh_T), JJ h' → SA h h' → P r h') : MCi g yX10_ways uX10_ways [.ref 0] h P := s_X10_ways  hJ.1 (fun r h' ok t4 => hp r h' ⟨ok.1, TVs_fr ok.2.1 (by decide) hJ.2⟩ (SA_ok ok (by decide) t4))
theorem k_X11_ways {g : gT} {h : mh_T} {P : Int32 → mh_T → Prop} (hJ : JJ h) (hp : ∀ (r : Int32) (h' : mh_T), JJ h' → SB h h' → P r h') : MCi g yX11_ways uX11_ways [.ref 11] h P := s_X11_ways  hJ.1 (fun r h' ok t4 => hp r h' ⟨ok.1, TVs_fr ok.2.1 (by decide) hJ.2⟩ (SB_ok ok (by decide) t4))
theorem k_X10_forced {g : gT} {h : mh_T} {P : Int32 → mh_T → Prop} (a1 : Int32) (hJ : JJ h) (hp : ∀ (r : Int32) (h' : mh_T), JJ h' → SA h h' → P r h') : MCi g yX10_forced uX10_forced [.ref 0, .int a1] h P := s_X10_forced a1 hJ.1 (fun r h' ok t4 => hp r h' ⟨ok.1, TVs_fr ok.2.1 (by decide) hJ.2⟩ (SA_ok ok (by decide) t4))
theorem k_X11_forced {g : gT} {h : mh_T} {P : Int32 → mh_T → Prop} (a1 : Int32) (hJ : JJ h) (hp : ∀ (r : Int32) (h' : mh_T), JJ h' → SB h h' → P r h') : MCi g yX11_forced uX11_forced [.ref 11, .int a1] h P := s_X11_forced a1 hJ.1 (fun r h' ok _ t4 => hp r h' ⟨ok.1, TVs_fr ok.2.1 (by decide) hJ.2⟩ (SB_ok ok (by decide) t4))
theorem k_X10_core {g : gT} {h : mh_T} {P : Int32 → mh_T → Prop} (hJ : JJ h) (hp : ∀ (r : Int32) (h' : mh_T), JJ h' → SA h h' → P r h') : MCi g yX10_core uX10_core [.ref 0] h P := s_X10_core  hJ.1 (fun r h' ok t4 => hp r h' ⟨ok.1, TVs_fr ok.2.1 (by decide) hJ.2⟩ (SA_ok ok (by decide) t4))
theorem k_X11_core {g : gT} {h : mh_T} {P : Int32 → mh_T → Prop} (hJ : JJ h) (hp : ∀ (r : Int32) (h' : mh_T), JJ h' → SB h h' → P r h') : MCi g yX11_core uX11_core [.ref 11] h P := s_X11_core  hJ.1 (fun r h' ok _ t4 => hp r h' ⟨ok.1, TVs_fr ok.2.1 (by decide) hJ.2⟩ (SB_ok ok (by decide) t4))
theorem k_X10_can {g : gT} {h : mh_T} {P : Int32 → mh_T → Prop} (a1 : Int32) (hJ : JJ h) (hp : ∀ (r : Int32) (h' : mh_T), JJ h' → SA h h' → P r h') : MCi g yX10_can uX10_can [.ref 0, .int a1] h P := s_X10_can a1 hJ.1 (fun r h' ok t4 => hp r h' ⟨ok.1, TVs_fr ok.2.1 (by decide) hJ.2⟩ (SA_ok ok (by decide) t4))
theorem k_X11_can {g : gT} {h : mh_T} {P : Int32 → mh_T → Prop} (a1 : Int32) (hJ : JJ h) (hp : ∀ (r : Int32) (h' : mh_T), JJ h' → SB h h' → P r h') : MCi g yX11_can uX11_can [.ref 11, .int a1] h P := s_X11_can a1 hJ.1 (fun r h' ok _ t4 => hp r h' ⟨ok.1, TVs_fr ok.2.1 (by decide) hJ.2⟩ (SB_ok ok (by decide) t4))
theorem k_X10_game {g : gT} {h : mh_T} {P : Int32 → mh_T → Prop} (hJ : JJ h) (hp : ∀ (r : Int32) (h' : mh_T), JJ h' → SA h h' → P r h') : MCi g yX10_game uX10_game [.ref 0] h P := s_X10_game  hJ.1 (fun r h' ok t4 => hp r h' ⟨ok.1, TVs_fr ok.2.1 (by decide) hJ.2⟩ (SA_ok ok (by decide) t4))
theorem k_X11_game {g : gT} {h : mh_T} {P : Int32 → mh_T → Prop} (hJ : JJ h) (hp : ∀ (r : Int32) (h' : mh_T), JJ h' → SB h h' → P r h') : MCi g yX11_game uX11_game [.ref 11] h P := s_X11_game  hJ.1 (fun r h' ok t4 => hp r h' ⟨ok.1, TVs_fr ok.2.1 (by decide) hJ.2⟩ (SB_ok ok (by decide) t4))
theorem k_X10_square {g : gT} {h : mh_T} {P : Int32 → mh_T → Prop} (a1 : Int32) (a2 : Int32) (hJ : JJ h) (hp : ∀ (r : Int32) (h' : mh_T), JJ h' → SA h h' → P r h') : MCi g yX10_square uX10_square [.ref 0, .int a1, .int a2] h P := s_X10_square a1 a2 hJ.1 (fun r h' ok t4 => hp r h' ⟨ok.1, TVs_fr ok.2.1 (by decide) hJ.2⟩ (SA_ok ok (by decide) t4))
theorem k_X11_square {g : gT} {h : mh_T} {P : Int32 → mh_T → Prop} (a1 : Int32) (a2 : Int32) (hJ : JJ h) (hp : ∀ (r : Int32) (h' : mh_T), JJ h' → SB h h' → P r h') : MCi g yX11_square uX11_square [.ref 11, .int a1, .int a2] h P := s_X11_square a1 a2 hJ.1 (fun r h' ok _ t4 => hp r h' ⟨ok.1, TVs_fr ok.2.1 (by decide) hJ.2⟩ (SB_ok ok (by decide) t4))
theorem k_X10_corners {g : gT} {h : mh_T} {P : Int32 → mh_T → Prop} (hJ : JJ h) (hp : ∀ (r : Int32) (h' : mh_T), JJ h' → SA h h' → P r h') : MCi g yX10_corners uX10_corners [.ref 0] h P := s_X10_corners  hJ.1 (fun r h' ok t4 => hp r h' ⟨ok.1, TVs_fr ok.2.1 (by decide) hJ.2⟩ (SA_ok ok (by decide) t4))
theorem k_X11_corners {g : gT} {h : mh_T} {P : Int32 → mh_T → Prop} (hJ : JJ h) (hp : ∀ (r : Int32) (h' : mh_T), JJ h' → SB h h' → P r h') : MCi g yX11_corners uX11_corners [.ref 11] h P := s_X11_corners  hJ.1 (fun r h' ok _ t4 => hp r h' ⟨ok.1, TVs_fr ok.2.1 (by decide) hJ.2⟩ (SB_ok ok (by decide) t4))
theorem k_X10_colours {g : gT} {h : mh_T} {P : Int32 → mh_T → Prop} (hJ : JJ h) (hp : ∀ (r : Int32) (h' : mh_T), JJ h' → SA h h' → P r h') : MCi g yX10_colours uX10_colours [.ref 0] h P := s_X10_colours  hJ.1 (fun r h' ok t4 => hp r h' ⟨ok.1, TVs_fr ok.2.1 (by decide) hJ.2⟩ (SA_ok ok (by decide) t4))
theorem k_X11_colours {g : gT} {h : mh_T} {P : Int32 → mh_T → Prop} (hJ : JJ h) (hp : ∀ (r : Int32) (h' : mh_T), JJ h' → SB h h' → P r h') : MCi g yX11_colours uX11_colours [.ref 11] h P := s_X11_colours  hJ.1 (fun r h' ok t4 => hp r h' ⟨ok.1, TVs_fr ok.2.1 (by decide) hJ.2⟩ (SB_ok ok (by decide) t4))
theorem k_X10_ones {g : gT} {h : mh_T} {P : Int32 → mh_T → Prop} (hJ : JJ h) (hp : ∀ (r : Int32) (h' : mh_T), JJ h' → SA h h' → P r h') : MCi g yX10_ones uX10_ones [.ref 0] h P := s_X10_ones  hJ.1 (fun r h' ok t4 => hp r h' ⟨ok.1, TVs_fr ok.2.1 (by decide) hJ.2⟩ (SA_ok ok (by decide) t4))
theorem k_X11_ones {g : gT} {h : mh_T} {P : Int32 → mh_T → Prop} (hJ : JJ h) (hp : ∀ (r : Int32) (h' : mh_T), JJ h' → SB h h' → P r h') : MCi g yX11_ones uX11_ones [.ref 11] h P := s_X11_ones  hJ.1 (fun r h' ok t4 => hp r h' ⟨ok.1, TVs_fr ok.2.1 (by decide) hJ.2⟩ (SB_ok ok (by decide) t4))
theorem k_X10_spare {g : gT} {h : mh_T} {P : Int32 → mh_T → Prop} (hJ : JJ h) (hp : ∀ (r : Int32) (h' : mh_T), JJ h' → SA h h' → P r h') : MCi g yX10_spare uX10_spare [.ref 0] h P := s_X10_spare  hJ.1 (fun r h' ok t4 => hp r h' ⟨ok.1, TVs_fr ok.2.1 (by decide) hJ.2⟩ (SA_ok ok (by decide) t4))
theorem k_X11_spare {g : gT} {h : mh_T} {P : Int32 → mh_T → Prop} (hJ : JJ h) (hp : ∀ (r : Int32) (h' : mh_T), JJ h' → SB h h' → P r h') : MCi g yX11_spare uX11_spare [.ref 11] h P := s_X11_spare  hJ.1 (fun r h' ok _ t4 => hp r h' ⟨ok.1, TVs_fr ok.2.1 (by decide) hJ.2⟩ (SB_ok ok (by decide) t4))
theorem k_X10_critical {g : gT} {h : mh_T} {P : Int32 → mh_T → Prop} (hJ : JJ h) (hp : ∀ (r : Int32) (h' : mh_T), JJ h' → SA h h' → P r h') : MCi g yX10_critical uX10_critical [.ref 0] h P := s_X10_critical  hJ.1 (fun r h' ok t4 => hp r h' ⟨ok.1, TVs_fr ok.2.1 (by decide) hJ.2⟩ (SA_ok ok (by decide) t4))
theorem k_X11_critical {g : gT} {h : mh_T} {P : Int32 → mh_T → Prop} (hJ : JJ h) (hp : ∀ (r : Int32) (h' : mh_T), JJ h' → SB h h' → P r h') : MCi g yX11_critical uX11_critical [.ref 11] h P := s_X11_critical  hJ.1 (fun r h' ok _ t4 => hp r h' ⟨ok.1, TVs_fr ok.2.1 (by decide) hJ.2⟩ (SB_ok ok (by decide) t4))
theorem k_X10_memory {g : gT} {h : mh_T} {P : Int32 → mh_T → Prop} (hJ : JJ h) (hp : ∀ (r : Int32) (h' : mh_T), JJ h' → SA h h' → P r h') : MCi g yX10_memory uX10_memory [.ref 0] h P := s_X10_memory  hJ.1 (fun r h' ok t4 => hp r h' ⟨ok.1, TVs_fr ok.2.1 (by decide) hJ.2⟩ (SA_ok ok (by decide) t4))
theorem k_X11_memory {g : gT} {h : mh_T} {P : Int32 → mh_T → Prop} (hJ : JJ h) (hp : ∀ (r : Int32) (h' : mh_T), JJ h' → SB h h' → P r h') : MCi g yX11_memory uX11_memory [.ref 11] h P := s_X11_memory  hJ.1 (fun r h' ok _ t4 => hp r h' ⟨ok.1, TVs_fr ok.2.1 (by decide) hJ.2⟩ (SB_ok ok (by decide) t4))
theorem k_X10_machine {g : gT} {h : mh_T} {P : Int32 → mh_T → Prop} (a1 : Int32) (a2 : Int32) (a3 : Int32) (hJ : JJ h) (hp : ∀ (r : Int32) (h' : mh_T), JJ h' → SA h h' → P r h') : MCi g yX10_machine uX10_machine [.ref 0, .int a1, .int a2, .int a3] h P := s_X10_machine a1 a2 a3 hJ.1 (fun r h' ok t4 => hp r h' ⟨ok.1, TVs_fr ok.2.1 (by decide) hJ.2⟩ (SA_ok ok (by decide) t4))
theorem k_X11_machine {g : gT} {h : mh_T} {P : Int32 → mh_T → Prop} (a1 : Int32) (a2 : Int32) (a3 : Int32) (hJ : JJ h) (hp : ∀ (r : Int32) (h' : mh_T), JJ h' → SB h h' → P r h') : MCi g yX11_machine uX11_machine [.ref 11, .int a1, .int a2, .int a3] h P := s_X11_machine a1 a2 a3 hJ.1 (fun r h' ok _ t4 => hp r h' ⟨ok.1, TVs_fr ok.2.1 (by decide) hJ.2⟩ (SB_ok ok (by decide) t4))
theorem k_X10_flip {g : gT} {h : mh_T} {P : Int32 → mh_T → Prop} (a1 : Int32) (hJ : JJ h) (hp : ∀ (r : Int32) (h' : mh_T), JJ h' → SA h h' → P r h') : MCi g yX10_flip uX10_flip [.ref 0, .int a1] h P := s_X10_flip a1 hJ.1 (fun r h' ok _ t4 => hp r h' ⟨ok.1, TVs_fr ok.2.1 (by decide) hJ.2⟩ (SA_ok ok (by decide) t4))
theorem k_X11_flip {g : gT} {h : mh_T} {P : Int32 → mh_T → Prop} (a1 : Int32) (hJ : JJ h) (hp : ∀ (r : Int32) (h' : mh_T), JJ h' → SB h h' → P r h') : MCi g yX11_flip uX11_flip [.ref 11, .int a1] h P := u_X11_flip a1 hJ.1 hJ.2 (fun r h' ok t t4 => hp r h' ⟨ok.1, t⟩ (SB_ok ok (by decide) t4))
theorem k_X10_drop {g : gT} {h : mh_T} {P : Int32 → mh_T → Prop} (a1 : Int32) (hJ : JJ h) (hp : ∀ (r : Int32) (h' : mh_T), JJ h' → SA h h' → P r h') : MCi g yX10_drop uX10_drop [.ref 0, .int a1] h P := s_X10_drop a1 hJ.1 (fun r h' ok _ t4 => hp r h' ⟨ok.1, TVs_fr ok.2.1 (by decide) hJ.2⟩ (SA_ok ok (by decide) t4))
theorem k_X11_drop {g : gT} {h : mh_T} {P : Int32 → mh_T → Prop} (a1 : Int32) (hJ : JJ h) (hp : ∀ (r : Int32) (h' : mh_T), JJ h' → SB h h' → P r h') : MCi g yX11_drop uX11_drop [.ref 11, .int a1] h P := u_X11_drop a1 hJ.1 hJ.2 (fun r h' ok t t4 => hp r h' ⟨ok.1, t⟩ (SB_ok ok (by decide) t4))
theorem k_X10_forget {g : gT} {h : mh_T} {P : Int32 → mh_T → Prop} (a1 : Int32) (hJ : JJ h) (hp : ∀ (r : Int32) (h' : mh_T), JJ h' → SA h h' → P r h') : MCi g yX10_forget uX10_forget [.ref 0, .int a1] h P := s_X10_forget a1 hJ.1 (fun r h' ok _ t4 => hp r h' ⟨ok.1, TVs_fr ok.2.1 (by decide) hJ.2⟩ (SA_ok ok (by decide) t4))
theorem k_X11_forget {g : gT} {h : mh_T} {P : Int32 → mh_T → Prop} (a1 : Int32) (hJ : JJ h) (hp : ∀ (r : Int32) (h' : mh_T), JJ h' → SB h h' → P r h') : MCi g yX11_forget uX11_forget [.ref 11, .int a1] h P := u_X11_forget a1 hJ.1 hJ.2 (fun r h' ok t t4 => hp r h' ⟨ok.1, t⟩ (SB_ok ok (by decide) t4))
theorem k_X10_shift {g : gT} {h : mh_T} {P : Int32 → mh_T → Prop} (a1 : Int32) (a2 : Int32) (a3 : Int32) (a4 : Int32) (hJ : JJ h) (hp : ∀ (r : Int32) (h' : mh_T), JJ h' → SA h h' → P r h') : MCi g yX10_shift uX10_shift [.ref 0, .int a1, .int a2, .int a3, .int a4] h P := s_X10_shift a1 a2 a3 a4 hJ.1 (fun r h' ok _ t4 => hp r h' ⟨ok.1, TVs_fr ok.2.1 (by decide) hJ.2⟩ (SA_ok ok (by decide) t4))
theorem k_X11_shift {g : gT} {h : mh_T} {P : Int32 → mh_T → Prop} (a1 : Int32) (a2 : Int32) (a3 : Int32) (a4 : Int32) (hJ : JJ h) (hp : ∀ (r : Int32) (h' : mh_T), JJ h' → SB h h' → P r h') : MCi g yX11_shift uX11_shift [.ref 11, .int a1, .int a2, .int a3, .int a4] h P := u_X11_shift a1 a2 a3 a4 hJ.1 hJ.2 (fun r h' ok t t4 => hp r h' ⟨ok.1, t⟩ (SB_ok ok (by decide) t4))
theorem k_X10_undo {g : gT} {h : mh_T} {P : Int32 → mh_T → Prop} (hJ : JJ h) (hp : ∀ (r : Int32) (h' : mh_T), JJ h' → SA h h' → P r h') : MCi g yX10_undo uX10_undo [.ref 0] h P := s_X10_undo  hJ.1 (fun r h' ok _ t4 => hp r h' ⟨ok.1, TVs_fr ok.2.1 (by decide) hJ.2⟩ (SA_ok ok (by decide) t4))
theorem k_X11_undo {g : gT} {h : mh_T} {P : Int32 → mh_T → Prop} (hJ : JJ h) (hp : ∀ (r : Int32) (h' : mh_T), JJ h' → SB h h' → P r h') : MCi g yX11_undo uX11_undo [.ref 11] h P := u_X11_undo  hJ.1 hJ.2 (fun r h' ok t t4 => hp r h' ⟨ok.1, t⟩ (SB_ok ok (by decide) t4))
theorem k_X10_redo {g : gT} {h : mh_T} {P : Int32 → mh_T → Prop} (hJ : JJ h) (hp : ∀ (r : Int32) (h' : mh_T), JJ h' → SA h h' → P r h') : MCi g yX10_redo uX10_redo [.ref 0] h P := s_X10_redo  hJ.1 (fun r h' ok _ t4 => hp r h' ⟨ok.1, TVs_fr ok.2.1 (by decide) hJ.2⟩ (SA_ok ok (by decide) t4))
theorem k_X11_redo {g : gT} {h : mh_T} {P : Int32 → mh_T → Prop} (hJ : JJ h) (hp : ∀ (r : Int32) (h' : mh_T), JJ h' → SB h h' → P r h') : MCi g yX11_redo uX11_redo [.ref 11] h P := u_X11_redo  hJ.1 hJ.2 (fun r h' ok t t4 => hp r h' ⟨ok.1, t⟩ (SB_ok ok (by decide) t4))
theorem k_X10_mark {g : gT} {h : mh_T} {P : Int32 → mh_T → Prop} (hJ : JJ h) (hp : ∀ (r : Int32) (h' : mh_T), JJ h' → SA h h' → P r h') : MCi g yX10_mark uX10_mark [.ref 0] h P := s_X10_mark  hJ.1 (fun r h' ok t4 => hp r h' ⟨ok.1, TVs_fr ok.2.1 (by decide) hJ.2⟩ (SA_ok ok (by decide) t4))
theorem k_X11_mark {g : gT} {h : mh_T} {P : Int32 → mh_T → Prop} (hJ : JJ h) (hp : ∀ (r : Int32) (h' : mh_T), JJ h' → SB h h' → P r h') : MCi g yX11_mark uX11_mark [.ref 11] h P := u_X11_mark  hJ.1 hJ.2 (fun r h' ok t t4 => hp r h' ⟨ok.1, t⟩ (SB_ok ok (by decide) t4))
theorem k_X10_back {g : gT} {h : mh_T} {P : Int32 → mh_T → Prop} (a1 : Int32) (hJ : JJ h) (hp : ∀ (r : Int32) (h' : mh_T), JJ h' → SA h h' → P r h') : MCi g yX10_back uX10_back [.ref 0, .int a1] h P := s_X10_back a1 hJ.1 (fun r h' ok _ t4 => hp r h' ⟨ok.1, TVs_fr ok.2.1 (by decide) hJ.2⟩ (SA_ok ok (by decide) t4))
theorem k_X11_back {g : gT} {h : mh_T} {P : Int32 → mh_T → Prop} (a1 : Int32) (hJ : JJ h) (hp : ∀ (r : Int32) (h' : mh_T), JJ h' → SB h h' → P r h') : MCi g yX11_back uX11_back [.ref 11, .int a1] h P := u_X11_back a1 hJ.1 hJ.2 (fun r h' ok t t4 => hp r h' ⟨ok.1, t⟩ (SB_ok ok (by decide) t4))
theorem k_X10_act {g : gT} {h : mh_T} {P : Int32 → mh_T → Prop} (a1 : Int32) (a2 : Int32) (hJ : JJ h) (hp : ∀ (r : Int32) (h' : mh_T), JJ h' → SA h h' → P r h') : MCi g yX10_act uX10_act [.ref 0, .int a1, .int a2] h P := s_X10_act a1 a2 hJ.1 (fun r h' ok t4 => hp r h' ⟨ok.1, TVs_fr ok.2.1 (by decide) hJ.2⟩ (SA_ok ok (by decide) t4))
theorem k_X11_act {g : gT} {h : mh_T} {P : Int32 → mh_T → Prop} (a1 : Int32) (a2 : Int32) (hJ : JJ h) (hp : ∀ (r : Int32) (h' : mh_T), JJ h' → SB h h' → P r h') : MCi g yX11_act uX11_act [.ref 11, .int a1, .int a2] h P := s_X11_act a1 a2 hJ.1 (fun r h' ok t4 => hp r h' ⟨ok.1, TVs_fr ok.2.1 (by decide) hJ.2⟩ (SB_ok ok (by decide) t4))
theorem k_X10_times {g : gT} {h : mh_T} {P : Int32 → mh_T → Prop} (a1 : Int32) (a2 : Int32) (hJ : JJ h) (hp : ∀ (r : Int32) (h' : mh_T), JJ h' → SA h h' → P r h') : MCi g yX10_times uX10_times [.ref 0, .int a1, .int a2] h P := s_X10_times a1 a2 hJ.1 (fun r h' ok t4 => hp r h' ⟨ok.1, TVs_fr ok.2.1 (by decide) hJ.2⟩ (SA_ok ok (by decide) t4))
theorem k_X11_times {g : gT} {h : mh_T} {P : Int32 → mh_T → Prop} (a1 : Int32) (a2 : Int32) (hJ : JJ h) (hp : ∀ (r : Int32) (h' : mh_T), JJ h' → SB h h' → P r h') : MCi g yX11_times uX11_times [.ref 11, .int a1, .int a2] h P := s_X11_times a1 a2 hJ.1 (fun r h' ok t4 => hp r h' ⟨ok.1, TVs_fr ok.2.1 (by decide) hJ.2⟩ (SB_ok ok (by decide) t4))
theorem k_X10_look {g : gT} {h : mh_T} {P : Int32 → mh_T → Prop} (a1 : Int32) (a2 : Int32) (hJ : JJ h) (hp : ∀ (r : Int32) (h' : mh_T), JJ h' → SA h h' → P r h') : MCi g yX10_look uX10_look [.ref 0, .int a1, .int a2] h P := s_X10_look a1 a2 hJ.1 (fun r h' ok t4 => hp r h' ⟨ok.1, TVs_fr ok.2.1 (by decide) hJ.2⟩ (SA_ok ok (by decide) t4))
theorem k_X11_look {g : gT} {h : mh_T} {P : Int32 → mh_T → Prop} (a1 : Int32) (a2 : Int32) (hJ : JJ h) (hp : ∀ (r : Int32) (h' : mh_T), JJ h' → SB h h' → P r h') : MCi g yX11_look uX11_look [.ref 11, .int a1, .int a2] h P := s_X11_look a1 a2 hJ.1 (fun r h' ok _ t4 => hp r h' ⟨ok.1, TVs_fr ok.2.1 (by decide) hJ.2⟩ (SB_ok ok (by decide) t4))
theorem k_X10_coins {g : gT} {h : mh_T} {P : Int32 → mh_T → Prop} (a1 : Int32) (a2 : Int32) (hJ : JJ h) (hp : ∀ (r : Int32) (h' : mh_T), JJ h' → SA h h' → P r h') : MCi g yX10_coins uX10_coins [.ref 0, .int a1, .int a2] h P := s_X10_coins a1 a2 hJ.1 (fun r h' ok t4 => hp r h' ⟨ok.1, TVs_fr ok.2.1 (by decide) hJ.2⟩ (SA_ok ok (by decide) t4))
theorem k_X11_coins {g : gT} {h : mh_T} {P : Int32 → mh_T → Prop} (a1 : Int32) (a2 : Int32) (hJ : JJ h) (hp : ∀ (r : Int32) (h' : mh_T), JJ h' → SB h h' → P r h') : MCi g yX11_coins uX11_coins [.ref 11, .int a1, .int a2] h P := s_X11_coins a1 a2 hJ.1 (fun r h' ok t4 => hp r h' ⟨ok.1, TVs_fr ok.2.1 (by decide) hJ.2⟩ (SB_ok ok (by decide) t4))
theorem k_X10_size {g : gT} {h : mh_T} {P : Int32 → mh_T → Prop} (a1 : Int32) (hJ : JJ h) (hp : ∀ (r : Int32) (h' : mh_T), JJ h' → SU h h' → P r h') : MCi g yX10_size uX10_size [.ref 0, .int a1] h P := s_X10_size a1 hJ.1 (fun r _ => hp r h hJ (SU_rf h))
theorem k_X11_size {g : gT} {h : mh_T} {P : Int32 → mh_T → Prop} (a1 : Int32) (hJ : JJ h) (hp : ∀ (r : Int32) (h' : mh_T), JJ h' → SU h h' → P r h') : MCi g yX11_size uX11_size [.ref 11, .int a1] h P := s_X11_size a1 hJ.1 (fun r h' ok _ => hp r h' ⟨ok.1, TVs_fr ok.2.1 (by decide) hJ.2⟩ (SU_ok ok (by decide)))
theorem k_X10_trouble {g : gT} {h : mh_T} {P : Int32 → mh_T → Prop} (hJ : JJ h) (hp : ∀ (r : Int32) (h' : mh_T), JJ h' → SU h h' → P r h') : MCi g yX10_trouble uX10_trouble [.ref 0] h P := s_X10_trouble  hJ.1 (fun r => hp r h hJ (SU_rf h))
theorem k_X11_trouble {g : gT} {h : mh_T} {P : Int32 → mh_T → Prop} (hJ : JJ h) (hp : ∀ (r : Int32) (h' : mh_T), JJ h' → SU h h' → P r h') : MCi g yX11_trouble uX11_trouble [.ref 11] h P := s_X11_trouble  hJ.1 (fun r h' ok => hp r h' ⟨ok.1, TVs_fr ok.2.1 (by decide) hJ.2⟩ (SU_ok ok (by decide)))
theorem k_X11_led {g : gT} {h : mh_T} {P : Int32 → mh_T → Prop} (a1 : Int32) (hJ : JJ h) (hp : ∀ (r : Int32) (h' : mh_T), JJ h' → SU h h' → P r h') : MCi g yX11_led uX11_led [.ref 11, .int a1] h P := s_X11_led a1 hJ.1 (fun r h' ok _ => hp r h' ⟨ok.1, TVs_fr ok.2.1 (by decide) hJ.2⟩ (SU_ok ok (by decide)))
