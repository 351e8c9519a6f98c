/-! the law's calls -/
def JJ (h : mh_T) : Prop := GI h ∧ TVs h
/-- what the calls but feed and book leave -/
def SY (h h' : mh_T) : Prop := (mI h' 8 0 = mI h 8 0 ∧ h'.1 32 = h.1 32 ∧ mI h' 11 14 = mI h 11 14 ∧ ∀ j, 49 ≤ j → mI h' 45 j = mI h 45 j) ∧ mI h' 3 0 = mI h 3 0 ∧ h'.1 7 = h.1 7 ∧ h'.1 31 = h.1 31
def SS (h h' : mh_T) : Prop := (mI h' 0 10 = mI h 0 10 ∧ mI h' 11 2 = mI h 11 2 ∧ h'.1 12 = h.1 12 ∧ h'.1 43 = h.1 43) ∧ SY h h'
/-- both tapes hold the same bytes -/
def RT (h : mh_T) : Prop := mI h 0 10 = mI h 11 2 ∧ ∀ j : Nat, (j : Int) < (mI h 0 10).toInt → mI h 12 j = mI h 43 j ∧ 0 ≤ (mI h 43 j).toInt
/-- the same rays; the class knows which are square -/
def RY (h : mh_T) : Prop := mI h 8 0 = mI h 45 85 ∧ (mI h 11 14 = 0 → mI h 45 85 = 0) ∧ ∀ i j : Nat, (i : Int) < (mI h 45 85).toInt → (j : Int) < (mI h 45 85).toInt → ¬ j = i → (bt (mI h 32 i) j = true ↔ dtk (fun q => mI h 45 (86 + q)) i j 4 = 0)
/-- both have a book, or none; the class knows what can be asked of the lines -/
def RW (h : mh_T) : Prop := (mI h 3 0 = 0 ↔ mI h 11 14 = 0) ∧ (mI h 11 14 = 0 → mI h 7 0 = 0) ∧ (¬ mI h 11 14 = 0 → LF (fun j => mI h 45 j) (mI h 45 52).toInt.toNat (mI h 45 51).toInt.toNat h)
def RR (h : mh_T) : Prop := RT h ∧ RY h ∧ RW h
theorem SY_rf (h : mh_T) : SY h h := ⟨⟨rfl, rfl, rfl, fun _ _ => rfl⟩, rfl, rfl, rfl⟩
theorem SS_rf (h : mh_T) : SS h h := ⟨⟨rfl, rfl, rfl, rfl⟩, SY_rf h⟩
theorem SS_wL {h : mh_T} {k j : Nat} {v : Int64} : SS h (wL h k j v) := ⟨⟨rfl, rfl, rfl, rfl⟩, ⟨rfl, rfl, rfl, fun _ _ => rfl⟩, rfl, rfl, rfl⟩
theorem SS_ok {ms : List Nat} {h h' : mh_T} (ok : Ok ms h h') (hm : 12 ∉ ms ∧ 43 ∉ ms ∧ 32 ∉ ms ∧ 7 ∉ ms ∧ 31 ∉ ms) : SS h h' := ⟨⟨ok.2.2.1, ok.2.2.2.1, OkC ok ⟨by decide, hm.1⟩, OkC ok ⟨by decide, hm.2.1⟩⟩, ⟨ok.2.2.2.2.1 8 0 (by decide), OkC ok ⟨by decide, hm.2.2.1⟩, ok.2.2.2.2.1 11 14 (by decide), fun j hj => ok.2.2.2.2.1 45 j (by unfold Pk; omega)⟩, ok.2.2.2.2.1 3 0 (by decide), OkC ok ⟨by decide, hm.2.2.2.1⟩, OkC ok ⟨by decide, hm.2.2.2.2⟩⟩
theorem RT_s {h h' : mh_T} (s : SS h h') (r : RT h) : RT h' := by
  have e12 : ∀ j, mI h' 12 j = mI h 12 j := fun j => congrFun s.1.2.2.1 j
  have e43 : ∀ j, mI h' 43 j = mI h 43 j := fun j => congrFun s.1.2.2.2 j
  unfold RT
  rw [s.1.1, s.1.2.1]
  exact ⟨r.1, fun j hj => by rw [e12, e43]; exact r.2 j hj⟩
theorem RY_s {h h' : mh_T} (s : SY h h') (r : RY h) : RY h' := by
  have e32 : ∀ j, mI h' 32 j = mI h 32 j := fun j => congrFun s.1.2.1 j
  have e45 : (fun q => mI h' 45 (86 + q)) = fun q => mI h 45 (86 + q) := by
    funext q
    exact s.1.2.2.2 _ (by omega)
  unfold RY
  rw [s.1.1, s.1.2.2.1, s.1.2.2.2 85 (by omega), e45]
  exact ⟨r.1, r.2.1, fun i j hi hj hij => by rw [e32]; exact r.2.2 i j hi hj hij⟩
theorem RW_s {h h' : mh_T} (hJ : GI h) (s : SY h h') (r : RW h) : RW h' := by
  have e7 : ∀ j, mI h' 7 j = mI h 7 j := fun j => congrFun s.2.2.1 j
  have r52 : R 0 8 (mI h 45 52) := GI_rd hJ 45 52 (by decide)
  unfold RW
  rw [s.2.1, s.1.2.2.1, e7, s.1.2.2.2 52 (by omega), s.1.2.2.2 51 (by omega)]
  exact ⟨r.1, r.2.1, fun z => LF_cg (by have := r52.1; have := r52.2; omega) (fun i hi _ => (s.1.2.2.2 i (by omega)).symm) s.2.2.1 s.2.2.2 (r.2.2 z)⟩
theorem RR_s {h h' : mh_T} (hJ : JJ h) (s : SS h h') (r : RR h) : RR h' := ⟨RT_s s r.1, RY_s s.2 r.2.1, RW_s hJ.1 s.2 r.2.2⟩
abbrev SL := SS
theorem SL_rf (h : mh_T) : SL h h := SS_rf h
theorem SL_wL {h : mh_T} {k j : Nat} {v : Int64} : SL h (wL h k j v) := SS_wL
theorem RR_l {h h1 h2 : mh_T} (hJ : JJ h) (hJ1 : JJ h1) (he : RR h) (s1 : SL h h1) (s2 : SL h1 h2) : RR h2 := RR_s hJ1 s2 (RR_s hJ s1 he)
theorem l_in {i c : Int32} {k d n : Nat} (ei : i.toInt = (k : Int)) (hc : c.toInt = (d : Int)) (h : k + d < n) (hn : n < 2147483647) : vp_in (i + c) n := i_vp (i_off ei c d hc (by omega)) h
def FA (a1 a2 a3 a4 a5 : Int32) (h : mh_T) (r : Int32) (h' : mh_T) : Prop := SY h h' ∧ (mI h' 11 2 = mI h 11 2 ∧ h'.1 43 = h.1 43) ∧ ((mI h 0 10).toInt ≤ 880 → ((mI h' 0 10).toInt = (mI h 0 10).toInt + 20 ∧ r = mI h' 0 10) ∧ (∀ i : Nat, (i : Int) < (mI h 0 10).toInt → mI h' 12 i = mI h 12 i) ∧ ∀ m, m < 20 → mI h' 12 ((mI h 0 10).toInt.toNat + m) = fw a1 a2 a3 a4 a5 m) ∧ (¬ (mI h 0 10).toInt ≤ 880 → (mI h' 0 10 = mI h 0 10 ∧ r = -1) ∧ h'.1 12 = h.1 12)
def FB (a1 a2 a3 a4 a5 : Int32) (h : mh_T) (r : Int32) (h' : mh_T) : Prop := SY h h' ∧ (mI h' 0 10 = mI h 0 10 ∧ h'.1 12 = h.1 12) ∧ ((mI h 11 2).toInt ≤ 880 → ((mI h' 11 2).toInt = (mI h 11 2).toInt + 20 ∧ r = mI h' 11 2) ∧ (∀ i : Nat, (i : Int) < (mI h 11 2).toInt → mI h' 43 i = mI h 43 i) ∧ ∀ m, m < 20 → mI h' 43 ((mI h 11 2).toInt.toNat + m) = fw a1 a2 a3 a4 a5 m) ∧ (¬ (mI h 11 2).toInt ≤ 880 → (mI h' 11 2 = mI h 11 2 ∧ r = -1) ∧ h'.1 43 = h.1 43)
theorem k_X10_feed {g : gT} {h : mh_T} {P : Int32 → mh_T → Prop} (a1 a2 a3 a4 a5 : Int32) (hJ : JJ h) (hp : ∀ (r : Int32) (h' : mh_T), JJ h' → FA a1 a2 a3 a4 a5 h r h' → P r h') : MCi g yX10_feed uX10_feed [.ref 0, .int a1, .int a2, .int a3, .int a4, .int a5] h P := by
  obtain ⟨F, eF, F0, F9⟩ := i_R (GI_rd hJ.1 0 10 (lo := 0) (hi := 900) (by decide)) (by decide)
  refine v_feed a1 a2 a3 a4 a5 hJ.1 eF (fun hF h' ok e1 e2 e3 _ => hp _ h' ⟨ok.1, TVs_fr ok.2 (by decide) hJ.2⟩ ⟨⟨⟨congrFun (ok.2 8 (by decide) (by decide)).1 0, (ok.2 32 (by decide) (by decide)).1, congrFun (ok.2 11 (by decide) (by decide)).1 14, fun j _ => congrFun (ok.2 45 (by decide) (by decide)).1 j⟩, congrFun (ok.2 3 (by decide) (by decide)).1 0, (ok.2 7 (by decide) (by decide)).1, (ok.2 31 (by decide) (by decide)).1⟩, ⟨congrFun (ok.2 11 (by decide) (by decide)).1 2, (ok.2 43 (by decide) (by decide)).1⟩, fun _ => ⟨⟨by rw [e1, eF]; omega, rfl⟩, fun i hi => e2 i (by omega), fun m hm => by rw [eF]; exact e3 m hm⟩, fun z => absurd (by omega) z⟩) (fun hF => hp _ h hJ ⟨SY_rf h, ⟨rfl, rfl⟩, fun z => absurd (by omega) hF, fun _ => ⟨⟨rfl, rfl⟩, rfl⟩⟩)
theorem k_X11_feed {g : gT} {h : mh_T} {P : Int32 → mh_T → Prop} (a1 a2 a3 a4 a5 : Int32) (hJ : JJ h) (hp : ∀ (r : Int32) (h' : mh_T), JJ h' → FB a1 a2 a3 a4 a5 h r h' → P r h') : MCi g yX11_feed uX11_feed [.ref 11, .int a1, .int a2, .int a3, .int a4, .int a5] h P := by
  obtain ⟨F, eF, F0, F9⟩ := i_R (GI_rd hJ.1 11 2 (lo := 0) (hi := 900) (by decide)) (by decide)
  refine w_feed a1 a2 a3 a4 a5 hJ.1 eF (fun hF h' ok e1 e2 e3 e4 => hp _ h' ⟨ok.1, TVs_fr ok.2 (by decide) hJ.2⟩ ⟨⟨⟨congrFun (ok.2 8 (by decide) (by decide)).1 0, (ok.2 32 (by decide) (by decide)).1, e4 14 (by omega), fun j _ => congrFun (ok.2 45 (by decide) (by decide)).1 j⟩, congrFun (ok.2 3 (by decide) (by decide)).1 0, (ok.2 7 (by decide) (by decide)).1, (ok.2 31 (by decide) (by decide)).1⟩, ⟨congrFun (ok.2 0 (by decide) (by decide)).1 10, (ok.2 12 (by decide) (by decide)).1⟩, fun _ => ⟨⟨by rw [e1, eF]; omega, rfl⟩, fun i hi => e2 i (by omega), fun m hm => by rw [eF]; exact e3 m hm⟩, fun z => absurd (by omega) z⟩) (fun hF => hp _ _ ⟨GI_w hJ.1 (k := 11) (j := 0) (lo := -2147483648) (hi := 2147483647) (by decide) (R_full _), TVs_11 hJ.2⟩ ⟨⟨⟨?_, ?_, ?_, fun j _ => ?_⟩, ?_, ?_, ?_⟩, ⟨?_, ?_⟩, fun z => absurd (by omega) hF, fun _ => ⟨⟨?_, rfl⟩, ?_⟩⟩)
  · rw [mI_wI, if_neg (by decide)]
  · exact ((Fr_w (ms := [11]) (Fr_rf h) (by decide)) 32 (by decide) (by decide)).1
  · rw [mI_wI, if_neg (by decide)]
  · rw [mI_wI, if_neg (fun z => absurd z.1 (by decide))]
  · rw [mI_wI, if_neg (by decide)]
  · exact ((Fr_w (ms := [11]) (Fr_rf h) (by decide)) 7 (by decide) (by decide)).1
  · exact ((Fr_w (ms := [11]) (Fr_rf h) (by decide)) 31 (by decide) (by decide)).1
  · rw [mI_wI, if_neg (by decide)]
  · exact ((Fr_w (ms := [11]) (Fr_rf h) (by decide)) 12 (by decide) (by decide)).1
  · rw [mI_wI, if_neg (by decide)]
  · exact ((Fr_w (ms := [11]) (Fr_rf h) (by decide)) 43 (by decide) (by decide)).1
theorem feed_RR {h h1 h2 : mh_T} {r1 r2 a1 a2 a3 a4 a5 : Int32} (hJ : JJ h) (hJ1 : JJ h1) (he : RR h) (s1 : FA a1 a2 a3 a4 a5 h r1 h1) (s2 : FB a1 a2 a3 a4 a5 h1 r2 h2) : RR h2 := by
  have e := he.1.1
  have e1 := s1.2.1.1
  have t1 : ∀ j, mI h1 43 j = mI h 43 j := fun j => congrFun s1.2.1.2 j
  have t2 : ∀ j, mI h2 12 j = mI h1 12 j := fun j => congrFun s2.2.1.2 j
  refine ⟨?_, RY_s s2.1 (RY_s s1.1 he.2.1), RW_s hJ1.1 s2.1 (RW_s hJ.1 s1.1 he.2.2)⟩
  unfold RT
  rw [s2.2.1.1]
  by_cases q : (mI h 0 10).toInt ≤ 880
  · obtain ⟨⟨b1, -⟩, b3, b4⟩ := s1.2.2.1 q
    obtain ⟨⟨c1, -⟩, c3, c4⟩ := s2.2.2.1 (by rw [e1, ← e]; exact q)
    rw [e1, ← e] at c1 c3 c4
    refine ⟨Int32.toInt_inj.mp (by rw [b1, c1]), fun j hj => ?_⟩
    rw [t2]
    by_cases z : (j : Int) < (mI h 0 10).toInt
    · rw [b3 j z, c3 j z, t1]
      exact he.1.2 j z
    · by_cases y : 0 ≤ (mI h 0 10).toInt
      · have w : j = (mI h 0 10).toInt.toNat + (j - (mI h 0 10).toInt.toNat) := by omega
        rw [w, b4 _ (by omega), c4 _ (by omega)]
        exact ⟨rfl, fw_nn _ _ _ _ _ _⟩
      · have w : j = (mI h 0 10).toInt.toNat + (j - (mI h 0 10).toInt.toNat) := by omega
        rw [w, b4 _ (by omega), c4 _ (by omega)]
        exact ⟨rfl, fw_nn _ _ _ _ _ _⟩
  · obtain ⟨⟨b1, -⟩, b3⟩ := s1.2.2.2 q
    obtain ⟨⟨c1, -⟩, c3⟩ := s2.2.2.2 (by rw [e1, ← e]; exact q)
    have t3 : ∀ j, mI h1 12 j = mI h 12 j := fun j => congrFun b3 j
    have t4 : ∀ j, mI h2 43 j = mI h1 43 j := fun j => congrFun c3 j
    rw [b1, c1, e1]
    refine ⟨e, fun j hj => ?_⟩
    rw [t2, t3, t4, t1]
    exact he.1.2 j hj
theorem rx_law {T : Nat → Int32} {n : Nat} : ∀ (k e e1 : Nat) (f f1 : Nat → Int32), rx_text T n k e f = .inr ((), e1, f1) → ¬ f1 49 = 0
  | 0, _, _, _, _, h => by cases h
  | k + 1, e, e1, f, f1, h => by
    change rx_bind (rx_line T n e f) (fun _ e1 f1 => if rx_k T n e1 = 0 then (if f1 49 = 0 ∨ f1 50 = 0 then rx_no T n e1 6 else .inr ((), e1, f1)) else if rx_k T n e1 = 59 then rx_text T n k (rx_e T n e1) f1 else rx_no T n e1 1) = _ at h
    cases a : rx_line T n e f with
    | inl q => rw [a] at h; cases h
    | inr q =>
      obtain ⟨u, e2, f2⟩ := q
      rw [a] at h
      change (if rx_k T n e2 = 0 then (if f2 49 = 0 ∨ f2 50 = 0 then rx_no T n e2 6 else .inr ((), e2, f2)) else if rx_k T n e2 = 59 then rx_text T n k (rx_e T n e2) f2 else rx_no T n e2 1) = _ at h
      split at h
      · split at h
        · cases h
        · rename_i z
          cases h
          exact fun y => z (Or.inl y)
      · split at h
        · exact rx_law k _ _ _ _ h
        · cases h
def BA (T : Nat → Int32) (a1 : Int32) (h : mh_T) (r : Int32) (h' : mh_T) : Prop := (mI h' 11 2 = mI h 11 2 ∧ h'.1 43 = h.1 43 ∧ mI h' 11 14 = mI h 11 14 ∧ h'.1 45 = h.1 45) ∧ ((0 ≤ a1.toInt ∧ a1.toInt ≤ (mI h 0 10).toInt) → mI h' 0 10 = 0 ∧ ((∃ w p, rx_book T a1.toInt.toNat = .inl (w, p) ∧ r = -1 ∧ (mI h' 8 0 = mI h 8 0 ∧ mI h' 3 0 = mI h 3 0 ∧ h'.1 7 = h.1 7 ∧ h'.1 31 = h.1 31) ∧ h'.1 32 = h.1 32) ∨ (∃ e f, rx_book T a1.toInt.toNat = .inr ((), e, f) ∧ r = f 50 ∧ (mI h' 8 0 = f 85 ∧ mI h' 3 0 = f 49 ∧ LF f (f 52).toInt.toNat (f 51).toInt.toNat h') ∧ ∀ i j : Nat, (i : Int) < (f 85).toInt → (j : Int) < (f 85).toInt → ¬ j = i → (bt (mI h' 32 i) j = true ↔ dtk (fun q => f (86 + q)) i j 4 = 0)))) ∧ (¬ (0 ≤ a1.toInt ∧ a1.toInt ≤ (mI h 0 10).toInt) → (mI h' 0 10 = mI h 0 10 ∧ r = -1 ∧ (mI h' 8 0 = mI h 8 0 ∧ mI h' 3 0 = mI h 3 0 ∧ h'.1 7 = h.1 7 ∧ h'.1 31 = h.1 31) ∧ h'.1 32 = h.1 32) ∧ h'.1 12 = h.1 12)
def BB (T : Nat → Int32) (a1 : Int32) (h : mh_T) (r : Int32) (h' : mh_T) : Prop := (mI h' 0 10 = mI h 0 10 ∧ h'.1 12 = h.1 12 ∧ (mI h' 8 0 = mI h 8 0 ∧ mI h' 3 0 = mI h 3 0 ∧ h'.1 7 = h.1 7 ∧ h'.1 31 = h.1 31) ∧ h'.1 32 = h.1 32) ∧ ((0 ≤ a1.toInt ∧ a1.toInt ≤ (mI h 11 2).toInt) → mI h' 11 2 = 0 ∧ ((∃ w p, rx_book T a1.toInt.toNat = .inl (w, p) ∧ r = -1 ∧ h'.1 45 = h.1 45 ∧ mI h' 11 14 = mI h 11 14) ∨ (∃ e f, rx_book T a1.toInt.toNat = .inr ((), e, f) ∧ r = f 50 ∧ (∀ j, j < 346 → mI h' 45 j = f j) ∧ mI h' 11 14 = 1))) ∧ (¬ (0 ≤ a1.toInt ∧ a1.toInt ≤ (mI h 11 2).toInt) → (mI h' 11 2 = mI h 11 2 ∧ r = -1 ∧ h'.1 45 = h.1 45 ∧ mI h' 11 14 = mI h 11 14) ∧ h'.1 43 = h.1 43)
theorem k_X10_book {g : gT} {h : mh_T} {P : Int32 → mh_T → Prop} (a1 : Int32) (hJ : JJ h) (hp : ∀ (r : Int32) (h' : mh_T), JJ h' → BA (fun j => mI h 12 j) a1 h r h' → P r h') : MCi g yX10_book uX10_book [.ref 0, .int a1] h P := by
  have fr2 : Fr [0] h (wI h 0 11 2) := Fr_w (Fr_rf h) (by decide)
  have z : ∀ {ms : List Nat} {h' : mh_T}, Fr ms h h' → 11 ∉ ms → 43 ∉ ms → 45 ∉ ms → mI h' 11 2 = mI h 11 2 ∧ h'.1 43 = h.1 43 ∧ mI h' 11 14 = mI h 11 14 ∧ h'.1 45 = h.1 45 := fun fr m1 m2 m3 => ⟨congrFun (fr 11 (by decide) m1).1 2, (fr 43 (by decide) m2).1, congrFun (fr 11 (by decide) m1).1 14, (fr 45 (by decide) m3).1⟩
  refine c_book (T := fun j => mI h 12 j) a1 hJ.1 (fun _ _ => rfl) (fun q => hp _ _ ⟨GI_w hJ.1 (k := 0) (j := 11) (lo := -2147483648) (hi := 2147483647) (by decide) (R_full _), TVs_fr fr2 (by decide) hJ.2⟩ ⟨z fr2 (by decide) (by decide) (by decide), fun y => absurd y q, fun _ => ⟨⟨?_, rfl, ⟨?_, congrFun (fr2 3 (by decide) (by decide)).1 0, (fr2 7 (by decide) (by decide)).1, (fr2 31 (by decide) (by decide)).1⟩, (fr2 32 (by decide) (by decide)).1⟩, (fr2 12 (by decide) (by decide)).1⟩⟩) (fun n e f h' en hn ro g1 fr v vy vw => hp _ h' ⟨g1, TVs_fr fr (by decide) hJ.2⟩ ⟨z fr (by decide) (by decide) (by decide), fun _ => ⟨v.1, Or.inr ⟨e, f, ?_, rfl, ⟨vy.2.2.1, vy.1, vw⟩, vy.2.2.2⟩⟩, fun y => absurd (by omega) y⟩) (fun n w p h' en hn ro g1 fr v vp vx => hp _ h' ⟨g1, TVs_fr fr (by decide) hJ.2⟩ ⟨z fr (by decide) (by decide) (by decide), fun _ => ⟨v.1, Or.inl ⟨w, p, ?_, rfl, ⟨congrFun vx.2.1 0, congrFun vx.1 0, vx.2.2.2⟩, vx.2.2.1⟩⟩, fun y => absurd (by omega) y⟩)
  · rw [mI_wI, if_neg (by decide)]
  · rw [mI_wI, if_neg (by decide)]
  · rw [en, Int.toNat_natCast, ro]
  · rw [en, Int.toNat_natCast, ro]
theorem k_X11_book {g : gT} {h : mh_T} {P : Int32 → mh_T → Prop} (a1 : Int32) {T : Nat → Int32} (hJ : JJ h) (hT : ∀ j : Nat, (j : Int) < (mI h 11 2).toInt → mI h 43 j = T j ∧ 0 ≤ (T j).toInt) (hp : ∀ (r : Int32) (h' : mh_T), JJ h' → BB T a1 h r h' → P r h') : MCi g yX11_book uX11_book [.ref 11, .int a1] h P := by
  have fr2 : Fr [11] h (wI (wI (wI h 11 0 0) 11 11 0) 11 11 2) := Fr_w (Fr_w (Fr_w (Fr_rf h) (by decide)) (by decide)) (by decide)
  have z : ∀ {ms : List Nat} {h' : mh_T}, Fr ms h h' → 0 ∉ ms → 12 ∉ ms → 8 ∉ ms → 32 ∉ ms → 3 ∉ ms → 7 ∉ ms → 31 ∉ ms → mI h' 0 10 = mI h 0 10 ∧ h'.1 12 = h.1 12 ∧ (mI h' 8 0 = mI h 8 0 ∧ mI h' 3 0 = mI h 3 0 ∧ h'.1 7 = h.1 7 ∧ h'.1 31 = h.1 31) ∧ h'.1 32 = h.1 32 := fun fr m0 m12 m8 m32 m3 m7 m31 => ⟨congrFun (fr 0 (by decide) m0).1 10, (fr 12 (by decide) m12).1, ⟨congrFun (fr 8 (by decide) m8).1 0, congrFun (fr 3 (by decide) m3).1 0, (fr 7 (by decide) m7).1, (fr 31 (by decide) m31).1⟩, (fr 32 (by decide) m32).1⟩
  refine b_book (T := T) a1 hJ.1 hJ.2 hT (fun q => hp _ _ ⟨GI_w (GI_w (GI_w hJ.1 (k := 11) (j := 0) (lo := -2147483648) (hi := 2147483647) (by decide) (R_full _)) (k := 11) (j := 11) (lo := -2147483648) (hi := 2147483647) (by decide) (R_full _)) (k := 11) (j := 11) (lo := -2147483648) (hi := 2147483647) (by decide) (R_full _), TVs_11 (TVs_11 (TVs_11 hJ.2))⟩ ⟨z fr2 (by decide) (by decide) (by decide) (by decide) (by decide) (by decide) (by decide), fun y => absurd y q, fun _ => ⟨⟨?_, rfl, (fr2 45 (by decide) (by decide)).1, ?_⟩, (fr2 43 (by decide) (by decide)).1⟩⟩) (fun n e f h' en hn ro g1 fr t v vy => hp _ h' ⟨g1, t⟩ ⟨z fr (by decide) (by decide) (by decide) (by decide) (by decide) (by decide) (by decide), fun _ => ⟨v.2.1, Or.inr ⟨e, f, ?_, rfl, vy.1, vy.2⟩⟩, fun y => absurd (by omega) y⟩) (fun n w p h' en hn ro g1 fr t v vp vx => hp _ h' ⟨g1, t⟩ ⟨z fr (by decide) (by decide) (by decide) (by decide) (by decide) (by decide) (by decide), fun _ => ⟨v.2.1, Or.inl ⟨w, p, ?_, rfl, vx.1, vx.2⟩⟩, fun y => absurd (by omega) y⟩)
  · rw [mI_wI, if_neg (by decide), mI_wI, if_neg (by decide), mI_wI, if_neg (by decide)]
  · rw [mI_wI, if_neg (by decide), mI_wI, if_neg (by decide), mI_wI, if_neg (by decide)]
  · rw [en, Int.toNat_natCast, ro]
  · rw [en, Int.toNat_natCast, ro]
theorem book_T {h h1 : mh_T} {T : Nat → Int32} {r1 n : Int32} (he : RR h) (s1 : BA T n h r1 h1) : ∀ j : Nat, (j : Int) < (mI h1 11 2).toInt → mI h1 43 j = mI h 12 j ∧ 0 ≤ (mI h 12 j).toInt := by
  intro j hj
  have t1 : mI h1 43 j = mI h 43 j := congrFun s1.1.2.1 j
  rw [s1.1.1, ← he.1.1] at hj
  obtain ⟨a, b⟩ := he.1.2 j hj
  rw [t1, a]
  exact ⟨rfl, b⟩
theorem book_RR {h h1 h2 : mh_T} {T : Nat → Int32} {r1 r2 n : Int32} (hJ : JJ h) (hJ1 : JJ h1) (hJ2 : JJ h2) (he : RR h) (s1 : BA T n h r1 h1) (s2 : BB T n h1 r2 h2) : RR h2 := by
  by_cases q : 0 ≤ n.toInt ∧ n.toInt ≤ (mI h 0 10).toInt
  · have q2 : 0 ≤ n.toInt ∧ n.toInt ≤ (mI h1 11 2).toInt := by rw [s1.1.1, ← he.1.1]; exact q
    refine ⟨?_, ?_⟩
    · unfold RT
      rw [s2.1.1, (s1.2.1 q).1, (s2.2.1 q2).1]
      refine ⟨rfl, fun j hj => ?_⟩
      rw [show (0 : Int32).toInt = 0 from by decide] at hj
      omega
    · rcases (s1.2.1 q).2 with ⟨w, p, a, -, b1, b2⟩ | ⟨e, f, a, -, b1, b2⟩ <;> rcases (s2.2.1 q2).2 with ⟨w', p', a', -, c1, c2⟩ | ⟨e', f', a', -, c1, c2⟩
      · have y1 : SY h h1 := ⟨⟨b1.1, b2, s1.1.2.2.1, fun j _ => congrFun s1.1.2.2.2 j⟩, b1.2⟩
        have y2 : SY h1 h2 := ⟨⟨s2.1.2.2.1.1, s2.1.2.2.2, c2, fun j _ => congrFun c1 j⟩, s2.1.2.2.1.2⟩
        exact ⟨RY_s y2 (RY_s y1 he.2.1), RW_s hJ1.1 y2 (RW_s hJ.1 y1 he.2.2)⟩
      · rw [a] at a'; cases a'
      · rw [a] at a'; cases a'
      · rw [a] at a'
        cases a'
        have e32 : ∀ j, mI h2 32 j = mI h1 32 j := fun j => congrFun s2.1.2.2.2 j
        have r85 : (mI h2 45 85).toInt = (f 85).toInt := by rw [c1 85 (by decide)]
        have nb : ¬ mI h2 11 14 = 0 := fun z => absurd (c2.symm.trans z) (by decide)
        refine ⟨⟨by rw [s2.1.2.2.1.1, b1.1, c1 85 (by decide)], fun z => absurd z nb, fun i j hi hj hij => ?_⟩, ⟨fun z => ?_, fun z => absurd z nb⟩, fun z => absurd z nb, fun _ => ?_⟩
        rotate_left
        · rw [s2.1.2.2.1.2.1, b1.2.1] at z
          exact absurd z (rx_law _ _ _ _ _ a)
        · have r52 : R 0 8 (mI h2 45 52) := GI_rd hJ2.1 45 52 (by decide)
          rw [c1 52 (by decide)] at r52
          rw [c1 52 (by decide), c1 51 (by decide)]
          exact LF_cg (by have := r52.1; have := r52.2; omega) (fun i _ h2' => (c1 i (by omega)).symm) s2.1.2.2.1.2.2.1 s2.1.2.2.1.2.2.2 b1.2.2
        rw [r85] at hi hj
        rw [e32, b2 i j hi hj hij]
        have h18 : (f 85).toInt ≤ 18 := by
          rw [← r85]
          exact (GI_rd hJ2.1 45 85 (lo := 0) (hi := 18) (by decide)).2
        rw [dtk_cg (y := fun q => mI h2 45 (86 + q)) 4 (Nat.le_refl _) (fun q hq => ⟨?_, ?_⟩)]
        · show f (86 + (4 * i + q)) = mI h2 45 (86 + (4 * i + q))
          rw [c1 _ (by omega)]
        · show f (86 + (4 * j + q)) = mI h2 45 (86 + (4 * j + q))
          rw [c1 _ (by omega)]
  · obtain ⟨⟨b1, -, b4, b5⟩, b3⟩ := s1.2.2 q
    obtain ⟨⟨c1, -, c4, c5⟩, c3⟩ := s2.2.2 (by rw [s1.1.1, ← he.1.1]; exact q)
    have y1 : SY h h1 := ⟨⟨b4.1, b5, s1.1.2.2.1, fun j _ => congrFun s1.1.2.2.2 j⟩, b4.2⟩
    have y2 : SY h1 h2 := ⟨⟨s2.1.2.2.1.1, s2.1.2.2.2, c5, fun j _ => congrFun c4 j⟩, s2.1.2.2.1.2⟩
    refine ⟨?_, RY_s y2 (RY_s y1 he.2.1), RW_s hJ1.1 y2 (RW_s hJ.1 y1 he.2.2)⟩
    have t1 : ∀ j, mI h1 43 j = mI h 43 j := fun j => congrFun s1.1.2.1 j
    have t2 : ∀ j, mI h2 12 j = mI h1 12 j := fun j => congrFun s2.1.2.1 j
    have t3 : ∀ j, mI h1 12 j = mI h 12 j := fun j => congrFun b3 j
    have t4 : ∀ j, mI h2 43 j = mI h1 43 j := fun j => congrFun c3 j
    unfold RT
    rw [s2.1.1, b1, c1, s1.1.1]
    refine ⟨he.1.1, fun j hj => ?_⟩
    rw [t2, t3, t4, t1]
    exact he.1.2 j hj
/-! ways -/
def wC (h : mh_T) : Int32 := if mI h 3 0 = 0 then -1 else mI h 7 2
def wM (h : mh_T) : Int32 := if mI h 11 14 = 0 then -1 else wyc (fun j => mI h 45 j) (mI h 45 52).toInt.toNat (2 ^ (mI h 45 51).toInt.toNat)
theorem k_X10_ways {g : gT} {h : mh_T} {P : Int32 → mh_T → Prop} (hJ : JJ h) (hp : ∀ (r : Int32) (h' : mh_T), JJ h' → (r = wC h ∧ SS h h') → P r h') : MCi g yX10_ways uX10_ways [.ref 0] h P := by
  have out : ∀ (r v : Int32), r = wC h → P r (wI h 0 11 v) := fun r v e => by
    have ok := Ok_w (Ok_rf (ms := [0]) hJ.1) (k := 0) (j := 11) (v := v) (lo := -2147483648) (hi := 2147483647) (by decide) (R_full _) (by decide) (by decide)
    exact hp r _ ⟨ok.1, TVs_fr ok.2.1 (by decide) hJ.2⟩ ⟨e, SS_ok ok (by decide)⟩
  refine e_X10_ways (e_X10_noBook ⟨fun z => ⟨fun _ => e_X10_told _ (out _ 0 ?_), fun y => absurd rfl y⟩, fun z => ⟨fun y => absurd y (by decide), fun _ => e_X10_refused 1 (out (-1) 1 ?_)⟩⟩)
  · unfold wC
    rw [if_neg z]
  · unfold wC
    rw [if_pos z]
theorem k_X11_ways {g : gT} {h : mh_T} {P : Int32 → mh_T → Prop} (hJ : JJ h) (hp : ∀ (r : Int32) (h' : mh_T), JJ h' → (r = wM h ∧ SS h h') → P r h') : MCi g yX11_ways uX11_ways [.ref 11] h P := by
  refine e_X11_ways (s_X11_good hJ.1 (fun h1 k1 _ => ?_))
  have e45 : (fun j => mI h1 45 j) = fun j => mI h 45 j := by
    funext j
    exact Ok_eq k1 (by decide)
  have f45 : ∀ j, mI h1 45 j = mI h 45 j := fun j => congrFun e45 j
  have e14 : mI h1 11 14 = mI h 11 14 := k1.2.2.2.2.1 11 14 (by decide)
  have out : ∀ (r : Int32) (h' : mh_T), Ok [300, 11] h h' → r = wM h → P r h' := fun r h' ok e => hp r h' ⟨ok.1, TVs_fr ok.2.1 (by decide) hJ.2⟩ ⟨e, SS_ok ok (by decide)⟩
  rw [e14]
  refine ⟨fun z => ?_, fun z => s_X11_no 1 k1.1 (fun r h5 k5 fr => out r h5 (Ok_tr k1 k5 (by decide)) ?_)⟩
  · obtain ⟨n, en, n0, n8⟩ := i_R (GI_rd hJ.1 45 52 (lo := 0) (hi := 8) (by decide)) (by decide)
    obtain ⟨m, em, m0, m9⟩ := i_R (GI_rd hJ.1 45 51 (lo := 0) (hi := 9) (by decide)) (by decide)
    refine w_ways_L (n := n) (m := m) (by rw [f45]; exact en) (by omega) (by rw [f45]; exact em) (by omega) (out _ h1 k1 ?_)
    unfold wM
    rw [if_neg z, e45, en, em, Int.toNat_natCast, Int.toNat_natCast]
  · unfold wM
    rw [if_pos z]
    exact Int32.toInt_inj.mp (by have := fr.1; have := fr.2; rw [show (-1 : Int32).toInt = -1 from by decide]; omega)
/-! square -/
def qC (h : mh_T) (a b : Int32) : Int32 := if (0 ≤ a.toInt ∧ a.toInt < (mI h 8 0).toInt) ∧ (0 ≤ b.toInt ∧ b.toInt < (mI h 8 0).toInt) ∧ ¬ a = b then (if bt (mI h 32 a.toInt.toNat) b.toInt.toNat = true then 1 else 0) else -1
def qM (h : mh_T) (a b : Int32) : Int32 := if ¬ mI h 11 14 = 0 ∧ (0 ≤ a.toInt ∧ a.toInt < (mI h 45 85).toInt) ∧ (0 ≤ b.toInt ∧ b.toInt < (mI h 45 85).toInt) ∧ ¬ a = b then (if dtk (fun q => mI h 45 (86 + q)) a.toInt.toNat b.toInt.toNat 4 = 0 then 1 else 0) else -1
theorem v_hasRay {g : gT} {h : mh_T} {P : Int32 → mh_T → Prop} (l1 : Int32) (h1 : (0 ≤ l1.toInt ∧ l1.toInt < (mI h 8 0).toInt) → P 1 h) (h0 : ¬ (0 ≤ l1.toInt ∧ l1.toInt < (mI h 8 0).toInt) → P 0 h) : MCi g yX3_hasRay uX3_hasRay [.ref 8, .int l1] h P := by
  have z0 : (0 : Int32).toInt = 0 := by decide
  refine e_X3_hasRay l1 ⟨fun z => ?_, fun z => ⟨fun y => ?_, fun y => ?_⟩⟩
  · rw [i_lt, z0] at z
    exact h0 (by omega)
  · rw [i_le] at y
    exact h0 (by omega)
  · rw [i_lt, z0] at z
    rw [i_le] at y
    exact h1 (by omega)
theorem k_X10_square {g : gT} {h : mh_T} {P : Int32 → mh_T → Prop} (a1 a2 : Int32) (hJ : JJ h) (hp : ∀ (r : Int32) (h' : mh_T), JJ h' → (r = qC h a1 a2 ∧ SS h h') → P r h') : MCi g yX10_square uX10_square [.ref 0, .int a1, .int a2] h P := by
  have r8 : R 0 18 (mI h 8 0) := GI_rd hJ.1 8 0 (by decide)
  have out : ∀ (r v : Int32), r = qC h a1 a2 → P r (wI h 0 11 v) := fun r v e => by
    have ok := Ok_w (Ok_rf (ms := [0]) hJ.1) (k := 0) (j := 11) (v := v) (lo := -2147483648) (hi := 2147483647) (by decide) (R_full _) (by decide) (by decide)
    exact hp r _ ⟨ok.1, TVs_fr ok.2.1 (by decide) hJ.2⟩ ⟨e, SS_ok ok (by decide)⟩
  have no : ¬ ((0 ≤ a1.toInt ∧ a1.toInt < (mI h 8 0).toInt) ∧ (0 ≤ a2.toInt ∧ a2.toInt < (mI h 8 0).toInt) ∧ ¬ a1 = a2) → MCi g yX10_refused uX10_refused [.ref 0, .int 1] h (fun r5 h4 => P r5 h4) := fun q => e_X10_refused 1 (out (-1) 1 (by unfold qC; rw [if_neg q]))
  refine e_X10_square a1 a2 (v_hasRay a1 (fun q1 => ⟨fun y => absurd y (by decide), fun _ => v_hasRay a2 (fun q2 => ⟨fun y => absurd y (by decide), fun _ => ⟨fun ne => ?_, fun eq => no (fun z => z.2.2 eq)⟩⟩) (fun q2 => ⟨fun _ => no (fun z => q2 z.2.1), fun y => absurd rfl y⟩)⟩) (fun q1 => ⟨fun _ => no (fun z => q1 z.1), fun y => absurd rfl y⟩))
  obtain ⟨i, ei⟩ : ∃ i : Nat, a1.toInt = (i : Int) := ⟨a1.toInt.toNat, by omega⟩
  obtain ⟨j, ej⟩ : ∃ j : Nat, a2.toInt = (j : Int) := ⟨a2.toInt.toNat, by omega⟩
  have h18 := r8.2
  refine ⟨i_vp ei (by omega), e_X10_told _ (out _ 0 ?_)⟩
  unfold qC
  rw [if_pos ⟨q1, q2, ne⟩, i_nat ei, bt_s18 ej (by omega), ei, ej, Int.toNat_natCast, Int.toNat_natCast]
theorem w_isRay {g : gT} {h : mh_T} {P : Int32 → mh_T → Prop} (l1 : Int32) (hG : GI h) (h1 : (¬ mI h 11 14 = 0 ∧ 0 ≤ l1.toInt ∧ l1.toInt < (mI h 45 85).toInt) → P 1 h) (h0 : ¬ (¬ mI h 11 14 = 0 ∧ 0 ≤ l1.toInt ∧ l1.toInt < (mI h 45 85).toInt) → P 0 h) : MCi g yX11_isRay uX11_isRay [.ref 11, .int l1] h P := by
  have z0 : (0 : Int32).toInt = 0 := by decide
  have r85 : R 0 18 (mI h 45 85) := GI_rd hG 45 85 (by decide)
  have e1 : (mI h 45 (Int32.toNatClampNeg 85) - 1).toInt = (mI h 45 85).toInt - 1 := by
    rw [show Int32.toNatClampNeg 85 = 85 from by decide]
    exact i_sub rfl (by decide) (by have := r85.1; have := r85.2; omega)
  refine e_X11_isRay l1 ⟨fun z => h0 (fun y => y.1 z), fun z => b_within l1 0 _ (fun y => ⟨fun x => absurd x (by decide), fun _ => ?_⟩) (fun y => ⟨fun _ => ?_, fun x => absurd rfl x⟩)⟩
  · rw [i_le, i_le, z0, e1] at y
    exact h1 ⟨z, by omega⟩
  · rw [i_le, i_le, z0, e1] at y
    exact h0 (fun x => y (by omega))
theorem w_areSquare {g : gT} {h : mh_T} {P : Int32 → mh_T → Prop} {i j : Nat} (l1 l2 : Int32) (e1 : l1.toInt = (i : Int)) (e2 : l2.toInt = (j : Int)) (hi : i < 18) (hj : j < 18) (h1 : dtk (fun q => mI h 45 (86 + q)) i j 4 = 0 → P 1 h) (h0 : ¬ dtk (fun q => mI h 45 (86 + q)) i j 4 = 0 → P 0 h) : MCi g yX11_areSquare uX11_areSquare [.ref 11, .int l1, .int l2] h P := by
  have i4 : (4 : Int32).toInt = 4 := by decide
  have ix : ∀ (l m : Int32) (s o : Nat), l.toInt = (s : Int) → s < 18 → m.toInt = (o : Int) → o < 4 → ((86 + (4 * l)) + m).toInt = ((86 + (4 * s + o) : Nat) : Int) := fun l m s o hl hs hm ho => by
    have a : (4 * l).toInt = 4 * (s : Int) := by
      rw [Int32.toInt_mul, hl, i4, bm (by omega) (by omega)]
    have b : (86 + (4 * l)).toInt = 86 + 4 * (s : Int) := i_add (by decide) a (by omega)
    rw [i_add b hm (by omega)]
    omega
  have L : ∀ (m : Nat) (l3 l4 : Int32) (k : Nat), l4.toInt = (k : Int) → k ≤ 4 → 4 - k < m → l3 = dtk (fun q => mI h 45 (86 + q)) i j k → ME g uX11_areSquare 5 [.ref 11, .int l1, .int l2, .int l3, .int l4] [] h (qI P) := by
    intro m
    induction m with
    | zero => intro l3 l4 k _ _ hm; exact absurd hm (Nat.not_lt_zero _)
    | succ m ih =>
      intro l3 l4 k e4 hk hm e3
      refine r_X11_areSquare_5 l1 l2 l3 l4 ⟨fun z => ?_, fun z => ?_⟩
      · rw [i_le, i4, e4] at z
        have : k = 4 := by omega
        subst this
        rw [e3]
        exact ⟨h0, h1⟩
      · rw [i_le, i4, e4] at z
        have ia := ix l1 l4 i k e1 hi e4 (by omega)
        have ib := ix l2 l4 j k e2 hj e4 (by omega)
        refine ⟨i_vp ia (by omega), i_vp ib (by omega), fun x5 ex => ih x5 (l4 + 1) (k + 1) (i_inc e4 (by omega)) (by omega) (by omega) ?_⟩
        rw [ex, i_nat ia, i_nat ib, e3]
        rfl
  exact e_X11_areSquare l1 l2 (L 5 0 0 0 (by decide) (by omega) (by omega) rfl)
theorem k_X11_square {g : gT} {h : mh_T} {P : Int32 → mh_T → Prop} (a1 a2 : Int32) (hJ : JJ h) (hp : ∀ (r : Int32) (h' : mh_T), JJ h' → (r = qM h a1 a2 ∧ SS h h') → P r h') : MCi g yX11_square uX11_square [.ref 11, .int a1, .int a2] h P := by
  refine e_X11_square a1 a2 (s_X11_good hJ.1 (fun h1 k1 _ => ?_))
  have e45 : ∀ j, mI h1 45 j = mI h 45 j := fun j => Ok_eq k1 (by decide)
  have e14 : mI h1 11 14 = mI h 11 14 := k1.2.2.2.2.1 11 14 (by decide)
  have r85 : R 0 18 (mI h1 45 85) := GI_rd k1.1 45 85 (by decide)
  have out : ∀ (r : Int32) (h' : mh_T), Ok [300, 11] h h' → r = qM h a1 a2 → P r h' := fun r h' ok e => hp r h' ⟨ok.1, TVs_fr ok.2.1 (by decide) hJ.2⟩ ⟨e, SS_ok ok (by decide)⟩
  have no : ¬ (¬ mI h 11 14 = 0 ∧ (0 ≤ a1.toInt ∧ a1.toInt < (mI h 45 85).toInt) ∧ (0 ≤ a2.toInt ∧ a2.toInt < (mI h 45 85).toInt) ∧ ¬ a1 = a2) → MCi g yX11_no uX11_no [.ref 11, .int 1] h1 (fun r6 h5 => P r6 h5) := fun q => s_X11_no 1 k1.1 (fun r h5 k5 fr => out r h5 (Ok_tr k1 k5 (by decide)) (by
    unfold qM
    rw [if_neg q]
    exact Int32.toInt_inj.mp (by have := fr.1; have := fr.2; rw [show (-1 : Int32).toInt = -1 from by decide]; omega)))
  refine w_isRay a1 k1.1 (fun q1 => ⟨fun y => absurd y (by decide), fun _ => w_isRay a2 k1.1 (fun q2 => ⟨fun y => absurd y (by decide), fun _ => ⟨fun eq => no (fun z => z.2.2.2 eq), fun ne => ?_⟩⟩) (fun q2 => ⟨fun _ => no (fun z => q2 (by rw [e14, e45]; exact ⟨z.1, z.2.2.1⟩)), fun y => absurd rfl y⟩)⟩) (fun q1 => ⟨fun _ => no (fun z => q1 (by rw [e14, e45]; exact ⟨z.1, z.2.1⟩)), fun y => absurd rfl y⟩)
  obtain ⟨i, ei⟩ : ∃ i : Nat, a1.toInt = (i : Int) := ⟨a1.toInt.toNat, by omega⟩
  obtain ⟨j, ej⟩ : ∃ j : Nat, a2.toInt = (j : Int) := ⟨a2.toInt.toNat, by omega⟩
  have h18 := r85.2
  have ok : Ok [300, 11] h h1 := k1
  have ed : (fun q => mI h1 45 (86 + q)) = fun q => mI h 45 (86 + q) := by
    funext q
    exact e45 _
  rw [e14, e45] at q1 q2
  have val : qM h a1 a2 = if dtk (fun q => mI h 45 (86 + q)) i j 4 = 0 then 1 else 0 := by
    unfold qM
    rw [if_pos ⟨q1.1, q1.2, q2.2, ne⟩, ei, ej, Int.toNat_natCast, Int.toNat_natCast]
  rw [e45] at h18
  refine w_areSquare a1 a2 ei ej (by omega) (by omega) (fun z => ⟨fun y => absurd y (by decide), fun _ => out 1 h1 ok ?_⟩) (fun z => ⟨fun _ => out 0 h1 ok ?_, fun y => absurd rfl y⟩)
  · rw [ed] at z
    rw [val, if_pos z]
  · rw [ed] at z
    rw [val, if_neg z]
/-! what is asked of the lines -/
theorem nm_h {h : mh_T} (hJ : GI h) : ∃ n m : Nat, (mI h 45 52).toInt = (n : Int) ∧ n ≤ 8 ∧ (mI h 45 51).toInt = (m : Int) ∧ m ≤ 9 := by
  obtain ⟨n, en, n0, n8⟩ := i_R (GI_rd hJ 45 52 (lo := 0) (hi := 8) (by decide)) (by decide)
  obtain ⟨m, em, m0, m9⟩ := i_R (GI_rd hJ 45 51 (lo := 0) (hi := 9) (by decide)) (by decide)
  exact ⟨n, m, en, by omega, em, by omega⟩
theorem RW_lf {h : mh_T} {n m : Nat} (r : RW h) (b : ¬ mI h 11 14 = 0) (en : (mI h 45 52).toInt = (n : Int)) (em : (mI h 45 51).toInt = (m : Int)) : LF (fun j => mI h 45 j) n m h := by
  have l := r.2.2 b
  rw [en, em, Int.toNat_natCast, Int.toNat_natCast] at l
  exact l
theorem no_1 {r : Int32} (f : R (-1) (-1) r) : r = -1 := Int32.toInt_inj.mp (by have := f.1; have := f.2; rw [show (-1 : Int32).toInt = -1 from by decide]; omega)
theorem out0 {h : mh_T} {v : Int32} (hJ : JJ h) : JJ (wI h 0 11 v) ∧ SS h (wI h 0 11 v) := by
  have ok := Ok_w (Ok_rf (ms := [0]) hJ.1) (k := 0) (j := 11) (v := v) (lo := -2147483648) (hi := 2147483647) (by decide) (R_full _) (by decide) (by decide)
  exact ⟨⟨ok.1, TVs_fr ok.2.1 (by decide) hJ.2⟩, SS_ok ok (by decide)⟩
theorem out11 {h h' : mh_T} (hJ : JJ h) (ok : Ok [300, 11] h h') : JJ h' ∧ SS h h' := ⟨⟨ok.1, TVs_fr ok.2.1 (by decide) hJ.2⟩, SS_ok ok (by decide)⟩
def vof (h : mh_T) (p : Nat) : Int32 := if mI h 7 2 = 0 then -1 else if bt (mI h 7 3) p = true then (if bt (mI h 7 4) p = true then -2 else 1) else 0
def oC (a : Int32) (h : mh_T) : Int32 := if 0 ≤ a.toInt ∧ a.toInt < (mI h 7 0).toInt then vof h a.toInt.toNat else -1
def oM (a r : Int32) (h : mh_T) : Prop := (¬ (¬ mI h 11 14 = 0 ∧ 0 ≤ a.toInt ∧ a.toInt < (mI h 45 51).toInt) → r = -1) ∧ ((¬ mI h 11 14 = 0 ∧ 0 ≤ a.toInt ∧ a.toInt < (mI h 45 51).toInt) → ∀ n m : Nat, (mI h 45 52).toInt = (n : Int) → (mI h 45 51).toInt = (m : Int) → fcv (oneB (fun j => mI h 45 j) n m a.toInt.toNat false) (oneB (fun j => mI h 45 j) n m a.toInt.toNat true) r)
theorem k_X10_forced {g : gT} {h : mh_T} {P : Int32 → mh_T → Prop} (a1 : Int32) (hJ : JJ h) (hp : ∀ (r : Int32) (h' : mh_T), JJ h' → (r = oC a1 h ∧ SS h h') → P r h') : MCi g yX10_forced uX10_forced [.ref 0, .int a1] h P := by
  have z0 : (0 : Int32).toInt = 0 := by decide
  have r7 : R 0 9 (mI h 7 0) := GI_rd hJ.1 7 0 (by decide)
  have out : ∀ (r v : Int32), r = oC a1 h → P r (wI h 0 11 v) := fun r v e => hp r _ (out0 hJ).1 ⟨e, (out0 hJ).2⟩
  refine e_X10_forced a1 ⟨fun z => e_X10_refused 1 (out (-1) 1 ?_), fun z => ⟨fun y => ?_, fun y => e_X10_refused 1 (out (-1) 1 ?_)⟩⟩
  · rw [i_lt, z0] at z
    unfold oC
    rw [if_neg (by omega)]
  · rw [i_lt, z0] at z
    rw [i_lt] at y
    obtain ⟨p, ep⟩ : ∃ p : Nat, a1.toInt = (p : Int) := ⟨a1.toInt.toNat, by omega⟩
    have h9 := r7.2
    have p9 : p < 9 := by omega
    have eo : oC a1 h = vof h p := by
      unfold oC
      rw [if_pos ⟨by omega, y⟩, ep, Int.toNat_natCast]
    rw [eo] at out
    refine ⟨fun x => e_X5_valueOf a1 ?_, fun x => e_X10_refused 6 (out (-1) 6 ?_)⟩
    · rw [bt_0 ep p9, bt_0 ep p9]
      have go : ∀ r, r = vof h p → MCi g yX10_told uX10_told [.ref 0, .int r] h (fun r9 h8 => P r9 h8) := fun r e => e_X10_told _ (out _ 0 e)
      unfold vof at go
      rw [if_neg x] at go
      refine ⟨fun a => ⟨fun _ => go _ ?_, fun _ => go _ ?_⟩, fun a => ⟨fun b => go _ ?_, fun b => go _ ?_⟩⟩
      · rw [a, if_neg (by decide)]
      · rw [a, if_neg (by decide)]
      · rw [if_pos (by cases q : bt (mI h 7 3) p; exact absurd q a; rfl), b, if_neg (by decide)]
      · rw [if_pos (by cases q : bt (mI h 7 3) p; exact absurd q a; rfl), if_pos (by cases q : bt (mI h 7 4) p; exact absurd q b; rfl)]
    · unfold vof
      rw [if_pos x]
  · rw [i_lt] at y
    unfold oC
    rw [if_neg (fun q => y q.2)]
theorem k_X11_forced {g : gT} {h : mh_T} {P : Int32 → mh_T → Prop} (a1 : Int32) (hJ : JJ h) (hp : ∀ (r : Int32) (h' : mh_T), JJ h' → (oM a1 r h ∧ SS h h') → P r h') : MCi g yX11_forced uX11_forced [.ref 11, .int a1] h P := by
  have z0 : (0 : Int32).toInt = 0 := by decide
  refine e_X11_forced a1 (s_X11_good hJ.1 (fun h1 k1 _ => ?_))
  have e45 : ∀ j, mI h1 45 j = mI h 45 j := fun j => Ok_eq k1 (by decide)
  have f45 : (fun j => mI h1 45 j) = fun j => mI h 45 j := by
    funext j
    exact e45 j
  have e14 : mI h1 11 14 = mI h 11 14 := k1.2.2.2.2.1 11 14 (by decide)
  have out : ∀ (r : Int32) (h' : mh_T), Ok [300, 11] h h' → oM a1 r h → P r h' := fun r h' ok e => hp r h' (out11 hJ ok).1 ⟨e, (out11 hJ ok).2⟩
  have no : ∀ c : Int32, ¬ c = 4 → oM a1 (-1) h → MCi g yX11_no uX11_no [.ref 11, .int c] h1 (fun r h' => P r h') := fun c hc q => s_X11_no c k1.1 (fun r h5 k5 fr => out r h5 (Ok_tr k1 k5 (by decide)) (by rw [no_1 fr]; exact q)) hc
  obtain ⟨n, m, en, hn, em, hm⟩ := nm_h hJ.1
  have em1 : (mI h1 45 51).toInt = (m : Int) := by rw [e45]; exact em
  have en1 : (mI h1 45 52).toInt = (n : Int) := by rw [e45]; exact en
  have e1 : (mI h1 45 (Int32.toNatClampNeg 51) - 1).toInt = (m : Int) - 1 := by
    rw [show Int32.toNatClampNeg 51 = 51 from by decide]
    exact i_sub em1 (by decide) (by omega)
  rw [e14]
  refine ⟨fun z => no 1 (by decide) ⟨fun _ => rfl, fun y => absurd z y.1⟩, fun z => b_within a1 0 _ (fun y => ⟨fun _ => ?_, fun x => absurd x (by decide)⟩) (fun y => ⟨fun x => absurd rfl x, fun _ => no 1 (by decide) ⟨fun _ => rfl, fun x => absurd (by rw [i_le, i_le, z0, e1]; omega) y⟩⟩)⟩
  rw [i_le, i_le, z0, e1] at y
  obtain ⟨p, ep⟩ : ∃ p : Nat, a1.toInt = (p : Int) := ⟨a1.toInt.toNat, by omega⟩
  have fin : ∀ r, fcv (oneB (fun j => mI h1 45 j) n m p false) (oneB (fun j => mI h1 45 j) n m p true) r → oM a1 r h := fun r f => ⟨fun x => absurd ⟨z, by omega⟩ x, fun _ n' m' en' em' => by
    have : n' = n := by omega
    have : m' = m := by omega
    subst n' m'
    rw [f45] at f
    rw [ep, Int.toNat_natCast]
    exact f⟩
  refine w_forced_L (n := n) (m := m) a1 ep (by omega) en1 hn em1 hm (fun q => no 6 (by decide) ?_) (fun r f => out r h1 k1 (fin r f))
  refine fin _ ?_
  by_cases N : oneB (fun j => mI h1 45 j) n m p false <;> by_cases O : oneB (fun j => mI h1 45 j) n m p true
  · exact absurd (q (-2) ⟨fun c => absurd N c, fun c => absurd N c, fun _ c => absurd O c, fun _ _ => rfl⟩) (by decide)
  · exact absurd (q 0 ⟨fun c => absurd N c, fun c => absurd N c, fun _ _ => rfl, fun _ c => absurd c O⟩) (by decide)
  · exact absurd (q 1 ⟨fun _ c => absurd O c, fun _ _ => rfl, fun c => absurd c N, fun c => absurd c N⟩) (by decide)
  · exact ⟨fun _ _ => rfl, fun _ c => absurd c O, fun c => absurd c N, fun c => absurd c N⟩
/-! can, core, game -/
def cnC (a : Int32) (h : mh_T) : Int32 := if ¬ mI h 3 0 = 0 ∧ 0 ≤ a.toInt ∧ a.toInt < ((2 ^ (mI h 7 1).toInt.toNat : Nat) : Int) then (if mI h 31 a.toInt.toNat = 0 then 0 else 1) else -1
theorem k_X10_can {g : gT} {h : mh_T} {P : Int32 → mh_T → Prop} (a1 : Int32) (hJ : JJ h) (hp : ∀ (r : Int32) (h' : mh_T), JJ h' → (r = cnC a1 h ∧ SS h h') → P r h') : MCi g yX10_can uX10_can [.ref 0, .int a1] h P := by
  have z0 : (0 : Int32).toInt = 0 := by decide
  obtain ⟨n, en, n0, n8⟩ := i_R (GI_rd hJ.1 7 1 (lo := 0) (hi := 8) (by decide)) (by decide)
  have p := p2n (n := n) (by omega)
  have pm := shl_m en (by omega)
  have out : ∀ (r v : Int32), r = cnC a1 h → P r (wI h 0 11 v) := fun r v e => hp r _ (out0 hJ).1 ⟨e, (out0 hJ).2⟩
  unfold cnC at out
  rw [en, Int.toNat_natCast] at out
  refine e_X10_can a1 (e_X10_noBook ⟨fun z => ⟨fun _ => ⟨fun y => e_X10_refused 2 (out (-1) 2 ?_), fun y => ⟨fun x => ?_, fun x => e_X10_refused 2 (out (-1) 2 ?_)⟩⟩, fun y => absurd rfl y⟩, fun z => ⟨fun y => absurd y (by decide), fun _ => e_X10_refused 1 (out (-1) 1 ?_)⟩⟩)
  · rw [i_lt, z0] at y
    rw [if_neg (by omega)]
  · rw [i_lt, z0] at y
    rw [i_lt, pm] at x
    obtain ⟨s, es⟩ : ∃ s : Nat, a1.toInt = (s : Int) := ⟨a1.toInt.toNat, by omega⟩
    rw [if_pos ⟨z, by omega, x⟩, es, Int.toNat_natCast] at out
    refine e_X5_holds a1 ⟨fun w => by rw [i_lt, z0] at w; omega, fun _ => ⟨fun w => by rw [i_le, pm] at w; omega, fun _ => ⟨i_vp es (by omega), ?_⟩⟩⟩
    rw [i_nat es]
    refine ⟨fun w => ⟨fun _ => e_X10_told _ (out _ 0 ?_), fun v => absurd rfl v⟩, fun w => ⟨fun v => absurd v (by decide), fun _ => e_X10_told _ (out _ 0 ?_)⟩⟩
    · rw [if_pos w]
    · rw [if_neg w]
  · rw [i_lt, pm] at x
    rw [if_neg (fun q => x q.2.2)]
  · rw [if_neg (fun q => q.1 z)]
def cnM (a r : Int32) (h : mh_T) : Prop := ∀ n m : Nat, (mI h 45 52).toInt = (n : Int) → (mI h 45 51).toInt = (m : Int) → (¬ (¬ mI h 11 14 = 0 ∧ 0 ≤ a.toInt ∧ a.toInt < ((2 ^ n : Nat) : Int)) → r = -1) ∧ ((¬ mI h 11 14 = 0 ∧ 0 ≤ a.toInt ∧ a.toInt < ((2 ^ n : Nat) : Int)) → (CL (fun j => mI h 45 j) n m a.toInt.toNat → r = 1) ∧ (¬ CL (fun j => mI h 45 j) n m a.toInt.toNat → r = 0))
theorem k_X11_can {g : gT} {h : mh_T} {P : Int32 → mh_T → Prop} (a1 : Int32) (hJ : JJ h) (hp : ∀ (r : Int32) (h' : mh_T), JJ h' → (cnM a1 r h ∧ SS h h') → P r h') : MCi g yX11_can uX11_can [.ref 11, .int a1] h P := by
  have z0 : (0 : Int32).toInt = 0 := by decide
  refine e_X11_can a1 (s_X11_good hJ.1 (fun h1 k1 _ => ?_))
  have e45 : ∀ j, mI h1 45 j = mI h 45 j := fun j => Ok_eq k1 (by decide)
  have f45 : (fun j => mI h1 45 j) = fun j => mI h 45 j := by
    funext j
    exact e45 j
  have e14 : mI h1 11 14 = mI h 11 14 := k1.2.2.2.2.1 11 14 (by decide)
  have out : ∀ (r : Int32) (h' : mh_T), Ok [300, 11] h h' → cnM a1 r h → P r h' := fun r h' ok e => hp r h' (out11 hJ ok).1 ⟨e, (out11 hJ ok).2⟩
  have no : ∀ c : Int32, ¬ c = 4 → cnM a1 (-1) h → MCi g yX11_no uX11_no [.ref 11, .int c] h1 (fun r h' => P r h') := fun c hc q => s_X11_no c k1.1 (fun r h5 k5 fr => out r h5 (Ok_tr k1 k5 (by decide)) (by rw [no_1 fr]; exact q)) hc
  obtain ⟨n, m, en, hn, em, hm⟩ := nm_h hJ.1
  have em1 : (mI h1 45 51).toInt = (m : Int) := by rw [e45]; exact em
  have en1 : (mI h1 45 52).toInt = (n : Int) := by rw [e45]; exact en
  have p := p2n hn
  have bad : ¬ (¬ mI h 11 14 = 0 ∧ 0 ≤ a1.toInt ∧ a1.toInt < ((2 ^ n : Nat) : Int)) → cnM a1 (-1) h := fun q n' m' en' em' => by
    have : n' = n := by omega
    have : m' = m := by omega
    subst n' m'
    exact ⟨fun _ => rfl, fun y => absurd y q⟩
  rw [e14]
  refine ⟨fun z => e_X11_allLines ?_, fun z => no 1 (by decide) (bad (fun y => y.1 z))⟩
  rw [show Int32.toNatClampNeg 52 = 52 from by decide]
  have e1 : ((1 <<< ((mI h1 45 52) &&& 31)) - 1).toInt = ((2 ^ n : Nat) : Int) - 1 := i_sub (shl_m en1 (by omega)) (show (1 : Int32).toInt = 1 by decide) (by omega)
  refine b_within a1 0 _ (fun y => ⟨fun x => absurd x (by decide), fun _ => ?_⟩) (fun y => ⟨fun _ => no 2 (by decide) (bad (fun x => absurd (by rw [i_le, i_le, z0, e1]; omega) y)), fun x => absurd rfl x⟩)
  rw [i_le, i_le, z0, e1] at y
  obtain ⟨s, es⟩ : ∃ s : Nat, a1.toInt = (s : Int) := ⟨a1.toInt.toNat, by omega⟩
  have fin : ∀ r, ((CL (fun j => mI h1 45 j) n m s → r = 1) ∧ (¬ CL (fun j => mI h1 45 j) n m s → r = 0)) → cnM a1 r h := fun r f n' m' en' em' => by
    have : n' = n := by omega
    have : m' = m := by omega
    subst n' m'
    rw [f45] at f
    rw [es, Int.toNat_natCast]
    exact ⟨fun x => absurd ⟨z, by omega, by omega⟩ x, fun _ => f⟩
  refine w_canLines a1 es (by omega) en1 hn em1 hm (fun c => ⟨fun x => absurd x (by decide), fun _ => out 1 h1 k1 (fin 1 ⟨fun _ => rfl, fun d => absurd c d⟩)⟩) (fun c => ⟨fun _ => out 0 h1 k1 (fin 0 ⟨fun d => absurd d c, fun _ => rfl⟩), fun x => absurd rfl x⟩)
def crC (h : mh_T) : Int32 := if mI h 3 0 = 0 then -1 else crf (fun s => decide (¬ mI h 31 s = 0)) (2 ^ (mI h 7 1).toInt.toNat)
theorem k_X10_core {g : gT} {h : mh_T} {P : Int32 → mh_T → Prop} (hJ : JJ h) (hp : ∀ (r : Int32) (h' : mh_T), JJ h' → (r = crC h ∧ SS h h') → P r h') : MCi g yX10_core uX10_core [.ref 0] h P := by
  obtain ⟨n, en, n0, n8⟩ := i_R (GI_rd hJ.1 7 1 (lo := 0) (hi := 8) (by decide)) (by decide)
  have out : ∀ (r v : Int32), r = crC h → P r (wI h 0 11 v) := fun r v e => hp r _ (out0 hJ).1 ⟨e, (out0 hJ).2⟩
  unfold crC at out
  rw [en, Int.toNat_natCast] at out
  refine e_X10_core (e_X10_noBook ⟨fun z => ⟨fun _ => v_leastBroken en (by omega) (e_X10_told _ (out _ 0 ?_)), fun y => absurd rfl y⟩, fun z => ⟨fun y => absurd y (by decide), fun _ => e_X10_refused 1 (out (-1) 1 ?_)⟩⟩)
  · rw [if_neg z]
  · rw [if_pos z]
def crM (r : Int32) (h : mh_T) : Prop := ∀ n m : Nat, (mI h 45 52).toInt = (n : Int) → (mI h 45 51).toInt = (m : Int) → (mI h 11 14 = 0 → r = -1) ∧ (¬ mI h 11 14 = 0 → ∀ H : Nat → Bool, (∀ s, s < 2 ^ n → (H s = true ↔ CL (fun j => mI h 45 j) n m s)) → r = crf H (2 ^ n))
theorem k_X11_core {g : gT} {h : mh_T} {P : Int32 → mh_T → Prop} (hJ : JJ h) (hp : ∀ (r : Int32) (h' : mh_T), JJ h' → (crM r h ∧ SS h h') → P r h') : MCi g yX11_core uX11_core [.ref 11] h P := by
  refine e_X11_core (s_X11_good hJ.1 (fun h1 k1 _ => ?_))
  have e45 : ∀ j, mI h1 45 j = mI h 45 j := fun j => Ok_eq k1 (by decide)
  have f45 : (fun j => mI h1 45 j) = fun j => mI h 45 j := by
    funext j
    exact e45 j
  have e14 : mI h1 11 14 = mI h 11 14 := k1.2.2.2.2.1 11 14 (by decide)
  have out : ∀ (r : Int32) (h' : mh_T), Ok [300, 11] h h' → crM r h → P r h' := fun r h' ok e => hp r h' (out11 hJ ok).1 ⟨e, (out11 hJ ok).2⟩
  obtain ⟨n, m, en, hn, em, hm⟩ := nm_h hJ.1
  have em1 : (mI h1 45 51).toInt = (m : Int) := by rw [e45]; exact em
  have en1 : (mI h1 45 52).toInt = (n : Int) := by rw [e45]; exact en
  rw [e14]
  refine ⟨fun z => ?_, fun z => s_X11_no 1 k1.1 (fun r h5 k5 fr => out r h5 (Ok_tr k1 k5 (by decide)) (fun _ _ _ _ => ⟨fun _ => no_1 fr, fun y => absurd z y⟩))⟩
  refine w_core_L (H := fun s => @decide (CL (fun j => mI h1 45 j) n m s) (Classical.propDecidable _)) en1 hn em1 hm (fun s _ => ⟨fun q => @of_decide_eq_true _ (Classical.propDecidable _) q, fun q => @decide_eq_true _ (Classical.propDecidable _) q⟩) (out _ h1 k1 (fun n' m' en' em' => ?_))
  have : n' = n := by omega
  have : m' = m := by omega
  subst n' m'
  refine ⟨fun y => absurd y z, fun _ H hH => crf_cg _ (fun i hi => ?_)⟩
  rw [f45]
  have k := hH i hi
  cases q : H i
  · exact @decide_eq_false _ (Classical.propDecidable _) (fun y => absurd (k.mpr y) (by rw [q]; decide))
  · exact @decide_eq_true _ (Classical.propDecidable _) (k.mp q)
def gmC (r : Int32) (h : mh_T) : Prop := (mI h 3 0 = 0 → r = -1) ∧ (¬ mI h 3 0 = 0 → mxC (fun s => ¬ mI h 31 s = 0) pcn (2 ^ (mI h 7 1).toInt.toNat) r)
theorem k_X10_game {g : gT} {h : mh_T} {P : Int32 → mh_T → Prop} (hJ : JJ h) (hp : ∀ (r : Int32) (h' : mh_T), JJ h' → (gmC r h ∧ SS h h') → P r h') : MCi g yX10_game uX10_game [.ref 0] h P := by
  obtain ⟨n, en, n0, n8⟩ := i_R (GI_rd hJ.1 7 1 (lo := 0) (hi := 8) (by decide)) (by decide)
  have out : ∀ (r v : Int32), gmC r h → P r (wI h 0 11 v) := fun r v e => hp r _ (out0 hJ).1 ⟨e, (out0 hJ).2⟩
  unfold gmC at out
  rw [en, Int.toNat_natCast] at out
  exact e_X10_game (e_X10_noBook ⟨fun z => ⟨fun _ => v_mostHeld en (by omega) (fun r q => e_X10_told _ (out _ 0 ⟨fun y => absurd y z, fun _ => q⟩)), fun y => absurd rfl y⟩, fun z => ⟨fun y => absurd y (by decide), fun _ => e_X10_refused 1 (out (-1) 1 ⟨fun _ => rfl, fun y => absurd z y⟩)⟩⟩)
def gmM (r : Int32) (h : mh_T) : Prop := ∀ n m : Nat, (mI h 45 52).toInt = (n : Int) → (mI h 45 51).toInt = (m : Int) → (mI h 11 14 = 0 → r = -1) ∧ (¬ mI h 11 14 = 0 → mxC (fun _ => True) (fun v => pcn (sv (fun j => mI h 45 j) n v).toInt.toNat) (2 ^ m) r)
theorem k_X11_game {g : gT} {h : mh_T} {P : Int32 → mh_T → Prop} (hJ : JJ h) (hp : ∀ (r : Int32) (h' : mh_T), JJ h' → (gmM r h ∧ SS h h') → P r h') : MCi g yX11_game uX11_game [.ref 11] h P := by
  refine e_X11_game (s_X11_good hJ.1 (fun h1 k1 _ => ?_))
  have e45 : ∀ j, mI h1 45 j = mI h 45 j := fun j => Ok_eq k1 (by decide)
  have f45 : (fun j => mI h1 45 j) = fun j => mI h 45 j := by
    funext j
    exact e45 j
  have e14 : mI h1 11 14 = mI h 11 14 := k1.2.2.2.2.1 11 14 (by decide)
  have out : ∀ (r : Int32) (h' : mh_T), Ok [300, 11] h h' → gmM r h → P r h' := fun r h' ok e => hp r h' (out11 hJ ok).1 ⟨e, (out11 hJ ok).2⟩
  obtain ⟨n, m, en, hn, em, hm⟩ := nm_h hJ.1
  have em1 : (mI h1 45 51).toInt = (m : Int) := by rw [e45]; exact em
  have en1 : (mI h1 45 52).toInt = (n : Int) := by rw [e45]; exact en
  rw [e14]
  refine ⟨fun z => ?_, fun z => s_X11_no 1 k1.1 (fun r h5 k5 fr => out r h5 (Ok_tr k1 k5 (by decide)) (fun _ _ _ _ => ⟨fun _ => no_1 fr, fun y => absurd z y⟩))⟩
  refine w_game_L en1 hn em1 hm (fun r q => out _ h1 k1 (fun n' m' en' em' => ?_))
  have : n' = n := by omega
  have : m' = m := by omega
  subst n' m'
  rw [f45] at q
  exact ⟨fun y => absurd y z, fun _ => q⟩
theorem game_r {h h1 h2 : mh_T} {r1 r2 : Int32} (hJ : JJ h) (he : RR h) (s1 : gmC r1 h ∧ SS h h1) (s2 : gmM r2 h1 ∧ SS h1 h2) : r1 = r2 := by
  have w := RW_s hJ.1 s1.2.2 he.2.2
  have e7 : ∀ j, mI h1 7 j = mI h 7 j := fun j => congrFun s1.2.2.2.2.1 j
  have e31 : ∀ j, mI h1 31 j = mI h 31 j := fun j => congrFun s1.2.2.2.2.2 j
  have g1 : gmC r1 h1 := by
    unfold gmC
    simp only [e7, e31, s1.2.2.2.1]
    exact s1.1
  have e45 : ∀ j, 49 ≤ j → mI h1 45 j = mI h 45 j := s1.2.2.1.2.2.2
  obtain ⟨n, m, en, hn, em, hm⟩ := nm_h hJ.1
  rw [← e45 52 (by omega)] at en
  rw [← e45 51 (by omega)] at em
  have c := s2.1 n m en em
  by_cases b : mI h1 11 14 = 0
  · rw [c.1 b, g1.1 (w.1.mpr b)]
  · have lf := RW_lf w b en em
    have k := g1.2 (fun z => b (w.1.mp z))
    rw [lf.2.1, Int.toNat_natCast] at k
    exact game_u hn lf.2.2.2.2.2 k (c.2 b)
theorem k_X10_fault {g : gT} {h : mh_T} {P : Int32 → mh_T → Prop} (hJ : JJ h) (hp : ∀ (r : Int32) (h' : mh_T), JJ h' → SS h h' → P r h') : MCi g yX10_fault uX10_fault [.ref 0] h P := s_X10_fault  hJ.1 (fun r => hp r h hJ (SS_rf h))
theorem k_X11_fault {g : gT} {h : mh_T} {P : Int32 → mh_T → Prop} (hJ : JJ h) (hp : ∀ (r : Int32) (h' : mh_T), JJ h' → SS h h' → P r h') : MCi g yX11_fault uX11_fault [.ref 11] h P := s_X11_fault  hJ.1 (fun r h' ok => hp r h' ⟨ok.1, TVs_fr ok.2.1 (by decide) hJ.2⟩ (SS_ok ok (by decide)))
theorem k_X10_where {g : gT} {h : mh_T} {P : Int32 → mh_T → Prop} (hJ : JJ h) (hp : ∀ (r : Int32) (h' : mh_T), JJ h' → SS h h' → P r h') : MCi g yX10_where uX10_where [.ref 0] h P := s_X10_where  hJ.1 (fun r => hp r h hJ (SS_rf h))
theorem k_X11_where {g : gT} {h : mh_T} {P : Int32 → mh_T → Prop} (hJ : JJ h) (hp : ∀ (r : Int32) (h' : mh_T), JJ h' → SS h h' → P r h') : MCi g yX11_where uX11_where [.ref 11] h P := s_X11_where  hJ.1 (fun r h' ok => hp r h' ⟨ok.1, TVs_fr ok.2.1 (by decide) hJ.2⟩ (SS_ok ok (by decide)))
theorem k_X10_share {g : gT} {h : mh_T} {P : Int32 → mh_T → Prop} (a1 : Int32) (hJ : JJ h) (hp : ∀ (r : Int32) (h' : mh_T), JJ h' → SS h h' → P r h') : MCi g yX10_share uX10_share [.ref 0, .int a1] h P := s_X10_share a1 hJ.1 (fun r h' ok _ => hp r h' ⟨ok.1, TVs_fr ok.2.1 (by decide) hJ.2⟩ (SS_ok ok (by decide)))
theorem k_X11_share {g : gT} {h : mh_T} {P : Int32 → mh_T → Prop} (a1 : Int32) (hJ : JJ h) (hp : ∀ (r : Int32) (h' : mh_T), JJ h' → SS h h' → P r h') : MCi g yX11_share uX11_share [.ref 11, .int a1] h P := u_X11_share a1 hJ.1 hJ.2 (fun r h' ok _ => hp r h' ⟨ok.1, TVs_fr ok.2.1 (by decide) hJ.2⟩ (SS_ok ok (by decide)))
theorem k_X10_together {g : gT} {h : mh_T} {P : Int32 → mh_T → Prop} (a1 : Int32) (a2 : Int32) (a3 : Int32) (a4 : Int32) (a5 : Int32) (a6 : Int32) (hJ : JJ h) (hp : ∀ (r : Int32) (h' : mh_T), JJ h' → SS h h' → P r h') : MCi g yX10_together uX10_together [.ref 0, .int a1, .int a2, .int a3, .int a4, .int a5, .int a6] h P := s_X10_together a1 a2 a3 a4 a5 a6 hJ.1 (fun r h' ok _ => hp r h' ⟨ok.1, TVs_fr ok.2.1 (by decide) hJ.2⟩ (SS_ok ok (by decide)))
theorem k_X11_together {g : gT} {h : mh_T} {P : Int32 → mh_T → Prop} (a1 : Int32) (a2 : Int32) (a3 : Int32) (a4 : Int32) (a5 : Int32) (a6 : Int32) (hJ : JJ h) (hp : ∀ (r : Int32) (h' : mh_T), JJ h' → SS h h' → P r h') : MCi g yX11_together uX11_together [.ref 11, .int a1, .int a2, .int a3, .int a4, .int a5, .int a6] h P := u_X11_together a1 a2 a3 a4 a5 a6 hJ.1 hJ.2 (fun r h' ok _ => hp r h' ⟨ok.1, TVs_fr ok.2.1 (by decide) hJ.2⟩ (SS_ok ok (by decide)))
theorem k_X10_extend {g : gT} {h : mh_T} {P : Int32 → mh_T → Prop} (a1 : Int32) (a2 : Int32) (hJ : JJ h) (hp : ∀ (r : Int32) (h' : mh_T), JJ h' → SS h h' → P r h') : MCi g yX10_extend uX10_extend [.ref 0, .int a1, .int a2] h P := s_X10_extend a1 a2 hJ.1 (fun r h' ok _ => hp r h' ⟨ok.1, TVs_fr ok.2.1 (by decide) hJ.2⟩ (SS_ok ok (by decide)))
theorem k_X11_extend {g : gT} {h : mh_T} {P : Int32 → mh_T → Prop} (a1 : Int32) (a2 : Int32) (hJ : JJ h) (hp : ∀ (r : Int32) (h' : mh_T), JJ h' → SS h h' → P r h') : MCi g yX11_extend uX11_extend [.ref 11, .int a1, .int a2] h P := s_X11_extend a1 a2 hJ.1 (fun r h' ok _ _ => hp r h' ⟨ok.1, TVs_fr ok.2.1 (by decide) hJ.2⟩ (SS_ok ok (by decide)))
theorem k_X10_level {g : gT} {h : mh_T} {P : Int32 → mh_T → Prop} (hJ : JJ h) (hp : ∀ (r : Int32) (h' : mh_T), JJ h' → SS h h' → P r h') : MCi g yX10_level uX10_level [.ref 0] h P := s_X10_level  hJ.1 (fun r h' ok _ => hp r h' ⟨ok.1, TVs_fr ok.2.1 (by decide) hJ.2⟩ (SS_ok ok (by decide)))
theorem k_X11_level {g : gT} {h : mh_T} {P : Int32 → mh_T → Prop} (hJ : JJ h) (hp : ∀ (r : Int32) (h' : mh_T), JJ h' → SS h h' → P r h') : MCi g yX11_level uX11_level [.ref 11] h P := u_X11_level  hJ.1 hJ.2 (fun r h' ok _ => hp r h' ⟨ok.1, TVs_fr ok.2.1 (by decide) hJ.2⟩ (SS_ok ok (by decide)))
theorem k_X10_hidden {g : gT} {h : mh_T} {P : Int32 → mh_T → Prop} (hJ : JJ h) (hp : ∀ (r : Int32) (h' : mh_T), JJ h' → SS h h' → P r h') : MCi g yX10_hidden uX10_hidden [.ref 0] h P := s_X10_hidden  hJ.1 (fun r h' ok _ => hp r h' ⟨ok.1, TVs_fr ok.2.1 (by decide) hJ.2⟩ (SS_ok ok (by decide)))
theorem k_X11_hidden {g : gT} {h : mh_T} {P : Int32 → mh_T → Prop} (hJ : JJ h) (hp : ∀ (r : Int32) (h' : mh_T), JJ h' → SS h h' → P r h') : MCi g yX11_hidden uX11_hidden [.ref 11] h P := s_X11_hidden  hJ.1 (fun r h' ok _ => hp r h' ⟨ok.1, TVs_fr ok.2.1 (by decide) hJ.2⟩ (SS_ok ok (by decide)))
theorem k_X10_answer {g : gT} {h : mh_T} {P : Int32 → mh_T → Prop} (a1 : Int32) (hJ : JJ h) (hp : ∀ (r : Int32) (h' : mh_T), JJ h' → SS h h' → P r h') : MCi g yX10_answer uX10_answer [.ref 0, .int a1] h P := s_X10_answer a1 hJ.1 (fun r h' ok _ => hp r h' ⟨ok.1, TVs_fr ok.2.1 (by decide) hJ.2⟩ (SS_ok ok (by decide)))
theorem k_X11_answer {g : gT} {h : mh_T} {P : Int32 → mh_T → Prop} (a1 : Int32) (hJ : JJ h) (hp : ∀ (r : Int32) (h' : mh_T), JJ h' → SS h h' → P r h') : MCi g yX11_answer uX11_answer [.ref 11, .int a1] h P := s_X11_answer a1 hJ.1 (fun r h' ok _ _ => hp r h' ⟨ok.1, TVs_fr ok.2.1 (by decide) hJ.2⟩ (SS_ok ok (by decide)))
theorem k_X10_disturbed {g : gT} {h : mh_T} {P : Int32 → mh_T → Prop} (hJ : JJ h) (hp : ∀ (r : Int32) (h' : mh_T), JJ h' → SS h h' → P r h') : MCi g yX10_disturbed uX10_disturbed [.ref 0] h P := s_X10_disturbed  hJ.1 (fun r h' ok _ => hp r h' ⟨ok.1, TVs_fr ok.2.1 (by decide) hJ.2⟩ (SS_ok ok (by decide)))
theorem k_X11_disturbed {g : gT} {h : mh_T} {P : Int32 → mh_T → Prop} (hJ : JJ h) (hp : ∀ (r : Int32) (h' : mh_T), JJ h' → SS h h' → P r h') : MCi g yX11_disturbed uX11_disturbed [.ref 11] h P := s_X11_disturbed  hJ.1 (fun r h' ok _ _ => hp r h' ⟨ok.1, TVs_fr ok.2.1 (by decide) hJ.2⟩ (SS_ok ok (by decide)))
theorem k_X10_same {g : gT} {h : mh_T} {P : Int32 → mh_T → Prop} (a1 : Int32) (hJ : JJ h) (hp : ∀ (r : Int32) (h' : mh_T), JJ h' → SS h h' → P r h') : MCi g yX10_same uX10_same [.ref 0, .int a1] h P := s_X10_same a1 hJ.1 (fun r h' ok _ => hp r h' ⟨ok.1, TVs_fr ok.2.1 (by decide) hJ.2⟩ (SS_ok ok (by decide)))
theorem k_X11_same {g : gT} {h : mh_T} {P : Int32 → mh_T → Prop} (a1 : Int32) (hJ : JJ h) (hp : ∀ (r : Int32) (h' : mh_T), JJ h' → SS h h' → P r h') : MCi g yX11_same uX11_same [.ref 11, .int a1] h P := s_X11_same a1 hJ.1 (fun r h' ok _ => hp r h' ⟨ok.1, TVs_fr ok.2.1 (by decide) hJ.2⟩ (SS_ok ok (by decide)))
theorem k_X10_cycles {g : gT} {h : mh_T} {P : Int32 → mh_T → Prop} (hJ : JJ h) (hp : ∀ (r : Int32) (h' : mh_T), JJ h' → SS h h' → P r h') : MCi g yX10_cycles uX10_cycles [.ref 0] h P := s_X10_cycles  hJ.1 (fun r h' ok _ => hp r h' ⟨ok.1, TVs_fr ok.2.1 (by decide) hJ.2⟩ (SS_ok ok (by decide)))
theorem k_X11_cycles {g : gT} {h : mh_T} {P : Int32 → mh_T → Prop} (hJ : JJ h) (hp : ∀ (r : Int32) (h' : mh_T), JJ h' → SS h h' → P r h') : MCi g yX11_cycles uX11_cycles [.ref 11] h P := s_X11_cycles  hJ.1 (fun r h' ok _ => hp r h' ⟨ok.1, TVs_fr ok.2.1 (by decide) hJ.2⟩ (SS_ok ok (by decide)))
theorem k_X10_cycle {g : gT} {h : mh_T} {P : Int32 → mh_T → Prop} (a1 : Int32) (hJ : JJ h) (hp : ∀ (r : Int32) (h' : mh_T), JJ h' → SS h h' → P r h') : MCi g yX10_cycle uX10_cycle [.ref 0, .int a1] h P := s_X10_cycle a1 hJ.1 (fun r h' ok _ => hp r h' ⟨ok.1, TVs_fr ok.2.1 (by decide) hJ.2⟩ (SS_ok ok (by decide)))
theorem k_X11_cycle {g : gT} {h : mh_T} {P : Int32 → mh_T → Prop} (a1 : Int32) (hJ : JJ h) (hp : ∀ (r : Int32) (h' : mh_T), JJ h' → SS h h' → P r h') : MCi g yX11_cycle uX11_cycle [.ref 11, .int a1] h P := s_X11_cycle a1 hJ.1 (fun r h' ok _ _ => hp r h' ⟨ok.1, TVs_fr ok.2.1 (by decide) hJ.2⟩ (SS_ok ok (by decide)))
theorem k_X10_excess {g : gT} {h : mh_T} {P : Int32 → mh_T → Prop} (a1 : Int32) (hJ : JJ h) (hp : ∀ (r : Int32) (h' : mh_T), JJ h' → SS h h' → P r h') : MCi g yX10_excess uX10_excess [.ref 0, .int a1] h P := s_X10_excess a1 hJ.1 (fun r h' ok _ => hp r h' ⟨ok.1, TVs_fr ok.2.1 (by decide) hJ.2⟩ (SS_ok ok (by decide)))
theorem k_X11_excess {g : gT} {h : mh_T} {P : Int32 → mh_T → Prop} (a1 : Int32) (hJ : JJ h) (hp : ∀ (r : Int32) (h' : mh_T), JJ h' → SS h h' → P r h') : MCi g yX11_excess uX11_excess [.ref 11, .int a1] h P := s_X11_excess a1 hJ.1 (fun r h' ok _ => hp r h' ⟨ok.1, TVs_fr ok.2.1 (by decide) hJ.2⟩ (SS_ok ok (by decide)))
theorem k_X10_widest {g : gT} {h : mh_T} {P : Int32 → mh_T → Prop} (hJ : JJ h) (hp : ∀ (r : Int32) (h' : mh_T), JJ h' → SS h h' → P r h') : MCi g yX10_widest uX10_widest [.ref 0] h P := s_X10_widest  hJ.1 (fun r h' ok _ => hp r h' ⟨ok.1, TVs_fr ok.2.1 (by decide) hJ.2⟩ (SS_ok ok (by decide)))
theorem k_X11_widest {g : gT} {h : mh_T} {P : Int32 → mh_T → Prop} (hJ : JJ h) (hp : ∀ (r : Int32) (h' : mh_T), JJ h' → SS h h' → P r h') : MCi g yX11_widest uX11_widest [.ref 11] h P := s_X11_widest  hJ.1 (fun r h' ok _ _ => hp r h' ⟨ok.1, TVs_fr ok.2.1 (by decide) hJ.2⟩ (SS_ok ok (by decide)))
theorem k_X10_stake {g : gT} {h : mh_T} {P : Int32 → mh_T → Prop} (a1 : Int32) (a2 : Int32) (a3 : Int32) (hJ : JJ h) (hp : ∀ (r : Int32) (h' : mh_T), JJ h' → SS h h' → P r h') : MCi g yX10_stake uX10_stake [.ref 0, .int a1, .int a2, .int a3] h P := s_X10_stake a1 a2 a3 hJ.1 (fun r h' ok _ _ => hp r h' ⟨ok.1, TVs_fr ok.2.1 (by decide) hJ.2⟩ (SS_ok ok (by decide)))
theorem k_X11_stake {g : gT} {h : mh_T} {P : Int32 → mh_T → Prop} (a1 : Int32) (a2 : Int32) (a3 : Int32) (hJ : JJ h) (hp : ∀ (r : Int32) (h' : mh_T), JJ h' → SS h h' → P r h') : MCi g yX11_stake uX11_stake [.ref 11, .int a1, .int a2, .int a3] h P := s_X11_stake a1 a2 a3 hJ.1 (fun r h' ok _ _ => hp r h' ⟨ok.1, TVs_fr ok.2.1 (by decide) hJ.2⟩ (SS_ok ok (by decide)))
theorem k_X10_wins {g : gT} {h : mh_T} {P : Int32 → mh_T → Prop} (hJ : JJ h) (hp : ∀ (r : Int32) (h' : mh_T), JJ h' → SS h h' → P r h') : MCi g yX10_wins uX10_wins [.ref 0] h P := s_X10_wins  hJ.1 (fun r h' ok _ => hp r h' ⟨ok.1, TVs_fr ok.2.1 (by decide) hJ.2⟩ (SS_ok ok (by decide)))
theorem k_X11_wins {g : gT} {h : mh_T} {P : Int32 → mh_T → Prop} (hJ : JJ h) (hp : ∀ (r : Int32) (h' : mh_T), JJ h' → SS h h' → P r h') : MCi g yX11_wins uX11_wins [.ref 11] h P := s_X11_wins  hJ.1 (fun r h' ok _ => hp r h' ⟨ok.1, TVs_fr ok.2.1 (by decide) hJ.2⟩ (SS_ok ok (by decide)))
theorem k_X10_worst {g : gT} {h : mh_T} {P : Int32 → mh_T → Prop} (hJ : JJ h) (hp : ∀ (r : Int32) (h' : mh_T), JJ h' → SS h h' → P r h') : MCi g yX10_worst uX10_worst [.ref 0] h P := s_X10_worst  hJ.1 (fun r h' ok _ => hp r h' ⟨ok.1, TVs_fr ok.2.1 (by decide) hJ.2⟩ (SS_ok ok (by decide)))
theorem k_X11_worst {g : gT} {h : mh_T} {P : Int32 → mh_T → Prop} (hJ : JJ h) (hp : ∀ (r : Int32) (h' : mh_T), JJ h' → SS h h' → P r h') : MCi g yX11_worst uX11_worst [.ref 11] h P := s_X11_worst  hJ.1 (fun r h' ok _ => hp r h' ⟨ok.1, TVs_fr ok.2.1 (by decide) hJ.2⟩ (SS_ok ok (by decide)))
theorem k_X10_worstAt {g : gT} {h : mh_T} {P : Int32 → mh_T → Prop} (hJ : JJ h) (hp : ∀ (r : Int32) (h' : mh_T), JJ h' → SS h h' → P r h') : MCi g yX10_worstAt uX10_worstAt [.ref 0] h P := s_X10_worstAt  hJ.1 (fun r h' ok _ => hp r h' ⟨ok.1, TVs_fr ok.2.1 (by decide) hJ.2⟩ (SS_ok ok (by decide)))
theorem k_X11_worstAt {g : gT} {h : mh_T} {P : Int32 → mh_T → Prop} (hJ : JJ h) (hp : ∀ (r : Int32) (h' : mh_T), JJ h' → SS h h' → P r h') : MCi g yX11_worstAt uX11_worstAt [.ref 11] h P := s_X11_worstAt  hJ.1 (fun r h' ok _ _ => hp r h' ⟨ok.1, TVs_fr ok.2.1 (by decide) hJ.2⟩ (SS_ok ok (by decide)))
theorem k_X10_bars {g : gT} {h : mh_T} {P : Int32 → mh_T → Prop} (hJ : JJ h) (hp : ∀ (r : Int32) (h' : mh_T), JJ h' → SS h h' → P r h') : MCi g yX10_bars uX10_bars [.ref 0] h P := s_X10_bars  hJ.1 (fun r h' ok _ => hp r h' ⟨ok.1, TVs_fr ok.2.1 (by decide) hJ.2⟩ (SS_ok ok (by decide)))
theorem k_X11_bars {g : gT} {h : mh_T} {P : Int32 → mh_T → Prop} (hJ : JJ h) (hp : ∀ (r : Int32) (h' : mh_T), JJ h' → SS h h' → P r h') : MCi g yX11_bars uX11_bars [.ref 11] h P := s_X11_bars  hJ.1 (fun r h' ok _ _ => hp r h' ⟨ok.1, TVs_fr ok.2.1 (by decide) hJ.2⟩ (SS_ok ok (by decide)))
theorem k_X10_fair {g : gT} {h : mh_T} {P : Int32 → mh_T → Prop} (a1 : Int32) (hJ : JJ h) (hp : ∀ (r : Int32) (h' : mh_T), JJ h' → SS h h' → P r h') : MCi g yX10_fair uX10_fair [.ref 0, .int a1] h P := s_X10_fair a1 hJ.1 (fun r h' ok _ => hp r h' ⟨ok.1, TVs_fr ok.2.1 (by decide) hJ.2⟩ (SS_ok ok (by decide)))
theorem k_X11_fair {g : gT} {h : mh_T} {P : Int32 → mh_T → Prop} (a1 : Int32) (hJ : JJ h) (hp : ∀ (r : Int32) (h' : mh_T), JJ h' → SS h h' → P r h') : MCi g yX11_fair uX11_fair [.ref 11, .int a1] h P := s_X11_fair a1 hJ.1 (fun r h' ok _ => hp r h' ⟨ok.1, TVs_fr ok.2.1 (by decide) hJ.2⟩ (SS_ok ok (by decide)))
theorem k_X10_corners {g : gT} {h : mh_T} {P : Int32 → mh_T → Prop} (hJ : JJ h) (hp : ∀ (r : Int32) (h' : mh_T), JJ h' → SS h h' → P r h') : MCi g yX10_corners uX10_corners [.ref 0] h P := s_X10_corners  hJ.1 (fun r h' ok _ => hp r h' ⟨ok.1, TVs_fr ok.2.1 (by decide) hJ.2⟩ (SS_ok ok (by decide)))
theorem k_X11_corners {g : gT} {h : mh_T} {P : Int32 → mh_T → Prop} (hJ : JJ h) (hp : ∀ (r : Int32) (h' : mh_T), JJ h' → SS h h' → P r h') : MCi g yX11_corners uX11_corners [.ref 11] h P := s_X11_corners  hJ.1 (fun r h' ok _ _ => hp r h' ⟨ok.1, TVs_fr ok.2.1 (by decide) hJ.2⟩ (SS_ok ok (by decide)))
theorem k_X10_colours {g : gT} {h : mh_T} {P : Int32 → mh_T → Prop} (hJ : JJ h) (hp : ∀ (r : Int32) (h' : mh_T), JJ h' → SS h h' → P r h') : MCi g yX10_colours uX10_colours [.ref 0] h P := s_X10_colours  hJ.1 (fun r h' ok _ => hp r h' ⟨ok.1, TVs_fr ok.2.1 (by decide) hJ.2⟩ (SS_ok ok (by decide)))
theorem k_X11_colours {g : gT} {h : mh_T} {P : Int32 → mh_T → Prop} (hJ : JJ h) (hp : ∀ (r : Int32) (h' : mh_T), JJ h' → SS h h' → P r h') : MCi g yX11_colours uX11_colours [.ref 11] h P := s_X11_colours  hJ.1 (fun r h' ok _ => hp r h' ⟨ok.1, TVs_fr ok.2.1 (by decide) hJ.2⟩ (SS_ok ok (by decide)))
theorem k_X10_ones {g : gT} {h : mh_T} {P : Int32 → mh_T → Prop} (hJ : JJ h) (hp : ∀ (r : Int32) (h' : mh_T), JJ h' → SS h h' → P r h') : MCi g yX10_ones uX10_ones [.ref 0] h P := s_X10_ones  hJ.1 (fun r h' ok _ => hp r h' ⟨ok.1, TVs_fr ok.2.1 (by decide) hJ.2⟩ (SS_ok ok (by decide)))
theorem k_X11_ones {g : gT} {h : mh_T} {P : Int32 → mh_T → Prop} (hJ : JJ h) (hp : ∀ (r : Int32) (h' : mh_T), JJ h' → SS h h' → P r h') : MCi g yX11_ones uX11_ones [.ref 11] h P := s_X11_ones  hJ.1 (fun r h' ok _ => hp r h' ⟨ok.1, TVs_fr ok.2.1 (by decide) hJ.2⟩ (SS_ok ok (by decide)))
theorem k_X10_spare {g : gT} {h : mh_T} {P : Int32 → mh_T → Prop} (hJ : JJ h) (hp : ∀ (r : Int32) (h' : mh_T), JJ h' → SS h h' → P r h') : MCi g yX10_spare uX10_spare [.ref 0] h P := s_X10_spare  hJ.1 (fun r h' ok _ => hp r h' ⟨ok.1, TVs_fr ok.2.1 (by decide) hJ.2⟩ (SS_ok ok (by decide)))
theorem k_X11_spare {g : gT} {h : mh_T} {P : Int32 → mh_T → Prop} (hJ : JJ h) (hp : ∀ (r : Int32) (h' : mh_T), JJ h' → SS h h' → P r h') : MCi g yX11_spare uX11_spare [.ref 11] h P := s_X11_spare  hJ.1 (fun r h' ok _ _ => hp r h' ⟨ok.1, TVs_fr ok.2.1 (by decide) hJ.2⟩ (SS_ok ok (by decide)))
theorem k_X10_critical {g : gT} {h : mh_T} {P : Int32 → mh_T → Prop} (hJ : JJ h) (hp : ∀ (r : Int32) (h' : mh_T), JJ h' → SS h h' → P r h') : MCi g yX10_critical uX10_critical [.ref 0] h P := s_X10_critical  hJ.1 (fun r h' ok _ => hp r h' ⟨ok.1, TVs_fr ok.2.1 (by decide) hJ.2⟩ (SS_ok ok (by decide)))
theorem k_X11_critical {g : gT} {h : mh_T} {P : Int32 → mh_T → Prop} (hJ : JJ h) (hp : ∀ (r : Int32) (h' : mh_T), JJ h' → SS h h' → P r h') : MCi g yX11_critical uX11_critical [.ref 11] h P := s_X11_critical  hJ.1 (fun r h' ok _ _ => hp r h' ⟨ok.1, TVs_fr ok.2.1 (by decide) hJ.2⟩ (SS_ok ok (by decide)))
theorem k_X10_memory {g : gT} {h : mh_T} {P : Int32 → mh_T → Prop} (hJ : JJ h) (hp : ∀ (r : Int32) (h' : mh_T), JJ h' → SS h h' → P r h') : MCi g yX10_memory uX10_memory [.ref 0] h P := s_X10_memory  hJ.1 (fun r h' ok _ => hp r h' ⟨ok.1, TVs_fr ok.2.1 (by decide) hJ.2⟩ (SS_ok ok (by decide)))
theorem k_X11_memory {g : gT} {h : mh_T} {P : Int32 → mh_T → Prop} (hJ : JJ h) (hp : ∀ (r : Int32) (h' : mh_T), JJ h' → SS h h' → P r h') : MCi g yX11_memory uX11_memory [.ref 11] h P := s_X11_memory  hJ.1 (fun r h' ok _ _ => hp r h' ⟨ok.1, TVs_fr ok.2.1 (by decide) hJ.2⟩ (SS_ok ok (by decide)))
theorem k_X10_machine {g : gT} {h : mh_T} {P : Int32 → mh_T → Prop} (a1 : Int32) (a2 : Int32) (a3 : Int32) (hJ : JJ h) (hp : ∀ (r : Int32) (h' : mh_T), JJ h' → SS h h' → P r h') : MCi g yX10_machine uX10_machine [.ref 0, .int a1, .int a2, .int a3] h P := s_X10_machine a1 a2 a3 hJ.1 (fun r h' ok _ => hp r h' ⟨ok.1, TVs_fr ok.2.1 (by decide) hJ.2⟩ (SS_ok ok (by decide)))
theorem k_X11_machine {g : gT} {h : mh_T} {P : Int32 → mh_T → Prop} (a1 : Int32) (a2 : Int32) (a3 : Int32) (hJ : JJ h) (hp : ∀ (r : Int32) (h' : mh_T), JJ h' → SS h h' → P r h') : MCi g yX11_machine uX11_machine [.ref 11, .int a1, .int a2, .int a3] h P := s_X11_machine a1 a2 a3 hJ.1 (fun r h' ok _ _ => hp r h' ⟨ok.1, TVs_fr ok.2.1 (by decide) hJ.2⟩ (SS_ok ok (by decide)))
theorem k_X10_flip {g : gT} {h : mh_T} {P : Int32 → mh_T → Prop} (a1 : Int32) (hJ : JJ h) (hp : ∀ (r : Int32) (h' : mh_T), JJ h' → SS h h' → P r h') : MCi g yX10_flip uX10_flip [.ref 0, .int a1] h P := s_X10_flip a1 hJ.1 (fun r h' ok _ _ => hp r h' ⟨ok.1, TVs_fr ok.2.1 (by decide) hJ.2⟩ (SS_ok ok (by decide)))
theorem k_X11_flip {g : gT} {h : mh_T} {P : Int32 → mh_T → Prop} (a1 : Int32) (hJ : JJ h) (hp : ∀ (r : Int32) (h' : mh_T), JJ h' → SS h h' → P r h') : MCi g yX11_flip uX11_flip [.ref 11, .int a1] h P := u_X11_flip a1 hJ.1 hJ.2 (fun r h' ok t _ => hp r h' ⟨ok.1, t⟩ (SS_ok ok (by decide)))
theorem k_X10_drop {g : gT} {h : mh_T} {P : Int32 → mh_T → Prop} (a1 : Int32) (hJ : JJ h) (hp : ∀ (r : Int32) (h' : mh_T), JJ h' → SS h h' → P r h') : MCi g yX10_drop uX10_drop [.ref 0, .int a1] h P := s_X10_drop a1 hJ.1 (fun r h' ok _ _ => hp r h' ⟨ok.1, TVs_fr ok.2.1 (by decide) hJ.2⟩ (SS_ok ok (by decide)))
theorem k_X11_drop {g : gT} {h : mh_T} {P : Int32 → mh_T → Prop} (a1 : Int32) (hJ : JJ h) (hp : ∀ (r : Int32) (h' : mh_T), JJ h' → SS h h' → P r h') : MCi g yX11_drop uX11_drop [.ref 11, .int a1] h P := u_X11_drop a1 hJ.1 hJ.2 (fun r h' ok t _ => hp r h' ⟨ok.1, t⟩ (SS_ok ok (by decide)))
theorem k_X10_forget {g : gT} {h : mh_T} {P : Int32 → mh_T → Prop} (a1 : Int32) (hJ : JJ h) (hp : ∀ (r : Int32) (h' : mh_T), JJ h' → SS h h' → P r h') : MCi g yX10_forget uX10_forget [.ref 0, .int a1] h P := s_X10_forget a1 hJ.1 (fun r h' ok _ _ => hp r h' ⟨ok.1, TVs_fr ok.2.1 (by decide) hJ.2⟩ (SS_ok ok (by decide)))
theorem k_X11_forget {g : gT} {h : mh_T} {P : Int32 → mh_T → Prop} (a1 : Int32) (hJ : JJ h) (hp : ∀ (r : Int32) (h' : mh_T), JJ h' → SS h h' → P r h') : MCi g yX11_forget uX11_forget [.ref 11, .int a1] h P := u_X11_forget a1 hJ.1 hJ.2 (fun r h' ok t _ => hp r h' ⟨ok.1, t⟩ (SS_ok ok (by decide)))
theorem k_X10_shift {g : gT} {h : mh_T} {P : Int32 → mh_T → Prop} (a1 : Int32) (a2 : Int32) (a3 : Int32) (a4 : Int32) (hJ : JJ h) (hp : ∀ (r : Int32) (h' : mh_T), JJ h' → SS h h' → P r h') : MCi g yX10_shift uX10_shift [.ref 0, .int a1, .int a2, .int a3, .int a4] h P := s_X10_shift a1 a2 a3 a4 hJ.1 (fun r h' ok _ _ => hp r h' ⟨ok.1, TVs_fr ok.2.1 (by decide) hJ.2⟩ (SS_ok ok (by decide)))
theorem k_X11_shift {g : gT} {h : mh_T} {P : Int32 → mh_T → Prop} (a1 : Int32) (a2 : Int32) (a3 : Int32) (a4 : Int32) (hJ : JJ h) (hp : ∀ (r : Int32) (h' : mh_T), JJ h' → SS h h' → P r h') : MCi g yX11_shift uX11_shift [.ref 11, .int a1, .int a2, .int a3, .int a4] h P := u_X11_shift a1 a2 a3 a4 hJ.1 hJ.2 (fun r h' ok t _ => hp r h' ⟨ok.1, t⟩ (SS_ok ok (by decide)))
theorem k_X10_undo {g : gT} {h : mh_T} {P : Int32 → mh_T → Prop} (hJ : JJ h) (hp : ∀ (r : Int32) (h' : mh_T), JJ h' → SS h h' → P r h') : MCi g yX10_undo uX10_undo [.ref 0] h P := s_X10_undo  hJ.1 (fun r h' ok _ _ => hp r h' ⟨ok.1, TVs_fr ok.2.1 (by decide) hJ.2⟩ (SS_ok ok (by decide)))
theorem k_X11_undo {g : gT} {h : mh_T} {P : Int32 → mh_T → Prop} (hJ : JJ h) (hp : ∀ (r : Int32) (h' : mh_T), JJ h' → SS h h' → P r h') : MCi g yX11_undo uX11_undo [.ref 11] h P := u_X11_undo  hJ.1 hJ.2 (fun r h' ok t _ => hp r h' ⟨ok.1, t⟩ (SS_ok ok (by decide)))
theorem k_X10_redo {g : gT} {h : mh_T} {P : Int32 → mh_T → Prop} (hJ : JJ h) (hp : ∀ (r : Int32) (h' : mh_T), JJ h' → SS h h' → P r h') : MCi g yX10_redo uX10_redo [.ref 0] h P := s_X10_redo  hJ.1 (fun r h' ok _ _ => hp r h' ⟨ok.1, TVs_fr ok.2.1 (by decide) hJ.2⟩ (SS_ok ok (by decide)))
theorem k_X11_redo {g : gT} {h : mh_T} {P : Int32 → mh_T → Prop} (hJ : JJ h) (hp : ∀ (r : Int32) (h' : mh_T), JJ h' → SS h h' → P r h') : MCi g yX11_redo uX11_redo [.ref 11] h P := u_X11_redo  hJ.1 hJ.2 (fun r h' ok t _ => hp r h' ⟨ok.1, t⟩ (SS_ok ok (by decide)))
theorem k_X10_mark {g : gT} {h : mh_T} {P : Int32 → mh_T → Prop} (hJ : JJ h) (hp : ∀ (r : Int32) (h' : mh_T), JJ h' → SS h h' → P r h') : MCi g yX10_mark uX10_mark [.ref 0] h P := s_X10_mark  hJ.1 (fun r h' ok _ => hp r h' ⟨ok.1, TVs_fr ok.2.1 (by decide) hJ.2⟩ (SS_ok ok (by decide)))
theorem k_X11_mark {g : gT} {h : mh_T} {P : Int32 → mh_T → Prop} (hJ : JJ h) (hp : ∀ (r : Int32) (h' : mh_T), JJ h' → SS h h' → P r h') : MCi g yX11_mark uX11_mark [.ref 11] h P := u_X11_mark  hJ.1 hJ.2 (fun r h' ok t _ => hp r h' ⟨ok.1, t⟩ (SS_ok ok (by decide)))
theorem k_X10_back {g : gT} {h : mh_T} {P : Int32 → mh_T → Prop} (a1 : Int32) (hJ : JJ h) (hp : ∀ (r : Int32) (h' : mh_T), JJ h' → SS h h' → P r h') : MCi g yX10_back uX10_back [.ref 0, .int a1] h P := s_X10_back a1 hJ.1 (fun r h' ok _ _ => hp r h' ⟨ok.1, TVs_fr ok.2.1 (by decide) hJ.2⟩ (SS_ok ok (by decide)))
theorem k_X11_back {g : gT} {h : mh_T} {P : Int32 → mh_T → Prop} (a1 : Int32) (hJ : JJ h) (hp : ∀ (r : Int32) (h' : mh_T), JJ h' → SS h h' → P r h') : MCi g yX11_back uX11_back [.ref 11, .int a1] h P := u_X11_back a1 hJ.1 hJ.2 (fun r h' ok t _ => hp r h' ⟨ok.1, t⟩ (SS_ok ok (by decide)))
theorem k_X10_act {g : gT} {h : mh_T} {P : Int32 → mh_T → Prop} (a1 : Int32) (a2 : Int32) (hJ : JJ h) (hp : ∀ (r : Int32) (h' : mh_T), JJ h' → SS h h' → P r h') : MCi g yX10_act uX10_act [.ref 0, .int a1, .int a2] h P := s_X10_act a1 a2 hJ.1 (fun r h' ok _ => hp r h' ⟨ok.1, TVs_fr ok.2.1 (by decide) hJ.2⟩ (SS_ok ok (by decide)))
theorem k_X11_act {g : gT} {h : mh_T} {P : Int32 → mh_T → Prop} (a1 : Int32) (a2 : Int32) (hJ : JJ h) (hp : ∀ (r : Int32) (h' : mh_T), JJ h' → SS h h' → P r h') : MCi g yX11_act uX11_act [.ref 11, .int a1, .int a2] h P := s_X11_act a1 a2 hJ.1 (fun r h' ok _ => hp r h' ⟨ok.1, TVs_fr ok.2.1 (by decide) hJ.2⟩ (SS_ok ok (by decide)))
theorem k_X10_times {g : gT} {h : mh_T} {P : Int32 → mh_T → Prop} (a1 : Int32) (a2 : Int32) (hJ : JJ h) (hp : ∀ (r : Int32) (h' : mh_T), JJ h' → SS h h' → P r h') : MCi g yX10_times uX10_times [.ref 0, .int a1, .int a2] h P := s_X10_times a1 a2 hJ.1 (fun r h' ok _ => hp r h' ⟨ok.1, TVs_fr ok.2.1 (by decide) hJ.2⟩ (SS_ok ok (by decide)))
theorem k_X11_times {g : gT} {h : mh_T} {P : Int32 → mh_T → Prop} (a1 : Int32) (a2 : Int32) (hJ : JJ h) (hp : ∀ (r : Int32) (h' : mh_T), JJ h' → SS h h' → P r h') : MCi g yX11_times uX11_times [.ref 11, .int a1, .int a2] h P := s_X11_times a1 a2 hJ.1 (fun r h' ok _ => hp r h' ⟨ok.1, TVs_fr ok.2.1 (by decide) hJ.2⟩ (SS_ok ok (by decide)))
theorem k_X10_look {g : gT} {h : mh_T} {P : Int32 → mh_T → Prop} (a1 : Int32) (a2 : Int32) (hJ : JJ h) (hp : ∀ (r : Int32) (h' : mh_T), JJ h' → SS h h' → P r h') : MCi g yX10_look uX10_look [.ref 0, .int a1, .int a2] h P := s_X10_look a1 a2 hJ.1 (fun r h' ok _ => hp r h' ⟨ok.1, TVs_fr ok.2.1 (by decide) hJ.2⟩ (SS_ok ok (by decide)))
theorem k_X11_look {g : gT} {h : mh_T} {P : Int32 → mh_T → Prop} (a1 : Int32) (a2 : Int32) (hJ : JJ h) (hp : ∀ (r : Int32) (h' : mh_T), JJ h' → SS h h' → P r h') : MCi g yX11_look uX11_look [.ref 11, .int a1, .int a2] h P := s_X11_look a1 a2 hJ.1 (fun r h' ok _ _ => hp r h' ⟨ok.1, TVs_fr ok.2.1 (by decide) hJ.2⟩ (SS_ok ok (by decide)))
theorem k_X10_coins {g : gT} {h : mh_T} {P : Int32 → mh_T → Prop} (a1 : Int32) (a2 : Int32) (hJ : JJ h) (hp : ∀ (r : Int32) (h' : mh_T), JJ h' → SS h h' → P r h') : MCi g yX10_coins uX10_coins [.ref 0, .int a1, .int a2] h P := s_X10_coins a1 a2 hJ.1 (fun r h' ok _ => hp r h' ⟨ok.1, TVs_fr ok.2.1 (by decide) hJ.2⟩ (SS_ok ok (by decide)))
theorem k_X11_coins {g : gT} {h : mh_T} {P : Int32 → mh_T → Prop} (a1 : Int32) (a2 : Int32) (hJ : JJ h) (hp : ∀ (r : Int32) (h' : mh_T), JJ h' → SS h h' → P r h') : MCi g yX11_coins uX11_coins [.ref 11, .int a1, .int a2] h P := s_X11_coins a1 a2 hJ.1 (fun r h' ok _ => hp r h' ⟨ok.1, TVs_fr ok.2.1 (by decide) hJ.2⟩ (SS_ok ok (by decide)))
theorem k_X10_size {g : gT} {h : mh_T} {P : Int32 → mh_T → Prop} (a1 : Int32) (hJ : JJ h) (hp : ∀ (r : Int32) (h' : mh_T), JJ h' → SS h h' → P r h') : MCi g yX10_size uX10_size [.ref 0, .int a1] h P := s_X10_size a1 hJ.1 (fun r _ => hp r h hJ (SS_rf h))
theorem k_X11_size {g : gT} {h : mh_T} {P : Int32 → mh_T → Prop} (a1 : Int32) (hJ : JJ h) (hp : ∀ (r : Int32) (h' : mh_T), JJ h' → SS h h' → P r h') : MCi g yX11_size uX11_size [.ref 11, .int a1] h P := s_X11_size a1 hJ.1 (fun r h' ok _ => hp r h' ⟨ok.1, TVs_fr ok.2.1 (by decide) hJ.2⟩ (SS_ok ok (by decide)))
theorem k_X10_trouble {g : gT} {h : mh_T} {P : Int32 → mh_T → Prop} (hJ : JJ h) (hp : ∀ (r : Int32) (h' : mh_T), JJ h' → SS h h' → P r h') : MCi g yX10_trouble uX10_trouble [.ref 0] h P := s_X10_trouble  hJ.1 (fun r => hp r h hJ (SS_rf h))
theorem k_X11_trouble {g : gT} {h : mh_T} {P : Int32 → mh_T → Prop} (hJ : JJ h) (hp : ∀ (r : Int32) (h' : mh_T), JJ h' → SS h h' → P r h') : MCi g yX11_trouble uX11_trouble [.ref 11] h P := s_X11_trouble  hJ.1 (fun r h' ok => hp r h' ⟨ok.1, TVs_fr ok.2.1 (by decide) hJ.2⟩ (SS_ok ok (by decide)))
theorem k_X11_led {g : gT} {h : mh_T} {P : Int32 → mh_T → Prop} (a1 : Int32) (hJ : JJ h) (hp : ∀ (r : Int32) (h' : mh_T), JJ h' → SS h h' → P r h') : MCi g yX11_led uX11_led [.ref 11, .int a1] h P := s_X11_led a1 hJ.1 (fun r h' ok _ => hp r h' ⟨ok.1, TVs_fr ok.2.1 (by decide) hJ.2⟩ (SS_ok ok (by decide)))
