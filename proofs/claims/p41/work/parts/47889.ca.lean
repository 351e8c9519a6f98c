/-! the acts of the class -/
def LKc (h : mh_T) (l : Int32) : Prop := 0 ≤ l.toInt ∧ l.toInt < (mI h 3 1).toInt
theorem v_hasLook {g : gT} {h : mh_T} {P : Int32 → mh_T → Prop} (l : Int32) (h1 : LKc h l → P 1 h) (h0 : ¬ LKc h l → P 0 h) : MCi g yX8_hasLook uX8_hasLook [.ref 3, .int l] h P := by
  refine e_X8_hasLook l ⟨fun c => h0 (fun y => ?_), fun c => ⟨fun c2 => h0 (fun y => ?_), fun c2 => h1 ⟨?_, ?_⟩⟩⟩
  · have c := i_lt.mp c
    rw [i_0] at c
    have := y.1
    omega
  · have c2 := i_le.mp c2
    have := y.2
    omega
  · have c : ¬ l.toInt < (0 : Int32).toInt := fun z => c (i_lt.mpr z)
    rw [i_0] at c
    omega
  · exact i_lt.mp (nle c2)
theorem v_hasSet {g : gT} {h : mh_T} {P : Int32 → mh_T → Prop} (l : Int32) (h1 : SEb (tC h) l → P 1 h) (h0 : ¬ SEb (tC h) l → P 0 h) : MCi g yX8_hasSet uX8_hasSet [.ref 3, .int l] h P := by
  have e0 : (tC h 0).toInt = (mI h 3 2).toInt := rfl
  refine e_X8_hasSet l ⟨fun c => h0 (fun y => ?_), fun c => ⟨fun c2 => h0 (fun y => ?_), fun c2 => h1 ⟨?_, ?_⟩⟩⟩
  · have c := i_lt.mp c
    rw [i_0] at c
    have := y.1
    omega
  · have c2 := i_le.mp c2
    have := y.2
    omega
  · have c : ¬ l.toInt < (0 : Int32).toInt := fun z => c (i_lt.mpr z)
    rw [i_0] at c
    omega
  · exact i_lt.mp (nle c2)
theorem v_outcomesC {g : gT} {h : mh_T} {P : Int32 → mh_T → Prop} (l : Int32) (s : Nat) (es : l.toInt = (s : Int)) (tz : TZ (tC h)) (hs : s < sn (tC h)) (h1 : ∀ v : Int32, v.toInt = (ocs (tC h) s : Int) → P v h) : MCi g yX8_outcomes uX8_outcomes [.ref 3, .int l] h P := by
  have n8 : sn (tC h) ≤ 8 := by unfold sn; have := tz.2.1; omega
  refine e_X8_outcomes l ⟨i_vp es (by omega), ?_⟩
  rw [i_nat es, ← tC_9 h (by omega)]
  refine ⟨fun z => h1 4 ?_, fun z => h1 2 ?_⟩
  · have z := i_le.mp z
    rw [i_0] at z
    unfold ocs
    rw [if_neg (fun y => by rw [y] at z; exact absurd z (by decide))]
    rfl
  · unfold ocs
    rw [if_pos]
    · rfl
    · rcases (tz.2.2 s hs).1 with w | w
      · exact w.1
      · exact absurd (i_le.mpr (by rw [i_0]; exact w)) z
theorem v_hasOutcome {g : gT} {h : mh_T} {P : Int32 → mh_T → Prop} (l o : Int32) (tz : TZ (tC h)) (h1 : OCb (tC h) l o → P 1 h) (h0 : ¬ OCb (tC h) l o → P 0 h) : MCi g yX8_hasOutcome uX8_hasOutcome [.ref 3, .int l, .int o] h P := by
  refine e_X8_hasOutcome l o (v_hasSet l (fun q => ⟨fun z => absurd z (by decide), fun _ => ⟨fun c => h0 (fun y => ?_), fun c => ?_⟩⟩) (fun q => ⟨fun _ => h0 (fun y => q y.1), fun z => absurd rfl z⟩))
  · have c := i_lt.mp c
    rw [i_0] at c
    have := y.2.1
    omega
  · have c : ¬ o.toInt < (0 : Int32).toInt := fun z => c (i_lt.mpr z)
    rw [i_0] at c
    have q1 := q.1
    have q2 := q.2
    refine v_outcomesC l l.toInt.toNat (by omega) tz (by unfold sn; omega) (fun v ev => ⟨fun c2 => h0 (fun y => ?_), fun c2 => h1 ⟨q, by omega, ?_⟩⟩)
    · have c2 := i_le.mp c2
      have := y.2.2
      omega
    · have c2 := i_lt.mp (nle c2)
      omega
theorem v_isLookedAt {g : gT} {h : mh_T} {P : Int32 → mh_T → Prop} (l1 : Int32) (tz : TZ (tC h)) (h1 : LA (tC h) l1 → P 1 h) (h0 : ¬ LA (tC h) l1 → P 0 h) : MCi g yX8_isLookedAt uX8_isLookedAt [.ref 3, .int l1] h P := by
  have n8 : sn (tC h) ≤ 8 := by unfold sn; have := tz.2.1; omega
  have en : (mI h 3 2).toInt = (sn (tC h) : Int) := by show (tC h 0).toInt = _; unfold sn; have := tz.1; omega
  have L : ∀ (n : Nat) (l2 : Int32) (s : Nat), l2.toInt = (s : Int) → s ≤ sn (tC h) → sn (tC h) - s < n → (∀ q, q < s → ¬ (tC h (1 + q) = l1 ∨ tC h (9 + q) = l1)) → ME g uX8_isLookedAt 2 [.ref 3, .int l1, .int l2] [] h (qI P) := by
    intro n
    induction n with
    | zero => intro l2 s _ _ hn; exact absurd hn (Nat.not_lt_zero _)
    | succ n ih =>
      intro l2 s es hs hn hz
      refine r_X8_isLookedAt_2 l1 l2 ⟨fun c => h0 (fun y => ?_), fun c => ?_⟩
      · have c := i_le.mp c
        obtain ⟨q, q1, q2⟩ := y
        exact hz q (by omega) q2
      · have c := i_lt.mp (nle c)
        rw [en, es] at c
        have s8 : s < 8 := by omega
        rw [i_nat es, ← tC_1 h s8, ← tC_9 h s8]
        refine ⟨i_vp es s8, fun y => h1 ⟨s, by omega, Or.inl y⟩, fun y => ⟨i_vp es s8, fun w => ih (l2 + 1) (s + 1) (i_inc es (by omega)) (by omega) (by omega) (fun q hq => ?_), fun w => h1 ⟨s, by omega, Or.inr w⟩⟩⟩
        by_cases e : q = s
        · subst e
          exact fun v => v.elim y w
        · exact hz q (by omega)
  exact e_X8_isLookedAt l1 (L 9 0 0 (by decide) (Nat.zero_le _) (by omega) (fun q hq => absurd hq (Nat.not_lt_zero _)))
abbrev msK : List Nat := [0, 3, 10, 24, 25, 26, 27, 40, 41, 302]
theorem Ok_0 {h0 h : mh_T} {v : Int32} {ms : List Nat} (ok : Ok ms h0 h) (hm : 0 ∈ ms) : Ok ms h0 (wI h 0 11 v) := Ok_w ok (k := 0) (j := 11) (lo := -2147483648) (hi := 2147483647) rfl (R_full _) (Or.inl ⟨hm, by decide⟩) (by decide)
theorem v_denied {g : gT} {h : mh_T} {P : Int32 → mh_T → Prop} (l : Int32) (hG : GI h) (hp : ∀ h', Ok [0] h h' → P 0 h') : MCi g yX10_denied uX10_denied [.ref 0, .int l] h (fun r h' => (r = 0 ∨ r = 1) ∧ P r h') := e_X10_denied l ⟨Or.inl rfl, hp _ (Ok_0 (Ok_rf hG) (by decide))⟩
theorem HC_ok {u : Nat} {a : Nat → Int32} {h h1 h2 : mh_T} (hc : HC u a h h1) (ok : Ok [0, 3, 24, 25, 26, 27] h1 h2) : HC u a h h2 := by
  obtain ⟨c1, c2, c3, c4, c5, c6, c7⟩ := hc
  have e10 : ∀ j, mI h2 10 j = mI h1 10 j := fun j => congrFun (OkC ok (k := 10) (by decide)) j
  have e40 : h2.2.2 40 = h1.2.2 40 := (ok.2.1 40 (by decide) (by decide)).2.2
  have e41 : h2.2.2 41 = h1.2.2 41 := (ok.2.1 41 (by decide) (by decide)).2.2
  have h62 := Ok_62 ok (by decide)
  refine ⟨by rw [e10]; exact c1, by rw [e10, e10]; exact c2, by rw [e10]; exact c3, RI_cg e40 e41 c4, fun i j hi hj => ?_, fun i j hi hj => ?_, fun k hk => (h62 k (by omega)).trans (c7 k hk)⟩
  · have e : mR h2 41 i = mR h1 41 i := congrFun e41 i
    have := (c4.1 i (by omega)).1
    show h2.1 (mR h2 41 i) j = _
    rw [e, h62 _ (by omega)]
    exact c5 i j hi hj
  · have e : mR h2 40 i = mR h1 40 i := congrFun e40 i
    have g := sh5 (show shp (mR h1 40 i) = (20, 5, []) by rw [← e]; exact ok.1.2.1 i hi)
    show h2.1 (mR h2 40 i) j = _
    rw [e, h62 _ (by omega)]
    exact c6 i j hi hj
/-- an act: begin, what it does to the table, done -/
theorem v_actC {g : gT} {h : mh_T} {P : Int32 → mh_T → Prop} {rel : (Nat → Int32) → (Nat → Int32) → (Nat → Int32) → (Nat → Int32) → Prop} (u : Nat) (a : Nat → Int32) {h1 h2 : mh_T} (k1 : Ok [10, 40, 41, 302] h h1) (hc : HC u a h h1) (k2 : Ok [3, 24, 25, 26, 27] h1 h2) (rl : rel (tC h1) (h1.1 27) (tC h2) (h2.1 27)) (hp : ∀ h', Ok msK h h' → rel (tC h) (h.1 27) (tC h') (h'.1 27) → HC u a h h' → P 1 h') : MCi g yX10_done uX10_done [.ref 0] h2 (fun r h' => (r = 0 ∨ r = 1) ∧ P r h') := by
  have o2 : Ok msK h h2 := Ok_tr (Ok_mono k1 (by decide)) k2 (by decide)
  refine e_X10_done ⟨Or.inr rfl, hp _ (Ok_0 o2 (by decide)) ?_ (HC_ok hc (Ok_0 (Ok_mono k2 (by decide)) (by decide)))⟩
  rw [tC_wo _ _ _ _ (by decide), wI_o (by decide)]
  rw [tC_ok k1 (by decide), OkC k1 (k := 27) (by decide)] at rl
  exact rl
theorem v_X10_flip {g : gT} {h : mh_T} {P : Int32 → mh_T → Prop} (l1 : Int32) (u : Nat) (eu : (mI h 10 0).toInt = (u : Int)) (hG : GI h) (ri : RI h) (tz : TZ (tC h)) (h0 : ¬ LKc h l1 → ∀ h', Ok [0] h h' → P 0 h') (hp : LKc h l1 → ∀ h', Ok msK h h' → flp l1 (tC h) (h.1 27) (tC h') (h'.1 27) → HC u (ac5 0 l1 (-2) (-2) (-2)) h h' → P 1 h') : MCi g yX10_flip uX10_flip [.ref 0, .int l1] h P :=
  e_X10_flip l1 (v_hasLook l1 (fun q => ⟨fun _ => v_begin 0 l1 u eu hG ri (fun h1 k1 hc => v_X8_turn l1 k1.1 (by rw [tC_ok k1 (by decide)]; exact tz) (fun h2 k2 fl => v_actC (rel := flp l1) u _ k1 hc (Ok_mono k2 (by decide)) fl (hp q))), fun z => absurd z (by decide)⟩) (fun q => ⟨fun z => absurd rfl z, fun _ => v_denied 1 hG (h0 q)⟩))
theorem v_X10_drop {g : gT} {h : mh_T} {P : Int32 → mh_T → Prop} (l1 : Int32) (u : Nat) (eu : (mI h 10 0).toInt = (u : Int)) (hG : GI h) (ri : RI h) (h0 : ¬ SEb (tC h) l1 → ∀ h', Ok [0] h h' → P 0 h') (hp : SEb (tC h) l1 → ∀ h', Ok msK h h' → drp l1.toInt.toNat (tC h) (h.1 27) (tC h') (h'.1 27) → HC u (ac5 1 l1 (-2) (-2) (-2)) h h' → P 1 h') : MCi g yX10_drop uX10_drop [.ref 0, .int l1] h P :=
  e_X10_drop l1 (v_hasSet l1 (fun q => ⟨fun _ => v_begin 1 l1 u eu hG ri (fun h1 k1 hc => v_remove l1 l1.toInt.toNat (by have := q.1; omega) (by rw [tC_ok k1 (by decide)]; unfold sn; have := q.1; have := q.2; omega) k1.1 (fun h2 k2 fl => v_actC (rel := drp l1.toInt.toNat) u _ k1 hc k2 fl (hp q))), fun z => absurd z (by decide)⟩) (fun q => ⟨fun z => absurd rfl z, fun _ => v_denied 1 hG (h0 q)⟩))
theorem v_X10_forget {g : gT} {h : mh_T} {P : Int32 → mh_T → Prop} (l1 : Int32) (u : Nat) (eu : (mI h 10 0).toInt = (u : Int)) (hG : GI h) (ri : RI h) (tz : TZ (tC h)) (h0 : ¬ (LKc h l1 ∧ LA (tC h) l1) → ∀ h', Ok [0] h h' → P 0 h') (hp : LKc h l1 → LA (tC h) l1 → ∀ h', Ok msK h h' → fgt l1 (sn (tC h)) (tC h) (h.1 27) (tC h') (h'.1 27) → HC u (ac5 2 l1 (-2) (-2) (-2)) h h' → P 1 h') : MCi g yX10_forget uX10_forget [.ref 0, .int l1] h P :=
  e_X10_forget l1 (v_hasLook l1 (fun q => ⟨fun _ => v_isLookedAt l1 tz (fun la => ⟨fun _ => v_begin 2 l1 u eu hG ri (fun h1 k1 hc => v_X8_merge l1 k1.1 (by rw [tC_ok k1 (by decide)]; exact tz) (fun h2 k2 fl => v_actC (rel := fgt l1 (sn (tC h))) u _ k1 hc k2 (by rw [tC_ok k1 (by decide)] at fl ⊢; exact fl) (hp q la))), fun z => absurd z (by decide)⟩) (fun la => ⟨fun z => absurd rfl z, fun _ => v_denied 5 hG (h0 (fun y => la y.2))⟩), fun z => absurd z (by decide)⟩) (fun q => ⟨fun z => absurd rfl z, fun _ => v_denied 1 hG (h0 (fun y => q y.1))⟩))
theorem v_tellMove {g : gT} {h h1 : mh_T} {P : mh_T → Prop} (l2 l3 l4 k w : Int32) (u : Nat) (u20 : u ≤ 20) (k1 : Ok [10, 40, 41, 302] h h1) (hc : HC u (ac5 k w (-2) (-2) (-2)) h h1) (hp : ∀ h', Ok [10, 40, 41, 302] h h' → HC u (ac5 k w l2 l3 l4) h h' → P h') : MCv g yX4_tellMove uX4_tellMove [.ref 10, .int l2, .int l3, .int l4] h1 P := by
  obtain ⟨c1, c2, c3, c4, c5, c6, c7⟩ := hc
  have em : ∃ m : Nat, (mI h1 10 0).toInt = (m : Int) + 1 ∧ m < 20 ∧ (m = if u = 20 then 19 else u) := by
    by_cases e : u = 20
    · rw [if_pos e] at c1
      exact ⟨19, by rw [c1]; decide, by decide, by rw [if_pos e]⟩
    · rw [if_neg e] at c1
      exact ⟨u, c1, by omega, by rw [if_neg e]⟩
  obtain ⟨m, em, m20, emu⟩ := em
  have ed : (mI h1 10 0 - 1).toInt = (m : Int) := by
    rw [ti_sub1 (x := mI h1 10 0) (hi := 20) ⟨by omega, by omega⟩ (by decide)]
    omega
  refine e_X4_tellMove l2 l3 l4 ⟨fun c => ?_, fun c => ?_⟩
  · have c := i_le.mp c
    rw [i_0] at c
    omega
  · have sa := k1.1.2.1 m m20
    have ga := sh5 sa
    have z2 : Int32.toNatClampNeg 2 = 2 := by decide
    have z3 : Int32.toNatClampNeg 3 = 3 := by decide
    have z4 : Int32.toNatClampNeg 4 = 4 := by decide
    rw [i_nat ed, z2, z3, z4]
    have wk : ∀ {h2 : mh_T} (j : Nat) (v : Int32), Ok [10, 40, 41, 302] h h2 → Ok [10, 40, 41, 302] h (wI h2 (mR h1 40 m) j v) := fun j v o => Ok_w o (k := mR h1 40 m) (j := j) (v := v) (rg_5 sa _) (R_full _) (Or.inr ⟨ge_5 sa, by decide⟩) (nt_5 sa)
    have eo : ∀ k, ¬ k = mR h1 40 m → (wI (wI (wI h1 (mR h1 40 m) 2 l2) (mR h1 40 m) 3 l3) (mR h1 40 m) 4 l4).1 k = h1.1 k := fun k hk => by rw [wI_o hk, wI_o hk, wI_o hk]
    refine ⟨i_vp ed (by omega), sa, by unfold vp_in; decide, by unfold vp_in; decide, by unfold vp_in; decide, hp _ (wk _ _ (wk _ _ (wk _ _ k1))) ⟨?_, ?_, ?_, c4, fun i j hi hj => ?_, fun i j hi hj => ?_, fun k hk => (eo k (by omega)).trans (c7 k hk)⟩⟩
    · rw [show mI (wI (wI (wI h1 (mR h1 40 m) 2 l2) (mR h1 40 m) 3 l3) (mR h1 40 m) 4 l4) 10 0 = mI h1 10 0 from congrFun (eo 10 (by omega)) 0]; exact c1
    · rw [show mI (wI (wI (wI h1 (mR h1 40 m) 2 l2) (mR h1 40 m) 3 l3) (mR h1 40 m) 4 l4) 10 0 = mI h1 10 0 from congrFun (eo 10 (by omega)) 0, show mI (wI (wI (wI h1 (mR h1 40 m) 2 l2) (mR h1 40 m) 3 l3) (mR h1 40 m) 4 l4) 10 1 = mI h1 10 1 from congrFun (eo 10 (by omega)) 1]; exact c2
    · rw [show mI (wI (wI (wI h1 (mR h1 40 m) 2 l2) (mR h1 40 m) 3 l3) (mR h1 40 m) 4 l4) 10 2 = mI h1 10 2 from congrFun (eo 10 (by omega)) 2]; exact c3
    · have := (c4.1 i (by omega)).1
      show (wI (wI (wI h1 (mR h1 40 m) 2 l2) (mR h1 40 m) 3 l3) (mR h1 40 m) 4 l4).1 (mR h1 41 i) j = _
      rw [eo _ (by omega)]
      exact c5 i j hi hj
    · show (wI (wI (wI h1 (mR h1 40 m) 2 l2) (mR h1 40 m) 3 l3) (mR h1 40 m) 4 l4).1 (mR h1 40 i) j = _
      have c6' := c6 i j hi hj
      by_cases e : i = m
      · subst e
        rw [wI_i, wI_i, wI_i, show h1.1 (mR h1 40 i) j = _ from c6']
        have pe : ∀ (f : Nat → Nat → Int32) (x : Nat → Int32), psh u f x i = x := fun f x => by
          unfold psh
          by_cases e : u = 20
          · rw [if_pos e] at emu
            rw [if_pos e, if_neg (by omega), if_pos emu]
          · rw [if_neg e] at emu
            rw [if_neg e, if_pos emu]
        rw [pe, pe]
        unfold ac5
        have : j = 0 ∨ j = 1 ∨ j = 2 ∨ j = 3 ∨ j = 4 := by omega
        rcases this with z | z | z | z | z <;> subst z <;> rfl
      · rw [eo _ (fun z => e (c4.2.2 i m hi m20 z)), show h1.1 (mR h1 40 i) j = _ from c6']
        unfold psh
        by_cases q : u = 20
        · rw [if_pos q] at emu
          rw [if_pos q, if_pos q, if_pos (by omega), if_pos (by omega)]
        · rw [if_neg q] at emu
          rw [if_neg q, if_neg q, if_neg (by omega), if_neg (by omega)]
/-- SHIFT's conditions -/
def SHc (a : Nat → Int32) (l1 l2 l3 l4 : Int32) : Prop := OCb a l1 l2 ∧ OCb a l1 l3 ∧ ¬ l2 = l3 ∧ 1 ≤ l4.toInt ∧ l4.toInt ≤ 60 ∧ l4.toInt ≤ (a (17 + 4 * l1.toInt.toNat + l2.toInt.toNat)).toInt
theorem ocs_le (a : Nat → Int32) (s : Nat) : ocs a s ≤ 4 := by unfold ocs; split <;> omega
theorem OC_n {a : Nat → Int32} {l o : Int32} (q : OCb a l o) (h8 : (a 0).toInt ≤ 8) : l.toInt = (l.toInt.toNat : Int) ∧ l.toInt.toNat < 8 ∧ o.toInt = (o.toInt.toNat : Int) ∧ o.toInt.toNat < 4 ∧ l.toInt.toNat < sn a := by
  obtain ⟨⟨q1, q2⟩, q3, q4⟩ := q
  have := ocs_le a l.toInt.toNat
  unfold sn
  omega
set_option maxRecDepth 100000 in
set_option maxHeartbeats 4000000 in
theorem v_X10_shift {g : gT} {h : mh_T} {P : Int32 → mh_T → Prop} (l1 l2 l3 l4 : Int32) (u : Nat) (eu : (mI h 10 0).toInt = (u : Int)) (hG : GI h) (ri : RI h) (tz : TZ (tC h)) (h0 : ¬ SHc (tC h) l1 l2 l3 l4 → ∀ h', Ok [0] h h' → P 0 h') (hp : SHc (tC h) l1 l2 l3 l4 → ∀ h', Ok msK h h' → shf l1.toInt.toNat l2.toInt.toNat l3.toInt.toNat l4 (tC h) (h.1 27) (tC h') (h'.1 27) → HC u (ac5 3 l1 l2 l3 l4) h h' → P 1 h') : MCi g yX10_shift uX10_shift [.ref 0, .int l1, .int l2, .int l3, .int l4] h P := by
  have z1 : (1 : Int32).toInt = 1 := by decide
  have z60 : (60 : Int32).toInt = 60 := by decide
  have f0 : R 0 20 (mI h 10 0) := GI_rd hG 10 0 rfl
  refine e_X10_shift l1 l2 l3 l4 (v_hasOutcome l1 l2 tz (fun q => ⟨fun z => absurd z (by decide), fun _ => v_hasOutcome l1 l3 tz (fun q2 => ⟨fun z => absurd z (by decide), fun _ => ⟨fun ne => ⟨fun c => v_denied 2 hG (h0 (fun y => ?_)), fun c => ⟨fun c2 => ?_, fun c2 => v_denied 2 hG (h0 (fun y => ?_))⟩⟩, fun e => v_denied 1 hG (h0 (fun y => y.2.2.1 e))⟩⟩) (fun q2 => ⟨fun _ => v_denied 1 hG (h0 (fun y => q2 y.2.1)), fun z => absurd rfl z⟩)⟩) (fun q => ⟨fun _ => v_denied 1 hG (h0 (fun y => q y.1)), fun z => absurd rfl z⟩))
  · have c := i_lt.mp c
    have := y.2.2.2.1
    omega
  · have c1 : ¬ l4.toInt < (1 : Int32).toInt := fun z => c (i_lt.mpr z)
    have c2 := i_le.mp c2
    obtain ⟨e1, s8, e2, o4, sl⟩ := OC_n q tz.2.1
    obtain ⟨-, -, e3, p4, -⟩ := OC_n q2 tz.2.1
    have ia : ((4 * l1) + l2).toInt = ((4 * l1.toInt.toNat + l2.toInt.toNat : Nat) : Int) := by rw [i_add (i_4s e1 s8) e2 (by omega)]; omega
    have ib : ((4 * l1) + l3).toInt = ((4 * l1.toInt.toNat + l3.toInt.toNat : Nat) : Int) := by rw [i_add (i_4s e1 s8) e3 (by omega)]; omega
    have nop : ¬ l2.toInt.toNat = l3.toInt.toNat := fun z => ne (Int32.toInt_inj.mp (by rw [e2, e3, z]))
    have ec : mI h 26 (4 * l1.toInt.toNat + l2.toInt.toNat) = tC h (17 + 4 * l1.toInt.toNat + l2.toInt.toNat) := by rw [show 17 + 4 * l1.toInt.toNat + l2.toInt.toNat = 17 + (4 * l1.toInt.toNat + l2.toInt.toNat) by omega, tC_17]
    have e26 : mI h 26 ((4 * l1) + l2).toNatClampNeg = tC h (17 + 4 * l1.toInt.toNat + l2.toInt.toNat) := by rw [i_nat ia, ec]
    rw [e26]
    refine ⟨i_vp ia (by omega), fun c3 => ?_, fun c3 => v_denied 5 hG (h0 (fun y => c3 (i_le.mpr y.2.2.2.2.2)))⟩
    have sc : SHc (tC h) l1 l2 l3 l4 := ⟨q, q2, ne, by omega, by omega, i_le.mp c3⟩
    refine v_begin 3 l1 u eu hG ri (fun h1 k1 hc => v_tellMove l2 l3 l4 3 l1 u (by have := f0.2; omega) k1 hc (fun h2 k2 hc2 => e_X8_move _ _ l4 ⟨i_vp ia (by omega), i_vp ia (by omega), i_vp ib (by omega), i_vp ib (by omega), ?_⟩))
    rw [i_nat ia, i_nat ib]
    have o1 := Ok_w (Ok_w (Ok_w (Ok_rf (ms := [3, 24, 25, 26, 27]) k2.1) (k := 26) (j := 4 * l1.toInt.toNat + l2.toInt.toNat) (v := mI h2 26 (4 * l1.toInt.toNat + l2.toInt.toNat) - l4) (rgc_26 _) (R_full _) (by decide) (nt_k (by decide))) (k := 26) (j := 4 * l1.toInt.toNat + l3.toInt.toNat) (v := mI (wI h2 26 (4 * l1.toInt.toNat + l2.toInt.toNat) (mI h2 26 (4 * l1.toInt.toNat + l2.toInt.toNat) - l4)) 26 (4 * l1.toInt.toNat + l3.toInt.toNat) + l4) (rgc_26 _) (R_full _) (by decide) (nt_k (by decide))) (k := 3) (j := 3) (v := mI (wI (wI h2 26 (4 * l1.toInt.toNat + l2.toInt.toNat) (mI h2 26 (4 * l1.toInt.toNat + l2.toInt.toNat) - l4)) 26 (4 * l1.toInt.toNat + l3.toInt.toNat) (mI (wI h2 26 (4 * l1.toInt.toNat + l2.toInt.toNat) (mI h2 26 (4 * l1.toInt.toNat + l2.toInt.toNat) - l4)) 26 (4 * l1.toInt.toNat + l3.toInt.toNat) + l4)) 3 3 + 1) (lo := -2147483648) (hi := 2147483647) rfl (R_full _) (by decide) (by decide)
    refine v_actC (rel := shf l1.toInt.toNat l2.toInt.toNat l3.toInt.toNat l4) u _ k2 hc2 o1 ?_ (hp sc)
    rw [tC_wo _ _ _ _ (by decide), wI_o (by decide), wI_o (by decide), wI_o (by decide)]
    have tv : ∀ j, tC (wI (wI h2 26 (4 * l1.toInt.toNat + l2.toInt.toNat) (mI h2 26 (4 * l1.toInt.toNat + l2.toInt.toNat) - l4)) 26 (4 * l1.toInt.toNat + l3.toInt.toNat) (mI (wI h2 26 (4 * l1.toInt.toNat + l2.toInt.toNat) (mI h2 26 (4 * l1.toInt.toNat + l2.toInt.toNat) - l4)) 26 (4 * l1.toInt.toNat + l3.toInt.toNat) + l4)) j = if j = 17 + (4 * l1.toInt.toNat + l3.toInt.toNat) then tC h2 j + l4 else if j = 17 + (4 * l1.toInt.toNat + l2.toInt.toNat) then tC h2 j - l4 else tC h2 j := fun j => by
      rw [tC_w26, tC_w26]
      by_cases w : j = 17 + (4 * l1.toInt.toNat + l3.toInt.toNat)
      · rw [if_pos w, if_pos w, w, tC_17, mI_wI, if_neg (by omega)]
      · rw [if_neg w, if_neg w]
        by_cases w2 : j = 17 + (4 * l1.toInt.toNat + l2.toInt.toNat)
        · rw [if_pos w2, if_pos w2, w2, tC_17]
        · rw [if_neg w2, if_neg w2]
    refine ⟨by rw [tv, if_neg (by omega), if_neg (by omega)], fun s hs => ⟨⟨by rw [tv, if_neg (by have : sn (tC h2) ≤ 8 := (by have f := GI_rd k2.1 3 2 (lo := 0) (hi := 8) rfl; unfold sn; have := f.2; show (mI h2 3 2).toInt.toNat ≤ 8; omega); omega), if_neg (by have : sn (tC h2) ≤ 8 := (by have f := GI_rd k2.1 3 2 (lo := 0) (hi := 8) rfl; unfold sn; have := f.2; show (mI h2 3 2).toInt.toNat ≤ 8; omega); omega)], by rw [tv, if_neg (by have : sn (tC h2) ≤ 8 := (by have f := GI_rd k2.1 3 2 (lo := 0) (hi := 8) rfl; unfold sn; have := f.2; show (mI h2 3 2).toInt.toNat ≤ 8; omega); omega), if_neg (by have : sn (tC h2) ≤ 8 := (by have f := GI_rd k2.1 3 2 (lo := 0) (hi := 8) rfl; unfold sn; have := f.2; show (mI h2 3 2).toInt.toNat ≤ 8; omega); omega)]⟩, fun _ _ => rfl, fun i hi => ?_⟩⟩
    rw [tv]
    by_cases w : s = l1.toInt.toNat ∧ i = l2.toInt.toNat
    · rw [if_pos w, if_neg (by omega), if_pos (by omega)]
    · rw [if_neg w]
      by_cases w2 : s = l1.toInt.toNat ∧ i = l3.toInt.toNat
      · rw [if_pos w2, if_pos (by omega)]
      · rw [if_neg w2, if_neg (by omega), if_neg (by omega)]
  · have c2 := i_lt.mp (nle c2)
    have := y.2.2.2.2.1
    omega
/-- STAKE -/
def SKc (a : Nat → Int32) (l1 l2 l3 : Int32) : Prop := OCb a l1 l2 ∧ 0 ≤ l3.toInt ∧ l3.toInt ≤ 99
theorem v_X10_stake {g : gT} {h : mh_T} {P : Int32 → mh_T → Prop} (l1 l2 l3 : Int32) (hG : GI h) (tz : TZ (tC h)) (h0 : ¬ SKc (tC h) l1 l2 l3 → ∀ h', Ok [0] h h' → P 0 h') (hp : SKc (tC h) l1 l2 l3 → ∀ h', Ok [0, 27] h h' → (∀ j, h'.1 27 j = if j = 4 * l1.toInt.toNat + l2.toInt.toNat then l3 else h.1 27 j) → P 1 h') : MCi g yX10_stake uX10_stake [.ref 0, .int l1, .int l2, .int l3] h P := by
  have z99 : (99 : Int32).toInt = 99 := by decide
  refine e_X10_stake l1 l2 l3 (v_hasOutcome l1 l2 tz (fun q => ⟨fun _ => ⟨fun c => v_denied 2 hG (h0 (fun y => ?_)), fun c => ⟨fun c2 => ?_, fun c2 => v_denied 2 hG (h0 (fun y => ?_))⟩⟩, fun z => absurd z (by decide)⟩) (fun q => ⟨fun z => absurd rfl z, fun _ => v_denied 1 hG (h0 (fun y => q y.1))⟩))
  · have c := i_lt.mp c
    rw [i_0] at c
    have := y.2.1
    omega
  · have c1 : ¬ l3.toInt < (0 : Int32).toInt := fun z => c (i_lt.mpr z)
    rw [i_0] at c1
    have c2 := i_le.mp c2
    obtain ⟨e1, s8, e2, o4, sl⟩ := OC_n q tz.2.1
    have ia : ((4 * l1) + l2).toInt = ((4 * l1.toInt.toNat + l2.toInt.toNat : Nat) : Int) := by rw [i_add (i_4s e1 s8) e2 (by omega)]; omega
    rw [i_nat ia]
    refine ⟨i_vp ia (by omega), e_X10_done ⟨Or.inr rfl, hp ⟨q, by omega, by omega⟩ _ (Ok_0 (Ok_w (Ok_rf hG) (k := 27) (rgc_27 _) (R_full _) (by decide) (nt_k (by decide))) (by decide)) (fun j => ?_)⟩⟩
    rw [wI_o (by decide), wI_i]
  · have c2 := i_lt.mp (nle c2)
    have := y.2.2
    omega
