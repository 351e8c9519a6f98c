/-! the class's lines -/
abbrev cms : List Nat := [1, 2, 13, 14, 15, 16, 17, 18, 19, 20, 21, 22, 23]
def Cs (h0 : mh_T) (T : Nat → Int32) (n e : Nat) (f : Nat → Int32) (h : mh_T) : Prop := Ok cms h0 h ∧ Tp h T n ∧ Tk h T n e ∧ e ≤ n ∧ Dr h f ∧ Nv f ∧ mI h 1 1 = 0
def Cx (h0 : mh_T) (w : Int32) (p : Nat) (h : mh_T) : Prop := Ok cms h0 h ∧ mI h 1 1 = w ∧ (mI h 1 2).toInt = (p : Int) ∧ ¬ w = 0
def Co (h0 : mh_T) (T : Nat → Int32) (n : Nat) (o : rx_O Unit) (r : Int32) (h : mh_T) : Prop := (∃ e f, o = .inr ((), e, f) ∧ r = 1 ∧ Cs h0 T n e f h) ∨ (∃ w p, o = .inl (w, p) ∧ r = 0 ∧ Cx h0 w p h)
theorem Kp_2 {h h' : mh_T} (a : Kp h h') {k : Nat} (hk : k < 62) (h1 : ¬ k = 1) : h'.1 k = h.1 k ∧ h'.2.1 k = h.2.1 k := by
  have := a.1.2.1 k hk (by intro z; exact h1 (List.mem_singleton.mp z))
  exact ⟨this.1, this.2.1⟩
theorem Dr_eq {h h' : mh_T} {f : Nat → Int32} (h2 : h'.1 2 = h.1 2) (h13 : h'.2.1 13 = h.2.1 13) (h14 : h'.2.1 14 = h.2.1 14) (d : Dr h f) : Dr h' f := by
  have e2 : ∀ j, mI h' 2 j = mI h 2 j := fun j => congrFun h2 j
  have e13 : ∀ j, mL h' 13 j = mL h 13 j := fun j => congrFun h13 j
  have e14 : ∀ j, mL h' 14 j = mL h 14 j := fun j => congrFun h14 j
  unfold Dr
  rw [e2, e2, e2, e2, e2, e2, e2]
  exact ⟨d.1, fun i hi => by rw [e13]; exact d.2.1 i hi, fun i hi => by rw [e14]; exact d.2.2 i hi⟩
theorem Cs_next {h0 h h' : mh_T} {T : Nat → Int32} {n e : Nat} {f : Nat → Int32} (c : Cs h0 T n e f h) (k : Kp h h') (t : Tk h' T n (rx_e T n e)) : Cs h0 T n (rx_e T n e) f h' :=
  ⟨Ok_tr c.1 k.1 (by decide), Tp_k k c.2.1, t, rx_e_le c.2.2.2.1, Dr_eq (Kp_2 k (by decide) (by decide)).1 (Kp_2 k (by decide) (by decide)).2 (Kp_2 k (by decide) (by decide)).2 c.2.2.2.2.1, c.2.2.2.2.2.1, by rw [k.2 1 (by decide)]; exact c.2.2.2.2.2.2⟩
theorem Cs_rf {h0 h : mh_T} {T : Nat → Int32} {n e : Nat} {f : Nat → Int32} (c : Cs h0 T n e f h) {w : Int32} (hw : ¬ w = 0) : Cx h0 w (rx_s T n e) (rf h w) := by
  refine ⟨Ok_w (Ok_w c.1 (k := 1) (j := 1) (lo := -2147483648) (hi := 2147483647) (by decide) (R_full _) (by decide) (by decide)) (k := 1) (j := 2) (lo := -2147483648) (hi := 2147483647) (by decide) (R_full _) (by decide) (by decide), ?_, ?_, hw⟩
  · unfold rf
    rw [mI_wI, if_neg (by decide), mI_wI, if_pos ⟨rfl, rfl⟩]
  · unfold rf
    rw [mI_wI, if_pos ⟨rfl, rfl⟩]
    exact c.2.2.1.1
theorem Co_rf {h0 h : mh_T} {T : Nat → Int32} {n e : Nat} {f : Nat → Int32} {o : rx_O Unit} (c : Cs h0 T n e f h) {w : Int32} (hw : ¬ w = 0) (ho : o = rx_no T n e w) : Co h0 T n o 0 (rf h w) := Or.inr ⟨w, rx_s T n e, ho, rfl, Cs_rf c hw⟩
/-- a slot of the draft, or of its lists, other than names -/
theorem Cs_w {h0 h : mh_T} {T : Nat → Int32} {n e : Nat} {f f' : Nat → Int32} (c : Cs h0 T n e f h) {k j : Nat} {v : Int32} {lo hi : Int} (er : rgT k j = (lo, hi)) (fr : R lo hi v) (hk : k ∈ cms) (h1 : ¬ k = 1) (hd : Dr (wI h k j v) f') (hv : Nv f') : Cs h0 T n e f' (wI h k j v) := by
  have k12 : ¬ k = 12 := by
    intro z
    subst z
    exact absurd hk (by decide)
  have k0 : ¬ (k = 0 ∧ (j = 10 ∨ j = 12 ∨ j = 13)) ∧ ¬ (k = 11 ∧ (j = 2 ∨ j = 9 ∨ j = 10 ∨ j = 11)) := by
    refine ⟨?_, ?_⟩
    · rintro ⟨z, -⟩
      subst z
      exact absurd hk (by decide)
    · rintro ⟨z, -⟩
      subst z
      exact absurd hk (by decide)
  refine ⟨Ok_w c.1 er fr (Or.inl hk) k0, ⟨?_, c.2.1.2.1, fun i hi => ?_⟩, ⟨?_, ?_, ?_, ?_, ?_⟩, c.2.2.2.1, hd, hv, ?_⟩
  · rw [mI_wI, if_neg (fun z => h1 z.1.symm)]; exact c.2.1.1
  · rw [mI_wI, if_neg (fun z => k12 z.1.symm)]; exact c.2.1.2.2 i hi
  · rw [mI_wI, if_neg (fun z => h1 z.1.symm)]; exact c.2.2.1.1
  · rw [mI_wI, if_neg (fun z => h1 z.1.symm)]; exact c.2.2.1.2.1
  · rw [mI_wI, if_neg (fun z => h1 z.1.symm)]; exact c.2.2.1.2.2.1
  · intro z; rw [mI_wI, if_neg (fun z => h1 z.1.symm)]; exact c.2.2.1.2.2.2.1 z
  · intro z; rw [mL_wI]; exact c.2.2.1.2.2.2.2 z
  · rw [mI_wI, if_neg (fun z => h1 z.1.symm)]; exact c.2.2.2.2.2.2
theorem Nv_same {f f' : Nat → Int32} (h : ∀ i, (i = 50 ∨ i = 51 ∨ 211 ≤ i) → f' i = f i) (v : Nv f) : Nv f' := by
  have e50 := h 50 (Or.inl rfl)
  have e51 := h 51 (Or.inr (Or.inl rfl))
  have eu : ∀ j, rx_used f' j ↔ rx_used f j := fun j => by unfold rx_used; rw [e50, e51]
  have es : ∀ j, f' (211 + j) = f (211 + j) := fun j => h _ (Or.inr (Or.inr (by omega)))
  have el : ∀ j i, f' (226 + 8 * j + i) = f (226 + 8 * j + i) := fun j i => h _ (Or.inr (Or.inr (by omega)))
  have en : ∀ j, rx_en f' j = rx_en f j := fun j => by unfold rx_en; rw [es]; exact rx_ws_congr _ (fun i _ => el j i)
  refine ⟨by rw [e50]; exact v.1, by rw [e51]; exact v.2.1, fun j hj => ?_, fun i j hi hj ui uj e => ?_⟩
  · rw [eu, es]
    refine ⟨fun u => ⟨((v.2.2.1 j hj).1 u).1, fun i hi => ?_⟩, (v.2.2.1 j hj).2⟩
    rw [el]
    exact ((v.2.2.1 j hj).1 u).2 i hi
  · rw [en, en] at e
    exact v.2.2.2 i j hi hj ((eu i).mp ui) ((eu j).mp uj) e
theorem Dr_same {h : mh_T} {f f' : Nat → Int32} (hs : ∀ i, (i = 49 ∨ i = 50 ∨ i = 51 ∨ i = 0 ∨ i = 52 ∨ i = 85 ∨ i = 158 ∨ 211 ≤ i) → f' i = f i) (d : Dr h f) : Dr h f' := by
  have es : ∀ j, f' (211 + j) = f (211 + j) := fun j => hs _ (by omega)
  have en : ∀ j, rx_en f' j = rx_en f j := fun j => by unfold rx_en; rw [es]; exact rx_ws_congr _ (fun i _ => hs _ (by omega))
  unfold Dr
  rw [hs 49 (by omega), hs 50 (by omega), hs 51 (by omega), hs 0 (by omega), hs 52 (by omega), hs 85 (by omega), hs 158 (by omega)]
  exact ⟨d.1, fun i hi => by rw [en]; exact d.2.1 i hi, fun i hi => by rw [en]; exact d.2.2 i hi⟩
theorem rx_set_o {f : Nat → Int32} {j i : Nat} {v : Int32} (h : ¬ i = j) : rx_set f j v i = f i := if_neg h
theorem rx_set_i {f : Nat → Int32} {j : Nat} {v : Int32} : rx_set f j v j = v := if_pos rfl
/-- the counts of the draft but those of names -/
theorem Cs_cnt {h0 h : mh_T} {T : Nat → Int32} {n e : Nat} {f : Nat → Int32} (c : Cs h0 T n e f h) {j i : Nat} {v : Int32} (hj : (j = 0 ∧ i = 49) ∨ (j = 3 ∧ i = 0) ∨ (j = 4 ∧ i = 52) ∨ (j = 5 ∧ i = 85) ∨ (j = 6 ∧ i = 158)) {lo hi : Int} (er : rgT 2 j = (lo, hi)) (fr : R lo hi v) : Cs h0 T n e (rx_set f i v) (wI h 2 j v) := by
  refine Cs_w c er fr (by decide) (by decide) ?_ (Nv_same (fun q hq => rx_set_o (by omega)) c.2.2.2.2.2.1)
  have d := c.2.2.2.2.1
  have en : ∀ q, rx_en (rx_set f i v) q = rx_en f q := fun q => by
    unfold rx_en
    rw [rx_set_o (by omega)]
    exact rx_ws_congr _ (fun p _ => rx_set_o (by omega))
  refine ⟨?_, fun q hq => ?_, fun q hq => ?_⟩
  · obtain ⟨d0, d1, d2, d3, d4, d5, d6⟩ := d.1
    rcases hj with ⟨a, b⟩ | ⟨a, b⟩ | ⟨a, b⟩ | ⟨a, b⟩ | ⟨a, b⟩ <;> subst a <;> subst b <;> refine ⟨?_, ?_, ?_, ?_, ?_, ?_, ?_⟩ <;> first | (rw [mI_wI, if_neg (by decide), rx_set_o (by decide)]; assumption) | (rw [mI_wI, if_pos ⟨rfl, rfl⟩, rx_set_i])
  · rw [rx_set_o (by omega)] at hq
    rw [en, mL_wI]
    exact d.2.1 q hq
  · rw [rx_set_o (by omega)] at hq
    rw [en, mL_wI]
    exact d.2.2 q hq
theorem c_readLaw {g : gT} {h0 h : mh_T} {P : Int32 → mh_T → Prop} {T : Nat → Int32} {n e : Nat} {f : Nat → Int32} (c : Cs h0 T n e f h) (hp : ∀ r h', Co h0 T n (rx_lawL T n e f) r h' → P r h') : MCi g yX6_readLaw uX6_readLaw [.ref 1] h P := by
  have e0 : mI h 2 0 = f 49 := c.2.2.2.2.1.1.1
  refine e_X6_readLaw ⟨fun z => ?_, fun z => ?_⟩
  · rw [e0] at z
    refine c_next c.1.1 c.2.1 c.2.2.1.2.1 (rx_e_le c.2.2.2.1) (fun h1 k1 t1 => ?_)
    have c1 := Cs_next c k1 t1
    have un : rx_lawL T n e f = rx_bind (rx_word T n 7 (rx_e T n e) f) (fun _ e1 f1 => rx_bind (rx_num T n 1 60 e1 f1) (fun v e2 f2 => .inr ((), e2, rx_set f2 49 v))) := by unfold rx_lawL; rw [if_pos z]
    rw [un] at hp
    refine c_passWord 7 (by decide) c1.1.1 c1.2.1 c1.2.2.1 c1.2.2.2.1 (fun w h2 k2 t2 => ⟨fun y => absurd y (by decide), fun _ => ?_⟩) (fun w => ⟨fun _ => ?_, fun y => absurd rfl y⟩)
    · have c2 := Cs_next c1 k2 t2
      have uw : rx_word T n 7 (rx_e T n e) f = .inr ((), rx_e T n (rx_e T n e), f) := by unfold rx_word; rw [if_pos w]
      rw [uw] at hp
      refine c_needWhole 1 60 c2.2.2.1 (fun k3 v => ⟨fun _ => ?_, fun y => absurd y (by decide)⟩) (fun k3 v => ⟨fun y => absurd rfl y, fun _ => ?_⟩) (fun k3 => ⟨fun y => absurd rfl y, fun _ => ?_⟩)
      · have un2 : rx_num T n 1 60 (rx_e T n (rx_e T n e)) f = .inr (rx_v T n (rx_e T n (rx_e T n e)), rx_e T n (rx_e T n (rx_e T n e)), f) := by
          unfold rx_num
          rw [if_neg (fun y => y k3), if_pos v]
        have c3 := Cs_cnt c2 (j := 0) (i := 49) (v := mI h2 1 11) (by omega) (lo := 0) (hi := 60) (by decide) (by
          rw [c2.2.2.1.2.2.2.1 k3]
          rw [i_le, i_le] at v
          exact ⟨by have := v.1; rw [show (1 : Int32).toInt = 1 from by decide] at this; omega, by have := v.2; rw [show (60 : Int32).toInt = 60 from by decide] at this; omega⟩)
        refine c_next c3.1.1 c3.2.1 c3.2.2.1.2.1 (rx_e_le c3.2.2.2.1) (fun h4 k4 t4 => hp 1 _ (Or.inl ⟨_, _, ?_, rfl, Cs_next c3 k4 t4⟩))
        show rx_bind (rx_num T n 1 60 (rx_e T n (rx_e T n e)) f) _ = _
        rw [un2, c2.2.2.1.2.2.2.1 k3]
        rfl
      · refine hp 0 _ (Co_rf c2 (by decide) ?_)
        show rx_bind (rx_num T n 1 60 (rx_e T n (rx_e T n e)) f) _ = _
        unfold rx_num
        rw [if_neg (fun y => y k3), if_neg v]
        rfl
      · refine hp 0 _ (Co_rf c2 (by decide) ?_)
        show rx_bind (rx_num T n 1 60 (rx_e T n (rx_e T n e)) f) _ = _
        unfold rx_num
        rw [if_pos k3]
        rfl
    · refine hp 0 _ (Co_rf c1 (by decide) ?_)
      unfold rx_word
      rw [if_neg w]
      rfl
  · rw [e0] at z
    refine c_refuse 3 ⟨Or.inl rfl, hp 0 _ (Co_rf c (by decide) ?_)⟩
    unfold rx_lawL
    rw [if_neg z]
