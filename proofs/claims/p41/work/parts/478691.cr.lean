theorem Cs_arr0 {h0 h : mh_T} {T : Nat → Int32} {n e : Nat} {f : Nat → Int32} (c : Cs h0 T n e f h) {k j : Nat} {v : Int32} {lo hi : Int} (er : rgT k j = (lo, hi)) (fr : R lo hi v) (hk : k ∈ cms) (h1 : ¬ k = 1) (h2 : ¬ k = 2) (hA : Ar (wI h k j v) f) : Cs h0 T n e f (wI h k j v) :=
  Cs_w c er fr hk h1 (Dr_eq (h := h) (by funext b; exact if_neg (fun z => h2 z.1.symm)) rfl rfl c.2.2.2.2.1) c.2.2.2.2.2.1 hA
theorem i_6s {l m : Int32} {s o : Nat} (h : l.toInt = (s : Int)) (hs : s < 4) (k : m.toInt = (o : Int)) (ho : o < 6) : ((6 * l) + m).toInt = ((6 * s + o : Nat) : Int) := by
  have a : (6 * l).toInt = 6 * (s : Int) := by
    rw [Int32.toInt_mul, h, show (6 : Int32).toInt = 6 from by decide, bm (by omega) (by omega)]
  rw [i_add a k (by omega)]
  omega
theorem c_readRun_L {g : gT} {h0 : mh_T} {P : Int32 → mh_T → Prop} {T : Nat → Int32} {n u : Nat} (hu : u < 4) : ∀ (r : Nat) (l1 : Int32) (e : Nat) (f : Nat → Int32) (h : mh_T), Cs h0 T n e f h → (f 158).toInt = (u : Int) → r ≤ 6 → l1.toInt = ((6 - r : Nat) : Int) → (∀ q h', Co h0 T n (rx_st T n u r (rx_e T n e) f) q h' → P q h') → ME g uX6_readRun 19 [.ref 1, .int l1, .retAddr 0] [] h (qI P) := by
  intro r
  have i6 : (6 : Int32).toInt = 6 := by decide
  have i0 : (0 : Int32).toInt = 0 := by decide
  induction r with
  | zero =>
    intro l1 e f h c eu hr e1 hp
    refine r_X6_readRun_19 l1 ⟨fun z => ?_, fun _ => ?_⟩
    · rw [i_lt, e1, i6] at z
      omega
    refine c_next c.1.1 c.2.1 c.2.2.1.2.1 (rx_e_le c.2.2.2.1) (fun h4 k4 t4 => ?_)
    have c4 := Cs_next c k4 t4
    refine c_nameL c4.2.1 c4.2.2.1 c4.2.2.2.1 c4.2.2.2.2.1 c4.2.2.2.2.2.1 (fun r6 k ek e6 k6 => ⟨fun _ => ⟨fun z => ?_, fun _ => ?_⟩, fun w => ?_⟩) (fun w hw ek => ⟨fun y => absurd y (by decide), fun _ => hp 0 _ (Co_rf c4 hw ?_)⟩)
    · rw [i_lt, e1, i6] at z
      omega
    · refine c_refuse 5 ⟨Or.inl rfl, hp 0 _ (Co_rf c4 (by decide) ?_)⟩
      show rx_bind (rx_name T n true (rx_e T n e) f) _ = _
      rw [ek]
      rfl
    · exfalso
      apply w
      rw [i_le, i0, e6]
      omega
    · show rx_bind (rx_name T n true (rx_e T n e) f) _ = _
      rw [ek]
      rfl
  | succ r ih =>
    intro l1 e f h c eu hr e1 hp
    refine r_X6_readRun_19 l1 ⟨fun z => ?_, fun _ => ?_⟩
    · rw [i_lt, e1, i6] at z
      omega
    refine c_next c.1.1 c.2.1 c.2.2.1.2.1 (rx_e_le c.2.2.2.1) (fun h4 k4 t4 => ?_)
    have c4 := Cs_next c k4 t4
    have un : rx_st T n u (r + 1) (rx_e T n e) f = rx_bind (rx_name T n true (rx_e T n e) f) (fun k e1 f1 => rx_bind (rx_num T n 0 1 e1 f1) (fun v e2 f2 => if rx_k T n e2 = 44 then rx_st T n u r (rx_e T n e2) (rx_set (rx_set f2 (163 + 6 * u + (5 - r)) (Int32.ofNat k)) (187 + 6 * u + (5 - r)) v) else .inr ((), e2, rx_set (rx_set (rx_set (rx_set f2 (163 + 6 * u + (5 - r)) (Int32.ofNat k)) (187 + 6 * u + (5 - r)) v) (159 + u) (Int32.ofNat (6 - r))) 158 (f 158 + 1)))) := rfl
    rw [un] at hp
    refine c_nameL c4.2.1 c4.2.2.1 c4.2.2.2.1 c4.2.2.2.2.1 c4.2.2.2.2.2.1 (fun r6 k ek e6 k6 => ⟨fun _ => ⟨fun _ => ?_, fun z => ?_⟩, fun w => ?_⟩) (fun w hw ek => ⟨fun y => absurd y (by decide), fun _ => hp 0 _ (Co_rf c4 hw ?_)⟩)
    · rw [ek] at hp
      refine c_next c4.1.1 c4.2.1 c4.2.2.1.2.1 (rx_e_le c4.2.2.2.1) (fun h9 k9 t9 => ?_)
      have c9 := Cs_next c4 k9 t9
      refine c_needWhole 0 1 c9.2.2.1 (fun k3 v => ⟨fun _ => ?_, fun y => absurd y (by decide)⟩) (fun k3 v => ⟨fun y => absurd rfl y, fun _ => hp 0 _ (Co_rf c9 (by decide) ?_)⟩) (fun k3 => ⟨fun y => absurd rfl y, fun _ => hp 0 _ (Co_rf c9 (by decide) ?_)⟩)
      · have ev := c9.2.2.1.2.2.2.1 k3
        have e26 : mI h9 2 6 = f 158 := c9.2.2.2.2.1.1.2.2.2.2.2.2
        have ix : ((6 * (mI h9 2 6)) + l1).toInt = ((6 * u + (5 - r) : Nat) : Int) := by
          rw [e26]
          exact (i_6s (o := 5 - r) eu hu (by rw [e1]; omega) (by omega))
        have rv : R 0 1 (rx_v T n (rx_e T n (rx_e T n e))) := by
          rw [i_le, i_le] at v
          exact ⟨by have := v.1; rw [i0] at this; exact this, by have := v.2; rw [show (1 : Int32).toInt = 1 from by decide] at this; exact this⟩
        have s1 : ∀ a b : Nat, ∀ w : Int32, mI (wI h9 22 a w) 2 b = mI h9 2 b := fun a b w => by rw [mI_wI, if_neg (fun z => absurd z.1 (by decide))]
        have s2 : ∀ a b : Nat, ∀ w : Int32, mI (wI h9 22 a w) 1 b = mI h9 1 b := fun a b w => by rw [mI_wI, if_neg (fun z => absurd z.1 (by decide))]
        have s3 : ∀ a a2 b : Nat, ∀ w w2 : Int32, mI (wI (wI h9 22 a w) 23 a2 w2) 2 b = mI h9 2 b := fun a a2 b w w2 => by rw [mI_wI, if_neg (fun z => absurd z.1 (by decide)), s1]
        simp only [s1, s2, s3]
        rw [i_nat ix, ev]
        refine ⟨i_vp ix (by omega), i_vp ix (by omega), by rw [e26]; exact i_vp eu hu, ?_⟩
        rw [e26, i_nat eu]
        have a1 := Cs_arr c9 (k := 22) (j := 6 * u + (5 - r)) (i := 163 + 6 * u + (5 - r)) (v := r6) (w := Int32.ofNat k) (lo := 0) (hi := 5) rfl ⟨by omega, by omega⟩ (by decide) (by decide) (by decide) (by omega) (Ar_k (by decide) (Cs_Af c9 (by omega)))
        have a2 := Cs_arr a1 (k := 23) (j := 6 * u + (5 - r)) (i := 187 + 6 * u + (5 - r)) (v := rx_v T n (rx_e T n (rx_e T n e))) (w := rx_v T n (rx_e T n (rx_e T n e))) (lo := 0) (hi := 1) rfl rv (by decide) (by decide) (by decide) (by omega) (Ar_k (by decide) (Cs_Af a1 (by omega)))
        have j1 : (l1 + 1).toInt = ((6 - r : Nat) : Int) := by
          rw [i_inc e1 (by omega)]
          omega
        have a3 := Cs_arr0 a2 (k := 21) (j := u) (v := l1 + 1) (lo := 0) (hi := 6) rfl ⟨by omega, by omega⟩ (by decide) (by decide) (by decide) (Ar_k (by decide) a2.2.2.2.2.2.2.2)
        have un2 : rx_num T n 0 1 (rx_e T n (rx_e T n e)) f = .inr (rx_v T n (rx_e T n (rx_e T n e)), rx_e T n (rx_e T n (rx_e T n e)), f) := by
          unfold rx_num
          rw [if_neg (fun y => y k3), if_pos v]
        have hp : ∀ q h', Co h0 T n (rx_bind (rx_num T n 0 1 (rx_e T n (rx_e T n e)) f) (fun v e2 f2 => if rx_k T n e2 = 44 then rx_st T n u r (rx_e T n e2) (rx_set (rx_set f2 (163 + 6 * u + (5 - r)) (Int32.ofNat k)) (187 + 6 * u + (5 - r)) v) else .inr ((), e2, rx_set (rx_set (rx_set (rx_set f2 (163 + 6 * u + (5 - r)) (Int32.ofNat k)) (187 + 6 * u + (5 - r)) v) (159 + u) (Int32.ofNat (6 - r))) 158 (f 158 + 1)))) q h' → P q h' := hp
        rw [un2] at hp
        refine c_next a3.1.1 a3.2.1 a3.2.2.1.2.1 (rx_e_le a3.2.2.2.1) (fun h16 k16 t16 => ?_)
        have c16 := Cs_next a3 k16 t16
        rw [c16.2.2.1.2.2.1]
        have eu2 : (rx_set (rx_set f (163 + 6 * u + (5 - r)) (Int32.ofNat k)) (187 + 6 * u + (5 - r)) (rx_v T n (rx_e T n (rx_e T n e))) 158).toInt = (u : Int) := by
          rw [rx_set_o (by omega), rx_set_o (by omega)]; exact eu
        refine ⟨fun y => ?_, fun y => ?_⟩
        · refine ih (l1 + 1) _ _ h16 c16 eu2 (by omega) j1 (fun q h' o => hp q h' ?_)
          show Co h0 T n (if rx_k T n (rx_e T n (rx_e T n (rx_e T n e))) = 44 then _ else _) q h'
          rw [if_pos y]
          exact o
        · have c17 := Cs_f c16 (i := 159 + u) (w := Int32.ofNat (6 - r)) (by omega) (Cs_Af c16 (by omega))
          have e2 : mI h16 2 6 = f 158 := by
            have := c16.2.2.2.2.1.1.2.2.2.2.2.2
            rw [rx_set_o (by omega), rx_set_o (by omega)] at this
            exact this
          have iu := i_inc eu (by omega)
          have c18 := Cs_cnt c17 (j := 6) (i := 158) (v := f 158 + 1) (by omega) (lo := 0) (hi := 4) (by decide) ⟨by omega, by omega⟩ (Cs_Af c17 (by decide))
          rw [e2]
          refine hp 1 _ (Or.inl ⟨_, _, ?_, rfl, c18⟩)
          show (if rx_k T n (rx_e T n (rx_e T n (rx_e T n e))) = 44 then _ else _) = _
          rw [if_neg y]
      · show rx_bind (rx_num T n 0 1 (rx_e T n (rx_e T n e)) f) _ = _
        unfold rx_num
        rw [if_neg (fun y => y k3), if_neg v]
        rfl
      · show rx_bind (rx_num T n 0 1 (rx_e T n (rx_e T n e)) f) _ = _
        unfold rx_num
        rw [if_pos k3]
        rfl
    · exfalso
      apply z
      rw [i_lt, e1, i6]
      omega
    · exfalso
      apply w
      rw [i_le, i0, e6]
      omega
    · rw [ek]
      rfl
theorem c_readRun {g : gT} {h0 h : mh_T} {P : Int32 → mh_T → Prop} {T : Nat → Int32} {n e : Nat} {f : Nat → Int32} (c : Cs h0 T n e f h) (hf : R 0 4 (f 158)) (hp : ∀ r h', Co h0 T n (rx_runL T n e f) r h' → P r h') : MCi g yX6_readRun uX6_readRun [.ref 1] h P := by
  have e26 : mI h 2 6 = f 158 := c.2.2.2.2.1.1.2.2.2.2.2.2
  have i4 : (4 : Int32).toInt = 4 := by decide
  obtain ⟨u, eu, u0, u4⟩ := i_R hf (by decide)
  refine e_X6_readRun ⟨fun z => ?_, fun z => ?_⟩
  · rw [e26, i_lt, eu, i4] at z
    have n4 : ¬ f 158 = 4 := fun w => by rw [w, i4] at eu; omega
    refine c_readRun_L (u := u) (by omega) 6 0 e f h c eu (Nat.le_refl _) (by decide) (fun q h' o => hp q h' ?_)
    unfold rx_runL
    rw [if_neg n4, i_nat eu]
    exact o
  · rw [e26, i_lt, eu, i4] at z
    have n4 : f 158 = 4 := Int32.toInt_inj.mp (by rw [eu, i4]; omega)
    refine c_refuse 5 ⟨Or.inl rfl, hp 0 _ (Co_rf c (by decide) ?_)⟩
    unfold rx_runL
    rw [if_pos n4]
