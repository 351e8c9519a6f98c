/-! SHIFT, STAKE, UNDO, REDO, MARK, BACK of the reference -/
set_option maxRecDepth 100000 in
set_option maxHeartbeats 4000000 in
theorem v_X11_shift {g : gT} {h : mh_T} {P : Int32 → mh_T → Prop} (l1 l2 l3 l4 : Int32) (u : Nat) (eu : (mI h 11 24).toInt = (u : Int)) (hG : GI h) (hI : TVs h) (hB : NB h) (tz : TZ (h.1 45)) (h0 : ¬ SHc (h.1 45) l1 l2 l3 l4 → ∀ h', Ok [300, 11] h h' → P 0 h') (hp : SHc (h.1 45) l1 l2 l3 l4 → ∀ h', Ok msR h h' → TVs h' → shf l1.toInt.toNat l2.toInt.toNat l3.toInt.toNat l4 (h.1 45) (h.1 47) (h'.1 45) (h'.1 47) → HD u (ac5 3 l1 l2 l3 l4) h h' → P 1 h') : MCi g yX11_shift uX11_shift [.ref 11, .int l1, .int l2, .int l3, .int l4] h P := by
  have z1 : (1 : Int32).toInt = 1 := by decide
  have z60 : (60 : Int32).toInt = 60 := by decide
  refine e_X11_shift l1 l2 l3 l4 (v_good hG (fun h1 k1 => ?_))
  have e45 : h1.1 45 = h.1 45 := OkC k1 (by decide)
  have nb := NB_ok k1 (by decide) hB
  rw [← e45] at h0 hp tz
  have no : ∀ l : Int32, ¬ l = 4 → ¬ SHc (h1.1 45) l1 l2 l3 l4 → MCi g yX11_isNot uX11_isNot [.ref 11, .int l] h1 (fun r h' => (r = 0 ∨ r = 1) ∧ P r h') := fun l hl q => v_isNot l hl k1 (h0 q)
  refine v_isOutcome l1 l2 k1.1 nb (fun q => ⟨fun z => absurd z (by decide), fun _ => v_isOutcome l1 l3 k1.1 nb (fun q2 => ⟨fun z => absurd z (by decide), fun _ => ⟨fun ne => b_within l4 1 60 (fun w => ⟨fun _ => ?_, fun z => absurd z (by decide)⟩) (fun w => ⟨fun z => absurd rfl z, fun _ => no 2 (by decide) (fun y => w ?_)⟩), fun e => no 1 (by decide) (fun y => y.2.2.1 e)⟩⟩) (fun q2 => ⟨fun _ => no 1 (by decide) (fun y => q2 y.2.1), fun z => absurd rfl z⟩)⟩) (fun q => ⟨fun _ => no 1 (by decide) (fun y => q y.1), fun z => absurd rfl z⟩)
  · rw [i_le, i_le, z1, z60] at w
    obtain ⟨e1, s8, e2, o4, sl⟩ := OC_n q tz.2.1
    obtain ⟨-, -, e3, p4, -⟩ := OC_n q2 tz.2.1
    have ia := i_17 e1 s8 e2 o4
    have ib := i_17 e1 s8 e3 p4
    have va : vp_in ((17 + (4 * l1)) + l2) 346 := i_vp ia (by omega)
    have vb : vp_in ((17 + (4 * l1)) + l3) 346 := i_vp ib (by omega)
    have nop : ¬ l2.toInt.toNat = l3.toInt.toNat := fun z => ne (Int32.toInt_inj.mp (by rw [e2, e3, z]))
    rw [i_nat ia, i_nat ib]
    refine ⟨va, fun le => ?_, fun nl => no 5 (by decide) (fun y => nl (i_le.mpr y.2.2.2.2.2))⟩
    have sc : SHc (h1.1 45) l1 l2 l3 l4 := ⟨q, q2, ne, by omega, by omega, i_le.mp le⟩
    refine v_was k1.1 (TVs_ok hI k1 (by decide)) (fun h2 k2 t2 e48 => ⟨va, va, vb, vb, ?_⟩)
    have e45' : h2.1 45 = h1.1 45 := OkC k2 (k := 45) (by decide)
    have e47' : h2.1 47 = h.1 47 := by rw [OkC k2 (k := 47) (by decide), OkC k1 (k := 47) (by decide)]
    generalize l1.toInt.toNat = s at *
    generalize l2.toInt.toNat = o at *
    generalize l3.toInt.toNat = p at *
    have le : l4.toInt ≤ (h2.1 45 (17 + 4 * s + o)).toInt := by rw [e45']; exact i_le.mp le
    have tA := TQ_at t2.1 (s := s) (o := o) (by omega) (by omega)
    have tB := TQ_at t2.1 (s := s) (o := p) (by omega) (by omega)
    unfold tx_tm at tA tB
    have w1 : ((mI h2 45 (17 + 4 * s + o)) - l4).toInt = (h2.1 45 (17 + 4 * s + o)).toInt - l4.toInt := i_sub (x := mI h2 45 (17 + 4 * s + o)) rfl rfl (by show -2147483648 ≤ (h2.1 45 (17 + 4 * s + o)).toInt - l4.toInt ∧ (h2.1 45 (17 + 4 * s + o)).toInt - l4.toInt ≤ 2147483647; omega)
    rw [show mI (wI h2 45 (17 + 4 * s + o) ((mI h2 45 (17 + 4 * s + o)) - l4)) 45 (17 + 4 * s + p) = mI h2 45 (17 + 4 * s + p) by rw [mI_wI, if_neg (fun z => by have := z.2; omega)]]
    have w2 : ((mI h2 45 (17 + 4 * s + p)) + l4).toInt = (h2.1 45 (17 + 4 * s + p)).toInt + l4.toInt := i_add (x := mI h2 45 (17 + 4 * s + p)) rfl rfl (by show -2147483648 ≤ (h2.1 45 (17 + 4 * s + p)).toInt + l4.toInt ∧ (h2.1 45 (17 + 4 * s + p)).toInt + l4.toInt ≤ 2147483647; omega)
    have o3 := Ok_w (Ok_rf (ms := [45, 47]) k2.1) (k := 45) (j := 17 + 4 * s + o) (v := (mI h2 45 (17 + 4 * s + o)) - l4) (lo := -2147483648) (hi := 2147483647) (rgg_45_0 (by omega) (by omega)) (R_full _) (by decide) (nt_c (by decide) (fun _ => by omega))
    have o4' := Ok_w o3 (k := 45) (j := 17 + 4 * s + p) (v := (mI h2 45 (17 + 4 * s + p)) + l4) (lo := -2147483648) (hi := 2147483647) (rgg_45_0 (by omega) (by omega)) (R_full _) (by decide) (nt_c (by decide) (fun _ => by omega))
    refine v_done 3 l1 l2 l3 l4 u eu k1 k2 e48 o4' (TVs_4547 t2 o4' (TQ_i (fun s' hs' => ?_))) (fun h' k' t' e5 e7 hd => hp sc h' k' t' ?_ hd)
    · by_cases e : s' = s
      · subst e
        refine tq_2 (t2.1 s' hs') (o := o) (p := p) (by omega) (by omega) nop (fun i hi h1 h2 => ?_) ?_ ?_ ?_
        · rw [wI_i, if_neg (by omega), wI_i, if_neg (by omega)]
        · rw [wI_i, if_neg (by omega), wI_i, if_pos rfl, w1]
          omega
        · rw [wI_i, if_pos rfl, w2]
          omega
        · rw [wI_i, if_neg (by omega), wI_i, if_pos rfl, w1, wI_i, if_pos rfl, w2]
          omega
      · refine tq_x (t2.1 s' hs') (fun i hi => ?_)
        rw [wI_i, if_neg (by omega), wI_i, if_neg (by omega)]
    · rw [e5, e7, wI_o (q := 47) (by decide), wI_o (q := 47) (by decide), e47']
      have n8 : sn (h1.1 45) ≤ 8 := by unfold sn; have := tz.2.1; omega
      refine ⟨?_, fun q hq => ⟨⟨?_, ?_⟩, fun _ _ => rfl, fun i hi => ?_⟩⟩
      · rw [wI_i, if_neg (by omega), wI_i, if_neg (by omega), e45']
      · rw [wI_i, if_neg (by omega), wI_i, if_neg (by omega), e45']
      · rw [wI_i, if_neg (by omega), wI_i, if_neg (by omega), e45']
      · rw [wI_i, wI_i]
        show (if _ then h2.1 45 (17 + 4 * s + p) + l4 else if _ then h2.1 45 (17 + 4 * s + o) - l4 else _) = _
        rw [e45']
        by_cases x : q = s ∧ i = o
        · rw [if_neg (by omega), if_pos (by omega), if_pos x, x.1, x.2]
        · rw [if_neg x]
          by_cases x2 : q = s ∧ i = p
          · rw [if_pos (by omega), if_pos x2, x2.1, x2.2]
          · rw [if_neg (by omega), if_neg (by omega), if_neg x2]
  · rw [i_le, i_le, z1, z60]
    exact ⟨y.2.2.2.1, y.2.2.2.2.1⟩
theorem v_X11_stake {g : gT} {h : mh_T} {P : Int32 → mh_T → Prop} (l1 l2 l3 : Int32) (hG : GI h) (hB : NB h) (h8 : (h.1 45 0).toInt ≤ 8) (h0 : ¬ SKc (h.1 45) l1 l2 l3 → ∀ h', Ok [300, 11] h h' → P 0 h') (hp : SKc (h.1 45) l1 l2 l3 → ∀ h', Ok [300, 11, 47] h h' → (∀ j, h'.1 47 j = if j = 4 * l1.toInt.toNat + l2.toInt.toNat then l3 else h.1 47 j) → P 1 h') : MCi g yX11_stake uX11_stake [.ref 11, .int l1, .int l2, .int l3] h P := by
  have z99 : (99 : Int32).toInt = 99 := by decide
  refine e_X11_stake l1 l2 l3 (v_good hG (fun h1 k1 => ?_))
  have e45 : h1.1 45 = h.1 45 := OkC k1 (by decide)
  have e47 : h1.1 47 = h.1 47 := OkC k1 (by decide)
  have nb := NB_ok k1 (by decide) hB
  rw [← e45] at h0 hp h8
  refine v_isOutcome l1 l2 k1.1 nb (fun q => ⟨fun _ => b_within l3 0 99 (fun w => ⟨fun _ => ?_, fun z => absurd z (by decide)⟩) (fun w => ⟨fun z => absurd rfl z, fun _ => v_isNot 2 (by decide) k1 (h0 (fun y => w ?_))⟩), fun z => absurd z (by decide)⟩) (fun q => ⟨fun z => absurd rfl z, fun _ => v_isNot 1 (by decide) k1 (h0 (fun y => q y.1))⟩)
  · rw [i_le, i_le, i_0, z99] at w
    obtain ⟨e1, s8, e2, o4, sl⟩ := OC_n q h8
    have ia : ((4 * l1) + l2).toInt = ((4 * l1.toInt.toNat + l2.toInt.toNat : Nat) : Int) := by rw [i_add (i_4s e1 s8) e2 (by omega)]; omega
    rw [i_nat ia]
    refine ⟨i_vp ia (by omega), hp ⟨q, by omega, by omega⟩ _ (Ok_w (Ok_mono k1 (by decide)) (k := 47) (rgc_47 _) (R_full _) (by decide) (nt_k (by decide))) (fun j => ?_)⟩
    rw [wI_i, e47]
  · rw [i_le, i_le, i_0, z99]
    exact ⟨y.2.1, y.2.2⟩
/-- a kept row is the table again -/
theorem v_cp45 {g : gT} {h : mh_T} {P : mh_T → Prop} (l0 nl0 : Nat) (l1 : Int32) (sl0 : shp l0 = (20, nl0, [])) (hne : l0 ≠ 45) (h62 : l0 < 62) (p : Nat) (e1 : l1.toInt = 49 * p) (b0 : 49 * p + 49 ≤ nl0) (bp : p ≤ 20) (hr0 : ∀ j, j < 49 → rgT l0 (49 * p + j) = rgRowM j) (hG : GI h) (hp : ∀ h', Ok [45] h h' → (∀ j, j < 49 → h'.1 45 j = h.1 l0 (49 * p + j)) → P h') : MCv g yX11_copy uX11_copy [.ref l0, .int l1, .ref 45, .int 0, .int 49] h P :=
  t_copy l0 nl0 l1 45 346 0 sl0 rfl hne h62 p 0 e1 (by decide) b0 (by decide) bp (by decide) hr0 rr45 (by decide) hG (fun h' ok cp => hp h' ok (fun j hj => by
    have := cp.1 j hj
    rw [Nat.mul_zero, Nat.zero_add] at this
    exact this))
abbrev msU : List Nat := [301, 300, 11, 45, 47, 48, 49, 50, 52, 53]
/-- UNDO of the reference -/
def UD (u r : Nat) (h h' : mh_T) : Prop := (mI h' 11 24).toInt = (u : Int) - 1 ∧ (mI h' 11 25).toInt = (r : Int) + 1 ∧ mI h' 11 26 = mI h 11 26 ∧ h'.1 49 = h.1 49 ∧ h'.1 52 = h.1 52 ∧ (∀ i j, i < 20 → j < 49 → h'.1 50 (49 * i + j) = if i = r then h.1 45 j else h.1 50 (49 * i + j)) ∧ (∀ i j, i < 20 → j < 5 → h'.1 53 (5 * i + j) = if i = r then h.1 52 (5 * (u - 1) + j) else h.1 53 (5 * i + j)) ∧ (∀ j, j < 49 → h'.1 45 j = h.1 49 (49 * (u - 1) + j)) ∧ ∀ j, j < 32 → h'.1 47 j = 0
theorem TVs_k {h h' : mh_T} (t : TVs h) (a45 : TQ (h'.1 45) 0) (a48 : TQ (h'.1 48) 0) (a49 : TQs (h'.1 49)) (a50 : TQs (h'.1 50)) (e51 : h'.1 51 = h.1 51) (l49 : h'.1 45 49 = h.1 45 49) (l50 : h'.1 45 50 = h.1 45 50) : TVs h' := ⟨a45, a48, a49, a50, by rw [e51]; exact t.2.2.2.2.1, by rw [l49, l50]; exact t.2.2.2.2.2⟩
theorem mul49 {x : Int32} {q : Nat} (h : x.toInt = (q : Int)) (hq : q ≤ 20) : (49 * x).toInt = 49 * q := by rw [Int32.toInt_mul, show (49 : Int32).toInt = 49 from by decide, bm (by omega) (by omega), h]
theorem mul5 {x : Int32} {q : Nat} (h : x.toInt = (q : Int)) (hq : q ≤ 20) : (5 * x).toInt = ((5 * q : Nat) : Int) := by rw [Int32.toInt_mul, show (5 : Int32).toInt = 5 from by decide, bm (by omega) (by omega), h]; omega
theorem ac5_v {f : Nat → Int32} {k j : Nat} (hj : j < 5) : ac5 (f k) (f (k + 1)) (f (k + 2)) (f (k + 3)) (f (k + 4)) j = f (k + j) := by
  have : j = 0 ∨ j = 1 ∨ j = 2 ∨ j = 3 ∨ j = 4 := by omega
  rcases this with z | z | z | z | z <;> subst z <;> rfl
set_option maxRecDepth 100000 in
set_option maxHeartbeats 4000000 in
theorem v_X11_undo {g : gT} {h : mh_T} {P : Int32 → mh_T → Prop} (u r : Nat) (eu : (mI h 11 24).toInt = (u : Int)) (er : (mI h 11 25).toInt = (r : Int)) (ur : u + r ≤ 20) (hG : GI h) (hI : TVs h) (h0 : u = 0 → ∀ h', Ok [300, 11] h h' → P 0 h') (hp : ¬ u = 0 → ∀ h', Ok msU h h' → TVs h' → UD u r h h' → P 1 h') : MCi g yX11_undo uX11_undo [.ref 11] h P := by
  refine e_X11_undo (v_good hG (fun h1 k1 => ?_))
  have e1 : ∀ j, 24 ≤ j → j ≤ 26 → mI h1 11 j = mI h 11 j := Ok_24 k1 (by decide)
  have e24 := e1 24 (by decide) (by decide)
  refine ⟨fun z => ?_, fun z => v_isNot 6 (by decide) k1 (h0 (by rw [e24] at z; rw [z, i_0] at eu; omega))⟩
  rw [e24] at z
  have u0 : ¬ u = 0 := fun y => z (Int32.toInt_inj.mp (by rw [eu, y, i_0]; rfl))
  rw [e24]
  have eu1 : (mI h 11 24 - 1).toInt = ((u - 1 : Nat) : Int) := by rw [ti_sub1 (x := mI h 11 24) (hi := 20) ⟨by omega, by omega⟩ (by decide)]; omega
  have o1 : Ok [301, 300, 11] h (wI h1 11 24 (mI h 11 24 - 1)) := Ok_w (Ok_mono k1 (by decide)) (k := 11) (j := 24) (lo := 0) (hi := 20) rfl ⟨by omega, by omega⟩ (by decide) (by decide)
  have a24 : mI (wI h1 11 24 (mI h 11 24 - 1)) 11 24 = mI h 11 24 - 1 := by rw [mI_wI, if_pos ⟨rfl, rfl⟩]
  have a25 : mI (wI h1 11 24 (mI h 11 24 - 1)) 11 25 = mI h 11 25 := by rw [mI_wI, if_neg (by decide), e1 25 (by decide) (by decide)]
  have a26 : mI (wI h1 11 24 (mI h 11 24 - 1)) 11 26 = mI h 11 26 := by rw [mI_wI, if_neg (by decide), e1 26 (by decide) (by decide)]
  generalize wI h1 11 24 (mI h 11 24 - 1) = h2 at o1 a24 a25 a26
  refine v_was o1.1 (TVs_ok hI o1 (by decide)) (fun h3 k3 t3 e48 x4 ex4 => ?_)
  have o3 : Ok msU h h3 := Ok_tr (Ok_mono o1 (by decide)) k3 (by decide)
  have b24 : ∀ j, mI h3 11 j = mI h2 11 j := fun j => congrFun (OkC k3 (k := 11) (by decide)) j
  rw [b24 24, a24] at ex4
  have kx : x4.toInt = ((5 * (u - 1) : Nat) : Int) := by rw [ex4]; exact mul5 eu1 (by omega)
  have kx1 := i_off kx 1 1 (by decide) (by omega)
  have kx2 := i_off kx 2 2 (by decide) (by omega)
  have kx3 := i_off kx 3 3 (by decide) (by omega)
  have kx4 := i_off kx 4 4 (by decide) (by omega)
  have c52 : h3.1 52 = h.1 52 := by rw [OkC k3 (k := 52) (by decide), OkC o1 (k := 52) (by decide)]
  have c49 : h3.1 49 = h.1 49 := by rw [OkC k3 (k := 49) (by decide), OkC o1 (k := 49) (by decide)]
  have c50 : h3.1 50 = h.1 50 := by rw [OkC k3 (k := 50) (by decide), OkC o1 (k := 50) (by decide)]
  have c53 : h3.1 53 = h.1 53 := by rw [OkC k3 (k := 53) (by decide), OkC o1 (k := 53) (by decide)]
  have c48 : ∀ j, j < 49 → h3.1 48 j = h.1 45 j := fun j hj => by rw [e48 j hj, OkC o1 (k := 45) (by decide)]
  refine ⟨i_vp kx (by omega), i_vp kx1 (by omega), i_vp kx2 (by omega), i_vp kx3 (by omega), i_vp kx4 (by omega), ?_⟩
  rw [i_nat kx, i_nat kx1, i_nat kx2, i_nat kx3, i_nat kx4, b24 25, a25]
  refine v_keep 50 53 _ _ _ _ _ _ r er (by omega) rfl rfl (by decide) (by decide) (by decide) (by decide) (fun _ => rfl) (fun _ => rfl) k3.1 (fun h4 k4 hr ha => ?_)
  have o4 : Ok msU h h4 := Ok_tr o3 k4 (by decide)
  have b4 : ∀ j, mI h4 11 j = mI h2 11 j := fun j => by rw [show mI h4 11 j = mI h3 11 j from congrFun (OkC k4 (k := 11) (by decide)) j, b24]
  rw [b4 25, a25]
  have nr : ¬ r = 20 := by omega
  refine ⟨fun _ => ?_, fun y => absurd (by rw [y] at er; have : (20 : Int32).toInt = 20 := (by decide); omega) nr⟩
  have er1 : (mI h 11 25 + 1).toInt = (r : Int) + 1 := by rw [i_inc er (by omega)]; omega
  have o5 := Ok_w o4 (k := 11) (j := 25) (v := mI h 11 25 + 1) (lo := 0) (hi := 20) rfl ⟨by omega, by omega⟩ (by decide) (by decide)
  rw [show mI (wI h4 11 25 (mI h 11 25 + 1)) 11 24 = mI h 11 24 - 1 by rw [mI_wI, if_neg (by decide), b4, a24]]
  have d25 : mI (wI h4 11 25 (mI h 11 25 + 1)) 11 25 = mI h 11 25 + 1 := by rw [mI_wI, if_pos ⟨rfl, rfl⟩]
  have d24 : mI (wI h4 11 25 (mI h 11 25 + 1)) 11 24 = mI h 11 24 - 1 := by rw [mI_wI, if_neg (by decide), b4, a24]
  have d26 : mI (wI h4 11 25 (mI h 11 25 + 1)) 11 26 = mI h 11 26 := by rw [mI_wI, if_neg (by decide), b4, a26]
  have dk : ∀ k, ¬ k = 11 → (wI h4 11 25 (mI h 11 25 + 1)).1 k = h4.1 k := fun k hk => wI_o hk
  generalize wI h4 11 25 (mI h 11 25 + 1) = h5 at o5 d24 d25 d26 dk
  have x49 : h5.1 49 = h.1 49 := by rw [dk 49 (by decide), OkC k4 (k := 49) (by decide), c49]
  have x52 : h5.1 52 = h.1 52 := by rw [dk 52 (by decide), OkC k4 (k := 52) (by decide), c52]
  have tq50 : TQs (h5.1 50) := by
    rw [dk 50 (by decide)]
    exact TQs_psh (u := r) (f := h3.1 50) (x := h3.1 48) t3.2.2.2.1 t3.2.1 hr
  refine v_cp45 49 980 _ rfl (by decide) (by decide) (u - 1) (mul49 eu1 (by omega)) (by omega) (by omega) (fun j hj => ?_) o5.1 (fun h6 k6 e6 => ?_)
  · show rgRowM ((49 * (u - 1) + j) % 49) = _
    rw [show (49 * (u - 1) + j) % 49 = j by omega]
  refine v_noCoins k6.1 (fun h7 k7 z7 => ?_)
  have o6 : Ok msU h h6 := Ok_tr o5 k6 (by decide)
  have o7 : Ok msU h h7 := Ok_tr o6 k7 (by decide)
  have y : ∀ k, k < 62 → k ∉ [45] → k ∉ [47] → h7.1 k = h5.1 k := fun k hk h1 h2 => by rw [OkC k7 ⟨hk, h2⟩, OkC k6 ⟨hk, h1⟩]
  have y11 : ∀ j, mI h7 11 j = mI h5 11 j := fun j => congrFun (y 11 (by decide) (by decide) (by decide)) j
  have q45 : ∀ j, j < 49 → h7.1 45 j = h.1 49 (49 * (u - 1) + j) := fun j hj => by rw [OkC k7 (k := 45) (by decide), e6 j hj, x49]
  refine hp u0 h7 o7 (TVs_k hI ?_ ?_ ?_ ?_ ?_ (o7.2.2.2.2.1 45 49 (by decide)) (o7.2.2.2.2.1 45 50 (by decide))) ⟨?_, ?_, ?_, ?_, ?_, fun i j hi hj => ?_, fun i j hi hj => ?_, q45, z7⟩
  · exact TQ_cp (hI.2.2.1 (u - 1) (by omega)) (fun j hj => by rw [Nat.zero_add]; exact q45 j hj)
  · rw [y 48 (by decide) (by decide) (by decide), dk 48 (by decide), OkC k4 (k := 48) (by decide)]; exact t3.2.1
  · rw [y 49 (by decide) (by decide) (by decide), x49]; exact hI.2.2.1
  · rw [y 50 (by decide) (by decide) (by decide)]; exact tq50
  · rw [OkC o7 (k := 51) (by decide)]
  · rw [y11, d24, eu1]; omega
  · rw [y11, d25]; exact er1
  · rw [y11, d26]
  · rw [y 49 (by decide) (by decide) (by decide), x49]
  · rw [y 52 (by decide) (by decide) (by decide), x52]
  · rw [y 50 (by decide) (by decide) (by decide), dk 50 (by decide), hr i j hi hj]
    unfold psh
    rw [if_neg nr]
    by_cases e : i = r
    · rw [if_pos e, if_pos e, c48 j hj]
    · rw [if_neg e, if_neg e, c50]
  · rw [y 53 (by decide) (by decide) (by decide), dk 53 (by decide), ha i j hi hj]
    unfold psh
    rw [if_neg nr]
    by_cases e : i = r
    · rw [if_pos e, if_pos e, ← c52]
      exact ac5_v (f := h3.1 52) hj
    · rw [if_neg e, if_neg e, c53]
/-- REDO of the reference -/
def UR (u r : Nat) (h h' : mh_T) : Prop := (mI h' 11 24).toInt = (u : Int) + 1 ∧ (mI h' 11 25).toInt = (r : Int) - 1 ∧ mI h' 11 26 = mI h 11 26 ∧ h'.1 50 = h.1 50 ∧ h'.1 53 = h.1 53 ∧ (∀ i j, i < 20 → j < 49 → h'.1 49 (49 * i + j) = if i = u then h.1 45 j else h.1 49 (49 * i + j)) ∧ (∀ i j, i < 20 → j < 5 → h'.1 52 (5 * i + j) = if i = u then h.1 53 (5 * (r - 1) + j) else h.1 52 (5 * i + j)) ∧ (∀ j, j < 49 → h'.1 45 j = h.1 50 (49 * (r - 1) + j)) ∧ ∀ j, j < 32 → h'.1 47 j = 0
set_option maxRecDepth 100000 in
set_option maxHeartbeats 4000000 in
theorem v_X11_redo {g : gT} {h : mh_T} {P : Int32 → mh_T → Prop} (u r : Nat) (eu : (mI h 11 24).toInt = (u : Int)) (er : (mI h 11 25).toInt = (r : Int)) (ur : u + r ≤ 20) (hG : GI h) (hI : TVs h) (h0 : r = 0 → ∀ h', Ok [300, 11] h h' → P 0 h') (hp : ¬ r = 0 → ∀ h', Ok msU h h' → TVs h' → UR u r h h' → P 1 h') : MCi g yX11_redo uX11_redo [.ref 11] h P := by
  refine e_X11_redo (v_good hG (fun h1 k1 => ?_))
  have e1 : ∀ j, 24 ≤ j → j ≤ 26 → mI h1 11 j = mI h 11 j := Ok_24 k1 (by decide)
  have e25 := e1 25 (by decide) (by decide)
  refine ⟨fun z => ?_, fun z => v_isNot 6 (by decide) k1 (h0 (by rw [e25] at z; rw [z, i_0] at er; omega))⟩
  rw [e25] at z
  have r0 : ¬ r = 0 := fun y => z (Int32.toInt_inj.mp (by rw [er, y, i_0]; rfl))
  rw [e25]
  have er1 : (mI h 11 25 - 1).toInt = ((r - 1 : Nat) : Int) := by rw [ti_sub1 (x := mI h 11 25) (hi := 20) ⟨by omega, by omega⟩ (by decide)]; omega
  have o1 : Ok [301, 300, 11] h (wI h1 11 25 (mI h 11 25 - 1)) := Ok_w (Ok_mono k1 (by decide)) (k := 11) (j := 25) (lo := 0) (hi := 20) rfl ⟨by omega, by omega⟩ (by decide) (by decide)
  have a25 : mI (wI h1 11 25 (mI h 11 25 - 1)) 11 25 = mI h 11 25 - 1 := by rw [mI_wI, if_pos ⟨rfl, rfl⟩]
  have a24 : mI (wI h1 11 25 (mI h 11 25 - 1)) 11 24 = mI h 11 24 := by rw [mI_wI, if_neg (by decide), e1 24 (by decide) (by decide)]
  have a26 : mI (wI h1 11 25 (mI h 11 25 - 1)) 11 26 = mI h 11 26 := by rw [mI_wI, if_neg (by decide), e1 26 (by decide) (by decide)]
  generalize wI h1 11 25 (mI h 11 25 - 1) = h2 at o1 a24 a25 a26
  refine v_was o1.1 (TVs_ok hI o1 (by decide)) (fun h3 k3 t3 e48 x4 ex4 => ?_)
  have o3 : Ok msU h h3 := Ok_tr (Ok_mono o1 (by decide)) k3 (by decide)
  have b24 : ∀ j, mI h3 11 j = mI h2 11 j := fun j => congrFun (OkC k3 (k := 11) (by decide)) j
  rw [b24 25, a25] at ex4
  have kx : x4.toInt = ((5 * (r - 1) : Nat) : Int) := by rw [ex4]; exact mul5 er1 (by omega)
  have kx1 := i_off kx 1 1 (by decide) (by omega)
  have kx2 := i_off kx 2 2 (by decide) (by omega)
  have kx3 := i_off kx 3 3 (by decide) (by omega)
  have kx4 := i_off kx 4 4 (by decide) (by omega)
  have c52 : h3.1 52 = h.1 52 := by rw [OkC k3 (k := 52) (by decide), OkC o1 (k := 52) (by decide)]
  have c49 : h3.1 49 = h.1 49 := by rw [OkC k3 (k := 49) (by decide), OkC o1 (k := 49) (by decide)]
  have c50 : h3.1 50 = h.1 50 := by rw [OkC k3 (k := 50) (by decide), OkC o1 (k := 50) (by decide)]
  have c53 : h3.1 53 = h.1 53 := by rw [OkC k3 (k := 53) (by decide), OkC o1 (k := 53) (by decide)]
  have c48 : ∀ j, j < 49 → h3.1 48 j = h.1 45 j := fun j hj => by rw [e48 j hj, OkC o1 (k := 45) (by decide)]
  refine ⟨i_vp kx (by omega), i_vp kx1 (by omega), i_vp kx2 (by omega), i_vp kx3 (by omega), i_vp kx4 (by omega), ?_⟩
  rw [i_nat kx, i_nat kx1, i_nat kx2, i_nat kx3, i_nat kx4, b24 24, a24]
  refine v_keep 49 52 _ _ _ _ _ _ u eu (by omega) rfl rfl (by decide) (by decide) (by decide) (by decide) (fun _ => rfl) (fun _ => rfl) k3.1 (fun h4 k4 hr ha => ?_)
  have o4 : Ok msU h h4 := Ok_tr o3 k4 (by decide)
  have b4 : ∀ j, mI h4 11 j = mI h2 11 j := fun j => by rw [show mI h4 11 j = mI h3 11 j from congrFun (OkC k4 (k := 11) (by decide)) j, b24]
  rw [b4 24, a24]
  have nr : ¬ u = 20 := by omega
  refine ⟨fun _ => ?_, fun y => absurd (by rw [y] at eu; have : (20 : Int32).toInt = 20 := (by decide); omega) nr⟩
  have eu1 : (mI h 11 24 + 1).toInt = (u : Int) + 1 := by rw [i_inc eu (by omega)]; omega
  have o5 := Ok_w o4 (k := 11) (j := 24) (v := mI h 11 24 + 1) (lo := 0) (hi := 20) rfl ⟨by omega, by omega⟩ (by decide) (by decide)
  rw [show mI (wI h4 11 24 (mI h 11 24 + 1)) 11 25 = mI h 11 25 - 1 by rw [mI_wI, if_neg (by decide), b4, a25]]
  have d24 : mI (wI h4 11 24 (mI h 11 24 + 1)) 11 24 = mI h 11 24 + 1 := by rw [mI_wI, if_pos ⟨rfl, rfl⟩]
  have d25 : mI (wI h4 11 24 (mI h 11 24 + 1)) 11 25 = mI h 11 25 - 1 := by rw [mI_wI, if_neg (by decide), b4, a25]
  have d26 : mI (wI h4 11 24 (mI h 11 24 + 1)) 11 26 = mI h 11 26 := by rw [mI_wI, if_neg (by decide), b4, a26]
  have dk : ∀ k, ¬ k = 11 → (wI h4 11 24 (mI h 11 24 + 1)).1 k = h4.1 k := fun k hk => wI_o hk
  generalize wI h4 11 24 (mI h 11 24 + 1) = h5 at o5 d24 d25 d26 dk
  have x50 : h5.1 50 = h.1 50 := by rw [dk 50 (by decide), OkC k4 (k := 50) (by decide), c50]
  have x53 : h5.1 53 = h.1 53 := by rw [dk 53 (by decide), OkC k4 (k := 53) (by decide), c53]
  have tq49 : TQs (h5.1 49) := by
    rw [dk 49 (by decide)]
    exact TQs_psh (u := u) (f := h3.1 49) (x := h3.1 48) t3.2.2.1 t3.2.1 hr
  refine v_cp45 50 980 _ rfl (by decide) (by decide) (r - 1) (mul49 er1 (by omega)) (by omega) (by omega) (fun j hj => ?_) o5.1 (fun h6 k6 e6 => ?_)
  · show rgRowM ((49 * (r - 1) + j) % 49) = _
    rw [show (49 * (r - 1) + j) % 49 = j by omega]
  refine v_noCoins k6.1 (fun h7 k7 z7 => ?_)
  have o6 : Ok msU h h6 := Ok_tr o5 k6 (by decide)
  have o7 : Ok msU h h7 := Ok_tr o6 k7 (by decide)
  have y : ∀ k, k < 62 → k ∉ [45] → k ∉ [47] → h7.1 k = h5.1 k := fun k hk h1 h2 => by rw [OkC k7 ⟨hk, h2⟩, OkC k6 ⟨hk, h1⟩]
  have y11 : ∀ j, mI h7 11 j = mI h5 11 j := fun j => congrFun (y 11 (by decide) (by decide) (by decide)) j
  have q45 : ∀ j, j < 49 → h7.1 45 j = h.1 50 (49 * (r - 1) + j) := fun j hj => by rw [OkC k7 (k := 45) (by decide), e6 j hj, x50]
  refine hp r0 h7 o7 (TVs_k hI ?_ ?_ ?_ ?_ ?_ (o7.2.2.2.2.1 45 49 (by decide)) (o7.2.2.2.2.1 45 50 (by decide))) ⟨?_, ?_, ?_, ?_, ?_, fun i j hi hj => ?_, fun i j hi hj => ?_, q45, z7⟩
  · exact TQ_cp (hI.2.2.2.1 (r - 1) (by omega)) (fun j hj => by rw [Nat.zero_add]; exact q45 j hj)
  · rw [y 48 (by decide) (by decide) (by decide), dk 48 (by decide), OkC k4 (k := 48) (by decide)]; exact t3.2.1
  · rw [y 49 (by decide) (by decide) (by decide)]; exact tq49
  · rw [y 50 (by decide) (by decide) (by decide), x50]; exact hI.2.2.2.1
  · rw [OkC o7 (k := 51) (by decide)]
  · rw [y11, d24]; exact eu1
  · rw [y11, d25, er1]; omega
  · rw [y11, d26]
  · rw [y 50 (by decide) (by decide) (by decide), x50]
  · rw [y 53 (by decide) (by decide) (by decide), x53]
  · rw [y 49 (by decide) (by decide) (by decide), dk 49 (by decide), hr i j hi hj]
    unfold psh
    rw [if_neg nr]
    by_cases e : i = u
    · rw [if_pos e, if_pos e, c48 j hj]
    · rw [if_neg e, if_neg e, c49]
  · rw [y 52 (by decide) (by decide) (by decide), dk 52 (by decide), ha i j hi hj]
    unfold psh
    rw [if_neg nr]
    by_cases e : i = u
    · rw [if_pos e, if_pos e, ← c53]
      exact ac5_v (f := h3.1 53) hj
    · rw [if_neg e, if_neg e, c52]
