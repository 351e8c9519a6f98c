/-- a slot of the draft's lists: f changes where neither counts nor names stand -/
theorem Cs_arr {h0 h : mh_T} {T : Nat → Int32} {n e : Nat} {f : Nat → Int32} (c : Cs h0 T n e f h) {k j i : Nat} {v w : Int32} {lo hi : Int} (er : rgT k j = (lo, hi)) (fr : R lo hi v) (hk : k ∈ cms) (h1 : ¬ k = 1) (h2 : ¬ k = 2) (hi : ¬ (i = 49 ∨ i = 50 ∨ i = 51 ∨ i = 0 ∨ i = 52 ∨ i = 85 ∨ i = 158 ∨ 211 ≤ i)) (hA : Ar (wI h k j v) (rx_set f i w)) : Cs h0 T n e (rx_set f i w) (wI h k j v) :=
  Cs_w c er fr hk h1 (Dr_same (f := f) (fun q hq => rx_set_o (by omega)) (Dr_eq (h := h) (by funext b; exact if_neg (fun z => h2 z.1.symm)) rfl rfl c.2.2.2.2.1)) (Nv_same (f := f) (fun q hq => rx_set_o (by omega)) c.2.2.2.2.2.1) hA
theorem Cs_f {h0 h : mh_T} {T : Nat → Int32} {n e : Nat} {f : Nat → Int32} (c : Cs h0 T n e f h) {i : Nat} {w : Int32} (hi : ¬ (i = 49 ∨ i = 50 ∨ i = 51 ∨ i = 0 ∨ i = 52 ∨ i = 85 ∨ i = 158 ∨ 211 ≤ i)) (hA : Ar h (rx_set f i w)) : Cs h0 T n e (rx_set f i w) h :=
  ⟨c.1, c.2.1, c.2.2.1, c.2.2.2.1, Dr_same (f := f) (fun q hq => rx_set_o (by omega)) c.2.2.2.2.1, Nv_same (f := f) (fun q hq => rx_set_o (by omega)) c.2.2.2.2.2.1, c.2.2.2.2.2.2.1, hA⟩
theorem c_readTimes {g : gT} {h0 : mh_T} {P : Int32 → mh_T → Prop} {T : Nat → Int32} {n : Nat} (many s : Nat) (l1 : Int32) (e1 : l1.toInt = (many : Int)) (hm : many ≤ 4) (hs8 : s < 8) : ∀ (r : Nat) (l2 l3 : Int32) (e : Nat) (f : Nat → Int32) (h : mh_T), Cs h0 T n e f h → (mI h 15 s = f (1 + s) ∧ mI h 16 s = f (9 + s)) → (f 0).toInt = (s : Int) → r ≤ many → l3.toInt = ((many - r : Nat) : Int) → (∀ q h', Co h0 T n (rx_tm T n s many r l2 e f) q h' → P q h') → ME g uX6_readTimes 4 [.ref 1, .int l1, .int l2, .int l3] [] h (qI P) := by
  intro r
  induction r with
  | zero =>
    intro l2 l3 e f h c hx es hr e3 hp
    refine r_X6_readTimes_4 l1 l2 l3 ⟨fun _ => ?_, fun z => ?_⟩
    · have e23 : mI h 2 3 = f 0 := c.2.2.2.2.1.1.2.2.2.1
      rw [e23]
      have i1 := i_inc es (by omega)
      exact hp 1 _ (Or.inl ⟨_, _, rfl, rfl, Cs_cnt c (j := 3) (i := 0) (by omega) (lo := 0) (hi := 8) (by decide) ⟨by omega, by omega⟩ (Ar_0 es hs8 hx c.2.2.2.2.2.2.2)⟩)
    · rw [i_le, e1, e3] at z
      omega
  | succ r ih =>
    intro l2 l3 e f h c hx es hr e3 hp
    have body : ∀ (h3 : mh_T) (e0 : Nat), Cs h0 T n e0 f h3 → (mI h3 15 s = f (1 + s) ∧ mI h3 16 s = f (9 + s)) → (∀ q h', Co h0 T n (rx_bind (rx_num T n 0 60 e0 f) (fun v e1 f1 => if r = 0 ∧ ¬ l2 + v = f1 49 then rx_no T n e0 4 else rx_tm T n s many r (l2 + v) e1 (rx_set f1 (17 + 4 * s + (many - (r + 1))) v))) q h' → P q h') → MCi g yX6_needWhole uX6_needWhole [.ref 1, .int 0, .int 60] h3 (fun r4 h3 => (¬ r4 = 0 → ∀ x6 : Int32, x6 = (l2 + (mI h3 1 11)) → (¬ l3 = (l1 - 1) → (vp_in ((4 * (mI h3 2 3)) + l3) 32) ∧ (MCv g yX6_next uX6_next [.ref 1] (wI h3 17 ((4 * (mI h3 2 3)) + l3).toNatClampNeg (mI h3 1 11)) (fun h9 => ME g uX6_readTimes 4 [.ref 1, .int l1, .int x6, .int (l3 + 1)] [] h9 (qI P)))) ∧ (l3 = (l1 - 1) → (x6 = (mI h3 2 0) → (vp_in ((4 * (mI h3 2 3)) + l3) 32) ∧ (MCv g yX6_next uX6_next [.ref 1] (wI h3 17 ((4 * (mI h3 2 3)) + l3).toNatClampNeg (mI h3 1 11)) (fun h12 => ME g uX6_readTimes 4 [.ref 1, .int l1, .int x6, .int (l3 + 1)] [] h12 (qI P)))) ∧ (¬ x6 = (mI h3 2 0) → MCi g yX6_refuse uX6_refuse [.ref 1, .int 4] h3 (fun r14 h13 => (r14 = 0 ∨ r14 = 1) ∧ P r14 h13)))) ∧ (r4 = 0 → P 0 h3)) := by
      intro h3 e0 c3 hx3 hp3
      have e20 : mI h3 2 0 = f 49 := c3.2.2.2.2.1.1.1
      have e23 : mI h3 2 3 = f 0 := c3.2.2.2.2.1.1.2.2.2.1
      refine c_needWhole 0 60 c3.2.2.1 (fun k3 v => ⟨fun _ x ex => ?_, fun y => absurd y (by decide)⟩) (fun k3 v => ⟨fun y => absurd rfl y, fun _ => hp3 0 _ (Co_rf c3 (by decide) ?_)⟩) (fun k3 => ⟨fun y => absurd rfl y, fun _ => hp3 0 _ (Co_rf c3 (by decide) ?_)⟩)
      · have ev := c3.2.2.1.2.2.2.1 k3
        rw [ev] at ex
        have un : rx_num T n 0 60 e0 f = .inr (rx_v T n e0, rx_e T n e0, f) := by
          unfold rx_num
          rw [if_neg (fun y => y k3), if_pos v]
        rw [un] at hp3
        have hp3 : ∀ q h', Co h0 T n (if r = 0 ∧ ¬ l2 + rx_v T n e0 = f 49 then rx_no T n e0 4 else rx_tm T n s many r (l2 + rx_v T n e0) (rx_e T n e0) (rx_set f (17 + 4 * s + (many - (r + 1))) (rx_v T n e0))) q h' → P q h' := hp3
        have ix : ((4 * (mI h3 2 3)) + l3).toInt = ((4 * s + (many - (r + 1)) : Nat) : Int) := by
          rw [e23, i_add (i_4s es hs8) e3 (by omega)]
          omega
        have il : (l1 - 1).toInt = (many : Int) - 1 := i_sub e1 (by decide) (by omega)
        have iq : l3 = l1 - 1 ↔ r = 0 := by
          rw [← Int32.toInt_inj, e3, il]
          omega
        have go : ¬ (r = 0 ∧ ¬ l2 + rx_v T n e0 = f 49) → (vp_in ((4 * (mI h3 2 3)) + l3) 32) ∧ (MCv g yX6_next uX6_next [.ref 1] (wI h3 17 ((4 * (mI h3 2 3)) + l3).toNatClampNeg (mI h3 1 11)) (fun h9 => ME g uX6_readTimes 4 [.ref 1, .int l1, .int x, .int (l3 + 1)] [] h9 (qI P))) := by
          intro hc
          rw [if_neg hc] at hp3
          refine ⟨i_vp ix (by omega), ?_⟩
          rw [i_nat ix, ev, ex]
          have c4 := Cs_arr c3 (k := 17) (j := 4 * s + (many - (r + 1))) (i := 17 + 4 * s + (many - (r + 1))) (v := rx_v T n e0) (w := rx_v T n e0) (lo := -2147483648) (hi := 2147483647) rfl (R_full _) (by decide) (by decide) (by decide) (by omega) (by rw [show 17 + 4 * s + (many - (r + 1)) = 17 + (4 * s + (many - (r + 1))) by omega]; exact Ar_17 (Cs_r0 c3) (by omega) c3.2.2.2.2.2.2.2)
          refine c_next c4.1.1 c4.2.1 c4.2.2.1.2.1 (rx_e_le c4.2.2.2.1) (fun h9 k9 t9 => ih _ _ _ _ h9 (Cs_next c4 k9 t9) ?_ ?_ (by omega) ?_ hp3)
          · have q15 : mI h9 15 s = mI (wI h3 17 (4 * s + (many - (r + 1))) (rx_v T n e0)) 15 s := congrFun (Kp_2 k9 (by decide) (by decide)).1 s
            have q16 : mI h9 16 s = mI (wI h3 17 (4 * s + (many - (r + 1))) (rx_v T n e0)) 16 s := congrFun (Kp_2 k9 (by decide) (by decide)).1 s
            rw [q15, q16, mI_wI, if_neg (by omega), mI_wI, if_neg (by omega), rx_set_o (by omega), rx_set_o (by omega)]
            exact hx3
          · rw [rx_set_o (by omega)]; exact es
          · rw [i_inc e3 (by omega)]; omega
        rw [iq, e20, ex]
        refine ⟨fun y => by rw [← ex]; exact go (fun z => y z.1), fun y => ⟨fun z => by rw [← ex]; exact go (fun w => w.2 z), fun z => ?_⟩⟩
        rw [if_pos ⟨y, z⟩] at hp3
        exact c_refuse 4 ⟨Or.inl rfl, hp3 0 _ (Co_rf c3 (by decide) rfl)⟩
      · unfold rx_num
        rw [if_neg (fun y => y k3), if_neg v]
        rfl
      · unfold rx_num
        rw [if_pos k3]
        rfl
    have i0 : (0 : Int32).toInt = 0 := by decide
    refine r_X6_readTimes_4 l1 l2 l3 ⟨fun z => ?_, fun _ => ⟨fun z => ?_, fun z => ?_⟩⟩
    · rw [i_le, e1, e3] at z
      omega
    · rw [i_le, e3, i0] at z
      have hmr : many = r + 1 := by omega
      refine body h e c hx (fun q h' o => hp q h' ?_)
      show Co h0 T n (rx_bind (if many = r + 1 then .inr ((), e, f) else rx_sign T n 44 e f) _) q h'
      rw [if_pos hmr]
      exact o
    · rw [i_le, e3, i0] at z
      have hmr : ¬ many = r + 1 := by omega
      have un : rx_tm T n s many (r + 1) l2 e f = rx_bind (rx_sign T n 44 e f) (fun _ e0 f0 => rx_bind (rx_num T n 0 60 e0 f0) (fun v e1 f1 => if r = 0 ∧ ¬ l2 + v = f1 49 then rx_no T n e0 4 else rx_tm T n s many r (l2 + v) e1 (rx_set f1 (17 + 4 * s + (many - (r + 1))) v))) := by
        show rx_bind (if many = r + 1 then .inr ((), e, f) else rx_sign T n 44 e f) _ = _
        rw [if_neg hmr]
      rw [un] at hp
      refine c_pass 44 c.1.1 c.2.1 c.2.2.1 c.2.2.2.1 (fun k h1 k1 t1 => ⟨fun _ => ?_, fun y => absurd y (by decide)⟩) (fun k => ⟨fun y => absurd rfl y, fun _ => hp 0 _ (Co_rf c (by decide) ?_)⟩)
      · refine body h1 _ (Cs_next c k1 t1) ⟨by rw [show mI h1 15 s = mI h 15 s from congrFun (Kp_2 k1 (by decide) (by decide)).1 s]; exact hx.1, by rw [show mI h1 16 s = mI h 16 s from congrFun (Kp_2 k1 (by decide) (by decide)).1 s]; exact hx.2⟩ (fun q h' o => hp q h' ?_)
        unfold rx_sign
        rw [if_pos k]
        exact o
      · unfold rx_sign
        rw [if_neg k]
        rfl
