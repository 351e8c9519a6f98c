theorem i_4t {l m : Int32} {s o : Nat} (h : l.toInt = (s : Int)) (hs : s < 18) (k : m.toInt = (o : Int)) (ho : o < 4) : ((4 * l) + m).toInt = ((4 * s + o : Nat) : Int) := by
  have a : (4 * l).toInt = 4 * (s : Int) := by
    rw [Int32.toInt_mul, h, show (4 : Int32).toInt = 4 from by decide, bm (by omega) (by omega)]
  rw [i_add a k (by omega)]
  omega
theorem or_0 {a b : Int32} : a ||| b = 0 ↔ a = 0 ∧ b = 0 := by
  constructor
  · intro h
    have h := congrArg Int32.toBitVec h
    rw [Int32.toBitVec_or] at h
    have h0 : a.toBitVec ||| b.toBitVec = 0#32 := h
    have := BitVec.or_eq_zero_iff.mp h0
    exact ⟨Int32.toBitVec_inj.mp this.1, Int32.toBitVec_inj.mp this.2⟩
  · rintro ⟨h1, h2⟩
    rw [h1, h2]
    decide
theorem c_readRay_L {g : gT} {h0 : mh_T} {P : Int32 → mh_T → Prop} {T : Nat → Int32} {n l : Nat} (hl : l < 18) : ∀ (r : Nat) (l1 l2 : Int32) (an : Bool) (e : Nat) (f : Nat → Int32) (h : mh_T), Cs h0 T n e f h → (∀ k, k < 4 - r → mI h 20 (4 * l + k) = f (86 + 4 * l + k)) → (f 85).toInt = (l : Int) → r ≤ 4 → l2.toInt = ((4 - r : Nat) : Int) → (an = false ↔ l1 = 0) → (∀ q h', Co h0 T n (rx_pa T n l r an e f) q h' → P q h') → ME g uX6_readRay 26 [.ref 1, .int l1, .int l2, .retAddr 0] [] h (qI P) := by
  intro r
  have i0 : (0 : Int32).toInt = 0 := by decide
  have i3 : (3 : Int32).toInt = 3 := by decide
  have i4 : (4 : Int32).toInt = 4 := by decide
  induction r with
  | zero =>
    intro l1 l2 an e f h c hx el hr e2 ha hp
    refine r_X6_readRay_26 l1 l2 ⟨fun _ => ?_, fun z => ?_⟩
    · have e25 : mI h 2 5 = f 85 := c.2.2.2.2.1.1.2.2.2.2.2.1
      rw [e25]
      have iu := i_inc el (by omega)
      exact hp 1 _ (Or.inl ⟨_, _, rfl, rfl, Cs_cnt c (j := 5) (i := 85) (by omega) (lo := 0) (hi := 18) (by decide) ⟨by omega, by omega⟩ (Ar_85 (Cs_r0 c) el hl (fun k hk => hx k (by omega)) c.2.2.2.2.2.2.2)⟩)
    · rw [i_le, e2, i4] at z
      omega
  | succ r ih =>
    intro l1 l2 an e f h c hx el hr e2 ha hp
    have tail : ∀ (φ : Int32 → Int32) (h5 : mh_T) (e1 : Nat), Cs h0 T n e1 f h5 → (∀ k, k < 3 - r → mI h5 20 (4 * l + k) = f (86 + 4 * l + k)) → (∀ q h', Co h0 T n (rx_bind (rx_num T n 0 3 e1 f) (fun v e2 f2 => if r = 0 ∧ an = false ∧ v = 0 then rx_no T n e1 4 else rx_pa T n l r (an || decide (¬ v = 0)) e2 (rx_set f2 (86 + 4 * l + (3 - r)) (φ v)))) q h' → P q h') → MCi g yX6_needWhole uX6_needWhole [.ref 1, .int 0, .int 3] h5 (fun r6 h5 => (¬ r6 = 0 → ∀ x8 : Int32, x8 = (l1 ||| (mI h5 1 11)) → (¬ l2 = 3 → (vp_in ((4 * (mI h5 2 5)) + l2) 72) ∧ (MCv g yX6_next uX6_next [.ref 1] (wI h5 20 ((4 * (mI h5 2 5)) + l2).toNatClampNeg (φ (mI h5 1 11))) (fun h12 => ME g uX6_readRay 26 [.ref 1, .int x8, .int (l2 + 1), .retAddr 0] [] h12 (qI P)))) ∧ (l2 = 3 → (¬ x8 = 0 → (vp_in ((4 * (mI h5 2 5)) + l2) 72) ∧ (MCv g yX6_next uX6_next [.ref 1] (wI h5 20 ((4 * (mI h5 2 5)) + l2).toNatClampNeg (φ (mI h5 1 11))) (fun h16 => ME g uX6_readRay 26 [.ref 1, .int x8, .int (l2 + 1), .retAddr 0] [] h16 (qI P)))) ∧ (x8 = 0 → MCi g yX6_refuse uX6_refuse [.ref 1, .int 4] h5 (fun r18 h17 => (r18 = 0 ∨ r18 = 1) ∧ P r18 h17)))) ∧ (r6 = 0 → P 0 h5)) := by
      intro φ h5 e1 c5 hx5 hp5
      have e25 : mI h5 2 5 = f 85 := c5.2.2.2.2.1.1.2.2.2.2.2.1
      refine c_needWhole 0 3 c5.2.2.1 (fun k3 v => ⟨fun _ x ex => ?_, fun y => absurd y (by decide)⟩) (fun k3 v => ⟨fun y => absurd rfl y, fun _ => hp5 0 _ (Co_rf c5 (by decide) ?_)⟩) (fun k3 => ⟨fun y => absurd rfl y, fun _ => hp5 0 _ (Co_rf c5 (by decide) ?_)⟩)
      · have ev := c5.2.2.1.2.2.2.1 k3
        rw [ev] at ex
        have un : rx_num T n 0 3 e1 f = .inr (rx_v T n e1, rx_e T n e1, f) := by
          unfold rx_num
          rw [if_neg (fun y => y k3), if_pos v]
        rw [un] at hp5
        have hp5 : ∀ q h', Co h0 T n (if r = 0 ∧ an = false ∧ rx_v T n e1 = 0 then rx_no T n e1 4 else rx_pa T n l r (an || decide (¬ rx_v T n e1 = 0)) (rx_e T n e1) (rx_set f (86 + 4 * l + (3 - r)) (φ (rx_v T n e1)))) q h' → P q h' := hp5
        have ix : ((4 * (mI h5 2 5)) + l2).toInt = ((4 * l + (3 - r) : Nat) : Int) := by
          rw [e25]
          exact i_4t (o := 3 - r) el hl (by rw [e2]; omega) (by omega)
        have iq : l2 = 3 ↔ r = 0 := by
          rw [← Int32.toInt_inj, e2, i3]
          omega
        have x0 : x = 0 ↔ an = false ∧ rx_v T n e1 = 0 := by rw [ex, or_0, ha]
        have go : ¬ (r = 0 ∧ an = false ∧ rx_v T n e1 = 0) → (vp_in ((4 * (mI h5 2 5)) + l2) 72) ∧ (MCv g yX6_next uX6_next [.ref 1] (wI h5 20 ((4 * (mI h5 2 5)) + l2).toNatClampNeg (φ (mI h5 1 11))) (fun h12 => ME g uX6_readRay 26 [.ref 1, .int x, .int (l2 + 1), .retAddr 0] [] h12 (qI P))) := by
          intro hc
          rw [if_neg hc] at hp5
          refine ⟨i_vp ix (by omega), ?_⟩
          rw [i_nat ix, ev]
          have c6 := Cs_arr c5 (k := 20) (j := 4 * l + (3 - r)) (i := 86 + 4 * l + (3 - r)) (v := φ (rx_v T n e1)) (w := φ (rx_v T n e1)) (lo := -2147483648) (hi := 2147483647) rfl (R_full _) (by decide) (by decide) (by decide) (by omega) (by rw [show 86 + 4 * l + (3 - r) = 86 + (4 * l + (3 - r)) by omega]; exact Ar_20 (Cs_r0 c5) el (by omega) c5.2.2.2.2.2.2.2)
          refine c_next c6.1.1 c6.2.1 c6.2.2.1.2.1 (rx_e_le c6.2.2.2.1) (fun h9 k9 t9 => ih _ _ (an || decide (¬ rx_v T n e1 = 0)) _ _ h9 (Cs_next c6 k9 t9) ?_ ?_ (by omega) ?_ ?_ hp5)
          · intro k hk
            have q20 : mI h9 20 (4 * l + k) = mI (wI h5 20 (4 * l + (3 - r)) (φ (rx_v T n e1))) 20 (4 * l + k) := congrFun (Kp_2 k9 (by decide) (by decide)).1 _
            rw [q20, mI_wI]
            by_cases z : k = 3 - r
            · rw [if_pos ⟨rfl, by omega⟩, z, rx_set_i]
            · rw [if_neg (by omega), rx_set_o (by omega)]
              exact hx5 k (by omega)
          · rw [rx_set_o (by omega)]; exact el
          · rw [i_inc e2 (by omega)]; omega
          · rw [Bool.or_eq_false_iff, x0]
            refine and_congr_right (fun _ => ?_)
            rw [decide_eq_false_iff_not, Classical.not_not]
        rw [iq]
        refine ⟨fun y => go (fun z => y z.1), fun y => ⟨fun z => go (fun w => z (x0.mpr w.2)), fun z => ?_⟩⟩
        rw [if_pos ⟨y, x0.mp z⟩] at hp5
        exact c_refuse 4 ⟨Or.inl rfl, hp5 0 _ (Co_rf c5 (by decide) rfl)⟩
      · unfold rx_num
        rw [if_neg (fun y => y k3), if_neg v]
        rfl
      · unfold rx_num
        rw [if_pos k3]
        rfl
    have mid : ∀ (h3 : mh_T) (e0 : Nat), Cs h0 T n e0 f h3 → (∀ k, k < 3 - r → mI h3 20 (4 * l + k) = f (86 + 4 * l + k)) → (∀ q h', Co h0 T n (rx_bind (rx_num T n 0 3 (if rx_k T n e0 = 45 then rx_e T n e0 else e0) f) (fun v e1 f1 => if r = 0 ∧ an = false ∧ v = 0 then rx_no T n (if rx_k T n e0 = 45 then rx_e T n e0 else e0) 4 else rx_pa T n l r (an || decide (¬ v = 0)) e1 (rx_set f1 (86 + 4 * l + (3 - r)) (if rx_k T n e0 = 45 then -v else v)))) q h' → P q h') → _ := fun h3 e0 c3 hx3 hp3 => (show ((¬ rx_k T n e0 = 45 → _) ∧ (rx_k T n e0 = 45 → _)) from ⟨fun k => tail (fun x => x) h3 e0 c3 hx3 (by simp only [if_neg k] at hp3; exact hp3), fun k => fun (h20 : mh_T) (k20 : Kp h3 h20) (t20 : Tk h20 T n (rx_e T n e0)) => tail (fun x => -x) h20 (rx_e T n e0) (Cs_next c3 k20 t20) (fun k hk => by rw [show mI h20 20 (4 * l + k) = mI h3 20 (4 * l + k) from congrFun (Kp_2 k20 (by decide) (by decide)).1 _]; exact hx3 k hk) (by simp only [if_pos k] at hp3; exact hp3)⟩)
    refine r_X6_readRay_26 l1 l2 ⟨fun z => ?_, fun _ => ⟨fun z => ?_, fun z => ?_⟩⟩
    · rw [i_le, e2, i4] at z
      omega
    · rw [i_le, e2, i0] at z
      have hr3 : r = 3 := by omega
      have q := mid h e c (fun k hk => hx k (by omega)) (fun q h' o => hp q h' (by
        show Co h0 T n (rx_bind (if r = 3 then .inr ((), e, f) else rx_sign T n 44 e f) _) q h'
        rw [if_pos hr3]
        exact o))
      rw [c.2.2.1.2.2.1]
      exact ⟨q.1, fun k => c_next c.1.1 c.2.1 c.2.2.1.2.1 (rx_e_le c.2.2.2.1) (q.2 k)⟩
    · rw [i_le, e2, i0] at z
      have hr3 : ¬ r = 3 := by omega
      refine c_pass 44 c.1.1 c.2.1 c.2.2.1 c.2.2.2.1 (fun k h1 k1 t1 => ⟨fun _ => ?_, fun y => absurd y (by decide)⟩) (fun k => ⟨fun y => absurd rfl y, fun _ => hp 0 _ (Co_rf c (by decide) ?_)⟩)
      · have c1 := Cs_next c k1 t1
        have q := mid h1 _ c1 (fun k hk => by rw [show mI h1 20 (4 * l + k) = mI h 20 (4 * l + k) from congrFun (Kp_2 k1 (by decide) (by decide)).1 _]; exact hx k (by omega)) (fun q h' o => hp q h' (by
          show Co h0 T n (rx_bind (if r = 3 then .inr ((), e, f) else rx_sign T n 44 e f) _) q h'
          rw [if_neg hr3]
          unfold rx_sign
          rw [if_pos k]
          exact o))
        rw [c1.2.2.1.2.2.1]
        exact ⟨q.1, fun k => c_next c1.1.1 c1.2.1 c1.2.2.1.2.1 (rx_e_le c1.2.2.2.1) (q.2 k)⟩
      · show rx_bind (if r = 3 then .inr ((), e, f) else rx_sign T n 44 e f) _ = _
        rw [if_neg hr3]
        unfold rx_sign
        rw [if_neg k]
        rfl
