/-! feed: both tapes get the same bytes -/
def OkH (ms : List Nat) (h h' : mh_T) : Prop := GI h' ∧ Fr ms h h' ∧ H62 h h'
theorem OkH_w {ms : List Nat} {h0 h : mh_T} (a : OkH ms h0 h) {k j : Nat} {v : Int32} {lo hi : Int} (e : rgT k j = (lo, hi)) (f : R lo hi v) (hk : k ∈ ms) (h62 : k < 62 := by decide) : OkH ms h0 (wI h k j v) := ⟨GI_w a.1 e f, Fr_w a.2.1 hk, H62_w a.2.2 h62⟩
theorem OkH_tr {ms : List Nat} {h h1 h2 : mh_T} (a : OkH ms h h1) (b : OkH ms h1 h2) : OkH ms h h2 := ⟨b.1, Fr_tr a.2.1 b.2.1, H62_tr a.2.2 b.2.2⟩
def fb (a : Int32) (d : Nat) : Int32 := (a >>> (Int32.ofNat (24 - 8 * d) &&& 31)) &&& 255
def fw (a1 a2 a3 a4 a5 : Int32) (m : Nat) : Int32 := if m < 4 then fb a1 m else if m < 8 then fb a2 (m - 4) else if m < 12 then fb a3 (m - 8) else if m < 16 then fb a4 (m - 12) else fb a5 (m - 16)
theorem fb_nn (a : Int32) (d : Nat) : 0 ≤ (fb a d).toInt := (R_and (x := a >>> (Int32.ofNat (24 - 8 * d) &&& 31)) (y := 255) (c := 255) (d := 255) ⟨by decide, by decide⟩ (by decide)).1
theorem fw_nn (a1 a2 a3 a4 a5 : Int32) (m : Nat) : 0 ≤ (fw a1 a2 a3 a4 a5 m).toInt := by
  unfold fw
  split
  · exact fb_nn _ _
  · split
    · exact fb_nn _ _
    · split
      · exact fb_nn _ _
      · split
        · exact fb_nn _ _
        · exact fb_nn _ _
theorem sh_bv (x : BitVec 32) (d : Nat) (hd : d ≤ 24) : (x >>> d) &&& 255#32 = (x.sshiftRight d) &&& 255#32 := by
  apply BitVec.eq_of_getLsbD_eq
  intro i hi
  rw [BitVec.getLsbD_and, BitVec.getLsbD_and, BitVec.getLsbD_ushiftRight, BitVec.getLsbD_sshiftRight]
  by_cases q : i < 8
  · rw [if_pos (by omega), decide_eq_false (by omega : ¬ 32 ≤ i), Bool.not_false, Bool.true_and]
  · have : (255#32).getLsbD i = false := by
      have e : (255#32) = BitVec.ofNat 32 (2 ^ 8 - 1) := by decide
      rw [e, BitVec.getLsbD_ofNat, Nat.testBit_two_pow_sub_one, decide_eq_false q, Bool.and_false]
    rw [this, Bool.and_false, Bool.and_false]
theorem sh_u (a l : Int32) (d : Nat) (hd : d < 4) (el : l = Int32.ofNat (24 - 8 * d)) : ((a.toUInt32 >>> (l.toUInt32 &&& Int32.toUInt32 31)).toInt32) &&& 255 = fb a d := by
  subst el
  unfold fb
  apply Int32.toBitVec_inj.mp
  rw [Int32.toBitVec_and, Int32.toBitVec_and, Int32.toBitVec_shiftRight]
  show (UInt32.toBitVec (a.toUInt32 >>> ((Int32.ofNat (24 - 8 * d)).toUInt32 &&& Int32.toUInt32 31))) &&& _ = _
  rw [UInt32.toBitVec_shiftRight]
  rcases (show d = 0 ∨ d = 1 ∨ d = 2 ∨ d = 3 by omega) with q | q | q | q <;> subst q
  · exact sh_bv _ 24 (by omega)
  · exact sh_bv _ 16 (by omega)
  · exact sh_bv _ 8 (by omega)
  · exact sh_bv _ 0 (by omega)
theorem v_put {g : gT} {h : mh_T} {P : mh_T → Prop} {F : Nat} (l1 : Int32) (hG : GI h) (eF : (mI h 0 10).toInt = (F : Int)) (hF : F ≤ 896) (hp : ∀ h', OkH [0, 12] h h' → (mI h' 0 10).toInt = ((F + 4 : Nat) : Int) → (∀ i, i < F → mI h' 12 i = mI h 12 i) → (∀ d, d < 4 → mI h' 12 (F + d) = fb l1 d) → (∀ j, ¬ j = 10 → mI h' 0 j = mI h 0 j) → P h') : MCv g yX10_put uX10_put [.ref 0, .int l1] h P := by
  have z : (0 : Int32).toInt = 0 := by decide
  have L : ∀ (n : Nat) (l2 : Int32) (d : Nat) (k : mh_T), d + n = 4 → l2.toInt = 8 * (n : Int) - 8 → OkH [0, 12] h k → (mI k 0 10).toInt = ((F + d : Nat) : Int) → (∀ i, i < F → mI k 12 i = mI h 12 i) → (∀ b, b < d → mI k 12 (F + b) = fb l1 b) → (∀ j, ¬ j = 10 → mI k 0 j = mI h 0 j) → ME g uX10_put 3 [.ref 0, .int l1, .int l2] [] k (qV P) := by
    intro n
    induction n with
    | zero =>
      intro l2 d k hd e2 ok ef k1 k2 k3
      have : d = 4 := by omega
      subst this
      refine r_X10_put_3 l1 l2 ⟨fun _ => hp k ok ef k1 k2 k3, fun c => ?_⟩
      exfalso
      apply c
      rw [i_lt, e2, z]
      omega
    | succ n ih =>
      intro l2 d k hd e2 ok ef k1 k2 k3
      refine r_X10_put_3 l1 l2 ⟨fun c => ?_, fun c => ⟨i_vp ef (by omega), ?_⟩⟩
      · rw [i_lt, e2, z] at c
        omega
      · have e2' : l2.toInt = ((24 - 8 * d : Nat) : Int) := by omega
        have ei : mI (wI k 12 (mI k 0 10).toNatClampNeg (((l1.toUInt32 >>> (l2.toUInt32 &&& Int32.toUInt32 31)).toInt32) &&& 255)) 0 10 = mI k 0 10 := by rw [mI_wI, if_neg (fun q => absurd q.1 (by decide))]
        rw [ei, sh_u l1 l2 d (by omega) (i_of e2' (by omega)), i_nat ef]
        have e8 : (l2 + (-8)).toInt = 8 * (n : Int) - 8 := by
          rw [i_add (a := 8 * ((n + 1 : Nat) : Int) - 8) (b := -8) e2 (by decide) (by omega)]
          omega
        refine ih (l2 + (-8)) (d + 1) _ (by omega) e8 (OkH_w (OkH_w ok (k := 12) (rgc_12 _) (R_full _) (by decide)) (k := 0) (j := 10) (lo := 0) (hi := 900) (by decide) ?_ (by decide)) ?_ (fun i hi => ?_) (fun b hb => ?_) (fun j hj => ?_)
        · have := i_inc ef (by omega)
          exact ⟨by omega, by omega⟩
        · rw [mI_wI, if_pos ⟨rfl, rfl⟩]
          have t := i_inc ef (by omega)
          rw [t]
          rfl
        · rw [mI_wI, if_neg (fun q => absurd q.1 (by decide)), mI_wI, if_neg (by omega)]
          exact k1 i hi
        · rw [mI_wI, if_neg (fun q => absurd q.1 (by decide)), mI_wI]
          by_cases q : b = d
          · rw [if_pos ⟨rfl, by rw [q]⟩, q]
          · rw [if_neg (by omega)]
            exact k2 b (by omega)
        · rw [mI_wI, if_neg (fun q => hj q.2), mI_wI, if_neg (fun q => absurd q.1 (by decide))]
          exact k3 j hj
  exact e_X10_put l1 (L 4 24 0 h (by omega) (by decide) ⟨hG, fun _ _ _ => ⟨rfl, rfl, rfl⟩, fun _ _ => rfl⟩ (by rw [eF]; rfl) (fun _ _ => rfl) (fun b hb => absurd hb (Nat.not_lt_zero b)) (fun _ _ => rfl))
theorem v_feed {g : gT} {h : mh_T} {P : Int32 → mh_T → Prop} {F : Nat} (l1 l2 l3 l4 l5 : Int32) (hG : GI h) (eF : (mI h 0 10).toInt = (F : Int)) (hp : F ≤ 880 → ∀ h', OkH [0, 12] h h' → (mI h' 0 10).toInt = ((F + 20 : Nat) : Int) → (∀ i, i < F → mI h' 12 i = mI h 12 i) → (∀ m, m < 20 → mI h' 12 (F + m) = fw l1 l2 l3 l4 l5 m) → (∀ j, ¬ j = 10 → mI h' 0 j = mI h 0 j) → P (mI h' 0 10) h') (hx : ¬ F ≤ 880 → P (-1) h) : MCi g yX10_feed uX10_feed [.ref 0, .int l1, .int l2, .int l3, .int l4, .int l5] h P := by
  have f0 : R 0 900 (mI h 0 10) := GI_rd hG 0 10 (by decide)
  have f9 := f0.2
  have es : (mI h 0 10 + 20).toInt = (F : Int) + 20 := i_add eF (by decide) (by omega)
  have z9 : (900 : Int32).toInt = 900 := by decide
  refine e_X10_feed l1 l2 l3 l4 l5 ⟨fun c => ?_, fun c => ?_⟩
  · rw [i_le, es, z9] at c
    refine v_put l1 hG eF (by omega) (fun h1 k1 e1 a1 b1 c1 => ?_)
    refine v_put l2 k1.1 e1 (by omega) (fun h2 k2 e2 a2 b2 c2 => ?_)
    refine v_put l3 k2.1 e2 (by omega) (fun h3 k3 e3 a3 b3 c3 => ?_)
    refine v_put l4 k3.1 e3 (by omega) (fun h4 k4 e4 a4 b4 c4 => ?_)
    refine v_put l5 k4.1 e4 (by omega) (fun h5 k5 e5 a5 b5 c5 => ?_)
    refine hp (by omega) h5 (OkH_tr (OkH_tr (OkH_tr (OkH_tr k1 k2) k3) k4) k5) (by rw [e5]) (fun i hi => ?_) (fun m hm => ?_) (fun j hj => ?_)
    · rw [a5 i (by omega), a4 i (by omega), a3 i (by omega), a2 i (by omega), a1 i hi]
    · unfold fw
      split
      · rw [a5 _ (by omega), a4 _ (by omega), a3 _ (by omega), a2 _ (by omega)]
        exact b1 m (by omega)
      · split
        · rw [a5 _ (by omega), a4 _ (by omega), a3 _ (by omega), show F + m = F + 4 + (m - 4) by omega]
          exact b2 (m - 4) (by omega)
        · split
          · rw [a5 _ (by omega), a4 _ (by omega), show F + m = F + 4 + 4 + (m - 8) by omega]
            exact b3 (m - 8) (by omega)
          · split
            · rw [a5 _ (by omega), show F + m = F + 4 + 4 + 4 + (m - 12) by omega]
              exact b4 (m - 12) (by omega)
            · rw [show F + m = F + 4 + 4 + 4 + 4 + (m - 16) by omega]
              exact b5 (m - 16) (by omega)
    · rw [c5 j hj, c4 j hj, c3 j hj, c2 j hj, c1 j hj]
  · rw [i_le, es, z9] at c
    exact hx (by omega)
theorem sh_m : ∀ m, m < 20 → (24 : Int32) - (8 * (Int32.ofNat m - Int32.ofNat m / 4 * 4)) = Int32.ofNat (24 - 8 * (m % 4)) := by decide
theorem w_feed {g : gT} {h : mh_T} {P : Int32 → mh_T → Prop} {F : Nat} (l1 l2 l3 l4 l5 : Int32) (hG : GI h) (eF : (mI h 11 2).toInt = (F : Int)) (hp : F ≤ 880 → ∀ h', OkH [11, 43] h h' → (mI h' 11 2).toInt = ((F + 20 : Nat) : Int) → (∀ i, i < F → mI h' 43 i = mI h 43 i) → (∀ m, m < 20 → mI h' 43 (F + m) = fw l1 l2 l3 l4 l5 m) → (∀ j, ¬ (j = 0 ∨ j = 2) → mI h' 11 j = mI h 11 j) → P (mI h' 11 2) h') (hx : ¬ F ≤ 880 → P (-1) (wI h 11 0 0)) : MCi g yX11_feed uX11_feed [.ref 11, .int l1, .int l2, .int l3, .int l4, .int l5] h P := by
  have f0 : R 0 900 (mI h 11 2) := GI_rd hG 11 2 (by decide)
  have f9 := f0.2
  have e0 : mI (wI h 11 0 0) 11 2 = mI h 11 2 := by rw [mI_wI, if_neg (by decide)]
  have es : (mI (wI h 11 0 0) 11 2 + 20).toInt = (F : Int) + 20 := by rw [e0]; exact i_add eF (by decide) (by omega)
  have z9 : (900 : Int32).toInt = 900 := by decide
  have z20 : (20 : Int32).toInt = 20 := by decide
  have z4 : (4 : Int32).toInt = 4 := by decide
  have z8 : (8 : Int32).toInt = 8 := by decide
  have z12 : (12 : Int32).toInt = 12 := by decide
  have z16 : (16 : Int32).toInt = 16 := by decide
  refine e_X11_feed l1 l2 l3 l4 l5 ⟨fun c => ?_, fun c => ?_⟩
  · rw [i_le, es, z9] at c
    have L : ∀ (n : Nat) (l6 : Int32) (m : Nat) (k : mh_T), m + n = 20 → l6.toInt = (m : Int) → OkH [11, 43] h k → (mI k 11 2).toInt = ((F + m : Nat) : Int) → (∀ i, i < F → mI k 43 i = mI h 43 i) → (∀ b, b < m → mI k 43 (F + b) = fw l1 l2 l3 l4 l5 b) → (∀ j, ¬ (j = 0 ∨ j = 2) → mI k 11 j = mI h 11 j) → ME g uX11_feed 23 [.ref 11, .int l1, .int l2, .int l3, .int l4, .int l5, .int l6, .retAddr 0] [] k (qI P) := by
      intro n
      induction n with
      | zero =>
        intro l6 m k hm e6 ok ef k1 k2 k3
        have : m = 20 := by omega
        subst this
        refine r_X11_feed_23 l1 l2 l3 l4 l5 l6 ⟨fun _ => hp (by omega) k ok ef k1 k2 k3, fun c => absurd (by rw [i_le, z20, e6]; omega) c⟩
      | succ n ih =>
        intro l6 m k hm e6 ok ef k1 k2 k3
        have st : ∀ v : Int32, v = fw l1 l2 l3 l4 l5 m → (vp_in (mI k 11 2) 900) ∧ (ME g uX11_feed 23 [.ref 11, .int l1, .int l2, .int l3, .int l4, .int l5, .int (l6 + 1), .retAddr 0] [] (wI (wI k 43 (mI k 11 2).toNatClampNeg v) 11 2 ((mI (wI k 43 (mI k 11 2).toNatClampNeg v) 11 2) + 1)) (qI P)) := by
          intro v hv
          have ei : mI (wI k 43 (mI k 11 2).toNatClampNeg v) 11 2 = mI k 11 2 := by rw [mI_wI, if_neg (fun q => absurd q.1 (by decide))]
          refine ⟨i_vp ef (by omega), ?_⟩
          rw [ei, i_nat ef]
          refine ih (l6 + 1) (m + 1) _ (by omega) (i_inc e6 (by omega)) (OkH_w (OkH_w ok (k := 43) (rgc_43 _) (R_full _) (by decide)) (k := 11) (j := 2) (lo := 0) (hi := 900) (by decide) ?_ (by decide)) ?_ (fun i hi => ?_) (fun b hb => ?_) (fun j hj => ?_)
          · have := i_inc ef (by omega)
            exact ⟨by omega, by omega⟩
          · rw [mI_wI, if_pos ⟨rfl, rfl⟩]
            have t := i_inc ef (by omega)
            rw [t]
            rfl
          · rw [mI_wI, if_neg (fun q => absurd q.1 (by decide)), mI_wI, if_neg (by omega)]
            exact k1 i hi
          · rw [mI_wI, if_neg (fun q => absurd q.1 (by decide)), mI_wI]
            by_cases q : b = m
            · rw [if_pos ⟨rfl, by rw [q]⟩, q, hv]
            · rw [if_neg (by omega)]
              exact k2 b (by omega)
          · rw [mI_wI, if_neg (by omega), mI_wI, if_neg (fun q => absurd q.1 (by decide))]
            exact k3 j hj
        have e6' : l6 = Int32.ofNat m := i_of e6 (by omega)
        have sh := sh_m m (by omega)
        rw [← e6'] at sh
        refine r_X11_feed_23 l1 l2 l3 l4 l5 l6 ⟨fun c => ?_, fun c => ?_⟩
        · rw [i_le, z20, e6] at c
          omega
        · rw [i_le, i_le, i_le, i_le, z4, z8, z12, z16, e6, sh]
          refine ⟨fun a => ⟨fun b => ⟨fun c => ⟨fun d => st _ ?_, fun d => st _ ?_⟩, fun c => st _ ?_⟩, fun b => st _ ?_⟩, fun a => st _ ?_⟩
          · unfold fw fb
            rw [if_neg (by omega), if_neg (by omega), if_neg (by omega), if_neg (by omega), show m % 4 = m - 16 by omega]
          · unfold fw fb
            rw [if_neg (by omega), if_neg (by omega), if_neg (by omega), if_pos (by omega), show m % 4 = m - 12 by omega]
          · unfold fw fb
            rw [if_neg (by omega), if_neg (by omega), if_pos (by omega), show m % 4 = m - 8 by omega]
          · unfold fw fb
            rw [if_neg (by omega), if_pos (by omega), show m % 4 = m - 4 by omega]
          · unfold fw fb
            rw [if_pos (by omega), show m % 4 = m by omega]
    refine L 20 0 0 _ (by omega) (by decide) (OkH_w ⟨hG, fun _ _ _ => ⟨rfl, rfl, rfl⟩, fun _ _ => rfl⟩ (k := 11) (j := 0) (lo := -2147483648) (hi := 2147483647) (by decide) (R_full _) (by decide)) (by rw [e0, eF]; rfl) (fun i _ => by rw [mI_wI, if_neg (fun q => absurd q.1 (by decide))]) (fun b hb => absurd hb (Nat.not_lt_zero b)) (fun j hj => by rw [mI_wI, if_neg (by omega)])
  · rw [i_le, es, z9] at c
    exact hx (by omega)
