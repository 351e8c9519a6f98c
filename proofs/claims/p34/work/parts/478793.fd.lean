/-! feed: both tapes get the same bytes -/
def OkH (ms : List Nat) (h h' : mh_T) : Prop := GI h' ∧ Fr ms h h' ∧ H62 h h'
theorem OkH_w {ms : List Nat} {h0 h : mh_T} (a : OkH ms h0 h) {k j : Nat} {v : Int32} {lo hi : Int} (e : rgT k j = (lo, hi)) (f : R lo hi v) (hk : k ∈ ms) (h62 : k < 62 := by decide) : OkH ms h0 (wI h k j v) := ⟨GI_w a.1 e f, Fr_w a.2.1 hk, H62_w a.2.2 h62⟩
theorem OkH_tr {ms : List Nat} {h h1 h2 : mh_T} (a : OkH ms h h1) (b : OkH ms h1 h2) : OkH ms h h2 := ⟨b.1, Fr_tr a.2.1 b.2.1, H62_tr a.2.2 b.2.2⟩
def fb (a : Int32) (d : Nat) : Int32 := (a >>> (Int32.ofNat (24 - 8 * d) &&& 31)) &&& 255
def fw (a1 a2 a3 a4 a5 : Int32) (m : Nat) : Int32 := if m < 4 then fb a1 m else if m < 8 then fb a2 (m - 4) else if m < 12 then fb a3 (m - 8) else if m < 16 then fb a4 (m - 12) else fb a5 (m - 16)
theorem fb_nn (a : Int32) (d : Nat) : 0 ≤ (fb a d).toInt := (R_and (x := a >>> (Int32.ofNat (24 - 8 * d) &&& 31)) (y := 255) (c := 255) (d := 255) ⟨by decide, by decide⟩ (by decide)).1
theorem fw_nn (a1 a2 a3 a4 a5 : Int32) (m : Nat) : 0 ≤ (fw a1 a2 a3 a4 a5 m).toInt := by
  unfold fw
  split
  · exact fb_nn _ _
  · split
    · exact fb_nn _ _
    · split
      · exact fb_nn _ _
      · split
        · exact fb_nn _ _
        · exact fb_nn _ _
theorem sh_bv (x : BitVec 32) (d : Nat) (hd : d ≤ 24) : (x >>> d) &&& 255#32 = (x.sshiftRight d) &&& 255#32 := by
  apply BitVec.eq_of_getLsbD_eq
  intro i hi
  rw [BitVec.getLsbD_and, BitVec.getLsbD_and, BitVec.getLsbD_ushiftRight, BitVec.getLsbD_sshiftRight]
  by_cases q : i < 8
  · rw [if_pos (by omega), decide_eq_false (by omega : ¬ 32 ≤ i), Bool.not_false, Bool.true_and]
  · have : (255#32).getLsbD i = false := by
      have e : (255#32) = BitVec.ofNat 32 (2 ^ 8 - 1) := by decide
      rw [e, BitVec.getLsbD_ofNat, Nat.testBit_two_pow_sub_one, decide_eq_false q, Bool.and_false]
    rw [this, Bool.and_false, Bool.and_false]
theorem sh_u (a l : Int32) (d : Nat) (hd : d < 4) (el : l = Int32.ofNat (24 - 8 * d)) : ((a.toUInt32 >>> (l.toUInt32 &&& Int32.toUInt32 31)).toInt32) &&& 255 = fb a d := by
  subst el
  unfold fb
  apply Int32.toBitVec_inj.mp
  rw [Int32.toBitVec_and, Int32.toBitVec_and, Int32.toBitVec_shiftRight]
  show (UInt32.toBitVec (a.toUInt32 >>> ((Int32.ofNat (24 - 8 * d)).toUInt32 &&& Int32.toUInt32 31))) &&& _ = _
  rw [UInt32.toBitVec_shiftRight]
  rcases (show d = 0 ∨ d = 1 ∨ d = 2 ∨ d = 3 by omega) with q | q | q | q <;> subst q
  · exact sh_bv _ 24 (by omega)
  · exact sh_bv _ 16 (by omega)
  · exact sh_bv _ 8 (by omega)
  · exact sh_bv _ 0 (by omega)
theorem v_put {g : gT} {h : mh_T} {P : mh_T → Prop} {F : Nat} (l1 : Int32) (hG : GI h) (eF : (mI h 0 10).toInt = (F : Int)) (hF : F ≤ 896) (hp : ∀ h', OkH [0, 12] h h' → (mI h' 0 10).toInt = ((F + 4 : Nat) : Int) → (∀ i, i < F → mI h' 12 i = mI h 12 i) → (∀ d, d < 4 → mI h' 12 (F + d) = fb l1 d) → (∀ j, ¬ j = 10 → mI h' 0 j = mI h 0 j) → P h') : MCv g yX10_put uX10_put [.ref 0, .int l1] h P := by
  have z : (0 : Int32).toInt = 0 := by decide
  have L : ∀ (n : Nat) (l2 : Int32) (d : Nat) (k : mh_T), d + n = 4 → l2.toInt = 8 * (n : Int) - 8 → OkH [0, 12] h k → (mI k 0 10).toInt = ((F + d : Nat) : Int) → (∀ i, i < F → mI k 12 i = mI h 12 i) → (∀ b, b < d → mI k 12 (F + b) = fb l1 b) → (∀ j, ¬ j = 10 → mI k 0 j = mI h 0 j) → ME g uX10_put 3 [.ref 0, .int l1, .int l2] [] k (qV P) := by
    intro n
    induction n with
    | zero =>
      intro l2 d k hd e2 ok ef k1 k2 k3
      have : d = 4 := by omega
      subst this
      refine r_X10_put_3 l1 l2 ⟨fun _ => hp k ok ef k1 k2 k3, fun c => ?_⟩
      exfalso
      apply c
      rw [i_lt, e2, z]
      omega
    | succ n ih =>
      intro l2 d k hd e2 ok ef k1 k2 k3
      refine r_X10_put_3 l1 l2 ⟨fun c => ?_, fun c => ⟨i_vp ef (by omega), ?_⟩⟩
      · rw [i_lt, e2, z] at c
        omega
      · have e2' : l2.toInt = ((24 - 8 * d : Nat) : Int) := by omega
        have ei : mI (wI k 12 (mI k 0 10).toNatClampNeg (((l1.toUInt32 >>> (l2.toUInt32 &&& Int32.toUInt32 31)).toInt32) &&& 255)) 0 10 = mI k 0 10 := by rw [mI_wI, if_neg (fun q => absurd q.1 (by decide))]
        rw [ei, sh_u l1 l2 d (by omega) (i_of e2' (by omega)), i_nat ef]
        have e8 : (l2 + (-8)).toInt = 8 * (n : Int) - 8 := by
          rw [i_add (a := 8 * ((n + 1 : Nat) : Int) - 8) (b := -8) e2 (by decide) (by omega)]
          omega
        refine ih (l2 + (-8)) (d + 1) _ (by omega) e8 (OkH_w (OkH_w ok (k := 12) (rgc_12 _) (R_full _) (by decide)) (k := 0) (j := 10) (lo := 0) (hi := 900) (by decide) ?_ (by decide)) ?_ (fun i hi => ?_) (fun b hb => ?_) (fun j hj => ?_)
        · have := i_inc ef (by omega)
          exact ⟨by omega, by omega⟩
        · rw [mI_wI, if_pos ⟨rfl, rfl⟩]
          have t := i_inc ef (by omega)
          rw [t]
          rfl
        · rw [mI_wI, if_neg (fun q => absurd q.1 (by decide)), mI_wI, if_neg (by omega)]
          exact k1 i hi
        · rw [mI_wI, if_neg (fun q => absurd q.1 (by decide)), mI_wI]
          by_cases q : b = d
          · rw [if_pos ⟨rfl, by rw [q]⟩, q]
          · rw [if_neg (by omega)]
            exact k2 b (by omega)
        · rw [mI_wI, if_neg (fun q => hj q.2), mI_wI, if_neg (fun q => absurd q.1 (by decide))]
          exact k3 j hj
  exact e_X10_put l1 (L 4 24 0 h (by omega) (by decide) ⟨hG, fun _ _ _ => ⟨rfl, rfl, rfl⟩, fun _ _ => rfl⟩ (by rw [eF]; rfl) (fun _ _ => rfl) (fun b hb => absurd hb (Nat.not_lt_zero b)) (fun _ _ => rfl))
theorem v_feed {g : gT} {h : mh_T} {P : Int32 → mh_T → Prop} {F : Nat} (l1 l2 l3 l4 l5 : Int32) (hG : GI h) (eF : (mI h 0 10).toInt = (F : Int)) (hp : F ≤ 880 → ∀ h', OkH [0, 12] h h' → (mI h' 0 10).toInt = ((F + 20 : Nat) : Int) → (∀ i, i < F → mI h' 12 i = mI h 12 i) → (∀ m, m < 20 → mI h' 12 (F + m) = fw l1 l2 l3 l4 l5 m) → (∀ j, ¬ j = 10 → mI h' 0 j = mI h 0 j) → P (mI h' 0 10) h') (hx : ¬ F ≤ 880 → P (-1) h) : MCi g yX10_feed uX10_feed [.ref 0, .int l1, .int l2, .int l3, .int l4, .int l5] h P := by
  have f0 : R 0 900 (mI h 0 10) := GI_rd hG 0 10 (by decide)
  have f9 := f0.2
  have es : (mI h 0 10 + 20).toInt = (F : Int) + 20 := i_add eF (by decide) (by omega)
  have z9 : (900 : Int32).toInt = 900 := by decide
  refine e_X10_feed l1 l2 l3 l4 l5 ⟨fun c => ?_, fun c => ?_⟩
  · rw [i_le, es, z9] at c
    refine v_put l1 hG eF (by omega) (fun h1 k1 e1 a1 b1 c1 => ?_)
    refine v_put l2 k1.1 e1 (by omega) (fun h2 k2 e2 a2 b2 c2 => ?_)
    refine v_put l3 k2.1 e2 (by omega) (fun h3 k3 e3 a3 b3 c3 => ?_)
    refine v_put l4 k3.1 e3 (by omega) (fun h4 k4 e4 a4 b4 c4 => ?_)
    refine v_put l5 k4.1 e4 (by omega) (fun h5 k5 e5 a5 b5 c5 => ?_)
    refine hp (by omega) h5 (OkH_tr (OkH_tr (OkH_tr (OkH_tr k1 k2) k3) k4) k5) (by rw [e5]) (fun i hi => ?_) (fun m hm => ?_) (fun j hj => ?_)
    · rw [a5 i (by omega), a4 i (by omega), a3 i (by omega), a2 i (by omega), a1 i hi]
    · unfold fw
      split
      · rw [a5 _ (by omega), a4 _ (by omega), a3 _ (by omega), a2 _ (by omega)]
        exact b1 m (by omega)
      · split
        · rw [a5 _ (by omega), a4 _ (by omega), a3 _ (by omega), show F + m = F + 4 + (m - 4) by omega]
          exact b2 (m - 4) (by omega)
        · split
          · rw [a5 _ (by omega), a4 _ (by omega), show F + m = F + 4 + 4 + (m - 8) by omega]
            exact b3 (m - 8) (by omega)
          · split
            · rw [a5 _ (by omega), show F + m = F + 4 + 4 + 4 + (m - 12) by omega]
              exact b4 (m - 12) (by omega)
            · rw [show F + m = F + 4 + 4 + 4 + 4 + (m - 16) by omega]
              exact b5 (m - 16) (by omega)
    · rw [c5 j hj, c4 j hj, c3 j hj, c2 j hj, c1 j hj]
  · rw [i_le, es, z9] at c
    exact hx (by omega)
theorem sh_m : ∀ m, m < 20 → (24 : Int32) - (8 * (Int32.ofNat m - Int32.ofNat m / 4 * 4)) = Int32.ofNat (24 - 8 * (m % 4)) := by decide
theorem w_feed {g : gT} {h : mh_T} {P : Int32 → mh_T → Prop} {F : Nat} (l1 l2 l3 l4 l5 : Int32) (hG : GI h) (eF : (mI h 11 2).toInt = (F : Int)) (hp : F ≤ 880 → ∀ h', OkH [11, 43] h h' → (mI h' 11 2).toInt = ((F + 20 : Nat) : Int) → (∀ i, i < F → mI h' 43 i = mI h 43 i) → (∀ m, m < 20 → mI h' 43 (F + m) = fw l1 l2 l3 l4 l5 m) → (∀ j, ¬ (j = 0 ∨ j = 2) → mI h' 11 j = mI h 11 j) → P (mI h' 11 2) h') (hx : ¬ F ≤ 880 → P (-1) (wI h 11 0 0)) : MCi g yX11_feed uX11_feed [.ref 11, .int l1, .int l2, .int l3, .int l4, .int l5] h P := by
  have f0 : R 0 900 (mI h 11 2) := GI_rd hG 11 2 (by decide)
  have f9 := f0.2
  have e0 : mI (wI h 11 0 0) 11 2 = mI h 11 2 := by rw [mI_wI, if_neg (by decide)]
  have es : (mI (wI h 11 0 0) 11 2 + 20).toInt = (F : Int) + 20 := by rw [e0]; exact i_add eF (by decide) (by omega)
  have z9 : (900 : Int32).toInt = 900 := by decide
  have z20 : (20 : Int32).toInt = 20 := by decide
  have z4 : (4 : Int32).toInt = 4 := by decide
  have z8 : (8 : Int32).toInt = 8 := by decide
  have z12 : (12 : Int32).toInt = 12 := by decide
  have z16 : (16 : Int32).toInt = 16 := by decide
  refine e_X11_feed l1 l2 l3 l4 l5 ⟨fun c => ?_, fun c => ?_⟩
  · rw [i_le, es, z9] at c
    have L : ∀ (n : Nat) (l6 : Int32) (m : Nat) (k : mh_T), m + n = 20 → l6.toInt = (m : Int) → OkH [11, 43] h k → (mI k 11 2).toInt = ((F + m : Nat) : Int) → (∀ i, i < F → mI k 43 i = mI h 43 i) → (∀ b, b < m → mI k 43 (F + b) = fw l1 l2 l3 l4 l5 b) → (∀ j, ¬ (j = 0 ∨ j = 2) → mI k 11 j = mI h 11 j) → ME g uX11_feed 23 [.ref 11, .int l1, .int l2, .int l3, .int l4, .int l5, .int l6, .retAddr 0] [] k (qI P) := by
      intro n
      induction n with
      | zero =>
        intro l6 m k hm e6 ok ef k1 k2 k3
        have : m = 20 := by omega
        subst this
        refine r_X11_feed_23 l1 l2 l3 l4 l5 l6 ⟨fun _ => hp (by omega) k ok ef k1 k2 k3, fun c => absurd (by rw [i_le, z20, e6]; omega) c⟩
      | succ n ih =>
        intro l6 m k hm e6 ok ef k1 k2 k3
        have st : ∀ v : Int32, v = fw l1 l2 l3 l4 l5 m → (vp_in (mI k 11 2) 900) ∧ (ME g uX11_feed 23 [.ref 11, .int l1, .int l2, .int l3, .int l4, .int l5, .int (l6 + 1), .retAddr 0] [] (wI (wI k 43 (mI k 11 2).toNatClampNeg v) 11 2 ((mI (wI k 43 (mI k 11 2).toNatClampNeg v) 11 2) + 1)) (qI P)) := by
          intro v hv
          have ei : mI (wI k 43 (mI k 11 2).toNatClampNeg v) 11 2 = mI k 11 2 := by rw [mI_wI, if_neg (fun q => absurd q.1 (by decide))]
          refine ⟨i_vp ef (by omega), ?_⟩
          rw [ei, i_nat ef]
          refine ih (l6 + 1) (m + 1) _ (by omega) (i_inc e6 (by omega)) (OkH_w (OkH_w ok (k := 43) (rgc_43 _) (R_full _) (by decide)) (k := 11) (j := 2) (lo := 0) (hi := 900) (by decide) ?_ (by decide)) ?_ (fun i hi => ?_) (fun b hb => ?_) (fun j hj => ?_)
          · have := i_inc ef (by omega)
            exact ⟨by omega, by omega⟩
          · rw [mI_wI, if_pos ⟨rfl, rfl⟩]
            have t := i_inc ef (by omega)
            rw [t]
            rfl
          · rw [mI_wI, if_neg (fun q => absurd q.1 (by decide)), mI_wI, if_neg (by omega)]
            exact k1 i hi
          · rw [mI_wI, if_neg (fun q => absurd q.1 (by decide)), mI_wI]
            by_cases q : b = m
            · rw [if_pos ⟨rfl, by rw [q]⟩, q, hv]
            · rw [if_neg (by omega)]
              exact k2 b (by omega)
          · rw [mI_wI, if_neg (by omega), mI_wI, if_neg (fun q => absurd q.1 (by decide))]
            exact k3 j hj
        have e6' : l6 = Int32.ofNat m := i_of e6 (by omega)
        have sh := sh_m m (by omega)
        rw [← e6'] at sh
        refine r_X11_feed_23 l1 l2 l3 l4 l5 l6 ⟨fun c => ?_, fun c => ?_⟩
        · rw [i_le, z20, e6] at c
          omega
        · rw [i_le, i_le, i_le, i_le, z4, z8, z12, z16, e6, sh]
          refine ⟨fun a => ⟨fun b => ⟨fun c => ⟨fun d => st _ ?_, fun d => st _ ?_⟩, fun c => st _ ?_⟩, fun b => st _ ?_⟩, fun a => st _ ?_⟩
          · unfold fw fb
            rw [if_neg (by omega), if_neg (by omega), if_neg (by omega), if_neg (by omega), show m % 4 = m - 16 by omega]
          · unfold fw fb
            rw [if_neg (by omega), if_neg (by omega), if_neg (by omega), if_pos (by omega), show m % 4 = m - 12 by omega]
          · unfold fw fb
            rw [if_neg (by omega), if_neg (by omega), if_pos (by omega), show m % 4 = m - 8 by omega]
          · unfold fw fb
            rw [if_neg (by omega), if_pos (by omega), show m % 4 = m - 4 by omega]
          · unfold fw fb
            rw [if_pos (by omega), show m % 4 = m by omega]
    refine L 20 0 0 _ (by omega) (by decide) (OkH_w ⟨hG, fun _ _ _ => ⟨rfl, rfl, rfl⟩, fun _ _ => rfl⟩ (k := 11) (j := 0) (lo := -2147483648) (hi := 2147483647) (by decide) (R_full _) (by decide)) (by rw [e0, eF]; rfl) (fun i _ => by rw [mI_wI, if_neg (fun q => absurd q.1 (by decide))]) (fun b hb => absurd hb (Nat.not_lt_zero b)) (fun j hj => by rw [mI_wI, if_neg (by omega)])
  · rw [i_le, es, z9] at c
    exact hx (by omega)
/-! THE TABLE of both sides, as rows; the acts on rows -/
/-- the class's table as a row -/
def tC (h : mh_T) (j : Nat) : Int32 := if j = 0 then mI h 3 2 else if j < 9 then mI h 24 (j - 1) else if j < 17 then mI h 25 (j - 9) else mI h 26 (j - 17)
abbrev sn (a : Nat → Int32) : Nat := (a 0).toInt.toNat
/-- set s of one row is set q of the other -/
def sE (a : Nat → Int32) (s : Nat) (b : Nat → Int32) (q : Nat) : Prop := a (1 + s) = b (1 + q) ∧ a (9 + s) = b (9 + q) ∧ ∀ o, o < 4 → a (17 + 4 * s + o) = b (17 + 4 * q + o)
def cE (c : Nat → Int32) (s : Nat) (d : Nat → Int32) (q : Nat) : Prop := ∀ o, o < 4 → c (4 * s + o) = d (4 * q + o)
/-- a set's numbers -/
def TP (a : Nat → Int32) (s : Nat) : Prop := 0 ≤ (a (17 + 4 * s)).toInt ∧ 0 ≤ (a (17 + 4 * s + 1)).toInt ∧ 0 ≤ (a (17 + 4 * s + 2)).toInt ∧ 0 ≤ (a (17 + 4 * s + 3)).toInt ∧ (a (17 + 4 * s)).toInt + (a (17 + 4 * s + 1)).toInt + (a (17 + 4 * s + 2)).toInt + (a (17 + 4 * s + 3)).toInt ≤ 60
/-- a set of one look has two outcomes, and no more -/
def TS (a : Nat → Int32) (s : Nat) : Prop := ((a (9 + s) = -2 ∧ a (17 + 4 * s + 2) = 0 ∧ a (17 + 4 * s + 3) = 0) ∨ 0 ≤ (a (9 + s)).toInt) ∧ TP a s
def TZ (a : Nat → Int32) : Prop := 0 ≤ (a 0).toInt ∧ (a 0).toInt ≤ 8 ∧ ∀ s, s < sn a → TS a s
theorem TS_sE {a b : Nat → Int32} {s q : Nat} (h : sE a s b q) (t : TS b q) : TS a s := by
  have e0 := h.2.2 0 (by omega)
  rw [Nat.add_zero, Nat.add_zero] at e0
  unfold TS TP
  rw [h.2.1, e0, h.2.2 1 (by omega), h.2.2 2 (by omega), h.2.2 3 (by omega)]
  exact t
theorem TP_pm {f g : Nat → Int32} {s : Nat} {q : Nat → Nat} (t : TP f s) (hq : (q 0 = 0 ∧ q 1 = 1 ∧ q 2 = 2 ∧ q 3 = 3) ∨ (q 0 = 1 ∧ q 1 = 0 ∧ q 2 = 2 ∧ q 3 = 3) ∨ (q 0 = 1 ∧ q 1 = 0 ∧ q 2 = 3 ∧ q 3 = 2) ∨ (q 0 = 2 ∧ q 1 = 3 ∧ q 2 = 0 ∧ q 3 = 1)) (h : ∀ i, i < 4 → g (17 + 4 * s + i) = f (17 + 4 * s + q i)) : TP g s := by
  unfold TP at *
  have e0 := h 0 (by omega)
  have e1 := h 1 (by omega)
  have e2 := h 2 (by omega)
  have e3 := h 3 (by omega)
  rw [Nat.add_zero] at e0
  rcases hq with ⟨q0, q1, q2, q3⟩ | ⟨q0, q1, q2, q3⟩ | ⟨q0, q1, q2, q3⟩ | ⟨q0, q1, q2, q3⟩
  · rw [e0, e1, e2, e3, q0, q1, q2, q3]; simp only [Nat.add_zero]; omega
  · rw [e0, e1, e2, e3, q0, q1, q2, q3]; simp only [Nat.add_zero]; omega
  · rw [e0, e1, e2, e3, q0, q1, q2, q3]; simp only [Nat.add_zero]; omega
  · rw [e0, e1, e2, e3, q0, q1, q2, q3]; simp only [Nat.add_zero]; omega
def Rq (a b : Nat → Int32) : Prop := a 0 = b 0 ∧ TZ b ∧ ∀ s, s < sn b → sE a s b s
def Ce (b : Nat → Int32) (c d : Nat → Int32) : Prop := ∀ s, s < sn b → cE c s d s
theorem sE_rf (a : Nat → Int32) (s : Nat) : sE a s a s := ⟨rfl, rfl, fun _ _ => rfl⟩
theorem sE_tr {a b c : Nat → Int32} {s q r : Nat} (x : sE a s b q) (y : sE b q c r) : sE a s c r := ⟨x.1.trans y.1, x.2.1.trans y.2.1, fun o ho => (x.2.2 o ho).trans (y.2.2 o ho)⟩
theorem sE_sy {a b : Nat → Int32} {s q : Nat} (x : sE a s b q) : sE b q a s := ⟨x.1.symm, x.2.1.symm, fun o ho => (x.2.2 o ho).symm⟩
theorem cE_tr {a b c : Nat → Int32} {s q r : Nat} (x : cE a s b q) (y : cE b q c r) : cE a s c r := fun o ho => (x o ho).trans (y o ho)
theorem cE_sy {a b : Nat → Int32} {s q : Nat} (x : cE a s b q) : cE b q a s := fun o ho => (x o ho).symm
theorem Rq_rf {a : Nat → Int32} (h : TZ a) : Rq a a := ⟨rfl, h, fun s _ => sE_rf a s⟩
/-- rows that are the same up to 49 -/
theorem Rq_cg {a b a' b' : Nat → Int32} (h : Rq a b) (ha : ∀ j, j < 49 → a' j = a j) (hb : ∀ j, j < 49 → b' j = b j) : Rq a' b' := by
  obtain ⟨e, ⟨z0, z8, z⟩, hs⟩ := h
  have e0 : sn b' = sn b := by unfold sn; rw [hb 0 (by omega)]
  have s8 : sn b ≤ 8 := by unfold sn; omega
  refine ⟨by rw [ha 0 (by omega), hb 0 (by omega)]; exact e, ⟨by rw [hb 0 (by omega)]; exact z0, by rw [hb 0 (by omega)]; exact z8, fun s h => ?_⟩, fun s h => ?_⟩
  · rw [e0] at h
    exact TS_sE ⟨hb _ (by omega), hb _ (by omega), fun o ho => hb _ (by omega)⟩ (z s h)
  · rw [e0] at h
    obtain ⟨q1, q2, q3⟩ := hs s h
    refine ⟨?_, ?_, fun o ho => ?_⟩
    · rw [ha _ (by omega), hb _ (by omega)]; exact q1
    · rw [ha _ (by omega), hb _ (by omega)]; exact q2
    · rw [ha _ (by omega), hb _ (by omega)]; exact q3 o ho
/-- which outcome comes to place o when a look is turned -/
def pm (a : Nat → Int32) (L : Int32) (s o : Nat) : Nat :=
  if (a (9 + s)).toInt < 0 then (if a (1 + s) = L then (if o = 0 then 1 else if o = 1 then 0 else o) else o)
  else if a (1 + s) = L then (if o < 2 then o + 2 else o - 2)
  else if a (9 + s) = L then (if o = 0 then 1 else if o = 1 then 0 else if o = 2 then 3 else 2) else o
theorem pm_lt {a : Nat → Int32} {L : Int32} {s o : Nat} (h : o < 4) : pm a L s o < 4 := by
  unfold pm
  repeat' split
  all_goals omega
theorem pm_cg {a b : Nat → Int32} {L : Int32} {s o : Nat} (h : sE a s b s) : pm a L s o = pm b L s o := by
  unfold pm
  rw [h.1, h.2.1]
/-- nothing of the sets changes -/
def smS (a c a' c' : Nat → Int32) : Prop := a' 0 = a 0 ∧ ∀ s, s < sn a → sE a' s a s ∧ cE c' s c s
/-- FLIP -/
def flp (L : Int32) (a c a' c' : Nat → Int32) : Prop := a' 0 = a 0 ∧ ∀ s, s < sn a → (a' (1 + s) = a (1 + s) ∧ a' (9 + s) = a (9 + s)) ∧ ∀ o, o < 4 → a' (17 + 4 * s + o) = a (17 + 4 * s + pm a L s o) ∧ c' (4 * s + o) = c (4 * s + pm a L s o)
/-- DROP -/
def dq (S s : Nat) : Nat := if s < S then s else s + 1
def drp (S : Nat) (a c a' c' : Nat → Int32) : Prop := (a' 0).toInt = (a 0).toInt - 1 ∧ ∀ s, s + 1 < sn a → sE a' s a (dq S s) ∧ cE c' s c (dq S s)
/-- a set of two looks becomes one of the other look -/
def mgS (L : Int32) (S : Nat) (a c a' c' : Nat → Int32) : Prop := a' 0 = a 0 ∧ (∀ s, s < sn a → ¬ s = S → sE a' s a s ∧ cE c' s c s) ∧ a' (9 + S) = -2 ∧ ((a (1 + S) = L ∧ a' (1 + S) = a (9 + S) ∧ a' (17 + 4 * S) = a (17 + 4 * S) + a (17 + 4 * S + 2) ∧ a' (17 + 4 * S + 1) = a (17 + 4 * S + 1) + a (17 + 4 * S + 3)) ∨ (¬ a (1 + S) = L ∧ a' (1 + S) = a (1 + S) ∧ a' (17 + 4 * S) = a (17 + 4 * S) + a (17 + 4 * S + 1) ∧ a' (17 + 4 * S + 1) = a (17 + 4 * S + 2) + a (17 + 4 * S + 3))) ∧ a' (17 + 4 * S + 2) = 0 ∧ a' (17 + 4 * S + 3) = 0 ∧ ∀ o, o < 4 → c' (4 * S + o) = 0
/-- a step of FORGET -/
def stp (L : Int32) (S : Nat) (a c a' c' : Nat → Int32) : Prop := ((a (9 + S)).toInt < 0 ∧ a (1 + S) = L ∧ drp S a c a' c') ∨ (¬ (a (9 + S)).toInt < 0 ∧ (a (1 + S) = L ∨ a (9 + S) = L) ∧ mgS L S a c a' c') ∨ (¬ a (1 + S) = L ∧ ((a (9 + S)).toInt < 0 ∨ ¬ a (9 + S) = L) ∧ smS a c a' c')
def fgt (L : Int32) : Nat → (Nat → Int32) → (Nat → Int32) → (Nat → Int32) → (Nat → Int32) → Prop
  | 0, a, c, a', c' => smS a c a' c'
  | n + 1, a, c, a', c' => ∃ e m, stp L n a c e m ∧ fgt L n e m a' c'
/-- SHIFT -/
def shf (S o p : Nat) (n : Int32) (a c a' c' : Nat → Int32) : Prop := a' 0 = a 0 ∧ ∀ s, s < sn a → (a' (1 + s) = a (1 + s) ∧ a' (9 + s) = a (9 + s)) ∧ cE c' s c s ∧ ∀ i, i < 4 → a' (17 + 4 * s + i) = if s = S ∧ i = o then a (17 + 4 * s + i) - n else if s = S ∧ i = p then a (17 + 4 * s + i) + n else a (17 + 4 * s + i)
/-- both sides -/
def Rc (a c b d : Nat → Int32) : Prop := Rq a b ∧ Ce b c d
theorem Rc_sm {a c b d a' c' b' d' : Nat → Int32} (r : Rc a c b d) (x : smS a c a' c') (y : smS b d b' d') : Rc a' c' b' d' := by
  obtain ⟨⟨e, ⟨z0, z8, z⟩, hs⟩, hc⟩ := r
  have e0 : sn b' = sn b := by unfold sn; rw [y.1]
  have e1 : sn a = sn b := by unfold sn; rw [e]
  refine ⟨⟨by rw [x.1, y.1]; exact e, ⟨by rw [y.1]; exact z0, by rw [y.1]; exact z8, fun s h => ?_⟩, fun s h => ?_⟩, fun s h => ?_⟩
  · rw [e0] at h
    exact TS_sE (y.2 s h).1 (z s h)
  · rw [e0] at h
    exact sE_tr (x.2 s (by omega)).1 (sE_tr (hs s h) (sE_sy (y.2 s h).1))
  · rw [e0] at h
    exact cE_tr (x.2 s (by omega)).2 (cE_tr (hc s h) (cE_sy (y.2 s h).2))
theorem Rc_flp {L : Int32} {a c b d a' c' b' d' : Nat → Int32} (r : Rc a c b d) (x : flp L a c a' c') (y : flp L b d b' d') : Rc a' c' b' d' := by
  obtain ⟨⟨e, ⟨z0, z8, z⟩, hs⟩, hc⟩ := r
  have e0 : sn b' = sn b := by unfold sn; rw [y.1]
  have e1 : sn a = sn b := by unfold sn; rw [e]
  refine ⟨⟨by rw [x.1, y.1]; exact e, ⟨by rw [y.1]; exact z0, by rw [y.1]; exact z8, fun s h => ?_⟩, fun s h => ⟨?_, ?_, fun o ho => ?_⟩⟩, fun s h o ho => ?_⟩
  · rw [e0] at h
    obtain ⟨⟨q1, q2⟩, q3⟩ := y.2 s h
    refine ⟨?_, TP_pm (q := pm b L s) (z s h).2 ?_ (fun i hi => (q3 i hi).1)⟩
    · rw [q2, (q3 2 (by omega)).1, (q3 3 (by omega)).1]
      rcases (z s h).1 with w | w
      · refine Or.inl ⟨w.1, ?_, ?_⟩
        · rw [show pm b L s 2 = 2 by unfold pm; rw [w.1, if_pos (by decide)]; split <;> rfl]
          exact w.2.1
        · rw [show pm b L s 3 = 3 by unfold pm; rw [w.1, if_pos (by decide)]; split <;> rfl]
          exact w.2.2
      · exact Or.inr w
    · unfold pm
      by_cases w1 : (b (9 + s)).toInt < 0
      · simp only [if_pos w1]
        by_cases w2 : b (1 + s) = L
        · simp only [if_pos w2]; exact Or.inr (Or.inl ⟨rfl, rfl, rfl, rfl⟩)
        · simp only [if_neg w2]; exact Or.inl (by refine ⟨?_, ?_, ?_, ?_⟩ <;> first | trivial | rfl)
      · simp only [if_neg w1]
        by_cases w2 : b (1 + s) = L
        · simp only [if_pos w2]; exact Or.inr (Or.inr (Or.inr ⟨rfl, rfl, rfl, rfl⟩))
        · simp only [if_neg w2]
          by_cases w3 : b (9 + s) = L
          · simp only [if_pos w3]; exact Or.inr (Or.inr (Or.inl ⟨rfl, rfl, rfl, rfl⟩))
          · simp only [if_neg w3]; exact Or.inl (by refine ⟨?_, ?_, ?_, ?_⟩ <;> first | trivial | rfl)
  · rw [e0] at h
    rw [(x.2 s (by omega)).1.1, (y.2 s h).1.1]
    exact (hs s h).1
  · rw [e0] at h
    rw [(x.2 s (by omega)).1.2, (y.2 s h).1.2]
    exact (hs s h).2.1
  · rw [e0] at h
    rw [((x.2 s (by omega)).2 o ho).1, ((y.2 s h).2 o ho).1, pm_cg (hs s h)]
    exact (hs s h).2.2 _ (pm_lt ho)
  · rw [e0] at h
    rw [((x.2 s (by omega)).2 o ho).2, ((y.2 s h).2 o ho).2, pm_cg (hs s h)]
    exact hc s h _ (pm_lt ho)
theorem dq_lt {S s n : Nat} (h : s + 1 < n) : dq S s < n := by
  unfold dq
  split <;> omega
theorem Rc_drp {S : Nat} {a c b d a' c' b' d' : Nat → Int32} (r : Rc a c b d) (hp : 0 < sn b) (x : drp S a c a' c') (y : drp S b d b' d') : Rc a' c' b' d' := by
  obtain ⟨⟨e, ⟨z0, z8, z⟩, hs⟩, hc⟩ := r
  have e0 : sn b' + 1 = sn b := by unfold sn at *; rw [y.1]; omega
  have e1 : sn a = sn b := by unfold sn; rw [e]
  refine ⟨⟨Int32.toInt_inj.mp (by rw [x.1, y.1, e]), ⟨by unfold sn at hp; rw [y.1]; omega, by rw [y.1]; omega, fun s h => ?_⟩, fun s h => ?_⟩, fun s h => ?_⟩
  · have h1 : s + 1 < sn b := by omega
    exact TS_sE (y.2 s h1).1 (z _ (dq_lt h1))
  · have h1 : s + 1 < sn b := by omega
    exact sE_tr (x.2 s (by omega)).1 (sE_tr (hs _ (dq_lt h1)) (sE_sy (y.2 s h1).1))
  · have h1 : s + 1 < sn b := by omega
    exact cE_tr (x.2 s (by omega)).2 (cE_tr (hc _ (dq_lt h1)) (cE_sy (y.2 s h1).2))
theorem Rc_mg {L : Int32} {S : Nat} {a c b d a' c' b' d' : Nat → Int32} (r : Rc a c b d) (hS : S < sn b) (x : mgS L S a c a' c') (y : mgS L S b d b' d') : Rc a' c' b' d' := by
  obtain ⟨⟨e, ⟨z0, z8, z⟩, hs⟩, hc⟩ := r
  have e0 : sn b' = sn b := by unfold sn; rw [y.1]
  have e1 : sn a = sn b := by unfold sn; rw [e]
  obtain ⟨f1, f2, f3⟩ := hs S hS
  have g0 := f3 0 (by omega)
  rw [Nat.add_zero] at g0
  obtain ⟨x1, x2, x3, x4, x5, x6, x7⟩ := x
  obtain ⟨y1, y2, y3, y4, y5, y6, y7⟩ := y
  have cs : a' (1 + S) = b' (1 + S) ∧ a' (17 + 4 * S) = b' (17 + 4 * S) ∧ a' (17 + 4 * S + 1) = b' (17 + 4 * S + 1) := by
    rcases x4 with x4 | x4 <;> rcases y4 with y4 | y4
    · rw [x4.2.1, x4.2.2.1, x4.2.2.2, y4.2.1, y4.2.2.1, y4.2.2.2, f2, g0, f3 1 (by omega), f3 2 (by omega), f3 3 (by omega)]
      exact ⟨rfl, rfl, rfl⟩
    · exact absurd (f1.symm.trans x4.1) y4.1
    · exact absurd (f1.trans y4.1) x4.1
    · rw [x4.2.1, x4.2.2.1, x4.2.2.2, y4.2.1, y4.2.2.1, y4.2.2.2, f1, g0, f3 1 (by omega), f3 2 (by omega), f3 3 (by omega)]
      exact ⟨rfl, rfl, rfl⟩
  refine ⟨⟨by rw [x1, y1]; exact e, ⟨by rw [y1]; exact z0, by rw [y1]; exact z8, fun s h => ?_⟩, fun s h => ?_⟩, fun s h => ?_⟩
  · rw [e0] at h
    by_cases es : s = S
    · subst es
      refine ⟨Or.inl ⟨y3, y5, y6⟩, ?_⟩
      have zp := (z s hS).2
      unfold TP at zp ⊢
      have z0 : (0 : Int32).toInt = 0 := by decide
      have ad : ∀ p q : Nat, (0 ≤ (b p).toInt ∧ 0 ≤ (b q).toInt ∧ (b p).toInt + (b q).toInt ≤ 60) → (b p + b q).toInt = (b p).toInt + (b q).toInt := fun p q w => i_add rfl rfl (by omega)
      rcases y4 with y4 | y4
      · rw [y4.2.2.1, y4.2.2.2, y5, y6, z0, ad _ _ (by omega), ad _ _ (by omega)]; omega
      · rw [y4.2.2.1, y4.2.2.2, y5, y6, z0, ad _ _ (by omega), ad _ _ (by omega)]; omega
    · exact TS_sE (y2 s h es).1 (z s h)
  · rw [e0] at h
    by_cases es : s = S
    · subst es
      refine ⟨cs.1, by rw [x3, y3], fun o ho => ?_⟩
      have : o = 0 ∨ o = 1 ∨ o = 2 ∨ o = 3 := by omega
      rcases this with w | w | w | w <;> subst w
      · exact cs.2.1
      · exact cs.2.2
      · rw [x5, y5]
      · rw [x6, y6]
    · exact sE_tr (x2 s (by omega) es).1 (sE_tr (hs s h) (sE_sy (y2 s h es).1))
  · rw [e0] at h
    by_cases es : s = S
    · subst es
      exact fun o ho => by rw [x7 o ho, y7 o ho]
    · exact cE_tr (x2 s (by omega) es).2 (cE_tr (hc s h) (cE_sy (y2 s h es).2))
theorem stp_n {L : Int32} {S : Nat} {a c a' c' : Nat → Int32} (hS : S < sn a) (x : stp L S a c a' c') : S ≤ sn a' := by
  rcases x with x | x | x
  · have := x.2.2.1
    unfold sn at *
    omega
  · have : sn a' = sn a := by unfold sn; rw [x.2.2.1]
    omega
  · have : sn a' = sn a := by unfold sn; rw [x.2.2.1]
    omega
theorem Rc_st {L : Int32} {S : Nat} {a c b d a' c' b' d' : Nat → Int32} (r : Rc a c b d) (hS : S < sn b) (x : stp L S a c a' c') (y : stp L S b d b' d') : Rc a' c' b' d' := by
  obtain ⟨f1, f2, -⟩ := r.1.2.2 S hS
  unfold stp at x
  rw [f1, f2] at x
  rcases x with x | x | x <;> rcases y with y | y | y
  · exact Rc_drp r (by omega) x.2.2 y.2.2
  · exact absurd x.1 y.1
  · exact absurd x.2.1 y.1
  · exact absurd y.1 x.1
  · exact Rc_mg r hS x.2.2 y.2.2
  · rcases x.2.1 with w | w
    · exact absurd w y.1
    · rcases y.2.1 with v | v
      · exact absurd v x.1
      · exact absurd w v
  · exact absurd y.2.1 x.1
  · rcases y.2.1 with w | w
    · exact absurd w x.1
    · rcases x.2.1 with v | v
      · exact absurd v y.1
      · exact absurd w v
  · exact Rc_sm r x.2.2 y.2.2
theorem Rc_fg {L : Int32} : ∀ (n : Nat) {a c b d a' c' b' d' : Nat → Int32}, Rc a c b d → n ≤ sn b → fgt L n a c a' c' → fgt L n b d b' d' → Rc a' c' b' d'
  | 0, _, _, _, _, _, _, _, _, r, _, x, y => Rc_sm r x y
  | n + 1, _, _, _, _, _, _, _, _, r, hn, ⟨_, _, x1, x2⟩, ⟨_, _, y1, y2⟩ => Rc_fg n (Rc_st r (by omega) x1 y1) (stp_n (by omega) y1) x2 y2
theorem Rc_sh {S o p : Nat} {n : Int32} {a c b d a' c' b' d' : Nat → Int32} (r : Rc a c b d) (ho : o < (if (b (9 + S)).toInt < 0 then 2 else 4)) (hp : p < (if (b (9 + S)).toInt < 0 then 2 else 4)) (hop : ¬ o = p) (hn : 0 ≤ n.toInt ∧ n.toInt ≤ (b (17 + 4 * S + o)).toInt) (x : shf S o p n a c a' c') (y : shf S o p n b d b' d') : Rc a' c' b' d' := by
  obtain ⟨⟨e, ⟨z0, z8, z⟩, hs⟩, hc⟩ := r
  have e0 : sn b' = sn b := by unfold sn; rw [y.1]
  have e1 : sn a = sn b := by unfold sn; rw [e]
  refine ⟨⟨by rw [x.1, y.1]; exact e, ⟨by rw [y.1]; exact z0, by rw [y.1]; exact z8, fun s h => ?_⟩, fun s h => ⟨?_, ?_, fun i hi => ?_⟩⟩, fun s h => ?_⟩
  · rw [e0] at h
    obtain ⟨⟨q1, q2⟩, q3, q4⟩ := y.2 s h
    refine ⟨?_, ?_⟩
    · rw [q2, q4 2 (by omega), q4 3 (by omega)]
      rcases (z s h).1 with w | w
      · refine Or.inl ⟨w.1, ?_, ?_⟩
        · rw [if_neg (fun v => by rw [← v.1, w.1, if_pos (by decide)] at ho; omega), if_neg (fun v => by rw [← v.1, w.1, if_pos (by decide)] at hp; omega)]
          exact w.2.1
        · rw [if_neg (fun v => by rw [← v.1, w.1, if_pos (by decide)] at ho; omega), if_neg (fun v => by rw [← v.1, w.1, if_pos (by decide)] at hp; omega)]
          exact w.2.2
      · exact Or.inr w
    · have zp := (z s h).2
      by_cases es : s = S
      · subst es
        have o4 : o < 4 := by split at ho <;> omega
        have p4 : p < 4 := by split at hp <;> omega
        have t0 : ∀ i, i < 4 → 0 ≤ (b (17 + 4 * s + i)).toInt ∧ (b (17 + 4 * s + i)).toInt ≤ 60 := fun i hi => by
          unfold TP at zp
          have : i = 0 ∨ i = 1 ∨ i = 2 ∨ i = 3 := by omega
          rcases this with w | w | w | w <;> subst w <;> (try simp only [Nat.add_zero]) <;> omega
        have to := t0 o o4
        have tp := t0 p p4
        have so : (b (17 + 4 * s + o) - n).toInt = (b (17 + 4 * s + o)).toInt - n.toInt := i_sub rfl rfl (by omega)
        have sp : (b (17 + 4 * s + p) + n).toInt = (b (17 + 4 * s + p)).toInt + n.toInt := i_add rfl rfl (by omega)
        have vo : (b' (17 + 4 * s + o)).toInt = (b (17 + 4 * s + o)).toInt - n.toInt := by rw [q4 o o4, if_pos ⟨rfl, rfl⟩, so]
        have vp : (b' (17 + 4 * s + p)).toInt = (b (17 + 4 * s + p)).toInt + n.toInt := by rw [q4 p p4, if_neg (fun v => hop v.2.symm), if_pos ⟨rfl, rfl⟩, sp]
        have vi : ∀ i, i < 4 → ¬ i = o → ¬ i = p → b' (17 + 4 * s + i) = b (17 + 4 * s + i) := fun i hi h1 h2 => by rw [q4 i hi, if_neg (fun v => h1 v.2), if_neg (fun v => h2 v.2)]
        have hn1 := hn.1
        have hn2 : 0 ≤ (b' (17 + 4 * s + o)).toInt := by omega
        unfold TP at zp ⊢
        have v0 := vi 0 (by omega)
        have v1 := vi 1 (by omega)
        have v2 := vi 2 (by omega)
        have v3 := vi 3 (by omega)
        rw [Nat.add_zero] at v0
        have ho' : o = 0 ∨ o = 1 ∨ o = 2 ∨ o = 3 := by omega
        have hp' : p = 0 ∨ p = 1 ∨ p = 2 ∨ p = 3 := by omega
        clear x y q4 so sp to tp t0 hn ho hp
        rcases ho' with w | w | w | w <;> rcases hp' with v | v | v | v <;> subst w <;> subst v <;> first | exact absurd rfl hop | ((try simp only [Nat.add_zero] at vo vp hn2); first | (rw [v2 (by omega) (by omega), v3 (by omega) (by omega)]; omega) | (rw [v1 (by omega) (by omega), v3 (by omega) (by omega)]; omega) | (rw [v1 (by omega) (by omega), v2 (by omega) (by omega)]; omega) | (rw [v0 (by omega) (by omega), v3 (by omega) (by omega)]; omega) | (rw [v0 (by omega) (by omega), v2 (by omega) (by omega)]; omega) | (rw [v0 (by omega) (by omega), v1 (by omega) (by omega)]; omega))
      · refine (TS_sE (a := b') (b := b) (s := s) (q := s) ⟨q1, q2, fun i hi => ?_⟩ (z s h)).2
        rw [q4 i hi, if_neg (fun v => es v.1), if_neg (fun v => es v.1)]
  · rw [e0] at h
    rw [(x.2 s (by omega)).1.1, (y.2 s h).1.1]
    exact (hs s h).1
  · rw [e0] at h
    rw [(x.2 s (by omega)).1.2, (y.2 s h).1.2]
    exact (hs s h).2.1
  · rw [e0] at h
    rw [(x.2 s (by omega)).2.2 i hi, (y.2 s h).2.2 i hi, (hs s h).2.2 i hi]
  · rw [e0] at h
    exact cE_tr (x.2 s (by omega)).2.1 (cE_tr (hc s h) (cE_sy (y.2 s h).2.1))
/-! what the acts of the reference do: keep, did -/
/-- a row is put behind those kept; the 21st puts the oldest out -/
def psh (u : Nat) (f : Nat → Nat → Int32) (x : Nat → Int32) (i : Nat) : Nat → Int32 := if u = 20 then (if i < 19 then f (i + 1) else if i = 19 then x else f i) else if i = u then x else f i
def ac5 (a b c d e : Int32) (j : Nat) : Int32 := if j = 0 then a else if j = 1 then b else if j = 2 then c else if j = 3 then d else e
set_option maxRecDepth 100000 in
set_option maxHeartbeats 4000000 in
theorem v_keep {g : gT} {h0 : mh_T} {P : mh_T → Prop} (l0 l1 : Nat) (l2 l4 l5 l6 l7 l8 : Int32) (u : Nat) (eu : l2.toInt = (u : Int)) (u20 : u ≤ 20) (sl0 : shp l0 = (20, 980, [])) (sl1 : shp l1 = (20, 100, [])) (k0 : l0 ≠ 0 ∧ l0 ≠ 11 ∧ l0 ≠ 3 ∧ l0 ≠ 8) (k1 : l1 ≠ 0 ∧ l1 ≠ 11 ∧ l1 ≠ 3 ∧ l1 ≠ 8) (k45 : l0 ≠ 45 ∧ l1 ≠ 45) (k01 : l0 ≠ l1 ∧ l0 ≠ 48 ∧ l1 ≠ 48 ∧ l0 < 62 ∧ l1 < 62) (r0 : ∀ j, rgT l0 j = rgRowM (j % 49)) (r1 : ∀ j, rgT l1 j = (-2147483648, 2147483647)) (hG0 : GI h0) (hp : ∀ h', Ok [l0, l1] h0 h' → (∀ i j, i < 20 → j < 49 → h'.1 l0 (49 * i + j) = psh u (fun i j => h0.1 l0 (49 * i + j)) (h0.1 48) i j) → (∀ i j, i < 20 → j < 5 → h'.1 l1 (5 * i + j) = psh u (fun i j => h0.1 l1 (5 * i + j)) (ac5 l4 l5 l6 l7 l8) i j) → P h') : MCv g yX11_keep uX11_keep [.ref l0, .ref l1, .int l2, .ref 48, .int l4, .int l5, .int l6, .int l7, .int l8] h0 P := by
  have m0 : l0 ∈ [l0, l1] := List.mem_cons_self
  have m1 : l1 ∈ [l0, l1] := List.mem_cons_of_mem _ List.mem_cons_self
  have n48 : 48 ∉ [l0, l1] := fun z => by
    rcases List.mem_cons.mp z with y | y
    · exact k01.2.1 y.symm
    · exact k01.2.2.1 (List.mem_singleton.mp y).symm
  have nk1 : ∀ j, ¬ (l1 = 11 ∧ 24 ≤ j ∧ j ≤ 26) ∨ 301 ∈ [l0, l1] := fun j => Or.inl (fun z => k1.2.1 z.1)
  have nk0 : ∀ j, ¬ (l0 = 11 ∧ 24 ≤ j ∧ j ≤ 26) ∨ 301 ∈ [l0, l1] := fun j => Or.inl (fun z => k0.2.1 z.1)
  have w1k : ∀ {h : mh_T} (j : Nat) (v : Int32), Ok [l0, l1] h0 h → Ok [l0, l1] h0 (wI h l1 j v) := fun j v o => Ok_w o (k := l1) (j := j) (v := v) (r1 j) (R_full _) (Or.inl ⟨m1, k01.2.2.2.2⟩) (nt_c k1 (fun z => absurd z k45.2)) (nk1 j)
  have fin : ∀ (x : Int32) (q : Nat) (h : mh_T), x.toInt = (q : Int) → q < 20 → Ok [l0, l1] h0 h → (∀ i j, i < 20 → j < 49 → (if i = q then h0.1 48 j else h.1 l0 (49 * i + j)) = psh u (fun i j => h0.1 l0 (49 * i + j)) (h0.1 48) i j) → (∀ i j, i < 20 → j < 5 → (if i = q then ac5 l4 l5 l6 l7 l8 j else h.1 l1 (5 * i + j)) = psh u (fun i j => h0.1 l1 (5 * i + j)) (ac5 l4 l5 l6 l7 l8) i j) → MCv g yX11_copy uX11_copy [.ref 48, .int 0, .ref l0, .int (49 * x), .int 49] h (fun h2 => (vp_in (5 * x) 100) ∧ ((vp_in ((5 * x) + 1) 100) ∧ ((vp_in ((5 * x) + 2) 100) ∧ ((vp_in ((5 * x) + 3) 100) ∧ ((vp_in ((5 * x) + 4) 100) ∧ (P (wI (wI (wI (wI (wI h2 l1 (5 * x).toNatClampNeg l4) l1 ((5 * x) + 1).toNatClampNeg l5) l1 ((5 * x) + 2).toNatClampNeg l6) l1 ((5 * x) + 3).toNatClampNeg l7) l1 ((5 * x) + 4).toNatClampNeg l8))))))) := by
    intro x q h hq q20 ok tA tB
    have eq : (49 * x).toInt = 49 * q := by rw [Int32.toInt_mul, show (49 : Int32).toInt = 49 from by decide, bm (by omega) (by omega), hq]
    have e5 : (5 * x).toInt = ((5 * q : Nat) : Int) := by rw [Int32.toInt_mul, show (5 : Int32).toInt = 5 from by decide, bm (by omega) (by omega), hq]; omega
    have e51 := i_off e5 1 1 (by decide) (by omega)
    have e52 := i_off e5 2 2 (by decide) (by omega)
    have e53 := i_off e5 3 3 (by decide) (by omega)
    have e54 := i_off e5 4 4 (by decide) (by omega)
    have e48 : h.1 48 = h0.1 48 := OkC ok ⟨by decide, n48⟩
    refine t_copy (hq45 := fun z => absurd z k45.1) 48 49 0 l0 980 (49 * x) rfl sl0 (fun z => k01.2.1 z.symm) (by decide) 0 q (by decide) eq (by decide) (by omega) (by decide) (by omega) rr48 (fun j hj => ?_) ⟨k0.1, k0.2.1, k0.2.2.1, k0.2.2.2, k01.2.2.2.1⟩ ok.1 (fun h2 k2 cp => ?_)
    · rw [r0, show (49 * q + j) % 49 = j by omega]
    · have o2 : Ok [l0, l1] h0 h2 := Ok_tr ok k2 (fun y z => by rw [List.mem_singleton.mp z]; exact m0)
      have c1 : h2.1 l1 = h.1 l1 := OkC k2 ⟨k01.2.2.2.2, fun z => k01.1 (List.mem_singleton.mp z).symm⟩
      rw [i_nat e5, i_nat e51, i_nat e52, i_nat e53, i_nat e54]
      refine ⟨i_vp e5 (by omega), i_vp e51 (by omega), i_vp e52 (by omega), i_vp e53 (by omega), i_vp e54 (by omega), hp _ (w1k _ _ (w1k _ _ (w1k _ _ (w1k _ _ (w1k _ _ o2))))) (fun i j hi hj => ?_) (fun i j hi hj => ?_)⟩
      · rw [wI_o k01.1, wI_o k01.1, wI_o k01.1, wI_o k01.1, wI_o k01.1, ← tA i j hi hj]
        by_cases e : i = q
        · rw [if_pos e, e, cp.1 j hj, e48, Nat.mul_zero, Nat.zero_add]
        · rw [if_neg e]
          exact cp.2 _ (by omega)
      · rw [← tB i j hi hj, wI_i, wI_i, wI_i, wI_i, wI_i, c1]
        by_cases e : i = q
        · rw [if_pos e]
          subst e
          unfold ac5
          have : j = 0 ∨ j = 1 ∨ j = 2 ∨ j = 3 ∨ j = 4 := by omega
          rcases this with z | z | z | z | z <;> subst z
          · rw [if_neg (by omega), if_neg (by omega), if_neg (by omega), if_neg (by omega), if_pos (by omega), if_pos rfl]
          · rw [if_neg (by omega), if_neg (by omega), if_neg (by omega), if_pos (by omega), if_neg (by omega), if_pos rfl]
          · rw [if_neg (by omega), if_neg (by omega), if_pos (by omega), if_neg (by omega), if_neg (by omega), if_pos rfl]
          · rw [if_neg (by omega), if_pos (by omega), if_neg (by omega), if_neg (by omega), if_neg (by omega), if_pos rfl]
          · rw [if_pos (by omega), if_neg (by omega), if_neg (by omega), if_neg (by omega), if_neg (by omega)]
        · rw [if_neg e, if_neg (by omega), if_neg (by omega), if_neg (by omega), if_neg (by omega), if_neg (by omega)]
  have z20 : (20 : Int32).toInt = 20 := by decide
  have z95 : (95 : Int32).toInt = 95 := by decide
  have z931 : (931 : Int32).toInt = 931 := by decide
  have L40 : u = 20 → ∀ (n : Nat) (l10 : Int32) (k : Nat) (h : mh_T), Ok [l0, l1] h0 h → l10.toInt = (k : Int) → k ≤ 95 → (∀ j, h.1 l0 j = if j < 931 then h0.1 l0 (j + 49) else h0.1 l0 j) → (∀ j, h.1 l1 j = if j < k then h0.1 l1 (j + 5) else h0.1 l1 j) → 95 - k < n → ME g uX11_keep 40 [.ref l0, .ref l1, .int l2, .ref 48, .int l4, .int l5, .int l6, .int l7, .int l8, .int 20, .int l10] [] h (qV P) := by
    intro hu n
    induction n with
    | zero => intro l10 k h _ _ _ _ _ hn; exact absurd hn (Nat.not_lt_zero _)
    | succ n ih =>
      intro l10 k h ok hk hk2 hf hf1 hn
      refine r_X11_keep_40 l0 980 l1 100 l2 48 49 l4 l5 l6 l7 l8 20 l10 sl0 sl1 rfl ⟨fun c => ?_, fun c => ?_⟩
      · have c := le_ti c
        have : k = 95 := by omega
        subst this
        refine fin (20 + (-1)) 19 h (by decide) (by decide) ok (fun i j hi hj => ?_) (fun i j hi hj => ?_)
        · unfold psh
          rw [if_pos hu]
          by_cases e : i = 19
          · rw [if_pos e, if_neg (by omega), if_pos e]
          · rw [if_neg e, if_pos (by omega), hf, if_pos (by omega), show 49 * i + j + 49 = 49 * (i + 1) + j by omega]
        · unfold psh
          rw [if_pos hu]
          by_cases e : i = 19
          · rw [if_pos e, if_neg (by omega), if_pos e]
          · rw [if_neg e, if_pos (by omega), hf1, if_pos (by omega), show 5 * i + j + 5 = 5 * (i + 1) + j by omega]
      · have c := lt_ti (nle c)
        have s1 : (l10 + 5).toInt = ((k + 5 : Nat) : Int) := by rw [i_add hk (show (5 : Int32).toInt = 5 from by decide) (by omega)]; omega
        refine ⟨i_vp s1 (by omega), i_vp hk (by omega), ?_⟩
        rw [i_nat s1, i_nat hk]
        refine ih (l10 + 1) (k + 1) _ (w1k _ _ ok) (i_inc hk (by omega)) (by omega) (fun j => ?_) (fun j => ?_) (by omega)
        · rw [wI_o k01.1]
          exact hf j
        · rw [wI_i]
          by_cases e : j = k
          · rw [if_pos e, if_pos (by omega), e]
            show h.1 l1 (k + 5) = _
            rw [hf1, if_neg (by omega)]
          · rw [if_neg e, hf1]
            by_cases e2 : j < k
            · rw [if_pos e2, if_pos (by omega)]
            · rw [if_neg e2, if_neg (by omega)]
  have L12 : u = 20 → ∀ (n : Nat) (l10 : Int32) (k : Nat) (h : mh_T), Ok [l0, l1] h0 h → l10.toInt = (k : Int) → k ≤ 931 → (∀ j, h.1 l0 j = if j < k then h0.1 l0 (j + 49) else h0.1 l0 j) → h.1 l1 = h0.1 l1 → 931 - k < n → ME g uX11_keep 12 [.ref l0, .ref l1, .int l2, .ref 48, .int l4, .int l5, .int l6, .int l7, .int l8, .int 20, .int l10] [] h (qV P) := by
    intro hu n
    induction n with
    | zero => intro l10 k h _ _ _ _ _ hn; exact absurd hn (Nat.not_lt_zero _)
    | succ n ih =>
      intro l10 k h ok hk hk2 hf hl1 hn
      refine r_X11_keep_12 l0 980 l1 100 l2 48 49 l4 l5 l6 l7 l8 20 l10 sl0 sl1 rfl ⟨fun c => ?_, fun c => ?_⟩
      · have c := le_ti c
        have : k = 931 := by omega
        subst this
        exact L40 hu 96 0 0 h ok (by decide) (Nat.zero_le _) hf (fun j => by rw [if_neg (Nat.not_lt_zero _), hl1]) (by omega)
      · have c := lt_ti (nle c)
        have s1 : (l10 + 49).toInt = ((k + 49 : Nat) : Int) := by rw [i_add hk (show (49 : Int32).toInt = 49 from by decide) (by omega)]; omega
        have fv : R (rgRowM (k % 49)).1 (rgRowM (k % 49)).2 (mI h l0 (k + 49)) := by
          have := ok.1.1 l0 (k + 49)
          rw [r0, show (k + 49) % 49 = k % 49 by omega] at this
          exact this
        refine ⟨i_vp s1 (by omega), i_vp hk (by omega), ?_⟩
        rw [i_nat s1, i_nat hk]
        refine ih (l10 + 1) (k + 1) _ (Ok_w ok (k := l0) (j := k) (v := mI h l0 (k + 49)) (r0 _) fv (Or.inl ⟨m0, k01.2.2.2.1⟩) (nt_c k0 (fun z => absurd z k45.1)) (nk0 k)) (i_inc hk (by omega)) (by omega) (fun j => ?_) ?_ (by omega)
        · rw [wI_i]
          by_cases e : j = k
          · rw [if_pos e, if_pos (by omega), e]
            show h.1 l0 (k + 49) = _
            rw [hf, if_neg (by omega)]
          · rw [if_neg e, hf]
            by_cases e2 : j < k
            · rw [if_pos e2, if_pos (by omega)]
            · rw [if_neg e2, if_neg (by omega)]
        · rw [wI_o (fun z => k01.1 z.symm)]
          exact hl1
  refine e_X11_keep l0 980 l1 100 l2 48 49 l4 l5 l6 l7 l8 sl0 sl1 rfl ⟨fun c => ?_, fun c => ?_⟩
  · have n2 : u ≠ 20 := fun z => c (Int32.toInt_inj.mp (by rw [eu, z, z20]; rfl))
    refine fin l2 u h0 eu (by omega) (Ok_rf hG0) (fun i j hi hj => ?_) (fun i j hi hj => ?_)
    · unfold psh
      rw [if_neg n2]
      by_cases e : i = u
      · rw [if_pos e, if_pos e]
      · rw [if_neg e, if_neg e]
    · unfold psh
      rw [if_neg n2]
      by_cases e : i = u
      · rw [if_pos e, if_pos e]
      · rw [if_neg e, if_neg e]
  · subst c
    have hu : u = 20 := by omega
    exact L12 hu 932 0 0 h0 (Ok_rf hG0) (by decide) (Nat.zero_le _) (fun j => by rw [if_neg (Nat.not_lt_zero _)]) rfl (by omega)
/-- the kept rows keep their numbers -/
theorem TQs_psh {f f' : Nat → Int32} {x : Nat → Int32} {u : Nat} (t : TQs f) (tx : TQ x 0) (h : ∀ i j, i < 20 → j < 49 → f' (49 * i + j) = psh u (fun i j => f (49 * i + j)) x i j) : TQs f' := by
  intro p hp
  by_cases hu : u = 20
  · by_cases e : p < 19
    · refine TQ_cp (t (p + 1) (by omega)) (fun j hj => ?_)
      rw [h p j hp hj]
      unfold psh
      rw [if_pos hu, if_pos e]
    · refine TQ_cp tx (fun j hj => ?_)
      rw [h p j hp hj, Nat.zero_add]
      unfold psh
      rw [if_pos hu, if_neg e, if_pos (by omega)]
  · by_cases e : p = u
    · refine TQ_cp tx (fun j hj => ?_)
      rw [h p j hp hj, Nat.zero_add]
      unfold psh
      rw [if_neg hu, if_pos e]
    · refine TQ_cp (t p hp) (fun j hj => ?_)
      rw [h p j hp hj]
      unfold psh
      rw [if_neg hu, if_neg e]
/-- did: the table as it was is kept, with the act -/
def DD (u : Nat) (a : Nat → Int32) (h h' : mh_T) : Prop := (mI h' 11 24).toInt = (if u = 20 then 20 else (u : Int) + 1) ∧ mI h' 11 25 = 0 ∧ mI h' 11 26 = mI h 11 26 ∧ (∀ i j, i < 20 → j < 49 → h'.1 49 (49 * i + j) = psh u (fun i j => h.1 49 (49 * i + j)) (h.1 48) i j) ∧ (∀ i j, i < 20 → j < 5 → h'.1 52 (5 * i + j) = psh u (fun i j => h.1 52 (5 * i + j)) a i j)
theorem v_did {g : gT} {h : mh_T} {P : Int32 → mh_T → Prop} (l1 l2 l3 l4 l5 : Int32) (u : Nat) (eu : (mI h 11 24).toInt = (u : Int)) (hG : GI h) (t : TVs h) (hp : ∀ h', Ok [301, 11, 49, 52] h h' → (∀ j, j < 24 → mI h' 11 j = mI h 11 j) → TVs h' → DD u (ac5 l1 l2 l3 l4 l5) h h' → P 1 h') : MCi g yX11_did uX11_did [.ref 11, .int l1, .int l2, .int l3, .int l4, .int l5] h P := by
  have f24 : R 0 20 (mI h 11 24) := GI_rd hG 11 24 rfl
  have u20 : u ≤ 20 := by have := f24.2; omega
  refine e_X11_did l1 l2 l3 l4 l5 (v_keep 49 52 _ l1 l2 l3 l4 l5 u eu u20 rfl rfl (by decide) (by decide) (by decide) (by decide) (fun _ => rfl) (fun _ => rfl) hG (fun h1 k1 hr ha => ?_))
  have e11 : ∀ j, mI h1 11 j = mI h 11 j := fun j => congrFun (OkC k1 (k := 11) (by decide)) j
  have t1 : TVs h1 := by
    have e45 := OkC k1 (k := 45) (by decide)
    refine ⟨?_, ?_, TQs_psh t.2.2.1 t.2.1 hr, ?_, ?_, ?_⟩
    · rw [e45]; exact t.1
    · rw [OkC k1 (k := 48) (by decide)]; exact t.2.1
    · rw [OkC k1 (k := 50) (by decide)]; exact t.2.2.2.1
    · rw [OkC k1 (k := 51) (by decide)]; exact t.2.2.2.2.1
    · rw [e45]; exact t.2.2.2.2.2
  have o1 : Ok [301, 11, 49, 52] h h1 := Ok_mono k1 (by decide)
  have fin : ∀ v : Int32, R 0 20 v → v.toInt = (if u = 20 then 20 else (u : Int) + 1) → P 1 (wI (wI h1 11 24 v) 11 25 0) := fun v fv ev => by
    refine hp _ (Ok_w (Ok_w o1 (k := 11) (j := 24) (v := v) (lo := 0) (hi := 20) rfl fv (by decide) (by decide)) (k := 11) (j := 25) (v := 0) (lo := 0) (hi := 20) rfl ⟨by decide, by decide⟩ (by decide) (by decide)) (fun j hj => ?_) (TVs_11 (TVs_11 t1)) ⟨?_, ?_, ?_, fun i j hi hj => ?_, fun i j hi hj => ?_⟩
    · rw [mI_wI, if_neg (by omega), mI_wI, if_neg (by omega)]; exact e11 j
    · rw [mI_wI, if_neg (by decide), mI_wI, if_pos ⟨rfl, rfl⟩]; exact ev
    · rw [mI_wI, if_pos ⟨rfl, rfl⟩]
    · rw [mI_wI, if_neg (by decide), mI_wI, if_neg (by decide)]; exact e11 26
    · rw [wI_o (by decide), wI_o (by decide)]; exact hr i j hi hj
    · rw [wI_o (by decide), wI_o (by decide)]; exact ha i j hi hj
  rw [e11 24]
  refine ⟨fun ne => ?_, fun e => ?_⟩
  · have n20 : ¬ u = 20 := fun z => ne (Int32.toInt_inj.mp (by rw [eu, z]; rfl))
    have e1 : (mI h 11 24 + 1).toInt = (u : Int) + 1 := by rw [i_inc eu (by omega)]; omega
    refine fin _ ⟨by omega, by omega⟩ ?_
    rw [if_neg n20, e1]
  · have n20 : u = 20 := by rw [e] at eu; have : (20 : Int32).toInt = 20 := by decide
                            omega
    exact fin 20 ⟨by decide, by decide⟩ (by rw [if_pos n20]; rfl)
/-! the acts of the reference: what is there, flip -/
/-- without a book nothing is there -/
def NB (h : mh_T) : Prop := mI h 11 14 = 0 → mI h 45 50 = 0 ∧ mI h 45 0 = 0 ∧ mI h 11 24 = 0 ∧ mI h 11 25 = 0 ∧ mI h 11 26 = 0
def LKb (h : mh_T) (l : Int32) : Prop := 0 ≤ l.toInt ∧ l.toInt < (mI h 45 50).toInt
def SEb (a : Nat → Int32) (l : Int32) : Prop := 0 ≤ l.toInt ∧ l.toInt < (a 0).toInt
def ocs (a : Nat → Int32) (s : Nat) : Nat := if a (9 + s) = -2 then 2 else 4
def OCb (a : Nat → Int32) (l o : Int32) : Prop := SEb a l ∧ 0 ≤ o.toInt ∧ o.toInt < (ocs a l.toInt.toNat : Int)
theorem ti_sub1 {x : Int32} {hi : Int} (f : R 0 hi x) (hh : hi ≤ 2147483647) : (x - 1).toInt = x.toInt - 1 := by
  have := f.1
  have := f.2
  exact i_sub (x := x) (y := 1) rfl (show (1 : Int32).toInt = 1 from by decide) (by omega)
theorem v_isLook {g : gT} {h : mh_T} {P : Int32 → mh_T → Prop} (l : Int32) (hG : GI h) (hB : NB h) (h1 : LKb h l → P 1 h) (h0 : ¬ LKb h l → P 0 h) : MCi g yX11_isLook uX11_isLook [.ref 11, .int l] h P := by
  have f50 : R 0 6 (mI h 45 50) := GI_rd hG 45 50 rfl
  have e := ti_sub1 f50 (by decide)
  refine e_X11_isLook l ⟨fun z => h0 (fun y => ?_), fun _ => b_within l 0 _ (fun q => ⟨fun z => absurd z (by decide), fun _ => h1 ?_⟩) (fun q => ⟨fun _ => h0 (fun y => q ?_), fun z => absurd rfl z⟩)⟩
  · have := (hB z).1
    unfold LKb at y
    rw [this, i_0] at y
    omega
  · rw [i_le, i_le, i_0, show Int32.toNatClampNeg 50 = 50 from by decide, e] at q
    exact ⟨q.1, by omega⟩
  · rw [i_le, i_le, i_0, show Int32.toNatClampNeg 50 = 50 from by decide, e]
    exact ⟨y.1, by have := y.2; omega⟩
theorem v_isSet {g : gT} {h : mh_T} {P : Int32 → mh_T → Prop} (l : Int32) (hG : GI h) (hB : NB h) (h1 : SEb (h.1 45) l → P 1 h) (h0 : ¬ SEb (h.1 45) l → P 0 h) : MCi g yX11_isSet uX11_isSet [.ref 11, .int l] h P := by
  have f0 : R 0 8 (mI h 45 0) := GI_rd hG 45 0 rfl
  have e := ti_sub1 f0 (by decide)
  have e' : (mI h 45 0).toInt = (h.1 45 0).toInt := rfl
  refine e_X11_isSet l ⟨fun z => h0 (fun y => ?_), fun _ => b_within l 0 _ (fun q => ⟨fun z => absurd z (by decide), fun _ => h1 ?_⟩) (fun q => ⟨fun _ => h0 (fun y => q ?_), fun z => absurd rfl z⟩)⟩
  · have z0 := (hB z).2.1
    unfold SEb at y
    rw [← e', z0, i_0] at y
    omega
  · rw [i_le, i_le, i_0, show Int32.toNatClampNeg 0 = 0 from by decide, e] at q
    exact ⟨q.1, by omega⟩
  · rw [i_le, i_le, i_0, show Int32.toNatClampNeg 0 = 0 from by decide, e]
    exact ⟨y.1, by have := y.2; omega⟩
theorem i_9 {l : Int32} {s : Nat} (h : l.toInt = (s : Int)) (hs : s < 8) : (9 + l).toInt = ((9 + s : Nat) : Int) := by rw [i_add (show (9 : Int32).toInt = 9 from by decide) h (by omega)]; omega
theorem i_1s {l : Int32} {s : Nat} (h : l.toInt = (s : Int)) (hs : s < 8) : (1 + l).toInt = ((1 + s : Nat) : Int) := by rw [i_add (show (1 : Int32).toInt = 1 from by decide) h (by omega)]; omega
theorem v_outcomes {g : gT} {h : mh_T} {P : Int32 → mh_T → Prop} (l : Int32) (s : Nat) (es : l.toInt = (s : Int)) (hs : s < 8) (h1 : ∀ v : Int32, v.toInt = (ocs (h.1 45) s : Int) → P v h) : MCi g yX11_outcomes uX11_outcomes [.ref 45, .int l] h P := by
  have j9 := i_9 es hs
  refine e_X11_outcomes l ⟨i_vp j9 (by omega), ?_⟩
  rw [i_nat j9]
  refine ⟨fun z => h1 4 ?_, fun z => h1 2 ?_⟩
  · have z : ¬ h.1 45 (9 + s) = -2 := z
    unfold ocs
    rw [if_neg z]
    rfl
  · have z : h.1 45 (9 + s) = -2 := z
    unfold ocs
    rw [if_pos z]
    rfl
theorem v_isOutcome {g : gT} {h : mh_T} {P : Int32 → mh_T → Prop} (l o : Int32) (hG : GI h) (hB : NB h) (h1 : OCb (h.1 45) l o → P 1 h) (h0 : ¬ OCb (h.1 45) l o → P 0 h) : MCi g yX11_isOutcome uX11_isOutcome [.ref 11, .int l, .int o] h P := by
  have f0 : R 0 8 (mI h 45 0) := GI_rd hG 45 0 rfl
  have f02 : (h.1 45 0).toInt ≤ 8 := f0.2
  refine e_X11_isOutcome l o (v_isSet l hG hB (fun q => ⟨fun z => absurd z (by decide), fun _ => ?_⟩) (fun q => ⟨fun _ => h0 (fun y => q y.1), fun z => absurd rfl z⟩))
  obtain ⟨s, es⟩ : ∃ s : Nat, l.toInt = (s : Int) := ⟨l.toInt.toNat, by have := q.1; omega⟩
  have s8 : s < 8 := by have := q.2; omega
  refine v_outcomes l s es s8 (fun v ev => ?_)
  have en : l.toInt.toNat = s := by omega
  have vb : R 0 4 v := by
    refine ⟨by omega, ?_⟩
    rw [ev]
    unfold ocs
    split <;> decide
  have e := ti_sub1 vb (by decide)
  refine b_within o 0 _ (fun y => ⟨fun z => absurd z (by decide), fun _ => h1 ⟨q, ?_⟩⟩) (fun y => ⟨fun _ => h0 (fun w => y ?_), fun z => absurd rfl z⟩)
  · rw [i_le, i_le, i_0, e, ev] at y
    rw [en]
    exact ⟨y.1, by omega⟩
  · have w2 := w.2
    rw [en] at w2
    rw [i_le, i_le, i_0, e, ev]
    exact ⟨w2.1, by omega⟩
/-- what good and a refusal leave -/
theorem v_good {g : gT} {h : mh_T} {P : mh_T → Prop} (hG : GI h) (hp : ∀ h', Ok [300, 11] h h' → P h') : MCv g yX11_good uX11_good [.ref 11] h P := s_X11_good hG (fun h' k _ => hp h' (Ok_mono k (by decide)))
theorem NB_ok {ms : List Nat} {h h' : mh_T} (ok : Ok ms h h') (hm : 301 ∉ ms ∧ 45 ∉ ms) (b : NB h) : NB h' := by
  have e45 := OkC ok (k := 45) ⟨by decide, hm.2⟩
  have e24 := Ok_24 ok hm.1
  intro z
  have z' : mI h 11 14 = 0 := by rw [← ok.2.2.2.2.1 11 14 (by decide)]; exact z
  obtain ⟨b1, b2, b3, b4, b5⟩ := b z'
  refine ⟨?_, ?_, ?_, ?_, ?_⟩
  · show h'.1 45 50 = 0
    rw [e45]; exact b1
  · show h'.1 45 0 = 0
    rw [e45]; exact b2
  · rw [e24 24 (by decide) (by decide)]; exact b3
  · rw [e24 25 (by decide) (by decide)]; exact b4
  · rw [e24 26 (by decide) (by decide)]; exact b5
/-- an act of the reference that is done -/
def HD (u : Nat) (a : Nat → Int32) (h h' : mh_T) : Prop := (mI h' 11 24).toInt = (if u = 20 then 20 else (u : Int) + 1) ∧ mI h' 11 25 = 0 ∧ mI h' 11 26 = mI h 11 26 ∧ (∀ i j, i < 20 → j < 49 → h'.1 49 (49 * i + j) = psh u (fun i j => h.1 49 (49 * i + j)) (h.1 45) i j) ∧ (∀ i j, i < 20 → j < 5 → h'.1 52 (5 * i + j) = psh u (fun i j => h.1 52 (5 * i + j)) a i j)
abbrev msR : List Nat := [301, 300, 11, 45, 47, 48, 49, 52]
theorem psh_cg {u : Nat} {f f' : Nat → Nat → Int32} {x x' : Nat → Int32} {n i j : Nat} (hf : ∀ i j, j < n → f i j = f' i j) (hx : ∀ j, j < n → x j = x' j) (hj : j < n) : psh u f x i j = psh u f' x' i j := by
  unfold psh
  repeat' split
  all_goals first | exact hf _ _ hj | exact hx _ hj
theorem HD_of {u : Nat} {a : Nat → Int32} {h h3 h' : mh_T} (d : DD u a h3 h') (e26 : mI h3 11 26 = mI h 11 26) (e48 : ∀ j, j < 49 → h3.1 48 j = h.1 45 j) (e49 : h3.1 49 = h.1 49) (e52 : h3.1 52 = h.1 52) : HD u a h h' := by
  obtain ⟨d1, d2, d3, d4, d5⟩ := d
  refine ⟨d1, d2, d3.trans e26, fun i j hi hj => ?_, fun i j hi hj => ?_⟩
  · rw [d4 i j hi hj]
    exact psh_cg (fun i j _ => by rw [e49]) e48 hj
  · rw [d5 i j hi hj, e52]
-- flip
/-- the sets below s are turned -/
def FP (L : Int32) (s : Nat) (a0 c0 a c : Nat → Int32) : Prop := (∀ j, j < 17 → a j = a0 j) ∧ ∀ s' o, s' < 8 → o < 4 → a (17 + 4 * s' + o) = a0 (17 + 4 * s' + (if s' < s then pm a0 L s' o else o)) ∧ c (4 * s' + o) = c0 (4 * s' + (if s' < s then pm a0 L s' o else o))
theorem FP_0 (L : Int32) (a c : Nat → Int32) : FP L 0 a c a c := ⟨fun _ _ => rfl, fun s' o _ _ => by rw [if_neg (Nat.not_lt_zero _)]; exact ⟨rfl, rfl⟩⟩
theorem FP_e {L : Int32} {s : Nat} {a0 c0 a c : Nat → Int32} (h8 : sn a0 ≤ 8) (hs : sn a0 ≤ s) (f : FP L s a0 c0 a c) : flp L a0 c0 a c := by
  refine ⟨f.1 0 (by omega), fun s' h => ⟨⟨f.1 _ (by omega), f.1 _ (by omega)⟩, fun o ho => ?_⟩⟩
  have := f.2 s' o (by omega) ho
  rw [if_pos (by omega)] at this
  exact this
theorem FP_s {L : Int32} {s : Nat} {a0 c0 a c a' c' : Nat → Int32} (hs : s < 8) (f : FP L s a0 c0 a c) (ha : ∀ j, ¬ (17 + 4 * s ≤ j ∧ j < 17 + 4 * s + 4) → a' j = a j) (hc : ∀ j, ¬ (4 * s ≤ j ∧ j < 4 * s + 4) → c' j = c j) (hx : ∀ o, o < 4 → a' (17 + 4 * s + o) = a (17 + 4 * s + pm a0 L s o) ∧ c' (4 * s + o) = c (4 * s + pm a0 L s o)) : FP L (s + 1) a0 c0 a' c' := by
  refine ⟨fun j hj => (ha j (by omega)).trans (f.1 j hj), fun s' o h8 ho => ?_⟩
  by_cases e : s' = s
  · subst e
    rw [if_pos (by omega), (hx o ho).1, (hx o ho).2]
    have := f.2 s' (pm a0 L s' o) h8 (pm_lt ho)
    rw [if_neg (Nat.lt_irrefl _)] at this
    exact this
  · rw [ha _ (by omega), hc _ (by omega)]
    have := f.2 s' o h8 ho
    by_cases q : s' < s
    · rw [if_pos q] at this
      rw [if_pos (by omega)]
      exact this
    · rw [if_neg q] at this
      rw [if_neg (by omega)]
      exact this
theorem FP_n {L : Int32} {s : Nat} {a0 c0 a c : Nat → Int32} (hs : s < 8) (f : FP L s a0 c0 a c) (hx : ∀ o, o < 4 → pm a0 L s o = o) : FP L (s + 1) a0 c0 a c := FP_s hs f (fun _ _ => rfl) (fun _ _ => rfl) (fun o ho => by rw [hx o ho]; exact ⟨rfl, rfl⟩)
def xb (b i : Nat) : Nat := if b = 1 then (if i = 0 then 1 else if i = 1 then 0 else if i = 2 then 3 else 2) else (if i < 2 then i + 2 else i - 2)
def xq (b o i : Nat) : Nat := if i < o ∨ xb b i < o then xb b i else i
theorem xb_all : ∀ b : Nat, b < 3 → ∀ i, i < 4 → xb b i < 4 ∧ xb b (xb b i) = i ∧ ¬ xb b i = i := by decide
theorem x4_all : ∀ b : Nat, b < 3 → 0 < b → ∀ i, i < 4 → (Int32.ofNat i ^^^ Int32.ofNat b).toInt = (xb b i : Int) := by decide
/-- a set is turned up to outcome o -/
def IV (b o s : Nat) (a0 c0 a c : Nat → Int32) : Prop := (∀ j, ¬ (17 + 4 * s ≤ j ∧ j < 17 + 4 * s + 4) → a j = a0 j) ∧ (∀ j, ¬ (4 * s ≤ j ∧ j < 4 * s + 4) → c j = c0 j) ∧ ∀ i, i < 4 → a (17 + 4 * s + i) = a0 (17 + 4 * s + xq b o i) ∧ c (4 * s + i) = c0 (4 * s + xq b o i)
theorem IV_0 (b s : Nat) (a c : Nat → Int32) : IV b 0 s a c a c := ⟨fun _ _ => rfl, fun _ _ => rfl, fun i _ => by unfold xq; rw [if_neg (by omega)]; exact ⟨rfl, rfl⟩⟩
theorem xq_skip : ∀ b : Nat, b < 3 → ∀ o, o < 4 → xb b o < o → ∀ i, i < 4 → xq b (o + 1) i = xq b o i := by decide
theorem xq_o : ∀ b : Nat, b < 3 → ∀ o, o < 4 → ¬ xb b o < o → xq b (o + 1) o = xq b o (xb b o) ∧ xq b (o + 1) (xb b o) = xq b o o := by decide
theorem xq_n : ∀ b : Nat, b < 3 → ∀ o, o < 4 → ∀ i, i < 4 → (¬ xb b o < o ∧ ¬ i = o ∧ ¬ i = xb b o) → xq b (o + 1) i = xq b o i := by decide
theorem IV_skip {b o s : Nat} {a0 c0 a c : Nat → Int32} (hb : b < 3) (ho : o < 4) (hx : xb b o < o) (v : IV b o s a0 c0 a c) : IV b (o + 1) s a0 c0 a c := ⟨v.1, v.2.1, fun i hi => by rw [xq_skip b hb o ho hx i hi]; exact v.2.2 i hi⟩
theorem IV_swap {b o s : Nat} {a0 c0 a c a' c' : Nat → Int32} (hb : b < 3) (ho : o < 4) (hx : ¬ xb b o < o) (v : IV b o s a0 c0 a c) (ha : ∀ j, a' j = if j = 17 + 4 * s + xb b o then a (17 + 4 * s + o) else if j = 17 + 4 * s + o then a (17 + 4 * s + xb b o) else a j) (hc : ∀ j, c' j = if j = 4 * s + xb b o then c (4 * s + o) else if j = 4 * s + o then c (4 * s + xb b o) else c j) : IV b (o + 1) s a0 c0 a' c' := by
  obtain ⟨p4, pp, pn⟩ := xb_all b hb o ho
  refine ⟨fun j hj => ?_, fun j hj => ?_, fun i hi => ?_⟩
  · rw [ha, if_neg (by omega), if_neg (by omega)]
    exact v.1 j hj
  · rw [hc, if_neg (by omega), if_neg (by omega)]
    exact v.2.1 j hj
  · rw [ha, hc]
    by_cases e1 : i = xb b o
    · rw [if_pos (by omega), if_pos (by omega), e1, (xq_o b hb o ho hx).2]
      exact v.2.2 o ho
    · by_cases e2 : i = o
      · rw [if_neg (by omega), if_pos (by omega), if_neg (by omega), if_pos (by omega), e2, (xq_o b hb o ho hx).1]
        exact v.2.2 _ p4
      · rw [if_neg (by omega), if_neg (by omega), if_neg (by omega), if_neg (by omega), xq_n b hb o ho i hi ⟨hx, e2, e1⟩]
        exact v.2.2 i hi
theorem xq_e4 : ∀ b : Nat, b < 3 → ∀ i, i < 4 → xq b 4 i = xb b i := by decide
theorem xq_e2 : ∀ i, i < 4 → xq 1 2 i = if i = 0 then 1 else if i = 1 then 0 else i := by decide
/-- a set whose outcomes change places keeps its numbers -/
theorem tq_pm {f g : Nat → Int32} {s : Nat} {q : Nat → Nat} (t : tq f 0 s) (hq : (q 0 = 1 ∧ q 1 = 0 ∧ q 2 = 2 ∧ q 3 = 3) ∨ (q 0 = 1 ∧ q 1 = 0 ∧ q 2 = 3 ∧ q 3 = 2) ∨ (q 0 = 2 ∧ q 1 = 3 ∧ q 2 = 0 ∧ q 3 = 1)) (h : ∀ i, i < 4 → g (17 + 4 * s + i) = f (17 + 4 * s + q i)) : tq g 0 s := by
  have t := tq_g t
  have e0 := h 0 (by omega)
  have e1 := h 1 (by omega)
  have e2 := h 2 (by omega)
  have e3 := h 3 (by omega)
  rw [Nat.add_zero] at e0
  refine tq_v rfl rfl rfl rfl ?_
  rcases hq with ⟨q0, q1, q2, q3⟩ | ⟨q0, q1, q2, q3⟩ | ⟨q0, q1, q2, q3⟩
  · rw [e0, e1, e2, e3, q0, q1, q2, q3]; simp only [Nat.add_zero]; omega
  · rw [e0, e1, e2, e3, q0, q1, q2, q3]; simp only [Nat.add_zero]; omega
  · rw [e0, e1, e2, e3, q0, q1, q2, q3]; simp only [Nat.add_zero]; omega
theorem i_ofN {x : Int32} {n : Nat} (h : x.toInt = (n : Int)) (hn : n < 2147483648) : x = Int32.ofNat n := Int32.toInt_inj.mp (by rw [h, Int32.toInt_ofNat_of_lt hn])
set_option maxRecDepth 100000 in
set_option maxHeartbeats 4000000 in
theorem v_flip_I {g : gT} {hs : mh_T} {P : Int32 → mh_T → Prop} (l1 l2 l3 : Int32) (s b : Nat) (es : l2.toInt = (s : Int)) (s8 : s < 8) (eb : l3.toInt = (b : Int)) (hb : b < 3) (hb0 : 0 < b) (nx : ∀ h', Ok [45, 47] hs h' → IV b (ocs (hs.1 45) s) s (hs.1 45) (hs.1 47) (h'.1 45) (h'.1 47) → ME g uX11_flip 35 [.ref 11, .int l1, .int (l2 + 1), .retAddr 0, .retAddr 0, .retAddr 0, .retAddr 0, .retAddr 0, .retAddr 0] [] h' (qI P)) : ∀ (n : Nat) (l4 : Int32) (o : Nat) (h : mh_T), l4.toInt = (o : Int) → o ≤ ocs (hs.1 45) s → ocs (hs.1 45) s - o < n → Ok [45, 47] hs h → IV b o s (hs.1 45) (hs.1 47) (h.1 45) (h.1 47) → ME g uX11_flip 124 [.ref 11, .int l1, .int l2, .int l3, .int l4, .retAddr 0, .retAddr 0, .retAddr 0, .retAddr 0] [] h (qI P) := by
  intro n
  induction n with
  | zero => intro l4 o h _ _ hn; exact absurd hn (Nat.not_lt_zero _)
  | succ n ih =>
    intro l4 o h eo ho hn ok iv
    have oc4 : ocs (hs.1 45) s ≤ 4 := by unfold ocs; split <;> omega
    have eoc : ocs (h.1 45) s = ocs (hs.1 45) s := by unfold ocs; rw [iv.1 _ (by omega)]
    refine r_X11_flip_124 l1 l2 l3 l4 (v_outcomes l2 s es s8 (fun v ev => ⟨fun c => ?_, fun c x4 e4 => ?_⟩))
    · have c := i_le.mp c
      rw [ev, eo, eoc] at c
      have : o = ocs (hs.1 45) s := by omega
      subst this
      exact nx h ok iv
    · have c := i_lt.mp (nle c)
      rw [ev, eo, eoc] at c
      have o4 : o < 4 := by omega
      obtain ⟨p4, pp, pn⟩ := xb_all b hb o o4
      have ep : x4.toInt = (xb b o : Int) := by
        rw [e4, i_ofN eo (by omega), i_ofN eb (by omega)]
        exact x4_all b hb hb0 o o4
      refine ⟨fun c2 x6 e6 x7 e7 => ?_, fun c2 => ?_⟩
      · have c2 := i_le.mp c2
        rw [eo, ep] at c2
        have hx : ¬ xb b o < o := by omega
        have i6 : x6.toInt = ((4 * s + o : Nat) : Int) := by rw [e6, i_add (i_4s es s8) eo (by omega)]; omega
        have i7 : x7.toInt = ((4 * s + xb b o : Nat) : Int) := by rw [e7, i_add (i_4s es s8) ep (by omega)]; omega
        have j6 : (17 + x6).toInt = ((17 + 4 * s + o : Nat) : Int) := by rw [i_add (show (17 : Int32).toInt = 17 from by decide) i6 (by omega)]; omega
        have j7 : (17 + x7).toInt = ((17 + 4 * s + xb b o : Nat) : Int) := by rw [i_add (show (17 : Int32).toInt = 17 from by decide) i7 (by omega)]; omega
        have v6 : vp_in (17 + x6) 346 := i_vp j6 (by omega)
        have v7 : vp_in (17 + x7) 346 := i_vp j7 (by omega)
        have u6 : vp_in x6 32 := i_vp i6 (by omega)
        have u7 : vp_in x7 32 := i_vp i7 (by omega)
        rw [i_nat j6, i_nat j7, i_nat i6, i_nat i7]
        refine ⟨v6, fun x9 e9 => ⟨v7, v6, v7, u6, fun x14 e14 => ⟨u7, u6, u7, ih (l4 + 1) (o + 1) _ (i_inc eo (by omega)) (by omega) (by omega) ?_ (IV_swap hb o4 hx iv (fun j => ?_) (fun j => ?_))⟩⟩⟩
        · exact Ok_w (Ok_w (Ok_w (Ok_w ok (k := 45) (j := 17 + 4 * s + o) (lo := -2147483648) (hi := 2147483647) (rgg_45_0 (by omega) (by omega)) (R_full _) (by decide) (nt_c (by decide) (fun _ => by omega))) (k := 45) (j := 17 + 4 * s + xb b o) (lo := -2147483648) (hi := 2147483647) (rgg_45_0 (by omega) (by omega)) (R_full _) (by decide) (nt_c (by decide) (fun _ => by omega))) (k := 47) (rgc_47 _) (R_full _) (by decide) (nt_k (by decide))) (k := 47) (rgc_47 _) (R_full _) (by decide) (nt_k (by decide))
        · rw [wI_o (by decide), wI_o (by decide), wI_i, wI_i, e9]
          rfl
        · have q14 : x14 = h.1 47 (4 * s + o) := by rw [e14]; show (wI (wI h 45 _ _) 45 _ _).1 47 _ = _; rw [wI_o (by decide), wI_o (by decide)]
          rw [wI_i, wI_i, wI_o (by decide), wI_o (by decide), q14]
          rfl
      · have c2 := i_lt.mp (nle c2)
        rw [eo, ep] at c2
        exact ih (l4 + 1) (o + 1) h (i_inc eo (by omega)) (by omega) (by omega) ok (IV_skip hb o4 (by omega) iv)
theorem pm_1 {a : Nat → Int32} {L : Int32} {s o : Nat} (h9 : a (9 + s) = -2) (h1 : a (1 + s) = L) (ho : o < 4) : pm a L s o = xq 1 2 o := by
  unfold pm
  rw [h9, if_pos (by decide), if_pos h1, xq_e2 o ho]
theorem pm_2 {a : Nat → Int32} {L : Int32} {s o : Nat} (h9 : 0 ≤ (a (9 + s)).toInt) (h1 : a (1 + s) = L) (ho : o < 4) : pm a L s o = xq 2 4 o := by
  unfold pm
  rw [if_neg (by omega), if_pos h1, xq_e4 2 (by decide) o ho]
  unfold xb
  rw [if_neg (show ¬ (2 = 1) by decide)]
theorem pm_3 {a : Nat → Int32} {L : Int32} {s o : Nat} (h9 : 0 ≤ (a (9 + s)).toInt) (h1 : ¬ a (1 + s) = L) (h2 : a (9 + s) = L) (ho : o < 4) : pm a L s o = xq 1 4 o := by
  unfold pm
  rw [if_neg (by omega), if_neg h1, if_pos h2, xq_e4 1 (by decide) o ho]
  unfold xb
  rw [if_pos rfl]
theorem pm_n1 {a : Nat → Int32} {L : Int32} {s o : Nat} (h9 : a (9 + s) = -2) (h1 : ¬ a (1 + s) = L) : pm a L s o = o := by
  unfold pm
  rw [h9, if_pos (by decide), if_neg h1]
theorem pm_n2 {a : Nat → Int32} {L : Int32} {s o : Nat} (h9 : 0 ≤ (a (9 + s)).toInt) (h1 : ¬ a (1 + s) = L) (h2 : ¬ a (9 + s) = L) : pm a L s o = o := by
  unfold pm
  rw [if_neg (by omega), if_neg h1, if_neg h2]
set_option maxRecDepth 100000 in
set_option maxHeartbeats 4000000 in
theorem v_flip_L {g : gT} {h0 : mh_T} {P : Int32 → mh_T → Prop} (l1 : Int32) (tz : TZ (h0.1 45)) (hp : ∀ h', Ok [45, 47] h0 h' → TQ (h'.1 45) 0 → flp l1 (h0.1 45) (h0.1 47) (h'.1 45) (h'.1 47) → MCi g yX11_did uX11_did [.ref 11, .int 0, .int l1, .int (-2), .int (-2), .int (-2)] h' (fun r3 h2 => (r3 = 0 ∨ r3 = 1) ∧ P r3 h2)) : ∀ (n : Nat) (l2 : Int32) (s : Nat) (h : mh_T), l2.toInt = (s : Int) → s ≤ sn (h0.1 45) → sn (h0.1 45) - s < n → Ok [45, 47] h0 h → TQ (h.1 45) 0 → FP l1 s (h0.1 45) (h0.1 47) (h.1 45) (h.1 47) → ME g uX11_flip 35 [.ref 11, .int l1, .int l2, .retAddr 0, .retAddr 0, .retAddr 0, .retAddr 0, .retAddr 0, .retAddr 0] [] h (qI P) := by
  intro n
  induction n with
  | zero => intro l2 s h _ _ hn; exact absurd hn (Nat.not_lt_zero _)
  | succ n ih =>
    intro l2 s h es hs hn ok t fp
    have n8 : sn (h0.1 45) ≤ 8 := by unfold sn; have := tz.2.1; omega
    have ec : (h.1 45 0).toInt = (sn (h0.1 45) : Int) := by rw [fp.1 0 (by omega)]; unfold sn; have := tz.1; omega
    refine r_X11_flip_35 l1 l2 ⟨fun c => hp h ok t (FP_e n8 ?_ fp), fun c => ?_⟩
    · have c := i_le.mp c
      rw [es] at c
      have c : (h.1 45 0).toInt ≤ (s : Int) := c
      omega
    · have c := i_lt.mp (nle c)
      rw [es] at c
      have c : (s : Int) < (h.1 45 0).toInt := c
      have s8 : s < 8 := by omega
      have sl : s < sn (h0.1 45) := by omega
      have j1 := i_1s es s8
      have j9 := i_9 es s8
      have v1 : vp_in (1 + l2) 346 := i_vp j1 (by omega)
      have v9 : vp_in (9 + l2) 346 := i_vp j9 (by omega)
      rw [i_nat j1, i_nat j9]
      have q1 : mI h 45 (1 + s) = h0.1 45 (1 + s) := fp.1 _ (by omega)
      have q9 : mI h 45 (9 + s) = h0.1 45 (9 + s) := fp.1 _ (by omega)
      rw [q1, q9]
      have nxt : ∀ h', Ok [45, 47] h h' → TQ (h'.1 45) 0 → FP l1 (s + 1) (h0.1 45) (h0.1 47) (h'.1 45) (h'.1 47) → ME g uX11_flip 35 [.ref 11, .int l1, .int (l2 + 1), .retAddr 0, .retAddr 0, .retAddr 0, .retAddr 0, .retAddr 0, .retAddr 0] [] h' (qI P) := fun h' k' t' f' => ih (l2 + 1) (s + 1) h' (i_inc es (by omega)) (by omega) (by omega) (Ok_tr ok k' (by decide)) t' f'
      have gen : ∀ (l3 : Int32) (b : Nat), l3.toInt = (b : Int) → b < 3 → 0 < b → (∀ o, o < 4 → pm (h0.1 45) l1 s o = xq b (ocs (h.1 45) s) o) → ((xq b (ocs (h.1 45) s) 0 = 1 ∧ xq b (ocs (h.1 45) s) 1 = 0 ∧ xq b (ocs (h.1 45) s) 2 = 2 ∧ xq b (ocs (h.1 45) s) 3 = 3) ∨ (xq b (ocs (h.1 45) s) 0 = 1 ∧ xq b (ocs (h.1 45) s) 1 = 0 ∧ xq b (ocs (h.1 45) s) 2 = 3 ∧ xq b (ocs (h.1 45) s) 3 = 2) ∨ (xq b (ocs (h.1 45) s) 0 = 2 ∧ xq b (ocs (h.1 45) s) 1 = 3 ∧ xq b (ocs (h.1 45) s) 2 = 0 ∧ xq b (ocs (h.1 45) s) 3 = 1)) → ME g uX11_flip 124 [.ref 11, .int l1, .int l2, .int l3, .int 0, .retAddr 0, .retAddr 0, .retAddr 0, .retAddr 0] [] h (qI P) := by
        intro l3 b eb hb hb0 hpm hq
        refine v_flip_I l1 l2 l3 s b es s8 eb hb hb0 (fun h' k' iv => nxt h' k' (TQ_i (fun s' hs' => ?_)) (FP_s s8 fp iv.1 iv.2.1 (fun o ho => ?_))) 5 0 0 h (by decide) (Nat.zero_le _) (by unfold ocs; split <;> omega) (Ok_rf ok.1) (IV_0 b s _ _)
        · by_cases e : s' = s
          · subst e
            exact tq_pm (t s' hs') hq (fun i hi => (iv.2.2 i hi).1)
          · exact tq_x (t s' hs') (fun i hi => iv.1 _ (by omega))
        · rw [hpm o ho]
          exact iv.2.2 o ho
      have o9 : h.1 45 (9 + s) = h0.1 45 (9 + s) := q9
      refine ⟨v9, fun z => ?_, fun z => ?_⟩
      · have nn : 0 ≤ (h0.1 45 (9 + s)).toInt := by
          rcases (tz.2.2 s sl).1 with w | w
          · exact absurd w.1 z
          · exact w
        have oc : ocs (h.1 45) s = 4 := by unfold ocs; rw [o9, if_neg z]
        refine ⟨v1, fun n1 => ⟨v9, fun n2 => nxt h (Ok_rf ok.1) t (FP_n s8 fp (fun o _ => pm_n2 nn n1 n2)), fun y2 => gen 1 1 (by decide) (by decide) (by decide) (fun o ho => by rw [oc]; exact pm_3 nn n1 y2 ho) (by rw [oc]; exact Or.inr (Or.inl (by decide)))⟩, fun y1 => gen 2 2 (by decide) (by decide) (by decide) (fun o ho => by rw [oc]; exact pm_2 nn y1 ho) (by rw [oc]; exact Or.inr (Or.inr (by decide)))⟩
      · have oc : ocs (h.1 45) s = 2 := by unfold ocs; rw [o9, if_pos z]
        exact ⟨v1, fun n1 => nxt h (Ok_rf ok.1) t (FP_n s8 fp (fun o _ => pm_n1 z n1)), fun y1 => gen 1 1 (by decide) (by decide) (by decide) (fun o ho => by rw [oc]; exact pm_1 z y1 ho) (by rw [oc]; exact Or.inl (by decide))⟩
/-- the table is kept aside -/
theorem v_was {g : gT} {h : mh_T} {P : mh_T → Prop} (hG : GI h) (t : TVs h) (hp : ∀ h', Ok [48] h h' → TVs h' → (∀ j, j < 49 → h'.1 48 j = h.1 45 j) → P h') : MCv g yX11_copy uX11_copy [.ref 45, .int 0, .ref 48, .int 0, .int 49] h P := by
  refine t_copy 45 346 0 48 49 0 rfl rfl (by decide) (by decide) 0 0 (by decide) (by decide) (by decide) (by decide) (by decide) (by decide) rr45 rr48 (by decide) hG (fun h' ok cp => hp h' ok ?_ (fun j hj => ?_))
  · have e45 := OkC ok (k := 45) (by decide)
    refine ⟨?_, TQ_cp t.1 cp.1, ?_, ?_, ?_, ?_⟩
    · rw [e45]; exact t.1
    · rw [OkC ok (k := 49) (by decide)]; exact t.2.2.1
    · rw [OkC ok (k := 50) (by decide)]; exact t.2.2.2.1
    · rw [OkC ok (k := 51) (by decide)]; exact t.2.2.2.2.1
    · rw [e45]; exact t.2.2.2.2.2
  · have := cp.1 j hj
    rw [Nat.mul_zero, Nat.zero_add] at this
    exact this
/-- done: from the table kept aside, over what happened to it, to the act -/
theorem v_done {g : gT} {h h1 h2 h3 : mh_T} {P : Int32 → mh_T → Prop} (l1 l2 l3 l4 l5 : Int32) (u : Nat) (eu : (mI h 11 24).toInt = (u : Int)) (o1 : Ok [300, 11] h h1) (o2 : Ok [48] h1 h2) (e48 : ∀ j, j < 49 → h2.1 48 j = h1.1 45 j) (o3 : Ok [45, 47] h2 h3) (t3 : TVs h3) (hp : ∀ h', Ok msR h h' → TVs h' → h'.1 45 = h3.1 45 → h'.1 47 = h3.1 47 → HD u (ac5 l1 l2 l3 l4 l5) h h' → P 1 h') : MCi g yX11_did uX11_did [.ref 11, .int l1, .int l2, .int l3, .int l4, .int l5] h3 (fun r h' => (r = 0 ∨ r = 1) ∧ P r h') := by
  have e24 : ∀ j, 24 ≤ j → j ≤ 26 → mI h3 11 j = mI h 11 j := fun j h1' h2' => by rw [Ok_24 o3 (by decide) j h1' h2', Ok_24 o2 (by decide) j h1' h2', Ok_24 o1 (by decide) j h1' h2']
  refine v_did l1 l2 l3 l4 l5 u (by rw [e24 24 (by decide) (by decide)]; exact eu) o3.1 t3 (fun h' k' _ t' d => ⟨Or.inr rfl, hp h' ?_ t' (OkC k' (by decide)) (OkC k' (by decide)) (HD_of d (e24 26 (by decide) (by decide)) (fun j hj => ?_) ?_ ?_)⟩)
  · exact Ok_tr (Ok_tr (Ok_tr (Ok_mono o1 (by decide)) o2 (by decide)) o3 (by decide)) k' (by decide)
  · rw [OkC o3 (k := 48) (by decide), e48 j hj, OkC o1 (k := 45) (by decide)]
  · rw [OkC o3 (k := 49) (by decide), OkC o2 (k := 49) (by decide), OkC o1 (k := 49) (by decide)]
  · rw [OkC o3 (k := 52) (by decide), OkC o2 (k := 52) (by decide), OkC o1 (k := 52) (by decide)]
theorem v_isNot {g : gT} {h h1 : mh_T} {P : Int32 → mh_T → Prop} (l : Int32) (hl : ¬ l = 4) (o1 : Ok [300, 11] h h1) (hp : ∀ h', Ok [300, 11] h h' → P 0 h') : MCi g yX11_isNot uX11_isNot [.ref 11, .int l] h1 (fun r h' => (r = 0 ∨ r = 1) ∧ P r h') := e_X11_isNot l ⟨Or.inl rfl, hp _ (Ok_w11 o1 hl (by decide))⟩
theorem TVs_4547 {h h' : mh_T} (t : TVs h) (ok : Ok [45, 47] h h') (tq : TQ (h'.1 45) 0) : TVs h' := TVs_45 t tq (OkC ok (by decide)) (OkC ok (by decide)) (OkC ok (by decide)) (OkC ok (by decide)) (ok.2.2.2.2.1 45 49 (by decide)) (ok.2.2.2.2.1 45 50 (by decide))
theorem TVs_ok {ms : List Nat} {h h' : mh_T} (t : TVs h) (ok : Ok ms h h') (hm : 45 ∉ ms ∧ 48 ∉ ms ∧ 49 ∉ ms ∧ 50 ∉ ms ∧ 51 ∉ ms) : TVs h' := by
  unfold TVs
  rw [OkC ok ⟨by decide, hm.1⟩, OkC ok ⟨by decide, hm.2.1⟩, OkC ok ⟨by decide, hm.2.2.1⟩, OkC ok ⟨by decide, hm.2.2.2.1⟩, OkC ok ⟨by decide, hm.2.2.2.2⟩]
  exact t
theorem v_X11_flip {g : gT} {h : mh_T} {P : Int32 → mh_T → Prop} (l1 : Int32) (u : Nat) (eu : (mI h 11 24).toInt = (u : Int)) (hG : GI h) (hI : TVs h) (hB : NB h) (tz : TZ (h.1 45)) (h0 : ¬ LKb h l1 → ∀ h', Ok [300, 11] h h' → P 0 h') (hp : LKb h l1 → ∀ h', Ok msR h h' → TVs h' → flp l1 (h.1 45) (h.1 47) (h'.1 45) (h'.1 47) → HD u (ac5 0 l1 (-2) (-2) (-2)) h h' → P 1 h') : MCi g yX11_flip uX11_flip [.ref 11, .int l1] h P := by
  refine e_X11_flip l1 (v_good hG (fun h1 k1 => ?_))
  have e45 : h1.1 45 = h.1 45 := OkC k1 (by decide)
  have lk : LKb h1 l1 ↔ LKb h l1 := by unfold LKb; rw [show mI h1 45 50 = mI h 45 50 from congrFun e45 50]
  refine v_isLook l1 k1.1 (NB_ok k1 (by decide) hB) (fun q => ⟨fun _ => ?_, fun z => absurd z (by decide)⟩) (fun q => ⟨fun z => absurd rfl z, fun _ => v_isNot 1 (by decide) k1 (h0 (fun y => q (lk.mpr y)))⟩)
  refine v_was k1.1 (TVs_ok hI k1 (by decide)) (fun h2 k2 t2 e48 => ?_)
  have e45' : h2.1 45 = h.1 45 := by rw [OkC k2 (k := 45) (by decide), e45]
  have e47' : h2.1 47 = h.1 47 := by rw [OkC k2 (k := 47) (by decide), OkC k1 (k := 47) (by decide)]
  refine v_flip_L l1 (by rw [e45']; exact tz) (fun h3 k3 t3 fl => v_done 0 l1 (-2) (-2) (-2) u eu k1 k2 e48 k3 (TVs_4547 t2 k3 t3) (fun h' k' t' e5 e7 hd => hp (lk.mp q) h' k' t' (by rw [e5, e7]; rw [e45', e47'] at fl; exact fl) hd)) 9 0 0 h2 (by decide) (Nat.zero_le _) ?_ (Ok_rf k2.1) t2.1 (FP_0 l1 _ _)
  have := tz.2.1
  rw [e45']
  unfold sn
  omega
/-! the class's table: turn -/
theorem tC_0 (h : mh_T) : tC h 0 = mI h 3 2 := rfl
theorem tC_1 (h : mh_T) {s : Nat} (hs : s < 8) : tC h (1 + s) = mI h 24 s := by
  unfold tC
  rw [if_neg (by omega), if_pos (by omega), show 1 + s - 1 = s by omega]
theorem tC_9 (h : mh_T) {s : Nat} (hs : s < 8) : tC h (9 + s) = mI h 25 s := by
  unfold tC
  rw [if_neg (by omega), if_neg (by omega), if_pos (by omega), show 9 + s - 9 = s by omega]
theorem tC_17 (h : mh_T) (i : Nat) : tC h (17 + i) = mI h 26 i := by
  unfold tC
  rw [if_neg (by omega), if_neg (by omega), if_neg (by omega), show 17 + i - 17 = i by omega]
theorem tC_cg {h h' : mh_T} (e3 : mI h' 3 2 = mI h 3 2) (e24 : h'.1 24 = h.1 24) (e25 : h'.1 25 = h.1 25) (e26 : h'.1 26 = h.1 26) : tC h' = tC h := by
  funext j
  unfold tC
  rw [e3, show mI h' 24 (j - 1) = mI h 24 (j - 1) from congrFun e24 _, show mI h' 25 (j - 9) = mI h 25 (j - 9) from congrFun e25 _, show mI h' 26 (j - 17) = mI h 26 (j - 17) from congrFun e26 _]
theorem tC_w26 (h : mh_T) (k j : Nat) (v : Int32) : tC (wI h 26 k v) j = if j = 17 + k then v else tC h j := by
  unfold tC
  rw [mI_wI, mI_wI, mI_wI, mI_wI]
  by_cases e0 : j = 0
  · rw [if_pos e0, if_neg (by omega), if_neg (by omega), if_pos e0]
  · rw [if_neg e0, if_neg e0]
    by_cases e9 : j < 9
    · rw [if_pos e9, if_pos e9, if_neg (by omega), if_neg (by omega)]
    · rw [if_neg e9, if_neg e9]
      by_cases e17 : j < 17
      · rw [if_pos e17, if_pos e17, if_neg (by omega), if_neg (by omega)]
      · rw [if_neg e17, if_neg e17]
        by_cases e : j = 17 + k
        · rw [if_pos ⟨rfl, by omega⟩, if_pos e]
        · rw [if_neg (by omega), if_neg e]
theorem tC_w24 (h : mh_T) (k j : Nat) (v : Int32) (hk : k < 8) : tC (wI h 24 k v) j = if j = 1 + k then v else tC h j := by
  unfold tC
  rw [mI_wI, mI_wI, mI_wI, mI_wI]
  by_cases e0 : j = 0
  · rw [if_pos e0, if_neg (by omega), if_neg (by omega), if_pos e0]
  · rw [if_neg e0, if_neg e0]
    by_cases e9 : j < 9
    · rw [if_pos e9, if_pos e9]
      by_cases e : j = 1 + k
      · rw [if_pos ⟨rfl, by omega⟩, if_pos e]
      · rw [if_neg (by omega), if_neg e]
    · rw [if_neg e9, if_neg e9]
      by_cases e17 : j < 17
      · rw [if_pos e17, if_pos e17, if_neg (by omega), if_neg (by omega)]
      · rw [if_neg e17, if_neg e17, if_neg (by omega), if_neg (by omega)]
theorem tC_w25 (h : mh_T) (k j : Nat) (v : Int32) (hk : k < 8) : tC (wI h 25 k v) j = if j = 9 + k then v else tC h j := by
  unfold tC
  rw [mI_wI, mI_wI, mI_wI, mI_wI]
  by_cases e0 : j = 0
  · rw [if_pos e0, if_neg (by omega), if_neg (by omega), if_pos e0]
  · rw [if_neg e0, if_neg e0]
    by_cases e9 : j < 9
    · rw [if_pos e9, if_pos e9, if_neg (by omega), if_neg (by omega)]
    · rw [if_neg e9, if_neg e9]
      by_cases e17 : j < 17
      · rw [if_pos e17, if_pos e17]
        by_cases e : j = 9 + k
        · rw [if_pos ⟨rfl, by omega⟩, if_pos e]
        · rw [if_neg (by omega), if_neg e]
      · rw [if_neg e17, if_neg e17, if_neg (by omega), if_neg (by omega)]
theorem tC_w32 (h : mh_T) (j : Nat) (v : Int32) : tC (wI h 3 2 v) j = if j = 0 then v else tC h j := by
  unfold tC
  rw [mI_wI, mI_wI, mI_wI, mI_wI, if_neg (show ¬ (24 = 3 ∧ j - 1 = 2) by omega), if_neg (show ¬ (25 = 3 ∧ j - 9 = 2) by omega), if_neg (show ¬ (26 = 3 ∧ j - 17 = 2) by omega), if_pos (show 3 = 3 ∧ 2 = 2 from ⟨rfl, rfl⟩)]
  by_cases e0 : j = 0
  · rw [if_pos e0, if_pos e0]
  · rw [if_neg e0, if_neg e0, if_neg e0]
theorem tC_wo (h : mh_T) (k j : Nat) (v : Int32) (hk : ¬ (k = 3 ∧ j = 2) ∧ ¬ k = 24 ∧ ¬ k = 25 ∧ ¬ k = 26) : tC (wI h k j v) = tC h := tC_cg (by rw [mI_wI, if_neg (by omega)]) (wI_o (by omega)) (wI_o (by omega)) (wI_o (by omega))
theorem tC_ok {ms : List Nat} {h h' : mh_T} (ok : Ok ms h h') (hm : 3 ∉ ms ∧ 24 ∉ ms ∧ 25 ∉ ms ∧ 26 ∉ ms) : tC h' = tC h := tC_cg (congrFun (OkC ok ⟨by decide, hm.1⟩) 2) (OkC ok ⟨by decide, hm.2.1⟩) (OkC ok ⟨by decide, hm.2.2.1⟩) (OkC ok ⟨by decide, hm.2.2.2⟩)
/-- two outcomes change places -/
theorem v_swap {g : gT} {h : mh_T} {P : mh_T → Prop} (l1 l2 : Int32) (p q : Nat) (e1 : l1.toInt = (p : Int)) (e2 : l2.toInt = (q : Int)) (hp32 : p < 32) (hq32 : q < 32) (hG : GI h) (hp : ∀ h', Ok [3, 26, 27] h h' → mI h' 3 2 = mI h 3 2 → (∀ j, h'.1 26 j = if j = q then h.1 26 p else if j = p then h.1 26 q else h.1 26 j) → (∀ j, h'.1 27 j = if j = q then h.1 27 p else if j = p then h.1 27 q else h.1 27 j) → P h') : MCv g yX8_swap uX8_swap [.ref 3, .int l1, .int l2] h P := by
  have v1 := i_vp e1 hp32
  have v2 := i_vp e2 hq32
  refine e_X8_swap l1 l2 ⟨v1, fun x2 ex2 => ⟨v2, v1, v2, v1, fun x7 ex7 => ⟨v2, v1, v2, ?_⟩⟩⟩
  rw [i_nat e1, i_nat e2] at *
  refine hp _ (Ok_w (Ok_w (Ok_w (Ok_w (Ok_rf hG) (k := 26) (rgc_26 _) (R_full _) (by decide) (nt_k (by decide))) (k := 26) (rgc_26 _) (R_full _) (by decide) (nt_k (by decide))) (k := 27) (rgc_27 _) (R_full _) (by decide) (nt_k (by decide))) (k := 27) (rgc_27 _) (R_full _) (by decide) (nt_k (by decide))) rfl (fun j => ?_) (fun j => ?_)
  · rw [wI_o (by decide), wI_o (by decide), wI_i, wI_i, ex2]
    rfl
  · have q7 : x7 = h.1 27 p := by rw [ex7]; show (wI (wI h 26 _ _) 26 _ _).1 27 _ = _; rw [wI_o (by decide), wI_o (by decide)]
    rw [wI_i, wI_i, wI_o (by decide), wI_o (by decide), q7]
    rfl
set_option maxRecDepth 100000 in
set_option maxHeartbeats 4000000 in
theorem v_turn_L {g : gT} {h0 : mh_T} {P : mh_T → Prop} (l1 : Int32) (tz : TZ (tC h0)) (hp : ∀ h', Ok [3, 26, 27] h0 h' → flp l1 (tC h0) (h0.1 27) (tC h') (h'.1 27) → P h') : ∀ (n : Nat) (l2 : Int32) (s : Nat) (h : mh_T), l2.toInt = (s : Int) → s ≤ sn (tC h0) → sn (tC h0) - s < n → Ok [3, 26, 27] h0 h → FP l1 s (tC h0) (h0.1 27) (tC h) (h.1 27) → ME g uX8_turn 2 [.ref 3, .int l1, .int l2, .retAddr 0] [] h (qV P) := by
  intro n
  induction n with
  | zero => intro l2 s h _ _ hn; exact absurd hn (Nat.not_lt_zero _)
  | succ n ih =>
    intro l2 s h es hs hn ok fp
    have n8 : sn (tC h0) ≤ 8 := by unfold sn; have := tz.2.1; omega
    have ec : (mI h 3 2).toInt = (sn (tC h0) : Int) := by
      have e := fp.1 0 (by omega)
      rw [tC_0] at e
      rw [e]
      unfold sn
      have := tz.1
      omega
    refine r_X8_turn_2 l1 l2 ⟨fun c => ?_, fun c x2 e2 => ?_⟩
    · have c := i_le.mp c
      rw [es] at c
      refine hp _ (Ok_w ok (k := 3) (j := 3) (lo := -2147483648) (hi := 2147483647) rfl (R_full _) (by decide) (by decide)) ?_
      rw [tC_wo _ _ _ _ (by decide), wI_o (by decide)]
      exact FP_e n8 (by omega) fp
    · have c := i_lt.mp (nle c)
      rw [es] at c
      have s8 : s < 8 := by omega
      have sl : s < sn (tC h0) := by omega
      have vs : vp_in l2 8 := i_vp es s8
      rw [i_nat es]
      have q1 : mI h 24 s = tC h0 (1 + s) := by rw [← tC_1 h s8]; exact fp.1 _ (by omega)
      have q9 : mI h 25 s = tC h0 (9 + s) := by rw [← tC_9 h s8]; exact fp.1 _ (by omega)
      rw [q1, q9]
      have x0 : x2.toInt = ((4 * s : Nat) : Int) := by rw [e2]; exact i_4s es s8
      have x1 := i_off x0 1 1 (by decide) (by omega)
      have x2' := i_off x0 2 2 (by decide) (by omega)
      have x3 := i_off x0 3 3 (by decide) (by omega)
      have nxt : ∀ h', Ok [3, 26, 27] h h' → FP l1 (s + 1) (tC h0) (h0.1 27) (tC h') (h'.1 27) → ME g uX8_turn 2 [.ref 3, .int l1, .int (l2 + 1), .retAddr 0] [] h' (qV P) := fun h' k' f' => ih (l2 + 1) (s + 1) h' (i_inc es (by omega)) (by omega) (by omega) (Ok_tr ok k' (by decide)) f'
      have c3 : ∀ {h h' : mh_T}, Ok [3, 26, 27] h h' → mI h' 3 2 = mI h 3 2 → ∀ j, j < 17 → tC h' j = tC h j := fun {h h'} k' e j hj => by
        unfold tC
        rw [e, show mI h' 24 (j - 1) = mI h 24 (j - 1) from congrFun (OkC k' (by decide)) _, show mI h' 25 (j - 9) = mI h 25 (j - 9) from congrFun (OkC k' (by decide)) _, if_pos hj, if_pos hj]
      have fin : ∀ h', Ok [3, 26, 27] h h' → mI h' 3 2 = mI h 3 2 → (∀ j, ¬ (4 * s ≤ j ∧ j < 4 * s + 4) → h'.1 26 j = h.1 26 j ∧ h'.1 27 j = h.1 27 j) → (∀ o, o < 4 → h'.1 26 (4 * s + o) = h.1 26 (4 * s + pm (tC h0) l1 s o) ∧ h'.1 27 (4 * s + o) = h.1 27 (4 * s + pm (tC h0) l1 s o)) → FP l1 (s + 1) (tC h0) (h0.1 27) (tC h') (h'.1 27) := fun h' k' e ho hx => by
        refine FP_s s8 fp (fun j hj => ?_) (fun j hj => (ho j hj).2) (fun o hlt => ⟨?_, (hx o hlt).2⟩)
        · by_cases y : j < 17
          · exact c3 k' e j y
          · rw [show j = 17 + (j - 17) by omega, tC_17, tC_17]
            exact (ho _ (by omega)).1
        · rw [show 17 + 4 * s + o = 17 + (4 * s + o) by omega, tC_17, show 17 + 4 * s + pm (tC h0) l1 s o = 17 + (4 * s + pm (tC h0) l1 s o) by omega, tC_17]
          exact (hx o hlt).1
      refine ⟨vs, fun z => ?_, fun z => ?_⟩
      · have nn : 0 ≤ (tC h0 (9 + s)).toInt := by have := i_le.mp z; rw [i_0] at this; exact this
        refine ⟨vs, fun n1 => ⟨vs, fun n2 => nxt h (Ok_rf ok.1) (FP_n s8 fp (fun o _ => pm_n2 nn n1 n2)), fun y2 => ?_⟩, fun y1 => ?_⟩
        · refine v_swap x2 (x2 + 1) (4 * s) (4 * s + 1) x0 x1 (by omega) (by omega) ok.1 (fun h1 k1 c1 a1 b1 => v_swap (x2 + 2) (x2 + 3) (4 * s + 2) (4 * s + 3) x2' x3 (by omega) (by omega) k1.1 (fun h2 k2 c2 a2 b2 => nxt h2 (Ok_tr k1 k2 (by decide)) (fin h2 (Ok_tr k1 k2 (by decide)) (c2.trans c1) (fun j hj => ?_) (fun o ho => ?_))))
          · rw [a2, a1, a1, a1, b2, b1, b1, b1]
            rw [if_neg (by omega), if_neg (by omega), if_neg (by omega), if_neg (by omega), if_neg (by omega), if_neg (by omega), if_neg (by omega), if_neg (by omega)]
            exact ⟨rfl, rfl⟩
          · rw [pm_3 nn n1 y2 ho, xq_e4 1 (by decide) o ho, a2, b2, a1, a1, a1, b1, b1, b1]
            have : o = 0 ∨ o = 1 ∨ o = 2 ∨ o = 3 := by omega
            rcases this with w | w | w | w <;> subst w
            · rw [if_neg (by omega), if_neg (by omega), if_neg (by omega), if_pos (by omega), if_neg (by omega), if_neg (by omega), if_neg (by omega), if_pos (by omega)]; exact ⟨rfl, rfl⟩
            · rw [if_neg (by omega), if_neg (by omega), if_pos (by omega), if_neg (by omega), if_neg (by omega), if_pos (by omega)]; exact ⟨rfl, rfl⟩
            · rw [if_neg (by omega), if_pos (by omega), if_neg (by omega), if_neg (by omega), if_neg (by omega), if_pos (by omega), if_neg (by omega), if_neg (by omega)]; exact ⟨rfl, rfl⟩
            · rw [if_pos (by omega), if_neg (by omega), if_neg (by omega), if_pos (by omega), if_neg (by omega), if_neg (by omega)]; exact ⟨rfl, rfl⟩
        · refine v_swap x2 (x2 + 2) (4 * s) (4 * s + 2) x0 x2' (by omega) (by omega) ok.1 (fun h1 k1 c1 a1 b1 => v_swap (x2 + 1) (x2 + 3) (4 * s + 1) (4 * s + 3) x1 x3 (by omega) (by omega) k1.1 (fun h2 k2 c2 a2 b2 => nxt h2 (Ok_tr k1 k2 (by decide)) (fin h2 (Ok_tr k1 k2 (by decide)) (c2.trans c1) (fun j hj => ?_) (fun o ho => ?_))))
          · rw [a2, a1, a1, a1, b2, b1, b1, b1]
            rw [if_neg (by omega), if_neg (by omega), if_neg (by omega), if_neg (by omega), if_neg (by omega), if_neg (by omega), if_neg (by omega), if_neg (by omega)]
            exact ⟨rfl, rfl⟩
          · rw [pm_2 nn y1 ho, xq_e4 2 (by decide) o ho, a2, b2, a1, a1, a1, b1, b1, b1]
            have : o = 0 ∨ o = 1 ∨ o = 2 ∨ o = 3 := by omega
            rcases this with w | w | w | w <;> subst w
            · rw [if_neg (by omega), if_neg (by omega), if_neg (by omega), if_pos (by omega), if_neg (by omega), if_neg (by omega), if_neg (by omega), if_pos (by omega)]; exact ⟨rfl, rfl⟩
            · rw [if_neg (by omega), if_pos (by omega), if_neg (by omega), if_neg (by omega), if_neg (by omega), if_pos (by omega), if_neg (by omega), if_neg (by omega)]; exact ⟨rfl, rfl⟩
            · rw [if_neg (by omega), if_neg (by omega), if_pos (by omega), if_neg (by omega), if_neg (by omega), if_pos (by omega)]; exact ⟨rfl, rfl⟩
            · rw [if_pos (by omega), if_neg (by omega), if_neg (by omega), if_pos (by omega), if_neg (by omega), if_neg (by omega)]; exact ⟨rfl, rfl⟩
      · have nn : tC h0 (9 + s) = -2 := by
          rcases (tz.2.2 s sl).1 with w | w
          · exact w.1
          · exact absurd (i_le.mpr (by rw [i_0]; exact w)) z
        refine ⟨vs, fun n1 => nxt h (Ok_rf ok.1) (FP_n s8 fp (fun o _ => pm_n1 nn n1)), fun y1 => ?_⟩
        refine v_swap x2 (x2 + 1) (4 * s) (4 * s + 1) x0 x1 (by omega) (by omega) ok.1 (fun h1 k1 c1 a1 b1 => nxt h1 k1 (fin h1 k1 c1 (fun j hj => ?_) (fun o ho => ?_)))
        · rw [a1, b1, if_neg (by omega), if_neg (by omega), if_neg (by omega), if_neg (by omega)]
          exact ⟨rfl, rfl⟩
        · rw [pm_1 nn y1 ho, a1, b1]
          have : o = 0 ∨ o = 1 ∨ o = 2 ∨ o = 3 := by omega
          rcases this with w | w | w | w <;> subst w
          · rw [if_neg (by omega), if_pos (by omega), if_neg (by omega), if_pos (by omega)]; exact ⟨rfl, rfl⟩
          · rw [if_pos (by omega), if_pos (by omega)]; exact ⟨rfl, rfl⟩
          · rw [if_neg (by omega), if_neg (by omega), if_neg (by omega), if_neg (by omega)]; exact ⟨rfl, rfl⟩
          · rw [if_neg (by omega), if_neg (by omega), if_neg (by omega), if_neg (by omega)]; exact ⟨rfl, rfl⟩
theorem v_X8_turn {g : gT} {h : mh_T} {P : mh_T → Prop} (l1 : Int32) (hG : GI h) (tz : TZ (tC h)) (hp : ∀ h', Ok [3, 26, 27] h h' → flp l1 (tC h) (h.1 27) (tC h') (h'.1 27) → P h') : MCv g yX8_turn uX8_turn [.ref 3, .int l1] h P :=
  e_X8_turn l1 (v_turn_L l1 tz hp 9 0 0 h (by decide) (Nat.zero_le _) (by unfold sn; have := tz.2.1; omega) (Ok_rf hG) (FP_0 l1 _ _))
/-! DROP: goesAway, remove -/
/-- the sets from S to s have come one up -/
def ga (S s q : Nat) : Nat := if S ≤ q ∧ q < s then q + 1 else q
def GA (S s : Nat) (a0 c0 a c : Nat → Int32) : Prop := a 0 = a0 0 ∧ ∀ q, q < 8 → sE a q a0 (ga S s q) ∧ cE c q c0 (ga S s q)
theorem GA_0 (S : Nat) (a c : Nat → Int32) : GA S S a c a c := ⟨rfl, fun q _ => by unfold ga; rw [if_neg (by omega)]; exact ⟨sE_rf a q, fun _ _ => rfl⟩⟩
theorem GA_s {S s : Nat} {a0 c0 a c a' c' : Nat → Int32} (hs : s < 7) (hS : S ≤ s) (f : GA S s a0 c0 a c) (h0 : a' 0 = a 0) (ho : ∀ q, q < 8 → ¬ q = s → sE a' q a q ∧ cE c' q c q) (hx : sE a' s a (s + 1) ∧ cE c' s c (s + 1)) : GA S (s + 1) a0 c0 a' c' := by
  refine ⟨h0.trans f.1, fun q hq => ?_⟩
  by_cases e : q = s
  · subst e
    have f1 := f.2 (q + 1) (by omega)
    unfold ga at *
    rw [if_neg (by omega)] at f1
    rw [if_pos (by omega)]
    exact ⟨sE_tr hx.1 f1.1, cE_tr hx.2 f1.2⟩
  · have f1 := f.2 q hq
    have : ga S (s + 1) q = ga S s q := by
      unfold ga
      by_cases y : S ≤ q ∧ q < s
      · rw [if_pos y, if_pos (by omega)]
      · rw [if_neg y, if_neg (by omega)]
    rw [this]
    exact ⟨sE_tr (ho q hq e).1 f1.1, cE_tr (ho q hq e).2 f1.2⟩
theorem GA_e {S s : Nat} {a0 c0 a c a' c' : Nat → Int32} (n8 : sn a0 ≤ 8) (hs : sn a0 ≤ s + 1) (f : GA S s a0 c0 a c) (h0 : (a' 0).toInt = (a0 0).toInt - 1) (ho : ∀ q, q + 1 < sn a0 → sE a' q a q ∧ cE c' q c q) : drp S a0 c0 a' c' := by
  refine ⟨h0, fun q hq => ?_⟩
  have f1 := f.2 q (by omega)
  have : ga S s q = dq S q := by
    unfold ga dq
    by_cases y : q < S
    · rw [if_pos y, if_neg (by omega)]
    · rw [if_neg y, if_pos (by omega)]
  rw [this] at f1
  exact ⟨sE_tr (ho q hq).1 f1.1, cE_tr (ho q hq).2 f1.2⟩
/-- set s gets what set s + 1 has, up to outcome k -/
def IG (s k : Nat) (a0 c0 a c : Nat → Int32) : Prop := (∀ j, ¬ j = 1 + s → ¬ j = 9 + s → ¬ (17 + 4 * s ≤ j ∧ j < 17 + 4 * s + 4) → a j = a0 j) ∧ (∀ j, ¬ (4 * s ≤ j ∧ j < 4 * s + 4) → c j = c0 j) ∧ a (1 + s) = a0 (1 + (s + 1)) ∧ a (9 + s) = a0 (9 + (s + 1)) ∧ ∀ i, i < k → a (17 + 4 * s + i) = a0 (17 + 4 * (s + 1) + i) ∧ c (4 * s + i) = c0 (4 * (s + 1) + i)
theorem IG_1 {s k : Nat} {a0 c0 a c a' c' : Nat → Int32} (hs : s < 7) (hk : k < 4) (f : IG s k a0 c0 a c) (ha : ∀ j, a' j = if j = 17 + 4 * s + k then a (17 + 4 * (s + 1) + k) else a j) (hc : ∀ j, c' j = if j = 4 * s + k then c (4 * (s + 1) + k) else c j) : IG s (k + 1) a0 c0 a' c' := by
  obtain ⟨f1, f2, f3, f4, f5⟩ := f
  refine ⟨fun j h1 h2 h3 => ?_, fun j h1 => ?_, ?_, ?_, fun i hi => ?_⟩
  · rw [ha, if_neg (by omega)]; exact f1 j h1 h2 h3
  · rw [hc, if_neg (by omega)]; exact f2 j h1
  · rw [ha, if_neg (by omega)]; exact f3
  · rw [ha, if_neg (by omega)]; exact f4
  · rw [ha, hc]
    by_cases e : i = k
    · rw [if_pos (by omega), if_pos (by omega), e]
      exact ⟨f1 _ (by omega) (by omega) (by omega), f2 _ (by omega)⟩
    · rw [if_neg (by omega), if_neg (by omega)]
      exact f5 i (by omega)
theorem IG_e {s : Nat} {a0 c0 a c : Nat → Int32} (hs : s < 7) (f : IG s 4 a0 c0 a c) : a 0 = a0 0 ∧ (∀ q, q < 8 → ¬ q = s → sE a q a0 q ∧ cE c q c0 q) ∧ sE a s a0 (s + 1) ∧ cE c s c0 (s + 1) := by
  obtain ⟨f1, f2, f3, f4, f5⟩ := f
  refine ⟨f1 0 (by omega) (by omega) (by omega), fun q hq hn => ⟨⟨f1 _ (by omega) (by omega) (by omega), f1 _ (by omega) (by omega) (by omega), fun o ho => f1 _ (by omega) (by omega) (by omega)⟩, fun o ho => f2 _ (by omega)⟩, ⟨f3, f4, fun o ho => (f5 o ho).1⟩, fun o ho => (f5 o ho).2⟩
theorem tq_sE {f g : Nat → Int32} {s q : Nat} (t : tq f 0 q) (h : sE g s f q) : tq g 0 s := by
  have t := tq_g t
  have e0 := h.2.2 0 (by omega)
  rw [Nat.add_zero, Nat.add_zero] at e0
  refine tq_v rfl rfl rfl rfl ?_
  rw [e0, h.2.2 1 (by omega), h.2.2 2 (by omega), h.2.2 3 (by omega)]
  exact t
set_option maxRecDepth 100000 in
set_option maxHeartbeats 4000000 in
theorem v_goesAway_159 {g : gT} {h0 : mh_T} {P : mh_T → Prop} (l1 l2 : Int32) (s : Nat) (es : l2.toInt = (s : Int)) (hs : s < 8) (hp : ∀ h', Ok [45, 47] h0 h' → (∀ j, ¬ (17 + 4 * s ≤ j ∧ j < 17 + 4 * s + 4) → h'.1 45 j = h0.1 45 j) → (∀ j, ¬ (4 * s ≤ j ∧ j < 4 * s + 4) → h'.1 47 j = h0.1 47 j) → (∀ i, i < 4 → h'.1 45 (17 + 4 * s + i) = 0) → P h') : ∀ (n : Nat) (l3 : Int32) (k : Nat) (h : mh_T), l3.toInt = (k : Int) → k ≤ 4 → 4 - k < n → Ok [45, 47] h0 h → (∀ j, ¬ (17 + 4 * s ≤ j ∧ j < 17 + 4 * s + 4) → h.1 45 j = h0.1 45 j) → (∀ j, ¬ (4 * s ≤ j ∧ j < 4 * s + 4) → h.1 47 j = h0.1 47 j) → (∀ i, i < k → h.1 45 (17 + 4 * s + i) = 0) → ME g uX11_goesAway 159 [.ref 11, .int l1, .int l2, .int l3] [] h (qV P) := by
  intro n
  induction n with
  | zero => intro l3 k h _ _ hn; exact absurd hn (Nat.not_lt_zero _)
  | succ n ih =>
    intro l3 k h ek hk hn ok q1 q2 zr
    have z4 : (4 : Int32).toInt = 4 := by decide
    refine r_X11_goesAway_159 l1 l2 l3 ⟨fun c => hp h ok q1 q2 (fun i hi => zr i ?_), fun c => ?_⟩
    · have c := i_le.mp c
      omega
    · have c := i_lt.mp (nle c)
      rw [z4, ek] at c
      have ia := i_17 es hs ek (by omega)
      have ib : ((4 * l2) + l3).toInt = ((4 * s + k : Nat) : Int) := by rw [i_add (i_4s es hs) ek (by omega)]; omega
      refine ⟨i_vp ia (by omega), i_vp ib (by omega), ?_⟩
      rw [i_nat ia, i_nat ib]
      refine ih (l3 + 1) (k + 1) _ (i_inc ek (by omega)) (by omega) (by omega) (Ok_w (Ok_w ok (k := 45) (j := 17 + 4 * s + k) (lo := -2147483648) (hi := 2147483647) (rgg_45_0 (by omega) (by omega)) (R_full _) (by decide) (nt_c (by decide) (fun _ => by omega))) (k := 47) (rgc_47 _) (R_full _) (by decide) (nt_k (by decide))) (fun j hj => ?_) (fun j hj => ?_) (fun i hi => ?_)
      · rw [wI_o (by decide), wI_i, if_neg (by omega)]; exact q1 j hj
      · rw [wI_i, if_neg (by omega), wI_o (by decide)]; exact q2 j hj
      · rw [wI_o (by decide), wI_i]
        by_cases e : i = k
        · rw [if_pos (by omega)]
        · rw [if_neg (by omega)]
          exact zr i (by omega)
set_option maxRecDepth 100000 in
set_option maxHeartbeats 4000000 in
theorem v_goesAway_54 {g : gT} {hs : mh_T} {P : mh_T → Prop} (l1 l2 : Int32) (s : Nat) (es : l2.toInt = (s : Int)) (s7 : s < 7) (nx : ∀ h', Ok [45, 47] hs h' → IG s 4 (hs.1 45) (hs.1 47) (h'.1 45) (h'.1 47) → ME g uX11_goesAway 2 [.ref 11, .int l1, .int (l2 + 1), .retAddr 0] [] h' (qV P)) : ∀ (n : Nat) (l3 : Int32) (k : Nat) (h : mh_T), l3.toInt = (k : Int) → k ≤ 4 → 4 - k < n → Ok [45, 47] hs h → IG s k (hs.1 45) (hs.1 47) (h.1 45) (h.1 47) → ME g uX11_goesAway 54 [.ref 11, .int l1, .int l2, .int l3] [] h (qV P) := by
  intro n
  induction n with
  | zero => intro l3 k h _ _ hn; exact absurd hn (Nat.not_lt_zero _)
  | succ n ih =>
    intro l3 k h ek hk hn ok ig
    have z4 : (4 : Int32).toInt = 4 := by decide
    refine r_X11_goesAway_54 l1 l2 l3 ⟨fun c => ?_, fun c => ?_⟩
    · have c := i_le.mp c
      have : k = 4 := by omega
      subst this
      exact nx h ok ig
    · have c := i_lt.mp (nle c)
      rw [z4, ek] at c
      have e4 := i_4s es (show s < 8 by omega)
      have ia := i_17 es (show s < 8 by omega) ek (by omega)
      have ia4 : (((17 + (4 * l2)) + 4) + l3).toInt = ((17 + 4 * (s + 1) + k : Nat) : Int) := by rw [i_add (i_add (i_add (show (17 : Int32).toInt = 17 from by decide) e4 (by omega)) (show (4 : Int32).toInt = 4 from by decide) (by omega)) ek (by omega)]; omega
      have ib : ((4 * l2) + l3).toInt = ((4 * s + k : Nat) : Int) := by rw [i_add e4 ek (by omega)]; omega
      have ib4 : (((4 * l2) + 4) + l3).toInt = ((4 * (s + 1) + k : Nat) : Int) := by rw [i_add (i_add e4 (show (4 : Int32).toInt = 4 from by decide) (by omega)) ek (by omega)]; omega
      refine ⟨i_vp ia4 (by omega), i_vp ia (by omega), i_vp ib4 (by omega), i_vp ib (by omega), ?_⟩
      rw [i_nat ia, i_nat ia4, i_nat ib, i_nat ib4]
      refine ih (l3 + 1) (k + 1) _ (i_inc ek (by omega)) (by omega) (by omega) (Ok_w (Ok_w ok (k := 45) (j := 17 + 4 * s + k) (lo := -2147483648) (hi := 2147483647) (rgg_45_0 (by omega) (by omega)) (R_full _) (by decide) (nt_c (by decide) (fun _ => by omega))) (k := 47) (rgc_47 _) (R_full _) (by decide) (nt_k (by decide))) (IG_1 s7 (by omega) ig (fun j => ?_) (fun j => ?_))
      · rw [wI_o (by decide), wI_i]
        rfl
      · rw [wI_i, wI_o (by decide)]
        rfl
set_option maxRecDepth 100000 in
set_option maxHeartbeats 4000000 in
theorem v_goesAway {g : gT} {h0 : mh_T} {P : mh_T → Prop} (l1 : Int32) (S : Nat) (eS : l1.toInt = (S : Int)) (hS : S < sn (h0.1 45)) (hG : GI h0) (t : TQ (h0.1 45) 0) (hp : ∀ h', Ok [45, 47] h0 h' → TQ (h'.1 45) 0 → drp S (h0.1 45) (h0.1 47) (h'.1 45) (h'.1 47) → P h') : MCv g yX11_goesAway uX11_goesAway [.ref 11, .int l1] h0 P := by
  have f0 : R 0 8 (mI h0 45 0) := GI_rd hG 45 0 rfl
  have f01 : 0 ≤ (h0.1 45 0).toInt := f0.1
  have f02 : (h0.1 45 0).toInt ≤ 8 := f0.2
  have n8 : sn (h0.1 45) ≤ 8 := by unfold sn; omega
  have en : (h0.1 45 0).toInt = (sn (h0.1 45) : Int) := by unfold sn; omega
  have L : ∀ (n : Nat) (l2 : Int32) (s : Nat) (h : mh_T), l2.toInt = (s : Int) → S ≤ s → s < sn (h0.1 45) → sn (h0.1 45) - s < n → Ok [45, 47] h0 h → TQ (h.1 45) 0 → GA S s (h0.1 45) (h0.1 47) (h.1 45) (h.1 47) → ME g uX11_goesAway 2 [.ref 11, .int l1, .int l2, .retAddr 0] [] h (qV P) := by
    intro n
    induction n with
    | zero => intro l2 s h _ _ _ hn; exact absurd hn (Nat.not_lt_zero _)
    | succ n ih =>
      intro l2 s h es hSs hs hn ok tt ga'
      have e21 := i_inc es (by omega)
      have e0 : mI h 45 (Int32.toNatClampNeg 0) = h0.1 45 0 := ga'.1
      refine r_X11_goesAway_2 l1 l2 ⟨fun c x2 e2 => ?_, fun c => ?_⟩
      · rw [e0] at c
        have c := i_le.mp c
        rw [e21, en] at c
        rw [mI_wI, if_pos ⟨rfl, rfl⟩, e0] at e2
        have ex : x2.toInt = ((sn (h0.1 45) - 1 : Nat) : Int) := by rw [e2, show (h0.1 45 0 - 1).toInt = (h0.1 45 0).toInt - 1 from ti_sub1 f0 (by decide)]; omega
        have q8 : sn (h0.1 45) - 1 < 8 := by omega
        have j1 := i_1s ex q8
        have j9 := i_9 ex q8
        rw [e0, ← e2, i_nat j1, i_nat j9]
        refine ⟨i_vp j1 (by omega), i_vp j9 (by omega), ?_⟩
        have o1 := Ok_w ok (k := 45) (j := Int32.toNatClampNeg 0) (v := x2) (lo := 0) (hi := 8) (by decide) ⟨by omega, by omega⟩ (by decide) (nt_c (by decide) (fun _ => by decide))
        have o2 := Ok_w o1 (k := 45) (j := 1 + (sn (h0.1 45) - 1)) (v := 0) (lo := -1) (hi := 5) (rgp_45_1 (by omega) (by omega)) ⟨by decide, by decide⟩ (by decide) (nt_c (by decide) (fun _ => by omega))
        have o3 := Ok_w o2 (k := 45) (j := 9 + (sn (h0.1 45) - 1)) (v := 0) (lo := -2) (hi := 5) (rgp_45_2 (by omega) (by omega)) ⟨by decide, by decide⟩ (by decide) (nt_c (by decide) (fun _ => by omega))
        have z0 : Int32.toNatClampNeg 0 = 0 := by decide
        refine v_goesAway_159 l1 x2 _ ex q8 (fun h' k' q1 q2 zr => hp h' (Ok_tr o3 k' (by decide)) (TQ_i (fun s' hs' => ?_)) (GA_e n8 (by omega) ga' ?_ (fun q hq => ⟨⟨?_, ?_, fun o ho => ?_⟩, fun o ho => ?_⟩))) 5 0 0 _ (by decide) (Nat.zero_le _) (by omega) (Ok_rf o3.1) (fun _ _ => rfl) (fun _ _ => rfl) (fun i hi => absurd hi (Nat.not_lt_zero _))
        · by_cases e : s' = sn (h0.1 45) - 1
          · have y0 := zr 0 (by omega)
            rw [Nat.add_zero] at y0
            rw [e]
            refine tq_v (a := 0) (b := 0) (c := 0) (d := 0) ?_ ?_ ?_ ?_ (by decide)
            · rw [y0]; exact i_0
            · rw [zr 1 (by omega)]; exact i_0
            · rw [zr 2 (by omega)]; exact i_0
            · rw [zr 3 (by omega)]; exact i_0
          · refine tq_x (tt s' hs') (fun i hi => ?_)
            rw [q1 _ (by omega), wI_i, if_neg (by omega), wI_i, if_neg (by omega), wI_i, if_neg (by rw [z0]; omega)]
        · rw [q1 0 (by omega), wI_i, if_neg (by omega), wI_i, if_neg (by omega), wI_i, if_pos z0.symm, ex]
          omega
        · rw [q1 _ (by omega), wI_i, if_neg (by omega), wI_i, if_neg (by omega), wI_i, if_neg (by rw [z0]; omega)]
        · rw [q1 _ (by omega), wI_i, if_neg (by omega), wI_i, if_neg (by omega), wI_i, if_neg (by rw [z0]; omega)]
        · rw [q1 _ (by omega), wI_i, if_neg (by omega), wI_i, if_neg (by omega), wI_i, if_neg (by rw [z0]; omega)]
        · rw [q2 _ (by omega), wI_o (by decide), wI_o (by decide), wI_o (by decide)]
      · rw [e0] at c
        have c := lt_ti (nle c)
        rw [e21, en] at c
        have s7 : s < 7 := by omega
        have j1 := i_1s es (by omega)
        have j9 := i_9 es (by omega)
        have j11 := i_off j1 1 1 (by decide) (by omega)
        have j91 := i_off j9 1 1 (by decide) (by omega)
        refine ⟨i_vp j11 (by omega), i_vp j1 (by omega), i_vp j91 (by omega), i_vp j9 (by omega), ?_⟩
        rw [i_nat j1, i_nat j9, i_nat j11, i_nat j91]
        have va : R (-1) 5 (mI h 45 (1 + s + 1)) := GI_rd ok.1 45 _ (rgp_45_1 (by omega) (by omega))
        have o1 := Ok_w (Ok_rf (ms := [45, 47]) ok.1) (k := 45) (j := 1 + s) (v := mI h 45 (1 + s + 1)) (lo := -1) (hi := 5) (rgp_45_1 (by omega) (by omega)) va (by decide) (nt_c (by decide) (fun _ => by omega))
        have vb : R (-2) 5 (mI (wI h 45 (1 + s) (mI h 45 (1 + s + 1))) 45 (9 + s + 1)) := GI_rd o1.1 45 _ (rgp_45_2 (by omega) (by omega))
        have o2 := Ok_w o1 (k := 45) (j := 9 + s) (v := mI (wI h 45 (1 + s) (mI h 45 (1 + s + 1))) 45 (9 + s + 1)) (lo := -2) (hi := 5) (rgp_45_2 (by omega) (by omega)) vb (by decide) (nt_c (by decide) (fun _ => by omega))
        refine v_goesAway_54 (hs := h) l1 l2 s es s7 (fun h' k' ig => ?_) 5 0 0 _ (by decide) (Nat.zero_le _) (by omega) o2 ⟨fun j h1 h2 h3 => ?_, fun j h1 => ?_, ?_, ?_, fun i hi => absurd hi (Nat.not_lt_zero _)⟩
        · obtain ⟨i1, i2, i3, i4⟩ := IG_e s7 ig
          refine ih (l2 + 1) (s + 1) h' (i_inc es (by omega)) (by omega) (by omega) (by omega) (Ok_tr ok k' (by decide)) (TQ_i (fun s' hs' => ?_)) (GA_s s7 hSs ga' i1 i2 ⟨i3, i4⟩)
          by_cases e : s' = s
          · rw [e]
            exact tq_sE (tt (s + 1) (by omega)) i3
          · exact tq_sE (tt s' hs') (i2 s' hs' e).1
        · rw [wI_i, if_neg h2, wI_i, if_neg h1]
        · rw [wI_o (by decide), wI_o (by decide)]
        · rw [wI_i, if_neg (by omega), wI_i, if_pos rfl]
          show h.1 45 (1 + s + 1) = h.1 45 (1 + (s + 1))
          rw [Nat.add_assoc]
        · rw [wI_i, if_pos rfl]
          show (wI h 45 (1 + s) _).1 45 (9 + s + 1) = _
          rw [wI_i, if_neg (by omega), Nat.add_assoc]
  exact e_X11_goesAway l1 (L 9 l1 S h0 eS (Nat.le_refl _) hS (by omega) (Ok_rf hG) t (GA_0 S _ _))
/-! DROP of the class: remove -/
set_option maxRecDepth 100000 in
set_option maxHeartbeats 4000000 in
theorem v_remove_42 {g : gT} {hs : mh_T} {P : mh_T → Prop} (l1 l2 : Int32) (s : Nat) (es : l2.toInt = (s : Int)) (s7 : s < 7) (nx : ∀ h', Ok [3, 24, 25, 26, 27] hs h' → IG s 4 (tC hs) (hs.1 27) (tC h') (h'.1 27) → ME g uX8_remove 2 [.ref 3, .int l1, .int (l2 + 1), .retAddr 0] [] h' (qV P)) : ∀ (n : Nat) (l3 : Int32) (k : Nat) (h : mh_T), l3.toInt = (k : Int) → k ≤ 4 → 4 - k < n → Ok [3, 24, 25, 26, 27] hs h → IG s k (tC hs) (hs.1 27) (tC h) (h.1 27) → ME g uX8_remove 42 [.ref 3, .int l1, .int l2, .int l3] [] h (qV P) := by
  intro n
  induction n with
  | zero => intro l3 k h _ _ hn; exact absurd hn (Nat.not_lt_zero _)
  | succ n ih =>
    intro l3 k h ek hk hn ok ig
    have z4 : (4 : Int32).toInt = 4 := by decide
    refine r_X8_remove_42 l1 l2 l3 ⟨fun c => ?_, fun c => ?_⟩
    · have c := i_le.mp c
      have : k = 4 := by omega
      subst this
      exact nx h ok ig
    · have c := i_lt.mp (nle c)
      rw [z4, ek] at c
      have e4 := i_4s es (show s < 8 by omega)
      have ib : ((4 * l2) + l3).toInt = ((4 * s + k : Nat) : Int) := by rw [i_add e4 ek (by omega)]; omega
      have ib4 : (((4 * l2) + 4) + l3).toInt = ((4 * (s + 1) + k : Nat) : Int) := by rw [i_add (i_add e4 (show (4 : Int32).toInt = 4 from by decide) (by omega)) ek (by omega)]; omega
      refine ⟨i_vp ib4 (by omega), i_vp ib (by omega), i_vp ib4 (by omega), i_vp ib (by omega), ?_⟩
      rw [i_nat ib, i_nat ib4]
      refine ih (l3 + 1) (k + 1) _ (i_inc ek (by omega)) (by omega) (by omega) (Ok_w (Ok_w ok (k := 26) (rgc_26 _) (R_full _) (by decide) (nt_k (by decide))) (k := 27) (rgc_27 _) (R_full _) (by decide) (nt_k (by decide))) (IG_1 s7 (by omega) ig (fun j => ?_) (fun j => ?_))
      · rw [tC_wo _ _ _ _ ⟨fun z => absurd z.1 (by decide), by decide, by decide, by decide⟩, tC_w26, show 17 + 4 * (s + 1) + k = 17 + (4 * (s + 1) + k) by omega, tC_17, show 17 + 4 * s + k = 17 + (4 * s + k) by omega]
      · rw [wI_i, wI_o (by decide)]
        rfl
theorem rg_24 {j : Nat} (hj : j < 8) : rgT 24 j = rgT 24 0 := by
  have : ∀ j, j < 8 → rgT 24 j = rgT 24 0 := by decide
  exact this j hj
theorem rg_25 {j : Nat} (hj : j < 8) : rgT 25 j = rgT 25 0 := by
  have : ∀ j, j < 8 → rgT 25 j = rgT 25 0 := by decide
  exact this j hj
set_option maxRecDepth 100000 in
set_option maxHeartbeats 4000000 in
theorem v_remove {g : gT} {h0 : mh_T} {P : mh_T → Prop} (l1 : Int32) (S : Nat) (eS : l1.toInt = (S : Int)) (hS : S < sn (tC h0)) (hG : GI h0) (hp : ∀ h', Ok [3, 24, 25, 26, 27] h0 h' → drp S (tC h0) (h0.1 27) (tC h') (h'.1 27) → P h') : MCv g yX8_remove uX8_remove [.ref 3, .int l1] h0 P := by
  have f0 : R 0 8 (mI h0 3 2) := GI_rd hG 3 2 rfl
  have f01 : 0 ≤ (tC h0 0).toInt := f0.1
  have f02 : (tC h0 0).toInt ≤ 8 := f0.2
  have n8 : sn (tC h0) ≤ 8 := by unfold sn; omega
  have en : (tC h0 0).toInt = (sn (tC h0) : Int) := by unfold sn; omega
  have L : ∀ (n : Nat) (l2 : Int32) (s : Nat) (h : mh_T), l2.toInt = (s : Int) → S ≤ s → s < sn (tC h0) → sn (tC h0) - s < n → Ok [3, 24, 25, 26, 27] h0 h → GA S s (tC h0) (h0.1 27) (tC h) (h.1 27) → ME g uX8_remove 2 [.ref 3, .int l1, .int l2, .retAddr 0] [] h (qV P) := by
    intro n
    induction n with
    | zero => intro l2 s h _ _ _ hn; exact absurd hn (Nat.not_lt_zero _)
    | succ n ih =>
      intro l2 s h es hSs hs hn ok ga'
      have e0 : mI h 3 2 = tC h0 0 := ga'.1
      have ec : (tC h0 0 - 1).toInt = (sn (tC h0) : Int) - 1 := by rw [ti_sub1 (x := tC h0 0) ⟨f01, f02⟩ (by decide)]; omega
      refine r_X8_remove_2 l1 l2 ?_
      rw [show mI h 3 2 = tC h0 0 from e0]
      refine ⟨fun c => ?_, fun c => ?_⟩
      · have c := i_le.mp c
        rw [ec, es] at c
        have o1 := Ok_w ok (k := 3) (j := 2) (v := tC h0 0 - 1) (lo := 0) (hi := 8) rfl ⟨by omega, by omega⟩ (by decide) (by decide)
        refine hp _ (Ok_w o1 (k := 3) (j := 3) (lo := -2147483648) (hi := 2147483647) rfl (R_full _) (by decide) (by decide)) ?_
        rw [tC_wo _ _ _ _ (by decide), wI_o (by decide), wI_o (by decide)]
        refine GA_e n8 (by omega) ga' ?_ (fun q hq => ⟨⟨?_, ?_, fun o ho => ?_⟩, fun _ _ => rfl⟩)
        · rw [tC_w32, if_pos rfl, ec]; omega
        · rw [tC_w32, if_neg (by omega)]
        · rw [tC_w32, if_neg (by omega)]
        · rw [tC_w32, if_neg (by omega)]
      · have c := lt_ti (nle c)
        rw [ec, es] at c
        have s7 : s < 7 := by omega
        have j1 := i_inc es (by omega)
        have j1 : (l2 + 1).toInt = ((s + 1 : Nat) : Int) := j1
        refine ⟨i_vp j1 (by omega), i_vp es (by omega), i_vp j1 (by omega), i_vp es (by omega), ?_⟩
        rw [i_nat es, i_nat j1]
        have va : R (rgT 24 0).1 (rgT 24 0).2 (mI h 24 (s + 1)) := GI_rd ok.1 24 _ (rg_24 (by omega))
        have o1 := Ok_w (Ok_rf (ms := [3, 24, 25, 26, 27]) ok.1) (k := 24) (j := s) (v := mI h 24 (s + 1)) (rg_24 (by omega)) va (by decide) (nt_k (by decide))
        have vb : R (rgT 25 0).1 (rgT 25 0).2 (mI (wI h 24 s (mI h 24 (s + 1))) 25 (s + 1)) := GI_rd o1.1 25 _ (rg_25 (by omega))
        have o2 := Ok_w o1 (k := 25) (j := s) (v := mI (wI h 24 s (mI h 24 (s + 1))) 25 (s + 1)) (rg_25 (by omega)) vb (by decide) (nt_k (by decide))
        refine v_remove_42 (hs := h) l1 l2 s es s7 (fun h' k' ig => ?_) 5 0 0 _ (by decide) (Nat.zero_le _) (by omega) o2 ⟨fun j h1 h2 h3 => ?_, fun j h1 => ?_, ?_, ?_, fun i hi => absurd hi (Nat.not_lt_zero _)⟩
        · obtain ⟨i1, i2, i3, i4⟩ := IG_e s7 ig
          exact ih (l2 + 1) (s + 1) h' j1 (by omega) (by omega) (by omega) (Ok_tr ok k' (by decide)) (GA_s s7 hSs ga' i1 i2 ⟨i3, i4⟩)
        · rw [tC_w25 _ _ _ _ (by omega), if_neg h2, tC_w24 _ _ _ _ (by omega), if_neg h1]
        · rw [wI_o (by decide), wI_o (by decide)]
        · rw [tC_w25 _ _ _ _ (by omega), if_neg (by omega), tC_w24 _ _ _ _ (by omega), if_pos rfl, tC_1 h (by omega)]
        · rw [tC_w25 _ _ _ _ (by omega), if_pos rfl, tC_9 h (by omega)]
          show mI (wI h 24 s _) 25 (s + 1) = _
          rw [mI_wI, if_neg (fun z => absurd z.1 (by decide))]
  exact e_X8_remove l1 (L 9 l1 S h0 eS (Nat.le_refl _) hS (by omega) (Ok_rf hG) (GA_0 S _ _))
/-! DROP and FORGET of the reference -/
theorem v_X11_drop {g : gT} {h : mh_T} {P : Int32 → mh_T → Prop} (l1 : Int32) (u : Nat) (eu : (mI h 11 24).toInt = (u : Int)) (hG : GI h) (hI : TVs h) (hB : NB h) (h0 : ¬ SEb (h.1 45) l1 → ∀ h', Ok [300, 11] h h' → P 0 h') (hp : SEb (h.1 45) l1 → ∀ h', Ok msR h h' → TVs h' → drp l1.toInt.toNat (h.1 45) (h.1 47) (h'.1 45) (h'.1 47) → HD u (ac5 1 l1 (-2) (-2) (-2)) h h' → P 1 h') : MCi g yX11_drop uX11_drop [.ref 11, .int l1] h P := by
  refine e_X11_drop l1 (v_good hG (fun h1 k1 => ?_))
  have e45 : h1.1 45 = h.1 45 := OkC k1 (by decide)
  refine v_isSet l1 k1.1 (NB_ok k1 (by decide) hB) (fun q => ⟨fun _ => ?_, fun z => absurd z (by decide)⟩) (fun q => ⟨fun z => absurd rfl z, fun _ => v_isNot 1 (by decide) k1 (h0 (fun y => q (by rw [e45]; exact y)))⟩)
  rw [e45] at q
  refine v_was k1.1 (TVs_ok hI k1 (by decide)) (fun h2 k2 t2 e48 => ?_)
  have e45' : h2.1 45 = h.1 45 := by rw [OkC k2 (k := 45) (by decide), e45]
  have e47' : h2.1 47 = h.1 47 := by rw [OkC k2 (k := 47) (by decide), OkC k1 (k := 47) (by decide)]
  refine v_goesAway l1 l1.toInt.toNat (by have := q.1; omega) (by rw [e45']; unfold sn; have := q.2; have := q.1; omega) k2.1 t2.1 (fun h3 k3 t3 fl => v_done 1 l1 (-2) (-2) (-2) u eu k1 k2 e48 k3 (TVs_4547 t2 k3 t3) (fun h' k' t' e5 e7 hd => hp q h' k' t' (by rw [e5, e7]; rw [e45', e47'] at fl; exact fl) hd))
theorem TZ_st {L : Int32} {S : Nat} {a c a' c' : Nat → Int32} (tz : TZ a) (hS : S < sn a) (x : stp L S a c a' c') : TZ a' := (Rc_st (a := a) (c := c) (b := a) (d := c) ⟨Rq_rf tz, fun _ _ _ _ => rfl⟩ hS x x).1.2.1
set_option maxRecDepth 100000 in
set_option maxHeartbeats 4000000 in
theorem v_forget_360 {g : gT} {hs : mh_T} {P : Int32 → mh_T → Prop} (l1 l2 l3 l4 l5 l6 l7 : Int32) (s : Nat) (es : l3.toInt = (s : Int)) (s8 : s < 8) (nx : ∀ h', Ok [45, 47] hs h' → h'.1 45 = hs.1 45 → (∀ j, ¬ (4 * s ≤ j ∧ j < 4 * s + 4) → h'.1 47 j = hs.1 47 j) → (∀ o, o < 4 → h'.1 47 (4 * s + o) = 0) → ME g uX11_forget 107 [.ref 11, .int l1, .int l2, .int (l3 + (-1)), .retAddr 0, .retAddr 0, .retAddr 0, .retAddr 0, .retAddr 0] [] h' (qI P)) : ∀ (n : Nat) (l8 : Int32) (k : Nat) (h : mh_T), l8.toInt = (k : Int) → k ≤ 4 → 4 - k < n → Ok [45, 47] hs h → h.1 45 = hs.1 45 → (∀ j, ¬ (4 * s ≤ j ∧ j < 4 * s + 4) → h.1 47 j = hs.1 47 j) → (∀ o, o < k → h.1 47 (4 * s + o) = 0) → ME g uX11_forget 360 [.ref 11, .int l1, .int l2, .int l3, .int l4, .int l5, .int l6, .int l7, .int l8] [] h (qI P) := by
  intro n
  induction n with
  | zero => intro l8 k h _ _ hn; exact absurd hn (Nat.not_lt_zero _)
  | succ n ih =>
    intro l8 k h ek hk hn ok q1 q2 q3
    have z4 : (4 : Int32).toInt = 4 := by decide
    refine r_X11_forget_360 l1 l2 l3 l4 l5 l6 l7 l8 ⟨fun c => nx h ok q1 q2 (fun o ho => q3 o ?_), fun c => ?_⟩
    · have c := i_le.mp c
      omega
    · have c := i_lt.mp (nle c)
      rw [z4, ek] at c
      have ib : ((4 * l3) + l8).toInt = ((4 * s + k : Nat) : Int) := by rw [i_add (i_4s es s8) ek (by omega)]; omega
      refine ⟨i_vp ib (by omega), ?_⟩
      rw [i_nat ib]
      refine ih (l8 + 1) (k + 1) _ (i_inc ek (by omega)) (by omega) (by omega) (Ok_w ok (k := 47) (rgc_47 _) (R_full _) (by decide) (nt_k (by decide))) ?_ (fun j hj => ?_) (fun o ho => ?_)
      · rw [wI_o (by decide)]; exact q1
      · rw [wI_i, if_neg (by omega)]; exact q2 j hj
      · rw [wI_i]
        by_cases e : o = k
        · rw [if_pos (by omega)]
        · rw [if_neg (by omega)]; exact q3 o (by omega)
/-- two numbers for four -/
theorem fg_TQ {h : mh_T} {s : Nat} {u w x y : Int32} (t : TQ (h.1 45) 0) (hs : s < 8) (hx : 0 ≤ x.toInt) (hy : 0 ≤ y.toInt) (hxy : x.toInt + y.toInt ≤ 240) : TQ ((wI (wI (wI (wI (wI (wI h 45 (1 + s) u) 45 (9 + s) w) 45 (17 + 4 * s) x) 45 (17 + 4 * s + 1) y) 45 (17 + 4 * s + 2) 0) 45 (17 + 4 * s + 3) 0).1 45) 0 := by
  refine TQ_i (fun s' hs' => ?_)
  by_cases e : s' = s
  · subst e
    refine tq_v (a := x.toInt) (b := y.toInt) (c := 0) (d := 0) ?_ ?_ ?_ ?_ (by omega)
    · rw [wI_i, if_neg (by omega), wI_i, if_neg (by omega), wI_i, if_neg (by omega), wI_i, if_pos rfl]
    · rw [wI_i, if_neg (by omega), wI_i, if_neg (by omega), wI_i, if_pos rfl]
    · rw [wI_i, if_neg (by omega), wI_i, if_pos rfl]; exact i_0
    · rw [wI_i, if_pos rfl]; exact i_0
  · exact tq_w (tq_w (tq_w (tq_w (tq_w (tq_w (t s' hs') (by omega)) (by omega)) (by omega)) (by omega)) (by omega)) (by omega)
theorem fg_Ok2 {h0 h : mh_T} {s : Nat} {u w x y : Int32} (ok : Ok [45, 47] h0 h) (hs : s < 8) (fu : R (-1) 5 u) (fw : R (-2) 5 w) : Ok [45, 47] h0 (wI (wI (wI (wI (wI (wI h 45 (1 + s) u) 45 (9 + s) w) 45 (17 + 4 * s) x) 45 (17 + 4 * s + 1) y) 45 (17 + 4 * s + 2) 0) 45 (17 + 4 * s + 3) 0) := by
  have o1 := Ok_w ok (k := 45) (j := 1 + s) (v := u) (lo := -1) (hi := 5) (rgp_45_1 (by omega) (by omega)) fu (by decide) (nt_c (by decide) (fun _ => by omega))
  have o2 := Ok_w o1 (k := 45) (j := 9 + s) (v := w) (lo := -2) (hi := 5) (rgp_45_2 (by omega) (by omega)) fw (by decide) (nt_c (by decide) (fun _ => by omega))
  have o3 := Ok_w o2 (k := 45) (j := 17 + 4 * s) (v := x) (lo := -2147483648) (hi := 2147483647) (rgg_45_0 (by omega) (by omega)) (R_full _) (by decide) (nt_c (by decide) (fun _ => by omega))
  have o4 := Ok_w o3 (k := 45) (j := 17 + 4 * s + 1) (v := y) (lo := -2147483648) (hi := 2147483647) (rgg_45_0 (by omega) (by omega)) (R_full _) (by decide) (nt_c (by decide) (fun _ => by omega))
  have o5 := Ok_w o4 (k := 45) (j := 17 + 4 * s + 2) (v := 0) (lo := -2147483648) (hi := 2147483647) (rgg_45_0 (by omega) (by omega)) (R_full _) (by decide) (nt_c (by decide) (fun _ => by omega))
  exact Ok_w o5 (k := 45) (j := 17 + 4 * s + 3) (v := 0) (lo := -2147483648) (hi := 2147483647) (rgg_45_0 (by omega) (by omega)) (R_full _) (by decide) (nt_c (by decide) (fun _ => by omega))
/-- what stands where after that -/
theorem fg_v {h : mh_T} {s : Nat} {u w x y : Int32} (hs : s < 8) : ∀ j, (wI (wI (wI (wI (wI (wI h 45 (1 + s) u) 45 (9 + s) w) 45 (17 + 4 * s) x) 45 (17 + 4 * s + 1) y) 45 (17 + 4 * s + 2) 0) 45 (17 + 4 * s + 3) 0).1 45 j = if j = 17 + 4 * s + 3 then 0 else if j = 17 + 4 * s + 2 then 0 else if j = 17 + 4 * s + 1 then y else if j = 17 + 4 * s then x else if j = 9 + s then w else if j = 1 + s then u else h.1 45 j := fun j => by rw [wI_i, wI_i, wI_i, wI_i, wI_i, wI_i]
set_option maxRecDepth 100000 in
set_option maxHeartbeats 8000000 in
theorem v_forget_L {g : gT} {h0 : mh_T} {P : Int32 → mh_T → Prop} (l1 l2 : Int32) (hl1 : 0 ≤ l1.toInt) : ∀ (n : Nat) (l3 : Int32) (h : mh_T), l3.toInt + 1 = (n : Int) → Ok [45, 47] h0 h → TQ (h.1 45) 0 → TZ (h.1 45) → n ≤ sn (h.1 45) → (∀ h', Ok [45, 47] h0 h' → TQ (h'.1 45) 0 → fgt l1 n (h.1 45) (h.1 47) (h'.1 45) (h'.1 47) → MCi g yX11_did uX11_did [.ref 11, .int 2, .int l1, .int (-2), .int (-2), .int (-2)] h' (fun r3 h2 => (r3 = 0 ∨ r3 = 1) ∧ P r3 h2)) → ME g uX11_forget 107 [.ref 11, .int l1, .int l2, .int l3, .retAddr 0, .retAddr 0, .retAddr 0, .retAddr 0, .retAddr 0] [] h (qI P) := by
  intro n
  induction n with
  | zero =>
    intro l3 h e3 ok t tz hn hp
    refine r_X11_forget_107 l1 l2 l3 ⟨fun _ => hp h ok t ⟨rfl, fun s _ => ⟨sE_rf _ s, fun _ _ => rfl⟩⟩, fun c => absurd (i_lt.mpr (by rw [i_0]; omega)) c⟩
  | succ s ih =>
    intro l3 h e3 ok t tz hn hp
    have n8 : sn (h.1 45) ≤ 8 := by unfold sn; have := tz.2.1; omega
    have s8 : s < 8 := by omega
    have es : l3.toInt = (s : Int) := by omega
    have dec : (l3 + (-1)).toInt + 1 = (s : Int) := by
      have f3 : R 0 7 l3 := ⟨by omega, by omega⟩
      have := ti_dec f3 (by decide)
      omega
    have j1 := i_1s es s8
    have j9 := i_9 es s8
    have v1 : vp_in (1 + l3) 346 := i_vp j1 (by omega)
    have v9 : vp_in (9 + l3) 346 := i_vp j9 (by omega)
    have nx : ∀ h', Ok [45, 47] h0 h' → TQ (h'.1 45) 0 → stp l1 s (h.1 45) (h.1 47) (h'.1 45) (h'.1 47) → ME g uX11_forget 107 [.ref 11, .int l1, .int l2, .int (l3 + (-1)), .retAddr 0, .retAddr 0, .retAddr 0, .retAddr 0, .retAddr 0] [] h' (qI P) := fun h' k' t' st => ih (l3 + (-1)) h' dec k' t' (TZ_st tz (by omega) st) (stp_n (by omega) st) (fun h2 k2 t2 fg => hp h2 k2 t2 ⟨_, _, st, fg⟩)
    have tg := tq_g (t s s8)
    have r1 : R (-1) 5 (mI h 45 (1 + s)) := GI_rd ok.1 45 _ (rgp_45_1 (by omega) (by omega))
    have r9 : R (-2) 5 (mI h 45 (9 + s)) := GI_rd ok.1 45 _ (rgp_45_2 (by omega) (by omega))
    have fn2 : R (-2) 5 (-2) := ⟨by decide, by decide⟩
    have n2 : (-2 : Int32).toInt = -2 := by decide
    have away : h.1 45 (9 + s) = -2 → h.1 45 (1 + s) = l1 → MCv g yX11_goesAway uX11_goesAway [.ref 11, .int l3] h (fun h28 => ME g uX11_forget 107 [.ref 11, .int l1, .int l2, .int (l3 + (-1)), .retAddr 0, .retAddr 0, .retAddr 0, .retAddr 0, .retAddr 0] [] h28 (qI P)) := fun z y =>
      v_goesAway l3 s es (by omega) ok.1 t (fun h2 k2 t2 d => nx h2 (Ok_tr ok k2 (by decide)) t2 (Or.inl ⟨by rw [z, n2]; decide, y, d⟩))
    have e17 : ∀ x : Int32, x = 17 + (4 * l3) → x.toInt = ((17 + 4 * s : Nat) : Int) := fun x ex => by rw [ex, i_add (show (17 : Int32).toInt = 17 from by decide) (i_4s es s8) (by omega)]; omega
    have mrg : ∀ (u x y l4 l5 l6 l7 : Int32), R (-1) 5 u → 0 ≤ x.toInt → 0 ≤ y.toInt → x.toInt + y.toInt ≤ 240 → ¬ (h.1 45 (9 + s)).toInt < 0 → (h.1 45 (1 + s) = l1 ∨ h.1 45 (9 + s) = l1) → ((h.1 45 (1 + s) = l1 ∧ u = h.1 45 (9 + s) ∧ x = h.1 45 (17 + 4 * s) + h.1 45 (17 + 4 * s + 2) ∧ y = h.1 45 (17 + 4 * s + 1) + h.1 45 (17 + 4 * s + 3)) ∨ (¬ h.1 45 (1 + s) = l1 ∧ u = h.1 45 (1 + s) ∧ x = h.1 45 (17 + 4 * s) + h.1 45 (17 + 4 * s + 1) ∧ y = h.1 45 (17 + 4 * s + 2) + h.1 45 (17 + 4 * s + 3))) → ME g uX11_forget 360 [.ref 11, .int l1, .int l2, .int l3, .int l4, .int l5, .int l6, .int l7, .int 0] [] (wI (wI (wI (wI (wI (wI h 45 (1 + s) u) 45 (9 + s) (-2)) 45 (17 + 4 * s) x) 45 (17 + 4 * s + 1) y) 45 (17 + 4 * s + 2) 0) 45 (17 + 4 * s + 3) 0) (qI P) := by
      intro u x y l4 l5 l6 l7 fu hx hy hxy nn oo val
      have okx := fg_Ok2 (x := x) (y := y) ok s8 fu fn2
      have tx := fg_TQ (u := u) (w := -2) t s8 hx hy hxy
      have vv := fg_v (h := h) (u := u) (w := -2) (x := x) (y := y) s8
      have c47 : (wI (wI (wI (wI (wI (wI h 45 (1 + s) u) 45 (9 + s) (-2)) 45 (17 + 4 * s) x) 45 (17 + 4 * s + 1) y) 45 (17 + 4 * s + 2) 0) 45 (17 + 4 * s + 3) 0).1 47 = h.1 47 := by rw [wI_o (by decide), wI_o (by decide), wI_o (by decide), wI_o (by decide), wI_o (by decide), wI_o (by decide)]
      generalize wI (wI (wI (wI (wI (wI h 45 (1 + s) u) 45 (9 + s) (-2)) 45 (17 + 4 * s) x) 45 (17 + 4 * s + 1) y) 45 (17 + 4 * s + 2) 0) 45 (17 + 4 * s + 3) 0 = hm at okx tx vv c47
      refine v_forget_360 (hs := hm) l1 l2 l3 l4 l5 l6 l7 s es s8 (fun h' k' q1 q2 q3 => nx h' (Ok_tr okx k' (by decide)) (by rw [q1]; exact tx) (Or.inr (Or.inl ⟨nn, oo, ?_, fun q hq hne => ⟨⟨?_, ?_, fun o ho => ?_⟩, fun o ho => ?_⟩, ?_, ?_, ?_, ?_, q3⟩))) 5 0 0 hm (by decide) (Nat.zero_le _) (by omega) (Ok_rf okx.1) rfl (fun _ _ => rfl) (fun o ho => absurd ho (Nat.not_lt_zero _))
      · rw [q1, vv, if_neg (by omega), if_neg (by omega), if_neg (by omega), if_neg (by omega), if_neg (by omega), if_neg (by omega)]
      · rw [q1, vv, if_neg (by omega), if_neg (by omega), if_neg (by omega), if_neg (by omega), if_neg (by omega), if_neg (by omega)]
      · rw [q1, vv, if_neg (by omega), if_neg (by omega), if_neg (by omega), if_neg (by omega), if_neg (by omega), if_neg (by omega)]
      · rw [q1, vv, if_neg (by omega), if_neg (by omega), if_neg (by omega), if_neg (by omega), if_neg (by omega), if_neg (by omega)]
      · rw [q2 _ (by omega), c47]
      · rw [q1, vv, if_neg (by omega), if_neg (by omega), if_neg (by omega), if_neg (by omega), if_pos rfl]
      · have w1 : h'.1 45 (1 + s) = u := by rw [q1, vv, if_neg (by omega), if_neg (by omega), if_neg (by omega), if_neg (by omega), if_neg (by omega), if_pos rfl]
        have w2 : h'.1 45 (17 + 4 * s) = x := by rw [q1, vv, if_neg (by omega), if_neg (by omega), if_neg (by omega), if_pos rfl]
        have w3 : h'.1 45 (17 + 4 * s + 1) = y := by rw [q1, vv, if_neg (by omega), if_neg (by omega), if_pos rfl]
        rw [w1, w2, w3]
        exact val
      · rw [q1, vv, if_neg (by omega), if_pos rfl]
      · rw [q1, vv, if_pos rfl]
    refine r_X11_forget_107 l1 l2 l3 ⟨fun c => absurd (i_lt.mp c) (by rw [i_0]; omega), fun c => ?_⟩
    rw [i_nat j1, i_nat j9]
    have nn : ¬ mI h 45 (9 + s) = -2 → ¬ (h.1 45 (9 + s)).toInt < 0 := fun z => by
      rcases (tz.2.2 s (by omega)).1 with w | w
      · exact absurd w.1 z
      · omega
    have ad : ∀ p q : Nat, (0 ≤ (h.1 45 p).toInt ∧ 0 ≤ (h.1 45 q).toInt ∧ (h.1 45 p).toInt + (h.1 45 q).toInt ≤ 240) → (h.1 45 p + h.1 45 q).toInt = (h.1 45 p).toInt + (h.1 45 q).toInt := fun p q w => i_add rfl rfl (by omega)
    refine ⟨v1, fun y1 => ⟨v9, fun y2 => ⟨v9, fun y3 x11 e11 => ?_, fun y3 => ?_⟩, fun y2 => nx h ok t (Or.inr (Or.inr ⟨y1, Or.inr y2, rfl, fun q _ => ⟨sE_rf _ q, fun _ _ => rfl⟩⟩))⟩, fun y1 => ⟨v9, fun y3 x32 e32 => ?_, fun y3 => away y3 y1⟩⟩
    · have k0 := e17 x11 e11
      have k1 := i_off k0 1 1 (by decide) (by omega)
      have k2 := i_off k0 2 2 (by decide) (by omega)
      have k3 := i_off k0 3 3 (by decide) (by omega)
      refine ⟨i_vp k0 (by omega), i_vp k1 (by omega), fun x15 e15 => ⟨i_vp k2 (by omega), i_vp k3 (by omega), fun x19 e19 => ⟨v1, v1, v9, i_vp k0 (by omega), i_vp k1 (by omega), i_vp k2 (by omega), i_vp k3 (by omega), ?_⟩⟩⟩
      rw [i_nat k0, i_nat k1] at e15
      rw [i_nat k2, i_nat k3] at e19
      rw [i_nat k0, i_nat k1, i_nat k2, i_nat k3]
      have w1 : x15.toInt = (h.1 45 (17 + 4 * s)).toInt + (h.1 45 (17 + 4 * s + 1)).toInt := by rw [e15]; exact ad _ _ (by omega)
      have w2 : x19.toInt = (h.1 45 (17 + 4 * s + 2)).toInt + (h.1 45 (17 + 4 * s + 3)).toInt := by rw [e19]; exact ad _ _ (by omega)
      exact mrg _ x15 x19 _ _ _ _ r1 (by omega) (by omega) (by omega) (nn y3) (Or.inr y2) (Or.inr ⟨y1, rfl, e15, e19⟩)
    · have y2 : h.1 45 (9 + s) = l1 := y2
      have y3 : h.1 45 (9 + s) = -2 := y3
      rw [← y2, y3, n2] at hl1
      omega
    · have k0 := e17 x32 e32
      have k1 := i_off k0 1 1 (by decide) (by omega)
      have k2 := i_off k0 2 2 (by decide) (by omega)
      have k3 := i_off k0 3 3 (by decide) (by omega)
      refine ⟨i_vp k0 (by omega), i_vp k2 (by omega), fun x36 e36 => ⟨i_vp k1 (by omega), i_vp k3 (by omega), fun x40 e40 => ⟨v9, v1, v9, i_vp k0 (by omega), i_vp k1 (by omega), i_vp k2 (by omega), i_vp k3 (by omega), ?_⟩⟩⟩
      rw [i_nat k0, i_nat k2] at e36
      rw [i_nat k1, i_nat k3] at e40
      rw [i_nat k0, i_nat k1, i_nat k2, i_nat k3]
      have w1 : x36.toInt = (h.1 45 (17 + 4 * s)).toInt + (h.1 45 (17 + 4 * s + 2)).toInt := by rw [e36]; exact ad _ _ (by omega)
      have w2 : x40.toInt = (h.1 45 (17 + 4 * s + 1)).toInt + (h.1 45 (17 + 4 * s + 3)).toInt := by rw [e40]; exact ad _ _ (by omega)
      exact mrg _ x36 x40 _ _ _ _ (rf_ne_lo r9 y3 (by decide) (-1) (by decide)) (by omega) (by omega) (by omega) (nn y3) (Or.inl y1) (Or.inl ⟨y1, rfl, e36, e40⟩)
/-- a look is looked at -/
def LA (a : Nat → Int32) (l : Int32) : Prop := ∃ s, s < sn a ∧ (a (1 + s) = l ∨ a (9 + s) = l)
set_option maxRecDepth 100000 in
set_option maxHeartbeats 4000000 in
theorem v_forget_22 {g : gT} {h : mh_T} {P : Int32 → mh_T → Prop} (l1 : Int32) (hG : GI h) (h0 : ¬ LA (h.1 45) l1 → MCi g yX11_isNot uX11_isNot [.ref 11, .int 5] h (fun r6 h5 => (r6 = 0 ∨ r6 = 1) ∧ P r6 h5)) (h1 : LA (h.1 45) l1 → ∀ l2 : Int32, MCv g yX11_copy uX11_copy [.ref 45, .int 0, .ref 48, .int 0, .int 49] h (fun h3 => ∀ x4 : Int32, x4 = ((mI h3 45 (Int32.toNatClampNeg 0)) - 1) → ME g uX11_forget 107 [.ref 11, .int l1, .int l2, .int x4, .retAddr 0, .retAddr 0, .retAddr 0, .retAddr 0, .retAddr 0] [] h3 (qI P))) : ∀ (n : Nat) (l2 l3 : Int32) (s : Nat), l3.toInt = (s : Int) → s ≤ sn (h.1 45) → sn (h.1 45) - s < n → (l2 = 0 → ∀ q, q < s → ¬ (h.1 45 (1 + q) = l1 ∨ h.1 45 (9 + q) = l1)) → (¬ l2 = 0 → LA (h.1 45) l1) → ME g uX11_forget 22 [.ref 11, .int l1, .int l2, .int l3, .retAddr 0, .retAddr 0, .retAddr 0, .retAddr 0, .retAddr 0] [] h (qI P) := by
  intro n
  have f0 : R 0 8 (mI h 45 0) := GI_rd hG 45 0 rfl
  have f01 : 0 ≤ (h.1 45 0).toInt := f0.1
  have f02 : (h.1 45 0).toInt ≤ 8 := f0.2
  have en : (mI h 45 (Int32.toNatClampNeg 0)).toInt = (sn (h.1 45) : Int) := by show (h.1 45 0).toInt = _; unfold sn; omega
  have n8 : sn (h.1 45) ≤ 8 := by unfold sn; omega
  induction n with
  | zero => intro l2 l3 s _ _ hn; exact absurd hn (Nat.not_lt_zero _)
  | succ n ih =>
    intro l2 l3 s es hs hn hz ho
    refine r_X11_forget_22 l1 l2 l3 ⟨fun c => ⟨fun z => h1 (ho z) l2, fun z => h0 (fun y => ?_)⟩, fun c => ?_⟩
    · have c := i_le.mp c
      obtain ⟨q, q1, q2⟩ := y
      exact hz z q (by omega) q2
    · have c := i_lt.mp (nle c)
      rw [en, es] at c
      have s8 : s < 8 := by omega
      have j1 := i_1s es s8
      have j9 := i_9 es s8
      rw [i_nat j1, i_nat j9]
      have nx : ∀ l2 : Int32, (l2 = 0 → ∀ q, q < s + 1 → ¬ (h.1 45 (1 + q) = l1 ∨ h.1 45 (9 + q) = l1)) → (¬ l2 = 0 → LA (h.1 45) l1) → ME g uX11_forget 22 [.ref 11, .int l1, .int l2, .int (l3 + 1), .retAddr 0, .retAddr 0, .retAddr 0, .retAddr 0, .retAddr 0] [] h (qI P) := fun l2 a b => ih l2 (l3 + 1) (s + 1) (i_inc es (by omega)) (by omega) (by omega) a b
      refine ⟨fun z => nx 1 (fun y => absurd y (by decide)) (fun _ => ho z), fun z => ⟨i_vp j1 (by omega), fun y => nx 1 (fun w => absurd w (by decide)) (fun _ => ⟨s, by omega, Or.inl y⟩), fun y => ⟨i_vp j9 (by omega), fun w => nx 0 (fun _ q hq => ?_) (fun v => absurd rfl v), fun w => nx 1 (fun v => absurd v (by decide)) (fun _ => ⟨s, by omega, Or.inr w⟩)⟩⟩⟩
      by_cases e : q = s
      · subst e
        exact fun v => v.elim y w
      · exact hz z q (by omega)
theorem v_X11_forget {g : gT} {h : mh_T} {P : Int32 → mh_T → Prop} (l1 : Int32) (u : Nat) (eu : (mI h 11 24).toInt = (u : Int)) (hG : GI h) (hI : TVs h) (hB : NB h) (tz : TZ (h.1 45)) (h0 : ¬ (LKb h l1 ∧ LA (h.1 45) l1) → ∀ h', Ok [300, 11] h h' → P 0 h') (hp : LKb h l1 → LA (h.1 45) l1 → ∀ h', Ok msR h h' → TVs h' → fgt l1 (sn (h.1 45)) (h.1 45) (h.1 47) (h'.1 45) (h'.1 47) → HD u (ac5 2 l1 (-2) (-2) (-2)) h h' → P 1 h') : MCi g yX11_forget uX11_forget [.ref 11, .int l1] h P := by
  refine e_X11_forget l1 (v_good hG (fun h1 k1 => ?_))
  have e45 : h1.1 45 = h.1 45 := OkC k1 (by decide)
  have lk : LKb h1 l1 ↔ LKb h l1 := by unfold LKb; rw [show mI h1 45 50 = mI h 45 50 from congrFun e45 50]
  refine v_isLook l1 k1.1 (NB_ok k1 (by decide) hB) (fun q => ⟨fun _ => ?_, fun z => absurd z (by decide)⟩) (fun q => ⟨fun z => absurd rfl z, fun _ => v_isNot 1 (by decide) k1 (h0 (fun y => q (lk.mpr y.1)))⟩)
  have n8 : sn (h.1 45) ≤ 8 := by unfold sn; have := tz.2.1; omega
  refine v_forget_22 l1 k1.1 (fun z => v_isNot 5 (by decide) k1 (h0 (fun y => z (by rw [e45]; exact y.2)))) (fun la l2 => ?_) 9 0 0 0 (by decide) (Nat.zero_le _) (by rw [e45]; omega) (fun _ q hq => absurd hq (Nat.not_lt_zero _)) (fun v => absurd rfl v)
  rw [e45] at la
  refine v_was k1.1 (TVs_ok hI k1 (by decide)) (fun h2 k2 t2 e48 x4 e4 => ?_)
  have e45' : h2.1 45 = h.1 45 := by rw [OkC k2 (k := 45) (by decide), e45]
  have e47' : h2.1 47 = h.1 47 := by rw [OkC k2 (k := 47) (by decide), OkC k1 (k := 47) (by decide)]
  have ex : x4.toInt + 1 = (sn (h.1 45) : Int) := by
    have f0 : R 0 8 (mI h2 45 0) := GI_rd k2.1 45 0 rfl
    have z := tz.1
    rw [e4, show Int32.toNatClampNeg 0 = 0 from by decide, ti_sub1 f0 (by decide), show mI h2 45 0 = h.1 45 0 from congrFun e45' 0]
    unfold sn
    omega
  refine v_forget_L l1 l2 (lk.mp q).1 (sn (h.1 45)) x4 h2 ex (Ok_rf k2.1) t2.1 (by rw [e45']; exact tz) (by rw [e45']; exact Nat.le_refl _) (fun h3 k3 t3 fl => v_done 2 l1 (-2) (-2) (-2) u eu k1 k2 e48 k3 (TVs_4547 t2 k3 t3) (fun h' k' t' e5 e7 hd => hp (lk.mp q) la h' k' t' (by rw [e5, e7]; rw [e45', e47'] at fl; exact fl) hd))
