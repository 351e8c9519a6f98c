/-! the class's book: THE TABLE, the rays, what it answers -/
theorem v_clearCoins {g : gT} {h0 : mh_T} {P : mh_T → Prop} (hG : GI h0) (hp : ∀ h', Ok [27] h0 h' → (∀ j, j < 32 → h'.1 27 j = 0) → P h') : MCv g yX8_clearCoins uX8_clearCoins [.ref 3] h0 P := by
  have L : ∀ (n : Nat) (l1 : Int32) (q : Nat) (h : mh_T), l1.toInt = (q : Int) → q ≤ 32 → 32 - q < n → Ok [27] h0 h → (∀ j, j < q → h.1 27 j = 0) → ME g uX8_clearCoins 2 [.ref 3, .int l1] [] h (qV P) := by
    intro n
    induction n with
    | zero => intro l1 q h _ _ hn; exact absurd hn (Nat.not_lt_zero _)
    | succ n ih =>
      intro l1 q h e1 hq hn ok hz
      have z32 : (32 : Int32).toInt = 32 := by decide
      refine r_X8_clearCoins_2 l1 ⟨fun c => hp h ok (fun j hj => hz j ?_), fun c => ?_⟩
      · have c := i_le.mp c
        omega
      · have c := i_lt.mp (nle c)
        rw [i_nat e1]
        refine ⟨i_vp e1 (by omega), ih (l1 + 1) (q + 1) _ (i_inc e1 (by omega)) (by omega) (by omega) (Ok_w ok (k := 27) (rgc_27 _) (R_full _) (by decide) (nt_k (by decide))) (fun j hj => ?_)⟩
        rw [wI_i]
        by_cases e : j = q
        · rw [if_pos e]
        · rw [if_neg e]
          exact hz j (by omega)
  exact e_X8_clearCoins (L 33 0 0 h0 (by decide) (Nat.zero_le _) (by omega) (Ok_rf hG) (fun j hj => absurd hj (Nat.not_lt_zero _)))
set_option maxRecDepth 100000 in
set_option maxHeartbeats 4000000 in
theorem v_X8_open {g : gT} {h : mh_T} {P : mh_T → Prop} (hG : GI h) (hp : ∀ h', GI h' → Fr [3, 24, 25, 26, 27] h h' → (mI h' 3 0 = mI h 2 0 ∧ mI h' 3 1 = mI h 2 1 ∧ mI h' 3 2 = mI h 2 3 ∧ (∀ j, j < 8 → h'.1 24 j = h.1 15 j) ∧ (∀ j, j < 8 → h'.1 25 j = h.1 16 j) ∧ (∀ j, j < 32 → h'.1 26 j = h.1 17 j) ∧ ∀ j, j < 32 → h'.1 27 j = 0) → P h') : MCv g yX8_open uX8_open [.ref 3, .ref 2] h P := by
  refine e_X8_open ?_
  have e1 : mI (wI h 3 0 (mI h 2 0)) 2 1 = mI h 2 1 := by rw [mI_wI, if_neg (by decide)]
  rw [e1]
  have e3 : mI (wI (wI h 3 0 (mI h 2 0)) 3 1 (mI h 2 1)) 2 3 = mI h 2 3 := by rw [mI_wI, if_neg (by decide), mI_wI, if_neg (by decide)]
  rw [e3]
  have g1 := GI_w hG (k := 3) (j := 0) (v := mI h 2 0) (lo := 0) (hi := 60) (by decide) (GI_rd hG 2 0 (by decide))
  have g2 := GI_w g1 (k := 3) (j := 1) (v := mI h 2 1) (lo := 0) (hi := 6) (by decide) (GI_rd hG 2 1 (by decide))
  have g3 := GI_w g2 (k := 3) (j := 2) (v := mI h 2 3) (lo := 0) (hi := 8) (by decide) (GI_rd hG 2 3 (by decide))
  have v0 : mI (wI (wI (wI h 3 0 (mI h 2 0)) 3 1 (mI h 2 1)) 3 2 (mI h 2 3)) 3 0 = mI h 2 0 := by rw [mI_wI, if_neg (by decide), mI_wI, if_neg (by decide), mI_wI, if_pos ⟨rfl, rfl⟩]
  have v1 : mI (wI (wI (wI h 3 0 (mI h 2 0)) 3 1 (mI h 2 1)) 3 2 (mI h 2 3)) 3 1 = mI h 2 1 := by rw [mI_wI, if_neg (by decide), mI_wI, if_pos ⟨rfl, rfl⟩]
  have v2 : mI (wI (wI (wI h 3 0 (mI h 2 0)) 3 1 (mI h 2 1)) 3 2 (mI h 2 3)) 3 2 = mI h 2 3 := by rw [mI_wI, if_pos ⟨rfl, rfl⟩]
  have r3 : Fr [3, 24, 25, 26, 27] h (wI (wI (wI h 3 0 (mI h 2 0)) 3 1 (mI h 2 1)) 3 2 (mI h 2 3)) := Fr_w (Fr_w (Fr_w (Fr_rf h) (by decide)) (by decide)) (by decide)
  generalize wI (wI (wI h 3 0 (mI h 2 0)) 3 1 (mI h 2 1)) 3 2 (mI h 2 3) = h3 at g3 v0 v1 v2 r3
  have g4 := GI_cp g3 (k0 := 15) (sp := (Int32.toNatClampNeg 0)) (k1 := 24) (dp := (Int32.toNatClampNeg 0)) (n := (Int32.toNatClampNeg 8)) (cp_ok (sp := 0) (dp := 0) (n := 8) (by decide))
  have g5 := GI_cp g4 (k0 := 16) (sp := (Int32.toNatClampNeg 0)) (k1 := 25) (dp := (Int32.toNatClampNeg 0)) (n := (Int32.toNatClampNeg 8)) (cp_ok (sp := 0) (dp := 0) (n := 8) (by decide))
  have g6 := GI_cp g5 (k0 := 17) (sp := (Int32.toNatClampNeg 0)) (k1 := 26) (dp := (Int32.toNatClampNeg 0)) (n := (Int32.toNatClampNeg 32)) (cp_ok (sp := 0) (dp := 0) (n := 32) (by decide))
  refine v_clearCoins g6 (fun h1 k1 k27 => ?_)
  have c3 : ∀ j, mI h1 3 j = mI h3 3 j := fun j => by
    rw [Ok_eq k1 (by decide), mI_cpI, if_neg (fun z => absurd z.1 (by decide)), mI_cpI, if_neg (fun z => absurd z.1 (by decide)), mI_cpI, if_neg (fun z => absurd z.1 (by decide))]
  refine hp _ (GI_w k1.1 (k := 3) (j := 3) (lo := -2147483648) (hi := 2147483647) (by decide) (R_full _)) (Fr_w (Fr_t2 (Fr_cp (Fr_cp (Fr_cp r3 (by decide)) (by decide)) (by decide)) k1.2.1 (by decide)) (by decide)) ⟨?_, ?_, ?_, fun j hj => ?_, fun j hj => ?_, fun j hj => ?_, fun j hj => ?_⟩
  · rw [mI_wI, if_neg (by decide), c3]; exact v0
  · rw [mI_wI, if_neg (by decide), c3]; exact v1
  · rw [mI_wI, if_neg (by decide), c3]; exact v2
  · rw [wI_o (by decide), OkC k1 (k := 24) (by decide), ← (r3 15 (by decide) (by decide)).1]
    refine (mI_cpI _ _ _ _ _ _ _ _).trans ((if_neg (fun z => absurd z.1 (by decide))).trans ((mI_cpI _ _ _ _ _ _ _ _).trans ((if_neg (fun z => absurd z.1 (by decide))).trans ((mI_cpI _ _ _ _ _ _ _ _).trans ((if_pos ⟨rfl, Nat.zero_le _, hj⟩).trans ?_)))))
    show h3.1 15 (0 + (j - 0)) = _
    rw [Nat.zero_add, Nat.sub_zero]
  · rw [wI_o (by decide), OkC k1 (k := 25) (by decide), ← (r3 16 (by decide) (by decide)).1]
    refine (mI_cpI _ _ _ _ _ _ _ _).trans ((if_neg (fun z => absurd z.1 (by decide))).trans ((mI_cpI _ _ _ _ _ _ _ _).trans ((if_pos ⟨rfl, Nat.zero_le _, hj⟩).trans ((mI_cpI _ _ _ _ _ _ _ _).trans ((if_neg (fun z => absurd z.1 (by decide))).trans ?_)))))
    show h3.1 16 (0 + (j - 0)) = _
    rw [Nat.zero_add, Nat.sub_zero]
  · rw [wI_o (by decide), OkC k1 (k := 26) (by decide), ← (r3 17 (by decide) (by decide)).1]
    refine (mI_cpI _ _ _ _ _ _ _ _).trans ((if_pos ⟨rfl, Nat.zero_le _, hj⟩).trans ((mI_cpI _ _ _ _ _ _ _ _).trans ((if_neg (fun z => absurd z.1 (by decide))).trans ((mI_cpI _ _ _ _ _ _ _ _).trans ((if_neg (fun z => absurd z.1 (by decide))).trans ?_)))))
    show h3.1 17 (0 + (j - 0)) = _
    rw [Nat.zero_add, Nat.sub_zero]
  · rw [wI_o (by decide)]
    exact k27 j hj
/-- the product of two rays -/
def dtk (x : Nat → Int32) (i j : Nat) : Nat → Int32
  | 0 => 0
  | k + 1 => dtk x i j k + x (4 * i + k) * x (4 * j + k)
theorem dtk_cg {x y : Nat → Int32} {i j : Nat} : ∀ k, k ≤ 4 → (∀ q, q < 4 → x (4 * i + q) = y (4 * i + q) ∧ x (4 * j + q) = y (4 * j + q)) → dtk x i j k = dtk y i j k
  | 0, _, _ => rfl
  | k + 1, hk, h => by
    show dtk x i j k + x (4 * i + k) * x (4 * j + k) = dtk y i j k + y (4 * i + k) * y (4 * j + k)
    rw [dtk_cg k (by omega) h, (h k (by omega)).1, (h k (by omega)).2]
theorem v_product {g : gT} {h : mh_T} {P : Int32 → mh_T → Prop} {i j : Nat} (l1 l2 : Int32) (e1 : l1.toInt = (i : Int)) (e2 : l2.toInt = (j : Int)) (hi : i < 18) (hj : j < 18) (hp : P (dtk (fun q => mI h 20 q) i j 4) h) : MCi g yX3_product uX3_product [.ref 20, .int l1, .int l2] h P := by
  have i4 : (4 : Int32).toInt = 4 := by decide
  have L : ∀ (m : Nat) (l3 l4 : Int32) (k : Nat), l4.toInt = (k : Int) → k ≤ 4 → 4 - k < m → l3 = dtk (fun q => mI h 20 q) i j k → ME g uX3_product 5 [.ref 20, .int l1, .int l2, .int l3, .int l4] [] h (qI P) := by
    intro m
    induction m with
    | zero => intro l3 l4 k _ _ hm; exact absurd hm (Nat.not_lt_zero _)
    | succ m ih =>
      intro l3 l4 k e4 hk hm e3
      refine r_X3_product_5 l1 l2 l3 l4 ⟨fun z => ?_, fun z => ?_⟩
      · rw [i_le, i4, e4] at z
        have : k = 4 := by omega
        subst this
        rw [e3]
        exact hp
      · rw [i_le, i4, e4] at z
        have ia := i_4t e1 hi e4 (by omega)
        have ib := i_4t e2 hj e4 (by omega)
        refine ⟨i_vp ia (by omega), i_vp ib (by omega), fun x4 ex => ih x4 (l4 + 1) (k + 1) (i_inc e4 (by omega)) (by omega) (by omega) ?_⟩
        rw [ex, i_nat ia, i_nat ib, e3]
        rfl
  exact e_X3_product l1 l2 (L 5 0 0 0 (by decide) (by omega) (by omega) rfl)
theorem sm_n18 : ∀ p, p < 18 → ((nI p &&& 31).toBitVec.smod 32) = BitVec.ofNat 32 p ∧ (BitVec.ofNat 32 p).toNat = p := by decide
theorem bt_or18 {x r : Int32} {p q : Nat} (e : r.toInt = (p : Int)) (hp : p < 18) (hq : q < 18) : bt (x ||| (1 <<< (r &&& 31))) q = (q == p || bt x q) := by
  have er : r = nI p := i_nI e (by omega)
  subst er
  obtain ⟨s1, s2⟩ := sm_n18 p hp
  unfold bt
  rw [Int32.toBitVec_or, Int32.toBitVec_shiftLeft, s1]
  have h1 : (1 : Int32).toBitVec = 1#32 := rfl
  rw [h1, BitVec.getLsbD_or]
  have : (1#32 <<< BitVec.ofNat 32 p).getLsbD q = (q == p) := by
    rw [BitVec.shiftLeft_eq', s2, BitVec.getLsbD_shiftLeft]
    have d : ∀ p, p < 18 → ∀ q, q < 18 → (decide (q < 32) && !decide (q < p) && (1#32).getLsbD (q - p)) = (q == p) := by decide +kernel
    exact d p hp q hq
  rw [this, Bool.or_comm]
theorem bt_s18 {x r : Int32} {p : Nat} (e : r.toInt = (p : Int)) (hp : p < 18) : ((x >>> (r &&& 31)) &&& 1) = if bt x p = true then 1 else 0 := by
  have er : r = nI p := i_nI e (by omega)
  subst er
  obtain ⟨s1, s2⟩ := sm_n18 p hp
  have key : (x.toBitVec.sshiftRight p)[0] = x.toBitVec.getLsbD p := by
    rw [← BitVec.getLsbD_eq_getElem (by decide), BitVec.getLsbD_sshiftRight]
    simp [show p < 32 by omega]
  have b : ((x >>> (nI p &&& 31)) &&& 1) = 0 ∨ ((x >>> (nI p &&& 31)) &&& 1) = 1 := R_z (R_and (x := x >>> (nI p &&& 31)) (y := 1) (c := 1) (d := 1) ⟨by decide, by decide⟩ (by decide))
  have z : ((x >>> (nI p &&& 31)) &&& 1) = 0 ↔ bt x p = false := by
    rw [← Int32.toBitVec_inj, Int32.toBitVec_and, Int32.toBitVec_shiftRight, s1]
    have h1 : (1 : Int32).toBitVec = 1#32 := rfl
    have h0 : (0 : Int32).toBitVec = 0#32 := rfl
    rw [h1, h0]
    unfold bt
    constructor
    · intro h
      have := congrArg (fun b => b.getLsbD 0) h
      simp [BitVec.sshiftRight', s2] at this
      rw [key] at this
      exact this
    · intro h
      apply BitVec.eq_of_getLsbD_eq
      intro i hi
      by_cases z : i = 0
      · subst z
        simp [BitVec.sshiftRight', s2]
        rw [key]
        exact h
      · simp [z]
  cases q : bt x p
  · rw [z.mpr q]
    rfl
  · rcases b with b | b
    · rw [z.mp b] at q
      cases q
    · rw [b]
      rfl
theorem bt_00 : ∀ q, q < 18 → bt 0 q = false := by
  unfold bt
  decide
/-- which rays are square to which -/
theorem v_X3_open {g : gT} {h : mh_T} {P : mh_T → Prop} {c : Nat} (hG : GI h) (ec : (mI h 2 5).toInt = (c : Int)) (hc : c ≤ 18) (hp : ∀ h', GI h' → Fr [8, 32, 33] h h' → mI h' 8 0 = mI h 2 5 → (∀ i j, i < c → j < c → ¬ j = i → (bt (mI h' 32 i) j = true ↔ dtk (fun q => mI h 20 q) i j 4 = 0)) → P h') : MCv g yX3_open uX3_open [.ref 8, .ref 2] h P := by
  refine e_X3_open ?_
  have g0 : GI (wI (wI h 8 0 (mI h 2 5)) 8 8 0) := GI_w (GI_w hG (k := 8) (j := 0) (lo := 0) (hi := 18) (by decide) (GI_rd hG 2 5 (by decide))) (k := 8) (j := 8) (lo := 0) (hi := 1) (by decide) ⟨by decide, by decide⟩
  have r0 : Fr [8, 32, 33] h (wI (wI h 8 0 (mI h 2 5)) 8 8 0) := Fr_w (Fr_w (Fr_rf h) (by decide)) (by decide)
  have v0 : mI (wI (wI h 8 0 (mI h 2 5)) 8 8 0) 8 0 = mI h 2 5 := by rw [mI_wI, if_neg (by decide), mI_wI, if_pos ⟨rfl, rfl⟩]
  have w20 : (fun q => mI (wI (wI h 8 0 (mI h 2 5)) 8 8 0) 20 q) = fun q => mI h 20 q := by
    funext q
    rw [mI_wI, if_neg (fun z => absurd z.1 (by decide)), mI_wI, if_neg (fun z => absurd z.1 (by decide))]
  rw [← w20] at hp
  generalize wI (wI h 8 0 (mI h 2 5)) 8 8 0 = h0 at g0 r0 v0 hp
  have k80 : ∀ {k : mh_T}, Ok [32] h0 k → mI k 8 0 = mI h 2 5 := fun o => by rw [Ok_eq o (by decide)]; exact v0
  have k20 : ∀ {k : mh_T}, Ok [32] h0 k → (fun q => mI k 20 q) = fun q => mI h0 20 q := fun o => by
    funext q
    exact Ok_eq o (by decide)
  have L : ∀ (m : Nat), (∀ (l2 : Int32) (i : Nat) (k : mh_T), l2.toInt = (i : Int) → i ≤ c → 400 - 20 * i < m → Ok [32] h0 k → (∀ a b, a < i → b < c → ¬ b = a → (bt (mI k 32 a) b = true ↔ dtk (fun q => mI h0 20 q) a b 4 = 0)) → ME g uX3_open 15 [.ref 8, .ref 2, .int l2, .retAddr 0] [] k (qV P)) ∧ (∀ (l2 l3 : Int32) (i j : Nat) (k : mh_T), l2.toInt = (i : Int) → i < c → l3.toInt = (j : Int) → j ≤ c → 400 - 20 * i - 1 - j < m → Ok [32] h0 k → (∀ a b, a < i → b < c → ¬ b = a → (bt (mI k 32 a) b = true ↔ dtk (fun q => mI h0 20 q) a b 4 = 0)) → (∀ b, b < j → ¬ b = i → (bt (mI k 32 i) b = true ↔ dtk (fun q => mI h0 20 q) i b 4 = 0)) → (∀ b, j ≤ b → b < 18 → bt (mI k 32 i) b = false) → ME g uX3_open 32 [.ref 8, .ref 2, .int l2, .int l3] [] k (qV P)) := by
    intro m
    induction m with
    | zero => exact ⟨fun _ _ _ _ _ hm => absurd hm (Nat.not_lt_zero _), fun _ _ _ _ _ _ _ _ _ hm => absurd hm (Nat.not_lt_zero _)⟩
    | succ m ih =>
      refine ⟨fun l2 i k e2 hi hm ok d => ?_, fun l2 l3 i j k e2 hi e3 hj hm ok d d1 d0 => ?_⟩
      · refine r_X3_open_15 l2 ⟨fun z => ?_, fun z => ?_⟩
        · rw [k80 ok, i_le, ec, e2] at z
          have : i = c := by omega
          subst this
          refine s_X3_findCorners ok.1 (fun h2 k2 => hp h2 k2.1 (Fr_t2 (Fr_t2 r0 ok.2.1 (by decide)) k2.2.1 (by decide)) ?_ (fun a b ha hb hab => ?_))
          · rw [k2.2.2.2.2.1 8 0 (by decide)]
            exact k80 ok
          · rw [show mI h2 32 a = mI k 32 a from Ok_eq k2 (by decide)]
            exact d a b ha hb hab
        · rw [k80 ok, i_le, ec, e2] at z
          rw [i_nat e2]
          refine ⟨i_vp e2 (by omega), ih.2 l2 0 i 0 _ e2 (by omega) (by decide) (Nat.zero_le _) (by omega) (Ok_w ok (k := 32) (rgc_32 _) (R_full _) (by decide) (nt_k (by decide))) (fun a b ha hb hab => ?_) (fun b hb => absurd hb (Nat.not_lt_zero b)) (fun b _ hb => ?_)⟩
          · rw [mI_wI, if_neg (by omega)]
            exact d a b ha hb hab
          · rw [mI_wI, if_pos ⟨rfl, rfl⟩]
            exact bt_00 b hb
      · have e3' := i_inc e3 (by omega)
        refine r_X3_open_32 l2 l3 ⟨fun z => ?_, fun z => ⟨fun y => ?_, fun y => ?_⟩⟩
        · rw [k80 ok, i_le, ec, e3] at z
          have : j = c := by omega
          subst this
          refine ih.1 (l2 + 1) (i + 1) k (i_inc e2 (by omega)) (by omega) (by omega) ok (fun a b ha hb hab => ?_)
          by_cases q : a = i
          · subst q
            exact d1 b hb hab
          · exact d a b (by omega) hb hab
        · rw [k80 ok, i_le, ec, e3] at z
          have yij : j = i := by
            have := congrArg Int32.toInt y
            rw [e3, e2] at this
            omega
          exact ih.2 l2 (l3 + 1) i (j + 1) k e2 hi e3' (by omega) (by omega) ok d (fun b hb hbi => d1 b (by omega) hbi) (fun b hb h18 => d0 b (by omega) h18)
        · rw [k80 ok, i_le, ec, e3] at z
          have yij : ¬ j = i := fun q => y (Int32.toInt_inj.mp (by rw [e3, e2, q]))
          refine v_product l2 l3 e2 e3 (by omega) (by omega) ?_
          rw [k20 ok]
          refine ⟨fun w => ?_, fun w => ?_⟩
          · refine ih.2 l2 (l3 + 1) i (j + 1) k e2 hi e3' (by omega) (by omega) ok d (fun b hb hbi => ?_) (fun b hb h18 => d0 b (by omega) h18)
            by_cases q : b = j
            · subst q
              rw [d0 b (Nat.le_refl _) (by omega)]
              exact ⟨fun x => (by cases x), fun x => absurd x w⟩
            · exact d1 b (by omega) hbi
          · rw [i_nat e2]
            refine ⟨i_vp e2 (by omega), i_vp e2 (by omega), ih.2 l2 (l3 + 1) i (j + 1) _ e2 hi e3' (by omega) (by omega) (Ok_w ok (k := 32) (rgc_32 _) (R_full _) (by decide) (nt_k (by decide))) (fun a b ha hb hab => ?_) (fun b hb hbi => ?_) (fun b hb h18 => ?_)⟩
            · rw [mI_wI, if_neg (by omega)]
              exact d a b ha hb hab
            · rw [mI_wI, if_pos ⟨rfl, rfl⟩, bt_or18 e3 (by omega) (by omega)]
              by_cases q : b = j
              · subst q
                simp [w]
              · rw [beq_false_of_ne q, Bool.false_or]
                exact d1 b (by omega) hbi
            · rw [mI_wI, if_pos ⟨rfl, rfl⟩, bt_or18 e3 (by omega) h18, beq_false_of_ne (by omega), Bool.false_or]
              exact d0 b (by omega) h18
  exact (L 500).1 0 0 h0 (by decide) (Nat.zero_le _) (by omega) (Ok_rf g0) (fun a b ha => absurd ha (Nat.not_lt_zero a))
