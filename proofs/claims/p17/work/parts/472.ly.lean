/-! layTab: the first tableau -/
theorem i_cl {x : Int32} (h : 0 ≤ x.toInt) : x.toInt = (x.toNatClampNeg : Int) := by
  show _ = ((x.toInt.toNat : Nat) : Int)
  omega
theorem bit_all : ∀ x, x < 64 → ∀ a, a < 8 → (((nI x) >>> ((nI a - 2) &&& 31)) &&& 1).toInt = tc_A ((a : Int) - 2) x := by decide +kernel
theorem bit_v {y l : Int32} {x : Nat} (hy : y.toInt = (x : Int)) (hx : x < 64) (hl : R (-2) 5 l) : ((y >>> (l &&& 31)) &&& 1).toInt = tc_A l.toInt x := by
  have e1 : y = nI x := Int32.toInt_inj.mp (by rw [hy, nI_toInt (by omega)])
  have h1 := hl.1
  have h2 := hl.2
  obtain ⟨a, ha⟩ : ∃ a : Nat, (a : Int) = l.toInt + 2 := ⟨(l.toInt + 2).toNat, by omega⟩
  have e2 : l = nI a - 2 := Int32.toInt_inj.mp (by
    rw [i_sub (nI_toInt (n := a) (by omega)) (show (2 : Int32).toInt = 2 from by decide) (by omega)]
    omega)
  have := bit_all x hx a (by omega)
  rw [← e1, ← e2] at this
  rw [this]
  congr 1
  omega
theorem mI45 {h : mh_T} {r : Nat → Int32} (t : h.1 45 = r) (j : Nat) : mI h 45 j = r j := by
  show h.1 45 j = r j
  rw [t]
theorem t_fitted {g : gT} {h : mh_T} {P : Int32 → mh_T → Prop} {r : Nat → Int32} (t : h.1 45 = r) (hR : tx_R r) (l1 l2 : Int32) (s x : Nat) (h1 : l1.toInt = (s : Int)) (h2 : l2.toInt = (x : Int)) (hs : s < 8) (hx : x < 64) (hp : ∀ v : Int32, v.toInt = tc_f (tx_tw r s) (tx_la r s) (tx_lb r s) x → P v h) : MCi g yX11_fitted uX11_fitted [.ref 11, .int l1, .int l2] h P := by
  have a1 : (1 + l1).toInt = ((1 + s : Nat) : Int) := by rw [i_add (show (1 : Int32).toInt = 1 from by decide) h1 (by omega)]; omega
  have a9 : (9 + l1).toInt = ((9 + s : Nat) : Int) := by rw [i_add (show (9 : Int32).toInt = 9 from by decide) h1 (by omega)]; omega
  have R1 := (hR.2.1 s hs).1
  have R2 := (hR.2.1 s hs).2
  have b1 := bit_v h2 hx (R_w R1 (by decide))
  have b2 := bit_v h2 hx R2
  refine e_X11_fitted l1 l2 ⟨i_vp a1 (by omega), fun x2 e2 => ⟨i_vp a9 (by omega), fun ne => ⟨i_vp a9 (by omega), hp _ ?_⟩, fun eq => hp _ ?_⟩⟩
  · rw [i_nat a9, mI45 t] at ne
    rw [i_nat a1, mI45 t] at e2
    rw [i_nat a9, mI45 t]
    rw [← e2] at b1
    unfold tc_f tx_tw tx_la tx_lb
    rw [if_pos (decide_eq_true ne)]
    have c1 := tc_A01 (r (1 + s)).toInt x
    have c2 := tc_A01 (r (9 + s)).toInt x
    have d1 : (2 * x2).toInt = 2 * tc_A (r (1 + s)).toInt x := by
      rw [Int32.toInt_mul, show (2 : Int32).toInt = 2 from by decide, b1, bm (by omega) (by omega)]
    rw [i_add d1 b2 (by omega)]
  · rw [i_nat a9, mI45 t] at eq
    rw [i_nat a1, mI45 t] at e2
    rw [← e2] at b1
    unfold tc_f tx_tw tx_la tx_lb
    rw [if_neg (fun z => (of_decide_eq_true (p := ¬ r (9 + s) = -2) z) eq)]
    exact b1
theorem t_outcomes {g : gT} {h : mh_T} {P : Int32 → mh_T → Prop} {r : Nat → Int32} (t : h.1 45 = r) (l1 : Int32) (s : Nat) (h1 : l1.toInt = (s : Int)) (hs : s < 8) (hp : ∀ v : Int32, v.toInt = (tc_oc (tx_tw r) s : Int) → P v h) : MCi g yX11_outcomes uX11_outcomes [.ref 45, .int l1] h P := by
  have a9 : (9 + l1).toInt = ((9 + s : Nat) : Int) := by rw [i_add (show (9 : Int32).toInt = 9 from by decide) h1 (by omega)]; omega
  refine e_X11_outcomes l1 ⟨i_vp a9 (by omega), fun ne => hp _ ?_, fun eq => hp _ ?_⟩
  · rw [i_nat a9, mI45 t] at ne
    unfold tc_oc tx_tw
    rw [if_pos (decide_eq_true ne)]
    decide
  · rw [i_nat a9, mI45 t] at eq
    unfold tc_oc tx_tw
    rw [if_neg (fun z => (of_decide_eq_true (p := ¬ r (9 + s) = -2) z) eq)]
    decide
theorem t_hiddenMany {g : gT} {h : mh_T} {P : Int32 → mh_T → Prop} {r : Nat → Int32} (t : h.1 45 = r) (hR : tx_R r) (hp : ∀ v : Int32, v.toInt = (tx_many r : Int) → P v h) : MCi g yX11_hiddenMany uX11_hiddenMany [.ref 11] h P := by
  refine e_X11_hiddenMany (hp _ ?_)
  have e : mI h 45 (Int32.toNatClampNeg 50) = r 50 := mI45 t 50
  rw [e]
  have h1 := hR.2.2.1.1
  have h2 := hR.2.2.1.2
  obtain ⟨a, ha⟩ : ∃ a : Nat, (a : Int) = (r 50).toInt := ⟨(r 50).toInt.toNat, by omega⟩
  have e2 : r 50 = nI a := Int32.toInt_inj.mp (by rw [nI_toInt (by omega)]; exact ha.symm)
  have e3 : (r 50).toNatClampNeg = a := i_nat ha.symm
  unfold tx_many
  rw [e3, e2, shl_all a (by omega), Int.natCast_pow]
  rfl
def LB (r : Nat → Int32) (i x : Nat) (h : mh_T) : Prop :=
  h.1 45 = r ∧ (mI h 11 30).toInt = (tx_m r : Int) ∧ (mI h 11 31).toInt = (tx_n r : Int) + 1 ∧ (∀ k, k < i → (mI h 55 k).toInt = ((tx_many r + k : Nat) : Int))
  ∧ ∀ i' j, i' < tx_m r + 2 → j ≤ tx_n r → (mL h 54 (97 * i' + j)).toInt = if i' < i ∨ (i' = i ∧ j < x) then tx_C r j i' else 0
def tx_w1 (r : Nat → Int32) : Nat → Int := fun k => if k < tx_many r then 1 else 0
def tx_b0 (r : Nat → Int32) : Nat → Nat := fun i => tx_many r + i
theorem tx_C1 (r : Nat → Int32) : ∀ i, i < tx_m r → ∀ l, l < tx_m r → tx_C r (tx_many r + i) l = la_1 i l := by
  intro i hi l _
  have hi : i < tc_st (tc_oc (tx_tw r)) (tx_q r) := hi
  unfold tx_C tc_C
  rw [if_neg (by omega), if_pos (by omega), Nat.add_sub_cancel_left]
theorem tx_Cx (r : Nat → Int32) {s o x : Nat} (hs : s < tx_q r) (ho : o < tc_oc (tx_tw r) s) (hx : x < tx_many r) : tx_C r x (tc_st (tc_oc (tx_tw r)) s + o) = if tc_f (tx_tw r s) (tx_la r s) (tx_lb r s) x = (o : Int) then 1 else 0 := by
  unfold tx_C tc_C tc_N
  rw [if_pos hx, tc_rs_at _ hs ho, Nat.add_sub_cancel_left]
theorem tx_Cn (r : Nat → Int32) {s o : Nat} (hs : s < tx_q r) (ho : o < tc_oc (tx_tw r) s) : tx_C r (tx_n r) (tc_st (tc_oc (tx_tw r)) s + o) = tx_tm r s o := by
  have e : tx_n r = tx_many r + tc_st (tc_oc (tx_tw r)) (tx_q r) := rfl
  unfold tx_C tc_C
  rw [if_neg (by omega), if_neg (by omega), tc_rs_at _ hs ho, Nat.add_sub_cancel_left]
theorem tx_m_lt (r : Nat → Int32) {s o : Nat} (hs : s < tx_q r) (ho : o < tc_oc (tx_tw r) s) : tc_st (tc_oc (tx_tw r)) s + o < tx_m r := by
  have : tc_st (tc_oc (tx_tw r)) (s + 1) ≤ tx_m r := tc_mono _ hs
  have : tc_st (tc_oc (tx_tw r)) s + tc_oc (tx_tw r) s ≤ tx_m r := this
  omega
theorem tx_g0 {r : Nat → Int32} (hR : tx_R r) : tx_g r (tx_b0 r) := by
  refine ⟨?_, fun i hi => ?_, fun i hi => ?_⟩
  · have e := sx_D0 (tx_C1 r)
    show 0 < sx_D (tx_C r) (tx_m r) (fun i => tx_many r + i)
    rw [e]
    decide
  · have e := sx_t0 (tx_C1 r) hi (tx_n r)
    show 0 ≤ sx_t (tx_C r) (tx_m r) (fun i => tx_many r + i) i (tx_n r)
    rw [e]
    have hi' : i < tc_st (tc_oc (tx_tw r)) (tx_q r) := hi
    have k1 := tc_rs_o (tc_oc (tx_tw r)) i hi'
    have k2 : 0 < tx_q r := by
      rcases Nat.eq_zero_or_pos (tx_q r) with z | z
      · rw [z] at hi'
        exact absurd hi' (Nat.not_lt_zero _)
      · exact z
    have k3 := tc_rs_lt (tc_oc (tx_tw r)) i k2
    have k4 := tx_Cn r k3 (o := i - tc_st (tc_oc (tx_tw r)) (tc_rs (tc_oc (tx_tw r)) (tx_q r) i)) (by omega)
    rw [show tc_st (tc_oc (tx_tw r)) (tc_rs (tc_oc (tx_tw r)) (tx_q r) i) + (i - tc_st (tc_oc (tx_tw r)) (tc_rs (tc_oc (tx_tw r)) (tx_q r) i)) = i by omega] at k4
    rw [k4]
    exact (tx_tmb hR _ _ k3 (by omega)).1
  · show tx_many r + i < tx_many r + tx_m r
    omega
set_option maxRecDepth 100000 in
set_option maxHeartbeats 4000000 in
theorem t_layTab_221 {g : gT} {h0 : mh_T} {P : mh_T → Prop} {r : Nat → Int32} (hR : tx_R r) (l1 l2 : Int32) (h1 : l1.toInt = (tx_many r : Int)) (hp : ∀ h : mh_T, Ok [300, 11, 54, 55] h0 h → TB r (tx_w1 r) (fun _ => 0) (tx_b0 r) h → P h) : ∀ (n : Nat) (l3 : Int32) (x : Nat) (h : mh_T), l3.toInt = (x : Int) → x ≤ tx_many r → tx_many r - x < n → Ok [300, 11, 54, 55] h0 h → (h.1 45 = r ∧ (mI h 11 30).toInt = (tx_m r : Int) ∧ (mI h 11 31).toInt = (tx_n r : Int) + 1 ∧ (∀ k, k < tx_m r → (mI h 55 k).toInt = ((tx_many r + k : Nat) : Int)) ∧ ∀ i' j, i' < tx_m r + 2 → j ≤ tx_n r → (mL h 54 (97 * i' + j)).toInt = if i' < tx_m r then tx_C r j i' else if i' = tx_m r ∧ j < x then -1 else 0) → ME g uX11_layTab 221 [.ref 11, .int l1, .int l2, .int l3, .retAddr 0, .retAddr 0] [] h (qV P) := by
  intro n
  induction n with
  | zero => intro l3 x h _ _ hn; exact absurd hn (Nat.not_lt_zero _)
  | succ n ih =>
    intro l3 x h hx hxm hn ok hL
    obtain ⟨t1, t2, t3, t4, t5⟩ := hL
    have m32 := tx_m32 hR
    have n96 := tx_n96 hR
    have y64 := tx_y64 hR
    have t2' : (mI h 11 30).toInt = ((tx_m r : Nat) : Int) := t2
    refine r_X11_layTab_221 l1 l2 l3 ⟨fun q => ?_, fun q => ?_⟩
    · have q := i_le.mp q
      have : x = tx_many r := by omega
      subst this
      refine hp _ (Ok_wL ok (by decide)) ⟨t1, t2, t3, t4, ?_, fun i' j h2 h3 => ?_⟩
      · have e : tx_D r (tx_b0 r) = 1 := sx_D0 (tx_C1 r)
        rw [e]
        show (mL (wL h 11 29 1) 11 29).toInt = 1
        rw [mL_wL, if_pos ⟨rfl, rfl⟩]
        decide
      · rw [mL_wL, if_neg (fun z => absurd z.1 (by decide)), t5 i' j h2 h3]
        have hw : ∀ i, i < tx_m r → tx_w1 r (tx_many r + i) = 0 := fun i _ => if_neg (by omega)
        unfold tx_T
        by_cases e1 : i' < tx_m r
        · rw [if_pos e1, if_pos e1]
          exact (sx_t0 (tx_C1 r) e1 j).symm
        · rw [if_neg e1, if_neg e1]
          by_cases e2 : i' = tx_m r
          · rw [if_pos e2]
            have := sx_o0 (tx_C1 r) hw j
            show _ = sx_o (tx_C r) (tx_m r) (tx_w1 r) (fun i => tx_many r + i) j
            rw [this]
            unfold tx_w1
            by_cases e3 : j < tx_many r
            · rw [if_pos ⟨e2, e3⟩, if_pos e3]
            · rw [if_neg (fun z => e3 z.2), if_neg e3]
              rfl
          · rw [if_neg (fun z => e2 z.1), if_neg e2]
            exact (sx_o0 (w := fun _ => 0) (tx_C1 r) (fun _ _ => rfl) j).symm
    · have q : x < tx_many r := by have := i_lt.mp (nle q); omega
      have hxn : x ≤ tx_n r := by unfold tx_n; omega
      refine e_X11_cell _ _ ⟨ce_p t2' hx (by omega) (by omega), ?_⟩
      rw [ce_n t2' hx (by omega) (by omega)]
      refine ih (l3 + 1) (x + 1) _ (i_inc hx (by omega)) (by omega) (by omega) (Ok_wL ok (by decide)) ⟨t1, t2, t3, t4, fun i' j h2 h3 => ?_⟩
      rw [mL_wL]
      by_cases e : i' = tx_m r ∧ j = x
      · rw [if_pos ⟨rfl, by rw [e.1, e.2]⟩, if_neg (by omega), if_pos (by omega)]
        decide
      · rw [if_neg (fun z => ce_ne (by omega) (by omega) e z.2), t5 i' j h2 h3]
        by_cases e1 : i' < tx_m r
        · rw [if_pos e1, if_pos e1]
        · rw [if_neg e1, if_neg e1]
          by_cases e2 : i' = tx_m r ∧ j < x
          · rw [if_pos e2, if_pos (by omega)]
          · rw [if_neg e2, if_neg (by omega)]
theorem LB_r {r : Nat → Int32} {i : Nat} {h : mh_T} (hL : LB r i 0 h) (him : i = tx_m r) : h.1 45 = r ∧ (mI h 11 30).toInt = (tx_m r : Int) ∧ (mI h 11 31).toInt = (tx_n r : Int) + 1 ∧ (∀ k, k < tx_m r → (mI h 55 k).toInt = ((tx_many r + k : Nat) : Int)) ∧ ∀ i' j, i' < tx_m r + 2 → j ≤ tx_n r → (mL h 54 (97 * i' + j)).toInt = if i' < tx_m r then tx_C r j i' else if i' = tx_m r ∧ j < 0 then -1 else 0 := by
  subst him
  obtain ⟨t1, t2, t3, t4, t5⟩ := hL
  refine ⟨t1, t2, t3, t4, fun i' j h2 h3 => ?_⟩
  rw [t5 i' j h2 h3]
  by_cases e : i' < tx_m r
  · rw [if_pos (Or.inl e), if_pos e]
  · rw [if_neg (by omega), if_neg e, if_neg (by omega)]
set_option maxRecDepth 100000 in
set_option maxHeartbeats 4000000 in
theorem t_layTab_112 {g : gT} {h0 : mh_T} {P : mh_T → Prop} {r : Nat → Int32} (hR : tx_R r) (l1 : Int32) (h1 : l1.toInt = (tx_many r : Int)) (l2 l3 l4 : Int32) (s o : Nat) (hs : l3.toInt = (s : Int)) (hsq : s < tx_q r) (ho : l4.toInt = (o : Int)) (hoc : o < tc_oc (tx_tw r) s) (hi : l2.toInt = ((tc_st (tc_oc (tx_tw r)) s + o : Nat) : Int)) (K : ∀ h : mh_T, Ok [300, 11, 54, 55] h0 h → LB r (tc_st (tc_oc (tx_tw r)) s + o + 1) 0 h → ME g uX11_layTab 96 [.ref 11, .int l1, .int (l2 + 1), .int l3, .int (l4 + 1), .retAddr 0] [] h (qV P)) : ∀ (n : Nat) (l5 : Int32) (x : Nat) (h : mh_T), l5.toInt = (x : Int) → x ≤ tx_many r → tx_many r - x < n → Ok [300, 11, 54, 55] h0 h → LB r (tc_st (tc_oc (tx_tw r)) s + o) x h → ME g uX11_layTab 112 [.ref 11, .int l1, .int l2, .int l3, .int l4, .int l5] [] h (qV P) := by
  have m32 := tx_m32 hR
  have n96 := tx_n96 hR
  have y64 := tx_y64 hR
  have q8 := tx_q8 hR
  have oc4 := tc_oc4 (tx_tw r) s
  have him := tx_m_lt r hsq hoc
  have cx := fun x => tx_Cx r (x := x) hsq hoc
  have cn := tx_Cn r hsq hoc
  have c1 := tx_C1 r
  generalize tc_st (tc_oc (tx_tw r)) s + o = i at hi him cx cn K ⊢
  have nm : tx_n r = tx_many r + tx_m r := rfl
  intro n
  induction n with
  | zero => intro l5 x h _ _ hn; exact absurd hn (Nat.not_lt_zero _)
  | succ n ih =>
    intro l5 x h hx hxm hn ok hL
    obtain ⟨t1, t2, t3, t4, t5⟩ := hL
    refine r_X11_layTab_112 l1 l2 l3 l4 l5 ⟨fun q => ?_, fun q => ?_⟩
    · have q := i_le.mp q
      have : x = tx_many r := by omega
      subst this
      have hc : (l1 + l2).toInt = ((tx_many r + i : Nat) : Int) := by rw [i_add h1 hi (by omega)]; omega
      refine e_X11_cell _ _ ⟨ce_p hi hc (by omega) (by omega), ?_⟩
      rw [ce_n hi hc (by omega) (by omega)]
      have hw : ((mI (wL h 54 (97 * i + (tx_many r + i)) 1) 11 31) - 1).toInt = (tx_n r : Int) := by
        rw [mI_wL, i_sub t3 (show (1 : Int32).toInt = 1 from by decide) (by omega)]
        omega
      have h17 : ((17 + (4 * l3)) + l4).toInt = ((17 + 4 * s + o : Nat) : Int) := by
        have e4 : (4 * l3).toInt = 4 * (s : Int) := by rw [Int32.toInt_mul, show (4 : Int32).toInt = 4 from by decide, hs, bm (by omega) (by omega)]
        rw [i_add (i_add (show (17 : Int32).toInt = 17 from by decide) e4 (by omega)) ho (by omega)]
        omega
      refine e_X11_cell _ _ ⟨i_vp h17 (by omega), ce_p hi hw (by omega) (by omega), i_vp hi (by omega), ?_⟩
      rw [ce_n hi hw (by omega) (by omega), i_nat hi, i_nat h17, mI_wL, mI45 t1]
      refine K _ (Ok_w (Ok_wL (Ok_wL ok (by decide)) (by decide)) (lo := 0) (hi := 96) rfl ⟨by omega, by omega⟩ (by decide) (nt_k (by decide))) ⟨t1, t2, t3, fun k hk => ?_, fun i' j h2 h3 => ?_⟩
      · rw [mI_wI]
        by_cases e : k = i
        · rw [if_pos ⟨rfl, e⟩, e]
          exact hc
        · rw [if_neg (fun z => e z.2)]
          exact t4 k (by omega)
      · rw [mL_wI, mL_wL]
        by_cases e : i' = i ∧ j = tx_n r
        · rw [if_pos ⟨rfl, by rw [e.1, e.2]⟩, if_pos (by omega), e.1, e.2, cn, Int32.toInt_toInt64]
          rfl
        · rw [if_neg (fun z => ce_ne (by omega) (by omega) e z.2), mL_wL]
          by_cases e2 : i' = i ∧ j = tx_many r + i
          · rw [if_pos ⟨rfl, by rw [e2.1, e2.2]⟩, if_pos (by omega), e2.1, e2.2, c1 i him i him]
            unfold la_1
            rw [if_pos rfl]
            decide
          · rw [if_neg (fun z => ce_ne (by omega) (by omega) e2 z.2), t5 i' j h2 h3]
            by_cases e3 : i' = i
            · rw [if_pos (show i' < i + 1 ∨ (i' = i + 1 ∧ j < 0) by omega)]
              by_cases e4 : j < tx_many r
              · rw [if_pos (by omega)]
              · rw [if_neg (by omega), e3]
                obtain ⟨k, hk⟩ : ∃ k, j = tx_many r + k := ⟨j - tx_many r, by omega⟩
                rw [hk, c1 k (by omega) i him]
                unfold la_1
                rw [if_neg (by omega)]
            · by_cases e5 : i' < i
              · rw [if_pos (Or.inl e5), if_pos (by omega)]
              · rw [if_neg (by omega), if_neg (by omega)]
    · have q : x < tx_many r := by have := i_lt.mp (nle q); omega
      have step : ∀ v : Int64, v.toInt = tx_C r x i → ME g uX11_layTab 112 [.ref 11, .int l1, .int l2, .int l3, .int l4, .int (l5 + 1)] [] (wL h 54 (97 * i + x) v) (qV P) := by
        intro v hv
        refine ih (l5 + 1) (x + 1) _ (i_inc hx (by omega)) (by omega) (by omega) (Ok_wL ok (by decide)) ⟨t1, t2, t3, t4, fun i' j h2 h3 => ?_⟩
        rw [mL_wL]
        by_cases e : i' = i ∧ j = x
        · rw [if_pos ⟨rfl, by rw [e.1, e.2]⟩, if_pos (by omega), e.1, e.2]
          exact hv
        · rw [if_neg (fun z => ce_ne (by omega) (by omega) e z.2), t5 i' j h2 h3]
          by_cases e2 : i' < i ∨ (i' = i ∧ j < x)
          · rw [if_pos e2, if_pos (by omega)]
          · rw [if_neg e2, if_neg (by omega)]
      refine e_X11_cell _ _ (t_fitted t1 hR l3 l5 s x hs hx (by omega) (by omega) (fun v hv => ⟨fun ne => ⟨ce_p hi hx (by omega) (by omega), ?_⟩, fun eq => ⟨ce_p hi hx (by omega) (by omega), ?_⟩⟩))
      · rw [ce_n hi hx (by omega) (by omega)]
        refine step 0 ?_
        rw [cx x q, if_neg]
        · decide
        · intro z
          apply ne
          apply Int32.toInt_inj.mp
          rw [hv, ho, z]
      · rw [ce_n hi hx (by omega) (by omega)]
        refine step 1 ?_
        rw [cx x q, if_pos]
        · decide
        · rw [← hv, eq, ho]
set_option maxRecDepth 100000 in
set_option maxHeartbeats 4000000 in
theorem t_layTab_96 {g : gT} {h0 : mh_T} {P : mh_T → Prop} {r : Nat → Int32} (hR : tx_R r) (l1 : Int32) (h1 : l1.toInt = (tx_many r : Int)) (l3 : Int32) (s : Nat) (hs : l3.toInt = (s : Int)) (hsq : s < tx_q r) (K : ∀ (l2 : Int32) (h : mh_T), l2.toInt = ((tc_st (tc_oc (tx_tw r)) (s + 1) : Nat) : Int) → Ok [300, 11, 54, 55] h0 h → LB r (tc_st (tc_oc (tx_tw r)) (s + 1)) 0 h → ME g uX11_layTab 83 [.ref 11, .int l1, .int l2, .int (l3 + 1), .retAddr 0, .retAddr 0] [] h (qV P)) : ∀ (n : Nat) (l2 l4 : Int32) (o : Nat) (h : mh_T), l4.toInt = (o : Int) → o ≤ tc_oc (tx_tw r) s → l2.toInt = ((tc_st (tc_oc (tx_tw r)) s + o : Nat) : Int) → tc_oc (tx_tw r) s - o < n → Ok [300, 11, 54, 55] h0 h → LB r (tc_st (tc_oc (tx_tw r)) s + o) 0 h → ME g uX11_layTab 96 [.ref 11, .int l1, .int l2, .int l3, .int l4, .retAddr 0] [] h (qV P) := by
  have m32 := tx_m32 hR
  have y64 := tx_y64 hR
  have q8 := tx_q8 hR
  have oc4 := tc_oc4 (tx_tw r) s
  intro n
  induction n with
  | zero => intro l2 l4 o h _ _ _ hn; exact absurd hn (Nat.not_lt_zero _)
  | succ n ih =>
    intro l2 l4 o h ho hoc hi hn ok hL
    refine r_X11_layTab_96 l1 l2 l3 l4 (t_outcomes hL.1 l3 s hs (by omega) (fun v hv => ⟨fun q => ?_, fun q => ?_⟩))
    · have q := i_le.mp q
      have : o = tc_oc (tx_tw r) s := by omega
      subst this
      exact K l2 h hi ok hL
    · have q : o < tc_oc (tx_tw r) s := by have := i_lt.mp (nle q); omega
      have him := tx_m_lt r hsq q
      exact t_layTab_112 hR l1 h1 l2 l3 l4 s o hs hsq ho q hi (fun h' ok' hL' => ih (l2 + 1) (l4 + 1) (o + 1) h' (i_inc ho (by omega)) (by omega) (show (l2 + 1).toInt = ((tc_st (tc_oc (tx_tw r)) s + (o + 1) : Nat) : Int) from i_inc hi (show tc_st (tc_oc (tx_tw r)) s + o < 2147483647 by omega)) (by omega) ok' hL') (tx_many r + 1) 0 0 h (by decide) (Nat.zero_le _) (by omega) ok hL
set_option maxRecDepth 100000 in
set_option maxHeartbeats 4000000 in
theorem t_layTab_83 {g : gT} {h0 : mh_T} {P : mh_T → Prop} {r : Nat → Int32} (hR : tx_R r) (l1 : Int32) (h1 : l1.toInt = (tx_many r : Int)) (hp : ∀ h : mh_T, Ok [300, 11, 54, 55] h0 h → TB r (tx_w1 r) (fun _ => 0) (tx_b0 r) h → P h) : ∀ (n : Nat) (l2 l3 : Int32) (s : Nat) (h : mh_T), l3.toInt = (s : Int) → s ≤ tx_q r → l2.toInt = ((tc_st (tc_oc (tx_tw r)) s : Nat) : Int) → tx_q r - s < n → Ok [300, 11, 54, 55] h0 h → LB r (tc_st (tc_oc (tx_tw r)) s) 0 h → ME g uX11_layTab 83 [.ref 11, .int l1, .int l2, .int l3, .retAddr 0, .retAddr 0] [] h (qV P) := by
  have q8 := tx_q8 hR
  have y64 := tx_y64 hR
  intro n
  induction n with
  | zero => intro l2 l3 s h _ _ _ hn; exact absurd hn (Nat.not_lt_zero _)
  | succ n ih =>
    intro l2 l3 s h hs hsq hi hn ok hL
    have e0 : (mI h 45 (Int32.toNatClampNeg 0)).toInt = (tx_q r : Int) := by
      rw [show mI h 45 (Int32.toNatClampNeg 0) = r 0 from mI45 hL.1 0]
      exact i_cl hR.1.1
    refine r_X11_layTab_83 l1 l2 l3 ⟨fun q => ?_, fun q => ?_⟩
    · have q := i_le.mp q
      have : s = tx_q r := by omega
      subst this
      exact t_layTab_221 hR l1 l2 h1 hp (tx_many r + 1) 0 0 h (by decide) (Nat.zero_le _) (by omega) ok (LB_r hL rfl)
    · have q : s < tx_q r := by have := i_lt.mp (nle q); omega
      exact t_layTab_96 hR l1 h1 l3 s hs q (fun l2' h' hi' ok' hL' => ih l2' (l3 + 1) (s + 1) h' (i_inc hs (by omega)) (by omega) hi' (by omega) ok' hL') (tc_oc (tx_tw r) s + 1) l2 0 0 h (by decide) (Nat.zero_le _) (by rw [Nat.add_zero]; exact hi) (by omega) ok hL
set_option maxRecDepth 100000 in
set_option maxHeartbeats 4000000 in
theorem t_layTab_59 {g : gT} {h0 : mh_T} {P : mh_T → Prop} {r : Nat → Int32} (hR : tx_R r) (l1 : Int32) (h1 : l1.toInt = (tx_many r : Int)) (hp : ∀ h : mh_T, Ok [300, 11, 54, 55] h0 h → TB r (tx_w1 r) (fun _ => 0) (tx_b0 r) h → P h) : ∀ (n : Nat) (l2 : Int32) (k : Nat) (h : mh_T), l2.toInt = (k : Int) → k ≤ 3298 → 3298 - k < n → Ok [300, 11, 54, 55] h0 h → h.1 45 = r → (mI h 11 30).toInt = (tx_m r : Int) → (mI h 11 31).toInt = (tx_n r : Int) + 1 → (∀ q, q < k → (mL h 54 q).toInt = 0) → ME g uX11_layTab 59 [.ref 11, .int l1, .int l2, .retAddr 0, .retAddr 0, .retAddr 0] [] h (qV P) := by
  have m32 := tx_m32 hR
  have n96 := tx_n96 hR
  have c3 : (3298 : Int32).toInt = 3298 := by decide
  intro n
  induction n with
  | zero => intro l2 k h _ _ hn; exact absurd hn (Nat.not_lt_zero _)
  | succ n ih =>
    intro l2 k h hk hk2 hn ok t1 t2 t3 t4
    refine r_X11_layTab_59 l1 l2 ⟨fun q => ?_, fun q => ⟨?_, ?_⟩⟩
    · have q := i_le.mp q
      have : k = 3298 := by omega
      subst this
      refine t_layTab_83 hR l1 h1 hp (tx_q r + 1) 0 0 0 h (by decide) (Nat.zero_le _) i_0 (by omega) ok ⟨t1, t2, t3, fun k hk => absurd hk (Nat.not_lt_zero _), fun i' j h2 h3 => ?_⟩
      have z : ¬ (i' < 0 ∨ (i' = 0 ∧ j < 0)) := by omega
      show _ = if i' < 0 ∨ (i' = 0 ∧ j < 0) then _ else _
      rw [if_neg z]
      exact t4 _ (by omega)
    · have q := i_lt.mp (nle q)
      exact i_vp hk (by omega)
    · have q := i_lt.mp (nle q)
      refine ih (l2 + 1) (k + 1) _ (i_inc hk (by omega)) (by omega) (by omega) (Ok_wL ok (by decide)) t1 t2 t3 (fun q hq => ?_)
      rw [mL_wL, i_nat hk]
      split
      · decide
      · rename_i z; exact t4 q (by omega)
set_option maxRecDepth 100000 in
set_option maxHeartbeats 4000000 in
theorem t_layTab_12 {g : gT} {h0 : mh_T} {P : mh_T → Prop} {r : Nat → Int32} (hR : tx_R r) (l1 : Int32) (h1 : l1.toInt = (tx_many r : Int)) (hp : ∀ h : mh_T, Ok [300, 11, 54, 55] h0 h → TB r (tx_w1 r) (fun _ => 0) (tx_b0 r) h → P h) : ∀ (n : Nat) (l2 : Int32) (s : Nat) (h : mh_T), l2.toInt = (s : Int) → s ≤ tx_q r → tx_q r - s < n → Ok [300, 11, 54, 55] h0 h → h.1 45 = r → (mI h 11 30).toInt = ((tc_st (tc_oc (tx_tw r)) s : Nat) : Int) → ME g uX11_layTab 12 [.ref 11, .int l1, .int l2, .retAddr 0, .retAddr 0, .retAddr 0] [] h (qV P) := by
  have q8 := tx_q8 hR
  have m32 := tx_m32 hR
  have y64 := tx_y64 hR
  have nm : tx_n r = tx_many r + tx_m r := rfl
  intro n
  induction n with
  | zero => intro l2 s h _ _ hn; exact absurd hn (Nat.not_lt_zero _)
  | succ n ih =>
    intro l2 s h hs hsq hn ok t1 t2
    have e0 : (mI h 45 (Int32.toNatClampNeg 0)).toInt = (tx_q r : Int) := by
      rw [show mI h 45 (Int32.toNatClampNeg 0) = r 0 from mI45 t1 0]
      exact i_cl hR.1.1
    refine r_X11_layTab_12 l1 l2 ⟨fun q => ?_, fun q => ?_⟩
    · have q := i_le.mp q
      have : s = tx_q r := by omega
      subst this
      have t2 : (mI h 11 30).toInt = (tx_m r : Int) := t2
      have hw : ((l1 + (mI h 11 30)) + 1).toInt = (tx_n r : Int) + 1 := by
        rw [i_add (i_add h1 t2 (by omega)) (show (1 : Int32).toInt = 1 from by decide) (by omega)]
        omega
      refine t_layTab_59 hR l1 h1 hp 3299 0 0 _ (by decide) (Nat.zero_le _) (by omega) (Ok_w ok (k := 11) (j := 31) (lo := 0) (hi := 97) rfl ⟨by omega, by omega⟩ (by decide) (by decide)) t1 ?_ ?_ (fun q hq => absurd hq (Nat.not_lt_zero _))
      · rw [mI_wI, if_neg (fun z => absurd z.2 (by decide))]
        exact t2
      · rw [mI_wI, if_pos ⟨rfl, rfl⟩]
        exact hw
    · have q : s < tx_q r := by have := i_lt.mp (nle q); omega
      refine t_outcomes t1 l2 s hs (by omega) (fun v hv => ?_)
      have hm : tc_st (tc_oc (tx_tw r)) (s + 1) ≤ tx_m r := tc_mono _ q
      have hm' : tc_st (tc_oc (tx_tw r)) (s + 1) = tc_st (tc_oc (tx_tw r)) s + tc_oc (tx_tw r) s := rfl
      have hv2 : ((mI h 11 30) + v).toInt = ((tc_st (tc_oc (tx_tw r)) (s + 1) : Nat) : Int) := by
        rw [i_add t2 hv (by omega)]
        omega
      refine ih (l2 + 1) (s + 1) _ (i_inc hs (by omega)) (by omega) (by omega) (Ok_w ok (k := 11) (j := 30) (lo := 0) (hi := 32) rfl ⟨by omega, by omega⟩ (by decide) (by decide)) t1 ?_
      rw [mI_wI, if_pos ⟨rfl, rfl⟩]
      exact hv2
theorem t_layTab {g : gT} {h0 h : mh_T} {P : mh_T → Prop} {r : Nat → Int32} (ok : Ok [300, 11, 54, 55] h0 h) (t1 : h.1 45 = r) (hR : tx_R r) (hp : ∀ h : mh_T, Ok [300, 11, 54, 55] h0 h → TB r (tx_w1 r) (fun _ => 0) (tx_b0 r) h → P h) : MCv g yX11_layTab uX11_layTab [.ref 11] h P := by
  refine e_X11_layTab (t_hiddenMany t1 hR (fun v hv => ?_))
  refine t_layTab_12 hR v hv hp (tx_q r + 1) 0 0 _ (by decide) (Nat.zero_le _) (by omega) (Ok_w ok (k := 11) (j := 30) (lo := 0) (hi := 32) rfl ⟨by decide, by decide⟩ (by decide) (by decide)) t1 ?_
  rw [mI_wI, if_pos ⟨rfl, rfl⟩]
  exact i_0
/-! what stays of THE TABLE; isMixed, share, together, level of the reference -/
def TQ (f : Nat → Int32) (off : Nat) : Prop := ∀ s, s < 8 → 0 ≤ (f (off + 17 + 4 * s)).toInt ∧ 0 ≤ (f (off + 17 + 4 * s + 1)).toInt ∧ 0 ≤ (f (off + 17 + 4 * s + 2)).toInt ∧ 0 ≤ (f (off + 17 + 4 * s + 3)).toInt ∧ (f (off + 17 + 4 * s)).toInt + (f (off + 17 + 4 * s + 1)).toInt + (f (off + 17 + 4 * s + 2)).toInt + (f (off + 17 + 4 * s + 3)).toInt ≤ 240
def TVs (h : mh_T) : Prop := TQ (h.1 45) 0 ∧ TQ (h.1 48) 0 ∧ (∀ p, p < 20 → TQ (h.1 49) (49 * p)) ∧ (∀ p, p < 20 → TQ (h.1 50) (49 * p)) ∧ (∀ p, p < 4 → TQ (h.1 51) (49 * p)) ∧ (1 ≤ (h.1 45 50).toInt → 1 ≤ (h.1 45 49).toInt)
theorem TVs_fr {ms : List Nat} {h h' : mh_T} (f : Fr ms h h') (hm : 45 ∉ ms ∧ 48 ∉ ms ∧ 49 ∉ ms ∧ 50 ∉ ms ∧ 51 ∉ ms) (t : TVs h) : TVs h' := by
  have e1 := (f 45 (by decide) hm.1).1
  have e2 := (f 48 (by decide) hm.2.1).1
  have e3 := (f 49 (by decide) hm.2.2.1).1
  have e4 := (f 50 (by decide) hm.2.2.2.1).1
  have e5 := (f 51 (by decide) hm.2.2.2.2).1
  unfold TVs
  rw [e1, e2, e3, e4, e5]
  exact t
theorem TQ_at {f : Nat → Int32} (t : TQ f 0) {s o : Nat} (hs : s < 8) (ho : o < 4) : 0 ≤ tx_tm f s o ∧ tx_tm f s o ≤ 240 := by
  obtain ⟨a, b, c, d, e⟩ := t s hs
  unfold tx_tm
  rw [Nat.zero_add] at a b c d e
  rcases (show o = 0 ∨ o = 1 ∨ o = 2 ∨ o = 3 by omega) with z | z | z | z <;> subst z
  · rw [Nat.add_zero]; omega
  · omega
  · omega
  · omega
theorem tx_RI {h : mh_T} (hG : GI h) (t : TVs h) : tx_R (h.1 45) := by
  refine ⟨GI_rd hG 45 0 rfl, fun s hs => ⟨GI_rd hG 45 (1 + s) ?_, GI_rd hG 45 (9 + s) ?_⟩, GI_rd hG 45 50 rfl, fun s o hs ho => TQ_at t.1 hs ho⟩
  · exact rgp_45_1 (by omega) (by omega)
  · exact rgp_45_2 (by omega) (by omega)
theorem t_lowest {g : gT} {h : mh_T} {P : Int32 → mh_T → Prop} (l0 l2 : Int64) (l4 : Int32) (hG : GI h) (h0 : ¬ (l0 = 0 ∧ l2 = 0)) (hp : ∀ r, P r h) : MCi g yX11_lowest uX11_lowest [.long l0, .long l2, .int l4] h P :=
  e_X11_lowest l0 l2 l4 (s_X11_common l0 l2 hG h0 (fun r hr => ⟨fun _ => ⟨hr, hp _⟩, fun _ => ⟨hr, hp _⟩⟩))
theorem tx_ww1 (r : Nat → Int32) : tx_w (tx_w1 r) := by
  intro k
  unfold tx_w1
  split
  · exact Or.inr (Or.inl rfl)
  · exact Or.inl rfl
theorem tx_ww0 : tx_w (fun _ => 0) := fun _ => Or.inl rfl
set_option maxRecDepth 100000 in
set_option maxHeartbeats 4000000 in
theorem t_isMixed {g : gT} {h0 h : mh_T} {P : Int32 → mh_T → Prop} {r : Nat → Int32} (ok : Ok [300, 11, 54, 55] h0 h) (t1 : h.1 45 = r) (hR : tx_R r) (hp1 : r 0 = 0 → P 1 h) (hp : ∀ (v : Int32) (h' : mh_T) (b : Nat → Nat), ¬ r 0 = 0 → Ok [300, 11, 54, 55] h0 h' → tx_g r b → TB r (tx_w1 r) (fun _ => 0) b h' → (v = 0 ∧ ¬ mL h' 54 (97 * tx_m r + tx_n r) = mL h' 11 29 * (Int32.toInt64 (r 49))) ∨ v = 1 → P v h') : MCi g yX11_isMixed uX11_isMixed [.ref 11] h P := by
  have m32 := tx_m32 hR
  have n96 := tx_n96 hR
  have e0 : mI h 45 (Int32.toNatClampNeg 0) = r 0 := mI45 t1 0
  refine e_X11_isMixed ⟨fun ne => t_layTab ok t1 hR (fun h1 ok1 T1 => ?_), fun eq => hp1 (by rw [← e0]; exact eq)⟩
  rw [e0] at ne
  refine t_goesUp ok1 T1 hR (tx_g0 hR) (tx_ww1 r) tx_ww0 _ 0 (Or.inl rfl) (by rw [T1.2.1]; omega) (fun h2 b ok2 g2 T2 => ?_)
  have hm : (mI h2 11 30).toInt = ((tx_m r : Nat) : Int) := T2.2.1
  have hw : ((mI h2 11 31) - 1).toInt = ((tx_n r : Nat) : Int) := by
    rw [i_sub T2.2.2.1 (show (1 : Int32).toInt = 1 from by decide) (by omega)]
    omega
  refine e_X11_cell _ _ ⟨ce_p hm hw (by omega) (by omega), fun nz => hp 0 h2 b ne ok2 g2 T2 (Or.inl ⟨rfl, fun z => nz (lg_0.mpr ?_)⟩), fun _ => hp 1 h2 b ne ok2 g2 T2 (Or.inr rfl)⟩
  have e49 : mI h2 45 (Int32.toNatClampNeg 49) = r 49 := mI45 T2.1 49
  rw [ce_n hm hw (by omega) (by omega), e49, z]
theorem good45 {h h1 : mh_T} {ms : List Nat} (ok : Ok ms h h1) (hm : 45 ∉ ms) : h1.1 45 = h.1 45 := (ok.2.1 45 (by decide) hm).1
set_option maxRecDepth 100000 in
set_option maxHeartbeats 4000000 in
theorem u_X11_share {g : gT} {h : mh_T} {P : Int32 → mh_T → Prop} (l1 : Int32) (hG : GI h) (hI : TVs h) (hp : ∀ (v : Int32) (h' : mh_T), Ok [300, 11, 54, 55] h h' → ¬ mI h' 11 11 = 4 → P v h') : MCi g yX11_share uX11_share [.ref 11, .int l1] h P := by
  refine e_X11_share l1 (s_X11_good hG (fun h1 ok1 t4 => ?_))
  have ok1' : Ok [300, 11, 54, 55] h h1 := Ok_mono ok1 (by decide)
  have hp : ∀ (v : Int32) (h' : mh_T), Ok [300, 11, 54, 55] h1 h' → P v h' := fun v h' k => hp v h' (Ok_tr ok1' k (by decide)) (k.2.2.2.2.2.2.1 t4)
  have ok1' : Ok [300, 11, 54, 55] h1 h1 := Ok_rf ok1'.1
  have t1 := good45 ok1 (by decide)
  have hR := tx_RI hG hI
  have m32 := tx_m32 hR
  have n96 := tx_n96 hR
  refine ⟨fun _ => t_isMixed ok1' t1 hR (fun _ => ⟨fun z => absurd z (by decide), fun _ => hp 1 h1 ok1'⟩) (fun v h2 b ne ok2 g2 T2 hv => ⟨fun z => ?_, fun _ => hp 1 h2 ok2⟩), fun _ => s_X11_no 1 ok1.1 (fun v h2 ok2 _ => hp v h2 (Ok_tr ok1' ok2 (by decide)))⟩
  have hm : (mI h2 11 30).toInt = ((tx_m (h.1 45) : Nat) : Int) := T2.2.1
  have hw : ((mI h2 11 31) - 1).toInt = ((tx_n (h.1 45) : Nat) : Int) := by
    rw [i_sub T2.2.2.1 (show (1 : Int32).toInt = 1 from by decide) (by omega)]
    omega
  refine e_X11_cell _ _ ⟨ce_p hm hw (by omega) (by omega), ?_⟩
  refine t_lowest _ _ l1 ok2.1 ?_ (fun v => hp v h2 ok2)
  intro zz
  rcases hv with ⟨_, q⟩ | q
  · apply q
    have e49 : mI h2 45 (Int32.toNatClampNeg 49) = (h.1 45) 49 := mI45 T2.1 49
    rw [ce_n hm hw (by omega) (by omega), e49] at zz
    rw [zz.1, zz.2]
  · rw [q] at z
    exact absurd z (by decide)
noncomputable def tx_w2 (r : Nat → Int32) (l1 l2 l3 l4 : Int32) (sg : Int) : Nat → Int := fun k => if k < tx_many r ∧ (((nI k) >>> (l1 &&& 31)) &&& 1) = l2 ∧ (((nI k) >>> (l3 &&& 31)) &&& 1) = l4 then - sg else 0
def TW (r : Nat → Int32) (b : Nat → Nat) (h : mh_T) : Prop :=
  h.1 45 = r ∧ (mI h 11 30).toInt = (tx_m r : Int) ∧ (mI h 11 31).toInt = (tx_n r : Int) + 1 ∧ (∀ i, i < tx_m r → (mI h 55 i).toInt = (b i : Int)) ∧ (mL h 11 29).toInt = tx_D r b
  ∧ ∀ i j, i < tx_m r + 1 → j ≤ tx_n r → (mL h 54 (97 * i + j)).toInt = tx_T r (tx_w1 r) (fun _ => 0) b i j
theorem TW_w {r : Nat → Int32} {b : Nat → Nat} {h : mh_T} (t : TW r b h) {j : Nat} {v : Int64} (hj : j ≤ tx_n r) (hn : tx_n r ≤ 96) : TW r b (wL h 54 (97 * (tx_m r + 1) + j) v) := by
  obtain ⟨t1, t2, t3, t4, t5, t6⟩ := t
  refine ⟨t1, t2, t3, t4, t5, fun i j' h1 h2 => ?_⟩
  rw [mL_wL, if_neg (fun z => ce_ne (by omega) (by omega) (fun y => by omega) z.2)]
  exact t6 i j' h1 h2
theorem i_nI {x : Int32} {k : Nat} (h : x.toInt = (k : Int)) (hk : k < 2147483648) : x = nI k := Int32.toInt_inj.mp (by rw [h, nI_toInt (by omega)])
def tx_F (r : Nat → Int32) (w : Nat → Int) (b : Nat → Nat) (k j : Nat) : Int := la_S k (fun i => w (b i) * tx_t r b i j) - w j * tx_D r b
theorem tx_Fb {r : Nat → Int32} (hR : tx_R r) {w : Nat → Int} (hw : tx_w w) {b : Nat → Nat} (hg : tx_g r b) {k : Nat} (hk : k ≤ 32) (j : Nat) : -283467841536 ≤ tx_F r w b k j ∧ tx_F r w b k j ≤ 283467841536 := by
  have e1 := la_S_b (f := fun i => w (b i) * tx_t r b i j) (M := 8589934592) k (fun i _ => w1_b (hw (b i)) (tx_b2 hR hg i j))
  have e0 := tx_b1 hR hg
  have e2 := w1_b (hw j) e0
  have e3 : (k : Int) * 8589934592 ≤ 32 * 8589934592 := Int.mul_le_mul_of_nonneg_right (by omega) (by omega)
  unfold tx_F
  omega
set_option maxRecDepth 100000 in
set_option maxHeartbeats 4000000 in
theorem t_tog_247 {g : gT} {h0 : mh_T} {P : Int32 → mh_T → Prop} {r : Nat → Int32} {b : Nat → Nat} (hR : tx_R r) (hg : tx_g r b) (l1 l2 l3 l4 l5 l6 : Int32) (l7 : Int64) (sg : Int) (h7 : l7.toInt = sg) (hsg : sg = 1 ∨ sg = -1) (hw2 : tx_w (tx_w2 r l1 l2 l3 l4 sg)) (l9 l10 : Int32) (k : Nat) (h9 : l9.toInt = (k : Int)) (hk : k < tx_m r) (his : tx_w2 r l1 l2 l3 l4 sg (b k) = - sg) (K : ∀ h : mh_T, Ok [300, 11, 54, 55] h0 h → TW r b h → (∀ j, j ≤ tx_n r → (mL h 54 (97 * (tx_m r + 1) + j)).toInt = tx_F r (tx_w2 r l1 l2 l3 l4 sg) b (k + 1) j) → ME g uX11_together 189 [.ref 11, .int l1, .int l2, .int l3, .int l4, .int l5, .int l6, .long l7, .retAddr 0, .int (l9 + 1), .retAddr 0, .retAddr 0, .retAddr 0] [] h (qI P)) : ∀ (n : Nat) (l12 : Int32) (c : Nat) (h : mh_T), l12.toInt = (c : Int) → c ≤ tx_n r + 1 → tx_n r + 1 - c < n → Ok [300, 11, 54, 55] h0 h → TW r b h → (∀ j, j ≤ tx_n r → (mL h 54 (97 * (tx_m r + 1) + j)).toInt = if j < c then tx_F r (tx_w2 r l1 l2 l3 l4 sg) b (k + 1) j else tx_F r (tx_w2 r l1 l2 l3 l4 sg) b k j) → ME g uX11_together 247 [.ref 11, .int l1, .int l2, .int l3, .int l4, .int l5, .int l6, .long l7, .retAddr 0, .int l9, .int l10, .int 1, .int l12] [] h (qI P) := by
  have m32 := tx_m32 hR
  have n96 := tx_n96 hR
  intro n
  induction n with
  | zero => intro l12 c h _ _ hn; exact absurd hn (Nat.not_lt_zero _)
  | succ n ih =>
    intro l12 c h hc hcn hn ok T hF
    have e1 : ((mI h 11 30) + 1).toInt = ((tx_m r + 1 : Nat) : Int) := by rw [i_add T.2.1 (show (1 : Int32).toInt = 1 from by decide) (by omega)]; omega
    have t3 := T.2.2.1
    refine r_X11_together_247 l1 l2 l3 l4 l5 l6 l7 l9 l10 1 l12 ⟨fun q => ?_, fun q => ⟨fun z => absurd z (by decide), fun _ => ?_⟩⟩
    · have q := i_le.mp q
      have : c = tx_n r + 1 := by omega
      subst this
      exact K h ok T (fun j hj => by rw [hF j hj, if_pos (by omega)])
    · have q : c ≤ tx_n r := by have := i_lt.mp (nle q); omega
      refine e_X11_cell _ _ ⟨ce_p e1 hc (by omega) (by omega), e_X11_cell _ _ ⟨ce_p h9 hc (by omega) (by omega), ce_p e1 hc (by omega) (by omega), ?_⟩⟩
      rw [ce_n e1 hc (by omega) (by omega), ce_n h9 hc (by omega) (by omega)]
      have v1 : (mL h 54 (97 * (tx_m r + 1) + c)).toInt = tx_F r (tx_w2 r l1 l2 l3 l4 sg) b k c := by rw [hF c q, if_neg (by omega)]
      have v2 : (mL h 54 (97 * k + c)).toInt = tx_t r b k c := by
        rw [T.2.2.2.2.2 k c (by omega) q]
        unfold tx_T
        rw [if_pos hk]
      have B1 := tx_Fb hR hw2 hg (k := k) (by omega) c
      have B2 := tx_b2 hR hg k c
      have B3 : -8589934592 ≤ sg * tx_t r b k c ∧ sg * tx_t r b k c ≤ 8589934592 := w1_b (by omega) B2
      have e2 : (l7 * (mL h 54 (97 * k + c))).toInt = sg * tx_t r b k c := by rw [l_mul (by rw [h7, v2]; omega), h7, v2]
      have e3 : ((mL h 54 (97 * (tx_m r + 1) + c)) - (l7 * (mL h 54 (97 * k + c)))).toInt = tx_F r (tx_w2 r l1 l2 l3 l4 sg) b (k + 1) c := by
        rw [l_sub (by rw [v1, e2]; omega), v1, e2]
        show _ = la_S k (fun i => tx_w2 r l1 l2 l3 l4 sg (b i) * tx_t r b i c) + tx_w2 r l1 l2 l3 l4 sg (b k) * tx_t r b k c - tx_w2 r l1 l2 l3 l4 sg c * tx_D r b
        rw [his, Int.neg_mul]
        unfold tx_F
        omega
      refine ih (l12 + 1) (c + 1) _ (i_inc hc (by omega)) (by omega) (by omega) (Ok_wL ok (by decide)) (TW_w T q (by omega)) (fun j hj => ?_)
      rw [mL_wL]
      by_cases e : j = c
      · rw [if_pos ⟨rfl, by rw [e]⟩, if_pos (by omega), e]
        exact e3
      · rw [if_neg (fun z => e (by have := z.2; omega)), hF j hj]
        by_cases e4 : j < c
        · rw [if_pos e4, if_pos (by omega)]
        · rw [if_neg e4, if_neg (by omega)]
set_option maxRecDepth 100000 in
set_option maxHeartbeats 4000000 in
theorem t_tog_189 {g : gT} {h0 : mh_T} {P : Int32 → mh_T → Prop} {r : Nat → Int32} {b : Nat → Nat} (hR : tx_R r) (hg : tx_g r b) (hlaw : 1 ≤ (r 49).toInt ∧ (r 49).toInt ≤ 60) (l1 l2 l3 l4 l5 l6 : Int32) (l7 : Int64) (sg : Int) (h7 : l7.toInt = sg) (hsg : sg = 1 ∨ sg = -1) (hw2 : tx_w (tx_w2 r l1 l2 l3 l4 sg)) (hp : ∀ (v : Int32) (h : mh_T), Ok [300, 11, 54, 55] h0 h → P v h) : ∀ (n : Nat) (l9 : Int32) (k : Nat) (h : mh_T), l9.toInt = (k : Int) → k ≤ tx_m r → tx_m r - k < n → Ok [300, 11, 54, 55] h0 h → TW r b h → (∀ j, j ≤ tx_n r → (mL h 54 (97 * (tx_m r + 1) + j)).toInt = tx_F r (tx_w2 r l1 l2 l3 l4 sg) b k j) → ME g uX11_together 189 [.ref 11, .int l1, .int l2, .int l3, .int l4, .int l5, .int l6, .long l7, .retAddr 0, .int l9, .retAddr 0, .retAddr 0, .retAddr 0] [] h (qI P) := by
  have m32 := tx_m32 hR
  have n96 := tx_n96 hR
  have y64 := tx_y64 hR
  intro n
  induction n with
  | zero => intro l9 k h _ _ hn; exact absurd hn (Nat.not_lt_zero _)
  | succ n ih =>
    intro l9 k h h9 hk hn ok T hF
    have t2 := T.2.1
    refine r_X11_together_189 l1 l2 l3 l4 l5 l6 l7 l9 ⟨fun q => ?_, fun q => ?_⟩
    · have q := i_le.mp q
      have : k = tx_m r := by omega
      subst this
      have TB0 : TB r (tx_w1 r) (tx_w2 r l1 l2 l3 l4 sg) b h := by
        obtain ⟨s1, s2, s3, s4, s5, s6⟩ := T
        refine ⟨s1, s2, s3, s4, s5, fun i j h1 h2 => ?_⟩
        by_cases e : i = tx_m r + 1
        · rw [e, hF j h2]
          unfold tx_T
          rw [if_neg (by omega), if_neg (by omega)]
          rfl
        · rw [s6 i j (by omega) h2]
          unfold tx_T
          by_cases e2 : i < tx_m r
          · rw [if_pos e2, if_pos e2]
          · rw [if_neg e2, if_neg e2, if_pos (by omega), if_pos (by omega)]
      refine t_goesUp ok TB0 hR hg (tx_ww1 r) hw2 _ 1 (Or.inr rfl) (by rw [i_add t2 (show (1 : Int32).toInt = 1 from by decide) (by omega)]; omega) (fun h2 b2 ok2 g2 T2 => ?_)
      have hm : ((mI h2 11 30) + 1).toInt = ((tx_m r + 1 : Nat) : Int) := by rw [i_add T2.2.1 (show (1 : Int32).toInt = 1 from by decide) (by omega)]; omega
      have hw : ((mI h2 11 31) - 1).toInt = ((tx_n r : Nat) : Int) := by
        rw [i_sub T2.2.2.1 (show (1 : Int32).toInt = 1 from by decide) (by omega)]
        omega
      refine e_X11_cell _ _ ⟨ce_p hm hw (by omega) (by omega), fun x6 _ => t_lowest _ _ l6 ok2.1 ?_ (fun v => hp v h2 ok2)⟩
      intro zz
      have e49 : mI h2 45 (Int32.toNatClampNeg 49) = r 49 := mI45 T2.1 49
      have z2 := zz.2
      rw [e49] at z2
      have d0 : 0 < tx_D r b2 := g2.1
      have d1 := tx_b1 hR g2
      have d2 := T2.2.2.2.2.1
      have d3 := ab_mul (A := 8388608) (B := 60) (y := (r 49).toInt) d1 (by omega)
      have d4 : ((mL h2 11 29) * (Int32.toInt64 (r 49))).toInt = tx_D r b2 * (r 49).toInt := by rw [l_mul (by rw [d2, Int32.toInt_toInt64]; omega), d2, Int32.toInt_toInt64]
      rw [z2, ti_0] at d4
      have := Int.mul_pos d0 (show 0 < (r 49).toInt by omega)
      omega
    · have q : k < tx_m r := by have := i_lt.mp (nle q); omega
      refine ⟨i_vp h9 (by omega), fun x10 e10 => ?_⟩
      rw [i_nat h9] at e10
      have hb : x10.toInt = (b k : Int) := by rw [e10]; exact T.2.2.2.1 k q
      have hbn := hg.2.2 k q
      have ex : x10 = nI (b k) := i_nI hb (by omega)
      have go : ∀ l11 l12 : Int32, l11 = 0 → tx_w2 r l1 l2 l3 l4 sg (b k) = 0 → ME g uX11_together 247 [.ref 11, .int l1, .int l2, .int l3, .int l4, .int l5, .int l6, .long l7, .retAddr 0, .int l9, .int x10, .int l11, .int l12] [] h (qI P) := by
        intro l11 l12 e11 ew
        have cont : ME g uX11_together 189 [.ref 11, .int l1, .int l2, .int l3, .int l4, .int l5, .int l6, .long l7, .retAddr 0, .int (l9 + 1), .retAddr 0, .retAddr 0, .retAddr 0] [] h (qI P) := by
          refine ih (l9 + 1) (k + 1) h (i_inc h9 (by omega)) (by omega) (by omega) ok T (fun j hj => ?_)
          rw [hF j hj]
          show _ = la_S k (fun i => tx_w2 r l1 l2 l3 l4 sg (b i) * tx_t r b i j) + tx_w2 r l1 l2 l3 l4 sg (b k) * tx_t r b k j - tx_w2 r l1 l2 l3 l4 sg j * tx_D r b
          rw [ew, Int.zero_mul]
          unfold tx_F
          omega
        exact r_X11_together_247 l1 l2 l3 l4 l5 l6 l7 l9 x10 l11 l12 ⟨fun _ => cont, fun _ => ⟨fun _ => cont, fun z => absurd e11 z⟩⟩
      refine t_hiddenMany T.1 hR (fun v hv => ⟨fun c => ?_, fun c => ⟨fun n1 => ?_, fun y1 => ⟨fun n2 => ?_, fun y2 => ?_⟩⟩⟩)
      · have c := i_le.mp c
        exact go 0 0 rfl (if_neg (fun z => by have := z.1; omega))
      · exact go 0 0 rfl (if_neg (fun z => n1 (by rw [ex]; exact z.2.1)))
      · exact go 0 0 rfl (if_neg (fun z => n2 (by rw [ex]; exact z.2.2)))
      · have c := i_lt.mp (nle c)
        refine t_tog_247 hR hg l1 l2 l3 l4 l5 l6 l7 sg h7 hsg hw2 l9 x10 k h9 q (if_pos ⟨by omega, by rw [← ex]; exact y1, by rw [← ex]; exact y2⟩) (fun h' ok' T' hF' => ih (l9 + 1) (k + 1) h' (i_inc h9 (by omega)) (by omega) (by omega) ok' T' hF') (tx_n r + 2) 0 0 h (by decide) (Nat.zero_le _) (by omega) ok T (fun j hj => by rw [if_neg (Nat.not_lt_zero _)]; exact hF j hj)
set_option maxRecDepth 100000 in
set_option maxHeartbeats 4000000 in
theorem t_tog_102 {g : gT} {h0 : mh_T} {P : Int32 → mh_T → Prop} {r : Nat → Int32} {b : Nat → Nat} (hR : tx_R r) (hg : tx_g r b) (hlaw : 1 ≤ (r 49).toInt ∧ (r 49).toInt ≤ 60) (l1 l2 l3 l4 l5 l6 : Int32) (l7 : Int64) (sg : Int) (h7 : l7.toInt = sg) (hsg : sg = 1 ∨ sg = -1) (hp : ∀ (v : Int32) (h : mh_T), Ok [300, 11, 54, 55] h0 h → P v h) : ∀ (n : Nat) (l9 : Int32) (k : Nat) (h : mh_T), l9.toInt = (k : Int) → k ≤ tx_n r + 1 → tx_n r + 1 - k < n → Ok [300, 11, 54, 55] h0 h → TW r b h → (∀ j, j < k → (mL h 54 (97 * (tx_m r + 1) + j)).toInt = - (tx_w2 r l1 l2 l3 l4 sg j * tx_D r b)) → ME g uX11_together 102 [.ref 11, .int l1, .int l2, .int l3, .int l4, .int l5, .int l6, .long l7, .retAddr 0, .int l9, .retAddr 0, .retAddr 0, .retAddr 0] [] h (qI P) := by
  have m32 := tx_m32 hR
  have n96 := tx_n96 hR
  have hw2 : tx_w (tx_w2 r l1 l2 l3 l4 sg) := by
    intro k
    unfold tx_w2
    split <;> omega
  intro n
  induction n with
  | zero => intro l9 k h _ _ hn; exact absurd hn (Nat.not_lt_zero _)
  | succ n ih =>
    intro l9 k h h9 hk hn ok T hF
    have t3 := T.2.2.1
    have e1 : ((mI h 11 30) + 1).toInt = ((tx_m r + 1 : Nat) : Int) := by rw [i_add T.2.1 (show (1 : Int32).toInt = 1 from by decide) (by omega)]; omega
    refine r_X11_together_102 l1 l2 l3 l4 l5 l6 l7 l9 ⟨fun q => ?_, fun q => ?_⟩
    · have q := i_le.mp q
      have : k = tx_n r + 1 := by omega
      subst this
      refine t_tog_189 hR hg hlaw l1 l2 l3 l4 l5 l6 l7 sg h7 hsg hw2 hp (tx_m r + 1) 0 0 h (by decide) (Nat.zero_le _) (by omega) ok T (fun j hj => ?_)
      rw [hF j (by omega)]
      unfold tx_F
      show _ = 0 - _
      omega
    · have q : k ≤ tx_n r := by have := i_lt.mp (nle q); omega
      have ek : l9 = nI k := i_nI h9 (by omega)
      have step : ∀ v : Int64, v.toInt = - (tx_w2 r l1 l2 l3 l4 sg k * tx_D r b) → ME g uX11_together 102 [.ref 11, .int l1, .int l2, .int l3, .int l4, .int l5, .int l6, .long l7, .retAddr 0, .int (l9 + 1), .retAddr 0, .retAddr 0, .retAddr 0] [] (wL h 54 (97 * (tx_m r + 1) + k) v) (qI P) := by
        intro v hv
        refine ih (l9 + 1) (k + 1) _ (i_inc h9 (by omega)) (by omega) (by omega) (Ok_wL ok (by decide)) (TW_w T q (by omega)) (fun j hj => ?_)
        rw [mL_wL]
        by_cases e : j = k
        · rw [if_pos ⟨rfl, by rw [e]⟩, e]
          exact hv
        · rw [if_neg (fun z => e (by have := z.2; omega))]
          exact hF j (by omega)
      have zer : tx_w2 r l1 l2 l3 l4 sg k = 0 → (0 : Int64).toInt = - (tx_w2 r l1 l2 l3 l4 sg k * tx_D r b) := fun z => by rw [z, Int.zero_mul]; decide
      refine t_hiddenMany T.1 hR (fun v hv => ⟨fun c => ?_, fun c => ⟨fun n1 => ?_, fun y1 => ⟨fun n2 => ?_, fun y2 => ?_⟩⟩⟩)
      · refine e_X11_cell _ _ ⟨ce_p e1 h9 (by omega) (by omega), ?_⟩
        rw [ce_n e1 h9 (by omega) (by omega)]
        have c := i_le.mp c
        exact step 0 (zer (if_neg (fun z => by have := z.1; omega)))
      · refine e_X11_cell _ _ ⟨ce_p e1 h9 (by omega) (by omega), ?_⟩
        rw [ce_n e1 h9 (by omega) (by omega)]
        exact step 0 (zer (if_neg (fun z => n1 (by rw [ek]; exact z.2.1))))
      · refine e_X11_cell _ _ ⟨ce_p e1 h9 (by omega) (by omega), ?_⟩
        rw [ce_n e1 h9 (by omega) (by omega)]
        exact step 0 (zer (if_neg (fun z => n2 (by rw [ek]; exact z.2.2))))
      · refine e_X11_cell _ _ ⟨ce_p e1 h9 (by omega) (by omega), ?_⟩
        rw [ce_n e1 h9 (by omega) (by omega)]
        have c := i_lt.mp (nle c)
        refine step _ ?_
        have hw : tx_w2 r l1 l2 l3 l4 sg k = - sg := if_pos ⟨by omega, by rw [← ek]; exact y1, by rw [← ek]; exact y2⟩
        have d1 := tx_b1 hR hg
        have d2 := T.2.2.2.2.1
        have d3 : -8388608 ≤ sg * tx_D r b ∧ sg * tx_D r b ≤ 8388608 := w1_b (by omega) d1
        rw [l_mul (by rw [h7, d2]; omega), h7, d2, hw, Int.neg_mul]
        omega
theorem t_isLook {g : gT} {h : mh_T} {P : Int32 → mh_T → Prop} (l1 : Int32) (hG : GI h) (hp : ∀ v : Int32, (¬ v = 0 → 0 ≤ l1.toInt ∧ l1.toInt < (h.1 45 50).toInt) → P v h) : MCi g yX11_isLook uX11_isLook [.ref 11, .int l1] h P := by
  have hr : R 0 6 (mI h 45 50) := GI_rd hG 45 50 rfl
  have e : ((mI h 45 (Int32.toNatClampNeg 50)) - 1).toInt = (h.1 45 50).toInt - 1 := by
    have h1 : 0 ≤ (h.1 45 50).toInt := hr.1
    have h2 : (h.1 45 50).toInt ≤ 6 := hr.2
    exact i_sub (x := mI h 45 50) rfl (show (1 : Int32).toInt = 1 from by decide) (by omega)
  refine e_X11_isLook l1 ⟨fun _ => hp 0 (fun z => absurd rfl z), fun _ => e_X11_within _ _ _ ⟨fun _ => ⟨fun _ => hp 0 (fun z => absurd rfl z), fun z => absurd rfl z⟩, fun c1 => ⟨fun _ => ⟨fun _ => hp 0 (fun z => absurd rfl z), fun z => absurd rfl z⟩, fun c2 => ⟨fun z => absurd z (by decide), fun _ => hp 1 (fun _ => ?_)⟩⟩⟩⟩
  have c1 : ¬ l1.toInt < (0 : Int32).toInt := fun z => c1 (i_lt.mpr z)
  have c2 : ¬ ((mI h 45 (Int32.toNatClampNeg 50)) - 1).toInt < l1.toInt := fun z => c2 (i_lt.mpr z)
  rw [i_0] at c1
  rw [e] at c2
  omega
theorem TB_TW {r : Nat → Int32} {b : Nat → Nat} {h : mh_T} (t : TB r (tx_w1 r) (fun _ => 0) b h) : TW r b h := by
  obtain ⟨t1, t2, t3, t4, t5, t6⟩ := t
  exact ⟨t1, t2, t3, t4, t5, fun i j h1 h2 => t6 i j (by omega) h2⟩
set_option maxRecDepth 100000 in
set_option maxHeartbeats 4000000 in
theorem u_X11_together {g : gT} {h : mh_T} {P : Int32 → mh_T → Prop} (l1 l2 l3 l4 l5 l6 : Int32) (hG : GI h) (hI : TVs h) (hp : ∀ (v : Int32) (h' : mh_T), Ok [300, 11, 54, 55] h h' → ¬ mI h' 11 11 = 4 → P v h') : MCi g yX11_together uX11_together [.ref 11, .int l1, .int l2, .int l3, .int l4, .int l5, .int l6] h P := by
  have hR := tx_RI hG hI
  refine e_X11_together l1 l2 l3 l4 l5 l6 (s_X11_good hG (fun h1 ok1 t4 => ?_))
  have ok1' : Ok [300, 11, 54, 55] h h1 := Ok_mono ok1 (by decide)
  have hp : ∀ (v : Int32) (h' : mh_T), Ok [300, 11, 54, 55] h1 h' → P v h' := fun v h' k => hp v h' (Ok_tr ok1' k (by decide)) (k.2.2.2.2.2.2.1 t4)
  have ok1' : Ok [300, 11, 54, 55] h1 h1 := Ok_rf ok1'.1
  have t1 := good45 ok1 (by decide)
  have no : ∀ (h2 : mh_T) (l : Int32), ¬ l = 4 → Ok [300, 11, 54, 55] h1 h2 → MCi g yX11_no uX11_no [.ref 11, .int l] h2 (fun v h' => P v h') := fun h2 l l4 ok2 => s_X11_no l ok2.1 (fun v h3 ok3 _ => hp v h3 (Ok_tr ok2 ok3 (by decide))) l4
  refine t_isLook l1 ok1.1 (fun v hv => ⟨fun _ => no h1 1 (by decide) ok1', fun nz => t_isLook l3 ok1.1 (fun v3 hv3 => ⟨fun _ => no h1 1 (by decide) ok1', fun nz3 => ⟨fun _ => no h1 1 (by decide) ok1', fun _ => s_X11_isBit l2 ok1.1 (fun v4 _ => ⟨fun _ => no h1 1 (by decide) ok1', fun _ => s_X11_isBit l4 ok1.1 (fun v5 _ => ⟨fun _ => ?_, fun _ => no h1 1 (by decide) ok1'⟩)⟩)⟩⟩)⟩)
  have hl := hv nz
  rw [t1] at hl
  have law := hI.2.2.2.2.2 (by omega)
  have law2 : R 0 60 (mI h 45 49) := GI_rd hG 45 49 rfl
  have law3 : (h.1 45 49).toInt ≤ 60 := law2.2
  refine t_isMixed ok1' t1 hR (fun z => ⟨fun _ => ⟨fun nq => absurd ?_ nq, fun _ => ⟨fun _ => hp 1 h1 ok1', fun _ => ⟨fun _ => hp 0 h1 ok1', fun _ => hp 1 h1 ok1'⟩⟩⟩, fun z2 => absurd z2 (by decide)⟩) (fun v6 h2 b ne ok2 g2 T2 hv6 => ⟨fun _ => ⟨fun _ => ⟨fun _ => ?_, fun _ => ?_⟩, fun eq => absurd ?_ ne⟩, fun _ => no h2 6 (by decide) ok2⟩)
  · have e0 : mI h1 45 (Int32.toNatClampNeg 0) = (h.1 45) 0 := mI45 t1 0
    rw [e0]
    exact z
  · exact t_tog_102 hR g2 ⟨law, law3⟩ l1 l2 l3 l4 l5 l6 1 1 (by decide) (Or.inl rfl) hp (tx_n (h.1 45) + 2) 0 0 h2 (by decide) (Nat.zero_le _) (by omega) ok2 (TB_TW T2) (fun j hj => absurd hj (Nat.not_lt_zero _))
  · exact t_tog_102 hR g2 ⟨law, law3⟩ l1 l2 l3 l4 l5 l6 (-1) (-1) (by decide) (Or.inr rfl) hp (tx_n (h.1 45) + 2) 0 0 h2 (by decide) (Nat.zero_le _) (by omega) ok2 (TB_TW T2) (fun j hj => absurd hj (Nat.not_lt_zero _))
  · have e0 : mI h2 45 (Int32.toNatClampNeg 0) = (h.1 45) 0 := mI45 T2.1 0
    rw [← e0]
    exact eq
set_option maxRecDepth 100000 in
set_option maxHeartbeats 4000000 in
theorem t_level_45 {g : gT} {h : mh_T} {P : Int32 → mh_T → Prop} (hG : GI h) (hp : ∀ v : Int32, P v h) : ∀ n : Nat, (∀ (l1 l2 l3 : Int32), R 0 8 l3 → 10 * gap 8 l3 + 9 < n → ME g uX11_level 32 [.ref 11, .int l1, .int l2, .int l3, .retAddr 0] [] h (qI P)) ∧ (∀ (l1 l2 l3 l4 : Int32), R 0 7 l3 → R 0 4 l4 → 10 * gap 8 l3 + gap 4 l4 < n → ME g uX11_level 45 [.ref 11, .int l1, .int l2, .int l3, .int l4] [] h (qI P)) := by
  intro n
  induction n with
  | zero => exact ⟨fun _ _ _ _ hn => absurd hn (Nat.not_lt_zero _), fun _ _ _ _ _ _ hn => absurd hn (Nat.not_lt_zero _)⟩
  | succ n ih =>
    have c1 : R 1 1 1 := ⟨by decide, by decide⟩
    have c4 : R 4 4 4 := ⟨by decide, by decide⟩
    have c17 : R 17 17 17 := ⟨by decide, by decide⟩
    have z0 : R 0 4 0 := ⟨by decide, by decide⟩
    have g0 := gap_le (N := 4) z0 (m := 4) (by decide)
    have fm : R 0 8 (mI h 45 (Int32.toNatClampNeg 0)) := GI_rd hG 45 0 rfl
    refine ⟨fun l1 l2 l3 f3 hn => ?_, fun l1 l2 l3 l4 f3 f4 hn => ?_⟩
    · refine r_X11_level_32 l1 l2 l3 ⟨fun _ => ⟨fun _ => ⟨fun _ => hp _, fun _ => hp _⟩, fun _ => hp _⟩, fun c => ?_⟩
      have g3 : R 0 7 l3 := rf_lt_l f3 fm (nle c) 7 (by decide)
      exact ih.2 l1 l2 l3 0 g3 z0 (by omega)
    · have gj := gap_inc (N := 8) f3 (by decide)
      refine r_X11_level_45 l1 l2 l3 l4 (s_X11_outcomes l3 hG f3 (fun v fv => ⟨fun _ => ih.1 l1 l2 (l3 + 1) (R_add f3 c1 0 8 (by decide)) (by omega), fun c => ?_⟩))
      have g4 : R 0 3 l4 := rf_lt_l f4 fv (nle c) 3 (by decide)
      have gi := gap_inc (N := 4) g4 (by decide)
      have fy : R 17 48 ((17 + (4 * l3)) + l4) := R_add (R_add c17 (R_mul c4 f3 0 28 (by decide)) 17 45 (by decide)) g4 17 48 (by decide)
      have nx : ∀ a b : Int32, ME g uX11_level 45 [.ref 11, .int a, .int b, .int l3, .int (l4 + 1)] [] h (qI P) := fun a b => ih.2 a b l3 (l4 + 1) f3 (R_add g4 c1 0 4 (by decide)) (by omega)
      exact ⟨vin fy (by decide), fun _ => s_X11_doesExtend l3 l4 hG f3 (fun v _ => ⟨fun _ => nx _ _, fun _ => nx _ _⟩), fun _ => nx _ _⟩
set_option maxRecDepth 100000 in
set_option maxHeartbeats 4000000 in
theorem u_X11_level {g : gT} {h : mh_T} {P : Int32 → mh_T → Prop} (hG : GI h) (hI : TVs h) (hp : ∀ (v : Int32) (h' : mh_T), Ok [300, 11, 54, 55] h h' → ¬ mI h' 11 11 = 4 → P v h') : MCi g yX11_level uX11_level [.ref 11] h P := by
  refine e_X11_level (s_X11_good hG (fun h1 ok1 t4 => ?_))
  have ok1' : Ok [300, 11, 54, 55] h h1 := Ok_mono ok1 (by decide)
  have hp : ∀ (v : Int32) (h' : mh_T), Ok [300, 11, 54, 55] h1 h' → P v h' := fun v h' k => hp v h' (Ok_tr ok1' k (by decide)) (k.2.2.2.2.2.2.1 t4)
  have ok1' : Ok [300, 11, 54, 55] h1 h1 := Ok_rf ok1'.1
  have t1 := good45 ok1 (by decide)
  have hR := tx_RI hG hI
  have z0 : R 0 8 0 := ⟨by decide, by decide⟩
  have g0 := gap_le (N := 8) z0 (m := 8) (by decide)
  refine ⟨fun _ => t_isMixed ok1' t1 hR (fun _ => ⟨fun z => absurd z (by decide), fun _ => hp 0 h1 ok1'⟩) (fun v h2 b ne ok2 g2 T2 hv => ⟨fun _ => (t_level_45 ok2.1 (fun v => hp v h2 ok2) 100).1 0 0 0 z0 (by omega), fun _ => hp 0 h2 ok2⟩), fun _ => s_X11_no 1 ok1.1 (fun v h2 ok2 _ => hp v h2 (Ok_tr ok1' ok2 (by decide)))⟩
/-! what the acts of the reference leave of THE TABLE -/
def tq (f : Nat → Int32) (off s : Nat) : Prop := 0 ≤ (f (off + 17 + 4 * s)).toInt ∧ 0 ≤ (f (off + 17 + 4 * s + 1)).toInt ∧ 0 ≤ (f (off + 17 + 4 * s + 2)).toInt ∧ 0 ≤ (f (off + 17 + 4 * s + 3)).toInt ∧ (f (off + 17 + 4 * s)).toInt + (f (off + 17 + 4 * s + 1)).toInt + (f (off + 17 + 4 * s + 2)).toInt + (f (off + 17 + 4 * s + 3)).toInt ≤ 240
theorem TQ_cp {f g : Nat → Int32} {a c : Nat} (t : TQ f a) (h : ∀ j, j < 49 → g (c + j) = f (a + j)) : TQ g c := by
  intro s hs
  have e : ∀ o, o < 4 → g (c + 17 + 4 * s + o) = f (a + 17 + 4 * s + o) := fun o ho => by
    have := h (17 + 4 * s + o) (by omega)
    rw [show c + 17 + 4 * s + o = c + (17 + 4 * s + o) by omega, show a + 17 + 4 * s + o = a + (17 + 4 * s + o) by omega]
    exact this
  have e0 := e 0 (by omega)
  rw [Nat.add_zero, Nat.add_zero] at e0
  rw [e0, e 1 (by omega), e 2 (by omega), e 3 (by omega)]
  exact t s hs
/-- copy, as it is -/
def CPd (l0 a l2 c : Nat) (n : Nat) (h h' : mh_T) : Prop := (∀ j, j < n → h'.1 l2 (c + j) = h.1 l0 (a + j)) ∧ ∀ j, (j < c ∨ c + n ≤ j) → h'.1 l2 j = h.1 l2 j
set_option maxRecDepth 100000 in
set_option maxHeartbeats 4000000 in
theorem t_copy {g : gT} {h : mh_T} {P : mh_T → Prop} (l0 nl0 : Nat) (l1 : Int32) (l2 nl2 : Nat) (l3 : Int32) (sl0 : shp l0 = (20, nl0, [])) (sl2 : shp l2 = (20, nl2, [])) (hne : l0 ≠ l2) (h62 : l0 < 62) (p q : Nat) (e1 : l1.toInt = 49 * p) (e3 : l3.toInt = 49 * q) (b0 : 49 * p + 49 ≤ nl0) (b2 : 49 * q + 49 ≤ nl2) (bp : p ≤ 20) (bq : q ≤ 20) (hr0 : ∀ j, j < 49 → rgT l0 (49 * p + j) = rgRowM j) (hr2 : ∀ j, j < 49 → rgT l2 (49 * q + j) = rgRowM j) (hk : l2 ≠ 0 ∧ l2 ≠ 11 ∧ l2 ≠ 3 ∧ l2 ≠ 8 ∧ l2 < 62) (hG : GI h) (hp : ∀ h', Ok [l2] h h' → CPd l0 (49 * p) l2 (49 * q) 49 h h' → P h') (hq45 : l2 = 45 → q = 0 := by first | exact fun _ => rfl | exact fun z => absurd z (by decide)) : MCv g yX11_copy uX11_copy [.ref l0, .int l1, .ref l2, .int l3, .int 49] h P := by
  have e4 : (49 : Int32).toInt = 49 := by decide
  have hm : l2 ∈ [l2] := List.mem_cons_self
  have L : ∀ (n : Nat) (l5 : Int32) (k : Nat) (h' : mh_T), l5.toInt = (k : Int) → k ≤ 49 → 49 - k < n → Ok [l2] h h' → CPd l0 (49 * p) l2 (49 * q) k h h' → ME g uX11_copy 3 [.ref l0, .int l1, .ref l2, .int l3, .int 49, .int l5] [] h' (qV P) := by
    intro n
    induction n with
    | zero => intro l5 k h' _ _ hn; exact absurd hn (Nat.not_lt_zero _)
    | succ n ih =>
      intro l5 k h' hk5 hk49 hn ok cp
      refine r_X11_copy_3 l0 nl0 l1 l2 nl2 l3 49 l5 sl0 sl2 ⟨fun c => ?_, fun c => ?_⟩
      · have c := i_le.mp c
        have : k = 49 := by omega
        subst this
        exact hp h' ok cp
      · have c := i_lt.mp (nle c)
        have s1 : (l1 + l5).toInt = ((49 * p + k : Nat) : Int) := by rw [i_add e1 hk5 (by omega)]; omega
        have s3 : (l3 + l5).toInt = ((49 * q + k : Nat) : Int) := by rw [i_add e3 hk5 (by omega)]; omega
        refine ⟨i_vp s1 (by omega), i_vp s3 (by omega), ?_⟩
        rw [i_nat s1, i_nat s3]
        have fv : R (rgRowM k).1 (rgRowM k).2 (mI h' l0 (49 * p + k)) := by
          have := ok.1.1 l0 (49 * p + k)
          rw [hr0 _ (by omega)] at this
          exact this
        have e0 : h'.1 l0 = h.1 l0 := (ok.2.1 l0 h62 (fun z => hne (List.mem_singleton.mp z))).1
        refine ih (l5 + 1) (k + 1) _ (i_inc hk5 (by omega)) (by omega) (by omega) (Ok_w ok (k := l2) (j := 49 * q + k) (v := mI h' l0 (49 * p + k)) (lo := (rgRowM k).1) (hi := (rgRowM k).2) (hr2 _ (by omega)) fv (Or.inl ⟨hm, hk.2.2.2.2⟩) (nt_c ⟨hk.1, hk.2.1, hk.2.2.1, hk.2.2.2.1⟩ (fun z => by have := hq45 z; omega))) ⟨fun j hj => ?_, fun j hj => ?_⟩
        · show mI (wI h' l2 (49 * q + k) (mI h' l0 (49 * p + k))) l2 (49 * q + j) = _
          rw [mI_wI]
          by_cases e : j = k
          · rw [if_pos ⟨rfl, by rw [e]⟩, e]
            show h'.1 l0 _ = _
            rw [e0]
          · rw [if_neg (fun z => e (by have := z.2; omega))]
            exact cp.1 j (by omega)
        · show mI (wI h' l2 (49 * q + k) (mI h' l0 (49 * p + k))) l2 j = _
          rw [mI_wI, if_neg (fun z => by have := z.2; omega)]
          exact cp.2 j (by omega)
  exact e_X11_copy l0 nl0 l1 l2 nl2 l3 49 sl0 sl2 (L 50 0 0 h (by decide) (Nat.zero_le _) (by omega) (Ok_rf hG) ⟨fun j hj => absurd hj (Nat.not_lt_zero _), fun j _ => rfl⟩)
theorem OkC {ms : List Nat} {h h' : mh_T} (a : Ok ms h h') {k : Nat} (hk : k < 62 ∧ k ∉ ms) : h'.1 k = h.1 k := (a.2.1 k hk.1 hk.2).1
theorem TVs_45 {h h' : mh_T} (t : TVs h) (a : TQ (h'.1 45) 0) (e48 : h'.1 48 = h.1 48) (e49 : h'.1 49 = h.1 49) (e50 : h'.1 50 = h.1 50) (e51 : h'.1 51 = h.1 51) (l49 : h'.1 45 49 = h.1 45 49) (l50 : h'.1 45 50 = h.1 45 50) : TVs h' := by
  refine ⟨a, ?_, ?_, ?_, ?_, ?_⟩
  · rw [e48]; exact t.2.1
  · rw [e49]; exact t.2.2.1
  · rw [e50]; exact t.2.2.2.1
  · rw [e51]; exact t.2.2.2.2.1
  · rw [l49, l50]; exact t.2.2.2.2.2
/-- keep -/
def TQs (f : Nat → Int32) : Prop := ∀ p, p < 20 → TQ f (49 * p)
theorem TVs_11 {h : mh_T} {j : Nat} {v : Int32} (t : TVs h) : TVs (wI h 11 j v) := by
  have e : ∀ k, k ≠ 11 → (wI h 11 j v).1 k = h.1 k := fun k hk => by
    funext b
    show mI (wI h 11 j v) k b = _
    rw [mI_wI, if_neg (fun z => hk z.1)]
    rfl
  unfold TVs
  rw [e 45 (by decide), e 48 (by decide), e 49 (by decide), e 50 (by decide), e 51 (by decide)]
  exact t
/-! flip, drop, forget, shift, undo, redo, mark, back of the reference -/
theorem TQ_i {f : Nat → Int32} (h : ∀ s, s < 8 → tq f 0 s) : TQ f 0 := h
theorem tq_x {f g : Nat → Int32} {s : Nat} (t : tq f 0 s) (h : ∀ o, o < 4 → g (17 + 4 * s + o) = f (17 + 4 * s + o)) : tq g 0 s := by
  unfold tq at *
  have e0 := h 0 (by omega)
  have e1 := h 1 (by omega)
  have e2 := h 2 (by omega)
  have e3 := h 3 (by omega)
  rw [Nat.add_zero] at e0
  rw [Nat.zero_add] at *
  rw [e0, e1, e2, e3]
  exact t
/-- a set's four numbers, by what they come to -/
theorem tq_v {g : Nat → Int32} {s : Nat} {a b c d : Int} (h0 : (g (17 + 4 * s)).toInt = a) (h1 : (g (17 + 4 * s + 1)).toInt = b) (h2 : (g (17 + 4 * s + 2)).toInt = c) (h3 : (g (17 + 4 * s + 3)).toInt = d) (h : 0 ≤ a ∧ 0 ≤ b ∧ 0 ≤ c ∧ 0 ≤ d ∧ a + b + c + d ≤ 240) : tq g 0 s := by
  unfold tq
  rw [Nat.zero_add, h0, h1, h2, h3]
  exact h
theorem tq_g {f : Nat → Int32} {s : Nat} (t : tq f 0 s) : 0 ≤ (f (17 + 4 * s)).toInt ∧ 0 ≤ (f (17 + 4 * s + 1)).toInt ∧ 0 ≤ (f (17 + 4 * s + 2)).toInt ∧ 0 ≤ (f (17 + 4 * s + 3)).toInt ∧ (f (17 + 4 * s)).toInt + (f (17 + 4 * s + 1)).toInt + (f (17 + 4 * s + 2)).toInt + (f (17 + 4 * s + 3)).toInt ≤ 240 := by
  unfold tq at t
  rw [Nat.zero_add] at t
  exact t
/-- two numbers of a set change places, or n goes from one to the other -/
theorem tq_2 {f g : Nat → Int32} {s o p : Nat} (t : tq f 0 s) (ho : o < 4) (hp : p < 4) (hop : o ≠ p) (ge : ∀ i, i < 4 → i ≠ o → i ≠ p → g (17 + 4 * s + i) = f (17 + 4 * s + i)) (g0 : 0 ≤ (g (17 + 4 * s + o)).toInt) (g1 : 0 ≤ (g (17 + 4 * s + p)).toInt) (gs : (g (17 + 4 * s + o)).toInt + (g (17 + 4 * s + p)).toInt = (f (17 + 4 * s + o)).toInt + (f (17 + 4 * s + p)).toInt) : tq g 0 s := by
  have t := tq_g t
  have e0 := ge 0 (by omega)
  have e1 := ge 1 (by omega)
  have e2 := ge 2 (by omega)
  have e3 := ge 3 (by omega)
  rw [Nat.add_zero] at e0
  refine tq_v rfl rfl rfl rfl ?_
  have ho' : o = 0 ∨ o = 1 ∨ o = 2 ∨ o = 3 := by omega
  have hp' : p = 0 ∨ p = 1 ∨ p = 2 ∨ p = 3 := by omega
  rcases ho' with z | z | z | z <;> rcases hp' with y | y | y | y <;> subst z <;> subst y
  · exact absurd rfl hop
  · simp only [Nat.add_zero] at g0 g1 gs; rw [e2 (by omega) (by omega), e3 (by omega) (by omega)]; omega
  · simp only [Nat.add_zero] at g0 g1 gs; rw [e1 (by omega) (by omega), e3 (by omega) (by omega)]; omega
  · simp only [Nat.add_zero] at g0 g1 gs; rw [e1 (by omega) (by omega), e2 (by omega) (by omega)]; omega
  · simp only [Nat.add_zero] at g0 g1 gs; rw [e2 (by omega) (by omega), e3 (by omega) (by omega)]; omega
  · exact absurd rfl hop
  · rw [e0 (by omega) (by omega), e3 (by omega) (by omega)]; omega
  · rw [e0 (by omega) (by omega), e2 (by omega) (by omega)]; omega
  · simp only [Nat.add_zero] at g0 g1 gs; rw [e1 (by omega) (by omega), e3 (by omega) (by omega)]; omega
  · rw [e0 (by omega) (by omega), e3 (by omega) (by omega)]; omega
  · exact absurd rfl hop
  · rw [e0 (by omega) (by omega), e1 (by omega) (by omega)]; omega
  · simp only [Nat.add_zero] at g0 g1 gs; rw [e1 (by omega) (by omega), e2 (by omega) (by omega)]; omega
  · rw [e0 (by omega) (by omega), e2 (by omega) (by omega)]; omega
  · rw [e0 (by omega) (by omega), e1 (by omega) (by omega)]; omega
  · exact absurd rfl hop
theorem wI_o {h : mh_T} {k j q : Nat} {v : Int32} (hk : q ≠ k) : (wI h k j v).1 q = h.1 q := by
  funext b
  show mI (wI h k j v) q b = _
  rw [mI_wI, if_neg (fun z => hk z.1)]
  rfl
theorem wI_i {h : mh_T} {k j : Nat} {v : Int32} (b : Nat) : (wI h k j v).1 k b = if b = j then v else h.1 k b := by
  show mI (wI h k j v) k b = _
  rw [mI_wI]
  by_cases e : b = j
  · rw [if_pos ⟨rfl, e⟩, if_pos e]
  · rw [if_neg (fun z => e z.2), if_neg e]
    rfl
theorem i_4s {l : Int32} {s : Nat} (h : l.toInt = (s : Int)) (hs : s < 8) : (4 * l).toInt = ((4 * s : Nat) : Int) := by
  rw [Int32.toInt_mul, show (4 : Int32).toInt = 4 from by decide, h, bm (by omega) (by omega)]
  omega
theorem i_17 {l m : Int32} {s o : Nat} (h : l.toInt = (s : Int)) (hs : s < 8) (k : m.toInt = (o : Int)) (ho : o < 4) : ((17 + (4 * l)) + m).toInt = ((17 + 4 * s + o : Nat) : Int) := by
  rw [i_add (i_add (show (17 : Int32).toInt = 17 from by decide) (i_4s h hs) (by omega)) k (by omega)]
  omega
theorem i_R {lo hi : Int} {x : Int32} (f : R lo hi x) (h : 0 ≤ lo) : ∃ k : Nat, x.toInt = (k : Int) ∧ lo ≤ (k : Int) ∧ (k : Int) ≤ hi := ⟨x.toInt.toNat, by have := f.1; omega, by have := f.1; omega, by have := f.2; have := f.1; omega⟩
-- shift
-- flip
/-! goesAway, drop, forget, undo, redo, mark, back of the reference -/
theorem tq_w {h : mh_T} {j s : Nat} {v : Int32} (t : tq (h.1 45) 0 s) (hj : j < 17 + 4 * s ∨ 17 + 4 * s + 4 ≤ j) : tq ((wI h 45 j v).1 45) 0 s := tq_x t (fun i hi => by rw [wI_i, if_neg (by omega)])
theorem i_off {x : Int32} {k : Nat} (h : x.toInt = (k : Int)) (c : Int32) (d : Nat) (hc : c.toInt = (d : Int)) (hk : k + d < 2147483647) : (x + c).toInt = ((k + d : Nat) : Int) := by
  rw [i_add h hc (by omega)]
  omega
/-! undo, redo, mark, back, book of the reference -/
theorem TVs_47 {h h' : mh_T} (t : TVs h) (ok : Ok [47] h h') : TVs h' := TVs_fr ok.2.1 (by decide) t
