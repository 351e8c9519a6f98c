/-! layTab: the first tableau -/
theorem i_cl {x : Int32} (h : 0 ≤ x.toInt) : x.toInt = (x.toNatClampNeg : Int) := by
  show _ = ((x.toInt.toNat : Nat) : Int)
  omega
theorem bit_all : ∀ x, x < 64 → ∀ a, a < 8 → (((nI x) >>> ((nI a - 2) &&& 31)) &&& 1).toInt = tc_A ((a : Int) - 2) x := by decide +kernel
theorem bit_v {y l : Int32} {x : Nat} (hy : y.toInt = (x : Int)) (hx : x < 64) (hl : R (-2) 5 l) : ((y >>> (l &&& 31)) &&& 1).toInt = tc_A l.toInt x := by
  have e1 : y = nI x := Int32.toInt_inj.mp (by rw [hy, nI_toInt (by omega)])
  have h1 := hl.1
  have h2 := hl.2
  obtain ⟨a, ha⟩ : ∃ a : Nat, (a : Int) = l.toInt + 2 := ⟨(l.toInt + 2).toNat, by omega⟩
  have e2 : l = nI a - 2 := Int32.toInt_inj.mp (by
    rw [i_sub (nI_toInt (n := a) (by omega)) (show (2 : Int32).toInt = 2 from by decide) (by omega)]
    omega)
  have := bit_all x hx a (by omega)
  rw [← e1, ← e2] at this
  rw [this]
  congr 1
  omega
theorem mI45 {h : mh_T} {r : Nat → Int32} (t : h.1 45 = r) (j : Nat) : mI h 45 j = r j := by
  show h.1 45 j = r j
  rw [t]
theorem t_fitted {g : gT} {h : mh_T} {P : Int32 → mh_T → Prop} {r : Nat → Int32} (t : h.1 45 = r) (hR : tx_R r) (l1 l2 : Int32) (s x : Nat) (h1 : l1.toInt = (s : Int)) (h2 : l2.toInt = (x : Int)) (hs : s < 8) (hx : x < 64) (hp : ∀ v : Int32, v.toInt = tc_f (tx_tw r s) (tx_la r s) (tx_lb r s) x → P v h) : MCi g yX11_fitted uX11_fitted [.ref 11, .int l1, .int l2] h P := by
  have a1 : (1 + l1).toInt = ((1 + s : Nat) : Int) := by rw [i_add (show (1 : Int32).toInt = 1 from by decide) h1 (by omega)]; omega
  have a9 : (9 + l1).toInt = ((9 + s : Nat) : Int) := by rw [i_add (show (9 : Int32).toInt = 9 from by decide) h1 (by omega)]; omega
  have R1 := (hR.2.1 s hs).1
  have R2 := (hR.2.1 s hs).2
  have b1 := bit_v h2 hx (R_w R1 (by decide))
  have b2 := bit_v h2 hx R2
  refine e_X11_fitted l1 l2 ⟨i_vp a1 (by omega), fun x2 e2 => ⟨i_vp a9 (by omega), fun ne => ⟨i_vp a9 (by omega), hp _ ?_⟩, fun eq => hp _ ?_⟩⟩
  · rw [i_nat a9, mI45 t] at ne
    rw [i_nat a1, mI45 t] at e2
    rw [i_nat a9, mI45 t]
    rw [← e2] at b1
    unfold tc_f tx_tw tx_la tx_lb
    rw [if_pos (decide_eq_true ne)]
    have c1 := tc_A01 (r (1 + s)).toInt x
    have c2 := tc_A01 (r (9 + s)).toInt x
    have d1 : (2 * x2).toInt = 2 * tc_A (r (1 + s)).toInt x := by
      rw [Int32.toInt_mul, show (2 : Int32).toInt = 2 from by decide, b1, bm (by omega) (by omega)]
    rw [i_add d1 b2 (by omega)]
  · rw [i_nat a9, mI45 t] at eq
    rw [i_nat a1, mI45 t] at e2
    rw [← e2] at b1
    unfold tc_f tx_tw tx_la tx_lb
    rw [if_neg (fun z => (of_decide_eq_true (p := ¬ r (9 + s) = -2) z) eq)]
    exact b1
theorem t_outcomes {g : gT} {h : mh_T} {P : Int32 → mh_T → Prop} {r : Nat → Int32} (t : h.1 45 = r) (l1 : Int32) (s : Nat) (h1 : l1.toInt = (s : Int)) (hs : s < 8) (hp : ∀ v : Int32, v.toInt = (tc_oc (tx_tw r) s : Int) → P v h) : MCi g yX11_outcomes uX11_outcomes [.ref 45, .int l1] h P := by
  have a9 : (9 + l1).toInt = ((9 + s : Nat) : Int) := by rw [i_add (show (9 : Int32).toInt = 9 from by decide) h1 (by omega)]; omega
  refine e_X11_outcomes l1 ⟨i_vp a9 (by omega), fun ne => hp _ ?_, fun eq => hp _ ?_⟩
  · rw [i_nat a9, mI45 t] at ne
    unfold tc_oc tx_tw
    rw [if_pos (decide_eq_true ne)]
    decide
  · rw [i_nat a9, mI45 t] at eq
    unfold tc_oc tx_tw
    rw [if_neg (fun z => (of_decide_eq_true (p := ¬ r (9 + s) = -2) z) eq)]
    decide
theorem t_hiddenMany {g : gT} {h : mh_T} {P : Int32 → mh_T → Prop} {r : Nat → Int32} (t : h.1 45 = r) (hR : tx_R r) (hp : ∀ v : Int32, v.toInt = (tx_many r : Int) → P v h) : MCi g yX11_hiddenMany uX11_hiddenMany [.ref 11] h P := by
  refine e_X11_hiddenMany (hp _ ?_)
  have e : mI h 45 (Int32.toNatClampNeg 50) = r 50 := mI45 t 50
  rw [e]
  have h1 := hR.2.2.1.1
  have h2 := hR.2.2.1.2
  obtain ⟨a, ha⟩ : ∃ a : Nat, (a : Int) = (r 50).toInt := ⟨(r 50).toInt.toNat, by omega⟩
  have e2 : r 50 = nI a := Int32.toInt_inj.mp (by rw [nI_toInt (by omega)]; exact ha.symm)
  have e3 : (r 50).toNatClampNeg = a := i_nat ha.symm
  unfold tx_many
  rw [e3, e2, shl_all a (by omega), Int.natCast_pow]
  rfl
def LB (r : Nat → Int32) (i x : Nat) (h : mh_T) : Prop :=
  h.1 45 = r ∧ (mI h 11 30).toInt = (tx_m r : Int) ∧ (mI h 11 31).toInt = (tx_n r : Int) + 1 ∧ (∀ k, k < i → (mI h 55 k).toInt = ((tx_many r + k : Nat) : Int))
  ∧ ∀ i' j, i' < tx_m r + 2 → j ≤ tx_n r → (mL h 54 (97 * i' + j)).toInt = if i' < i ∨ (i' = i ∧ j < x) then tx_C r j i' else 0
def tx_w1 (r : Nat → Int32) : Nat → Int := fun k => if k < tx_many r then 1 else 0
def tx_b0 (r : Nat → Int32) : Nat → Nat := fun i => tx_many r + i
theorem tx_C1 (r : Nat → Int32) : ∀ i, i < tx_m r → ∀ l, l < tx_m r → tx_C r (tx_many r + i) l = la_1 i l := by
  intro i hi l _
  have hi : i < tc_st (tc_oc (tx_tw r)) (tx_q r) := hi
  unfold tx_C tc_C
  rw [if_neg (by omega), if_pos (by omega), Nat.add_sub_cancel_left]
theorem tx_Cx (r : Nat → Int32) {s o x : Nat} (hs : s < tx_q r) (ho : o < tc_oc (tx_tw r) s) (hx : x < tx_many r) : tx_C r x (tc_st (tc_oc (tx_tw r)) s + o) = if tc_f (tx_tw r s) (tx_la r s) (tx_lb r s) x = (o : Int) then 1 else 0 := by
  unfold tx_C tc_C tc_N
  rw [if_pos hx, tc_rs_at _ hs ho, Nat.add_sub_cancel_left]
theorem tx_Cn (r : Nat → Int32) {s o : Nat} (hs : s < tx_q r) (ho : o < tc_oc (tx_tw r) s) : tx_C r (tx_n r) (tc_st (tc_oc (tx_tw r)) s + o) = tx_tm r s o := by
  have e : tx_n r = tx_many r + tc_st (tc_oc (tx_tw r)) (tx_q r) := rfl
  unfold tx_C tc_C
  rw [if_neg (by omega), if_neg (by omega), tc_rs_at _ hs ho, Nat.add_sub_cancel_left]
theorem tx_m_lt (r : Nat → Int32) {s o : Nat} (hs : s < tx_q r) (ho : o < tc_oc (tx_tw r) s) : tc_st (tc_oc (tx_tw r)) s + o < tx_m r := by
  have : tc_st (tc_oc (tx_tw r)) (s + 1) ≤ tx_m r := tc_mono _ hs
  have : tc_st (tc_oc (tx_tw r)) s + tc_oc (tx_tw r) s ≤ tx_m r := this
  omega
theorem tx_g0 {r : Nat → Int32} (hR : tx_R r) : tx_g r (tx_b0 r) := by
  refine ⟨?_, fun i hi => ?_, fun i hi => ?_⟩
  · have e := sx_D0 (tx_C1 r)
    show 0 < sx_D (tx_C r) (tx_m r) (fun i => tx_many r + i)
    rw [e]
    decide
  · have e := sx_t0 (tx_C1 r) hi (tx_n r)
    show 0 ≤ sx_t (tx_C r) (tx_m r) (fun i => tx_many r + i) i (tx_n r)
    rw [e]
    have hi' : i < tc_st (tc_oc (tx_tw r)) (tx_q r) := hi
    have k1 := tc_rs_o (tc_oc (tx_tw r)) i hi'
    have k2 : 0 < tx_q r := by
      rcases Nat.eq_zero_or_pos (tx_q r) with z | z
      · rw [z] at hi'
        exact absurd hi' (Nat.not_lt_zero _)
      · exact z
    have k3 := tc_rs_lt (tc_oc (tx_tw r)) i k2
    have k4 := tx_Cn r k3 (o := i - tc_st (tc_oc (tx_tw r)) (tc_rs (tc_oc (tx_tw r)) (tx_q r) i)) (by omega)
    rw [show tc_st (tc_oc (tx_tw r)) (tc_rs (tc_oc (tx_tw r)) (tx_q r) i) + (i - tc_st (tc_oc (tx_tw r)) (tc_rs (tc_oc (tx_tw r)) (tx_q r) i)) = i by omega] at k4
    rw [k4]
    exact (tx_tmb hR _ _ k3 (by omega)).1
  · show tx_many r + i < tx_many r + tx_m r
    omega
set_option maxRecDepth 100000 in
set_option maxHeartbeats 4000000 in
theorem t_layTab_221 {g : gT} {h0 : mh_T} {P : mh_T → Prop} {r : Nat → Int32} (hR : tx_R r) (l1 l2 : Int32) (h1 : l1.toInt = (tx_many r : Int)) (hp : ∀ h : mh_T, Ok [300, 11, 54, 55] h0 h → TB r (tx_w1 r) (fun _ => 0) (tx_b0 r) h → P h) : ∀ (n : Nat) (l3 : Int32) (x : Nat) (h : mh_T), l3.toInt = (x : Int) → x ≤ tx_many r → tx_many r - x < n → Ok [300, 11, 54, 55] h0 h → (h.1 45 = r ∧ (mI h 11 30).toInt = (tx_m r : Int) ∧ (mI h 11 31).toInt = (tx_n r : Int) + 1 ∧ (∀ k, k < tx_m r → (mI h 55 k).toInt = ((tx_many r + k : Nat) : Int)) ∧ ∀ i' j, i' < tx_m r + 2 → j ≤ tx_n r → (mL h 54 (97 * i' + j)).toInt = if i' < tx_m r then tx_C r j i' else if i' = tx_m r ∧ j < x then -1 else 0) → ME g uX11_layTab 221 [.ref 11, .int l1, .int l2, .int l3, .retAddr 0, .retAddr 0] [] h (qV P) := by
  intro n
  induction n with
  | zero => intro l3 x h _ _ hn; exact absurd hn (Nat.not_lt_zero _)
  | succ n ih =>
    intro l3 x h hx hxm hn ok hL
    obtain ⟨t1, t2, t3, t4, t5⟩ := hL
    have m32 := tx_m32 hR
    have n96 := tx_n96 hR
    have y64 := tx_y64 hR
    have t2' : (mI h 11 30).toInt = ((tx_m r : Nat) : Int) := t2
    refine r_X11_layTab_221 l1 l2 l3 ⟨fun q => ?_, fun q => ?_⟩
    · have q := i_le.mp q
      have : x = tx_many r := by omega
      subst this
      refine hp _ (Ok_wL ok (by decide)) ⟨t1, t2, t3, t4, ?_, fun i' j h2 h3 => ?_⟩
      · have e : tx_D r (tx_b0 r) = 1 := sx_D0 (tx_C1 r)
        rw [e]
        show (mL (wL h 11 29 1) 11 29).toInt = 1
        rw [mL_wL, if_pos ⟨rfl, rfl⟩]
        decide
      · rw [mL_wL, if_neg (fun z => absurd z.1 (by decide)), t5 i' j h2 h3]
        have hw : ∀ i, i < tx_m r → tx_w1 r (tx_many r + i) = 0 := fun i _ => if_neg (by omega)
        unfold tx_T
        by_cases e1 : i' < tx_m r
        · rw [if_pos e1, if_pos e1]
          exact (sx_t0 (tx_C1 r) e1 j).symm
        · rw [if_neg e1, if_neg e1]
          by_cases e2 : i' = tx_m r
          · rw [if_pos e2]
            have := sx_o0 (tx_C1 r) hw j
            show _ = sx_o (tx_C r) (tx_m r) (tx_w1 r) (fun i => tx_many r + i) j
            rw [this]
            unfold tx_w1
            by_cases e3 : j < tx_many r
            · rw [if_pos ⟨e2, e3⟩, if_pos e3]
            · rw [if_neg (fun z => e3 z.2), if_neg e3]
              rfl
          · rw [if_neg (fun z => e2 z.1), if_neg e2]
            exact (sx_o0 (w := fun _ => 0) (tx_C1 r) (fun _ _ => rfl) j).symm
    · have q : x < tx_many r := by have := i_lt.mp (nle q); omega
      have hxn : x ≤ tx_n r := by unfold tx_n; omega
      refine e_X11_cell _ _ ⟨ce_p t2' hx (by omega) (by omega), ?_⟩
      rw [ce_n t2' hx (by omega) (by omega)]
      refine ih (l3 + 1) (x + 1) _ (i_inc hx (by omega)) (by omega) (by omega) (Ok_wL ok (by decide)) ⟨t1, t2, t3, t4, fun i' j h2 h3 => ?_⟩
      rw [mL_wL]
      by_cases e : i' = tx_m r ∧ j = x
      · rw [if_pos ⟨rfl, by rw [e.1, e.2]⟩, if_neg (by omega), if_pos (by omega)]
        decide
      · rw [if_neg (fun z => ce_ne (by omega) (by omega) e z.2), t5 i' j h2 h3]
        by_cases e1 : i' < tx_m r
        · rw [if_pos e1, if_pos e1]
        · rw [if_neg e1, if_neg e1]
          by_cases e2 : i' = tx_m r ∧ j < x
          · rw [if_pos e2, if_pos (by omega)]
          · rw [if_neg e2, if_neg (by omega)]
theorem LB_r {r : Nat → Int32} {i : Nat} {h : mh_T} (hL : LB r i 0 h) (him : i = tx_m r) : h.1 45 = r ∧ (mI h 11 30).toInt = (tx_m r : Int) ∧ (mI h 11 31).toInt = (tx_n r : Int) + 1 ∧ (∀ k, k < tx_m r → (mI h 55 k).toInt = ((tx_many r + k : Nat) : Int)) ∧ ∀ i' j, i' < tx_m r + 2 → j ≤ tx_n r → (mL h 54 (97 * i' + j)).toInt = if i' < tx_m r then tx_C r j i' else if i' = tx_m r ∧ j < 0 then -1 else 0 := by
  subst him
  obtain ⟨t1, t2, t3, t4, t5⟩ := hL
  refine ⟨t1, t2, t3, t4, fun i' j h2 h3 => ?_⟩
  rw [t5 i' j h2 h3]
  by_cases e : i' < tx_m r
  · rw [if_pos (Or.inl e), if_pos e]
  · rw [if_neg (by omega), if_neg e, if_neg (by omega)]
set_option maxRecDepth 100000 in
set_option maxHeartbeats 4000000 in
theorem t_layTab_112 {g : gT} {h0 : mh_T} {P : mh_T → Prop} {r : Nat → Int32} (hR : tx_R r) (l1 : Int32) (h1 : l1.toInt = (tx_many r : Int)) (l2 l3 l4 : Int32) (s o : Nat) (hs : l3.toInt = (s : Int)) (hsq : s < tx_q r) (ho : l4.toInt = (o : Int)) (hoc : o < tc_oc (tx_tw r) s) (hi : l2.toInt = ((tc_st (tc_oc (tx_tw r)) s + o : Nat) : Int)) (K : ∀ h : mh_T, Ok [300, 11, 54, 55] h0 h → LB r (tc_st (tc_oc (tx_tw r)) s + o + 1) 0 h → ME g uX11_layTab 96 [.ref 11, .int l1, .int (l2 + 1), .int l3, .int (l4 + 1), .retAddr 0] [] h (qV P)) : ∀ (n : Nat) (l5 : Int32) (x : Nat) (h : mh_T), l5.toInt = (x : Int) → x ≤ tx_many r → tx_many r - x < n → Ok [300, 11, 54, 55] h0 h → LB r (tc_st (tc_oc (tx_tw r)) s + o) x h → ME g uX11_layTab 112 [.ref 11, .int l1, .int l2, .int l3, .int l4, .int l5] [] h (qV P) := by
  have m32 := tx_m32 hR
  have n96 := tx_n96 hR
  have y64 := tx_y64 hR
  have q8 := tx_q8 hR
  have oc4 := tc_oc4 (tx_tw r) s
  have him := tx_m_lt r hsq hoc
  have cx := fun x => tx_Cx r (x := x) hsq hoc
  have cn := tx_Cn r hsq hoc
  have c1 := tx_C1 r
  generalize tc_st (tc_oc (tx_tw r)) s + o = i at hi him cx cn K ⊢
  have nm : tx_n r = tx_many r + tx_m r := rfl
  intro n
  induction n with
  | zero => intro l5 x h _ _ hn; exact absurd hn (Nat.not_lt_zero _)
  | succ n ih =>
    intro l5 x h hx hxm hn ok hL
    obtain ⟨t1, t2, t3, t4, t5⟩ := hL
    refine r_X11_layTab_112 l1 l2 l3 l4 l5 ⟨fun q => ?_, fun q => ?_⟩
    · have q := i_le.mp q
      have : x = tx_many r := by omega
      subst this
      have hc : (l1 + l2).toInt = ((tx_many r + i : Nat) : Int) := by rw [i_add h1 hi (by omega)]; omega
      refine e_X11_cell _ _ ⟨ce_p hi hc (by omega) (by omega), ?_⟩
      rw [ce_n hi hc (by omega) (by omega)]
      have hw : ((mI (wL h 54 (97 * i + (tx_many r + i)) 1) 11 31) - 1).toInt = (tx_n r : Int) := by
        rw [mI_wL, i_sub t3 (show (1 : Int32).toInt = 1 from by decide) (by omega)]
        omega
      have h17 : ((17 + (4 * l3)) + l4).toInt = ((17 + 4 * s + o : Nat) : Int) := by
        have e4 : (4 * l3).toInt = 4 * (s : Int) := by rw [Int32.toInt_mul, show (4 : Int32).toInt = 4 from by decide, hs, bm (by omega) (by omega)]
        rw [i_add (i_add (show (17 : Int32).toInt = 17 from by decide) e4 (by omega)) ho (by omega)]
        omega
      refine e_X11_cell _ _ ⟨i_vp h17 (by omega), ce_p hi hw (by omega) (by omega), i_vp hi (by omega), ?_⟩
      rw [ce_n hi hw (by omega) (by omega), i_nat hi, i_nat h17, mI_wL, mI45 t1]
      refine K _ (Ok_w (Ok_wL (Ok_wL ok (by decide)) (by decide)) (lo := 0) (hi := 96) rfl ⟨by omega, by omega⟩ (by decide) (nt_k (by decide))) ⟨t1, t2, t3, fun k hk => ?_, fun i' j h2 h3 => ?_⟩
      · rw [mI_wI]
        by_cases e : k = i
        · rw [if_pos ⟨rfl, e⟩, e]
          exact hc
        · rw [if_neg (fun z => e z.2)]
          exact t4 k (by omega)
      · rw [mL_wI, mL_wL]
        by_cases e : i' = i ∧ j = tx_n r
        · rw [if_pos ⟨rfl, by rw [e.1, e.2]⟩, if_pos (by omega), e.1, e.2, cn, Int32.toInt_toInt64]
          rfl
        · rw [if_neg (fun z => ce_ne (by omega) (by omega) e z.2), mL_wL]
          by_cases e2 : i' = i ∧ j = tx_many r + i
          · rw [if_pos ⟨rfl, by rw [e2.1, e2.2]⟩, if_pos (by omega), e2.1, e2.2, c1 i him i him]
            unfold la_1
            rw [if_pos rfl]
            decide
          · rw [if_neg (fun z => ce_ne (by omega) (by omega) e2 z.2), t5 i' j h2 h3]
            by_cases e3 : i' = i
            · rw [if_pos (show i' < i + 1 ∨ (i' = i + 1 ∧ j < 0) by omega)]
              by_cases e4 : j < tx_many r
              · rw [if_pos (by omega)]
              · rw [if_neg (by omega), e3]
                obtain ⟨k, hk⟩ : ∃ k, j = tx_many r + k := ⟨j - tx_many r, by omega⟩
                rw [hk, c1 k (by omega) i him]
                unfold la_1
                rw [if_neg (by omega)]
            · by_cases e5 : i' < i
              · rw [if_pos (Or.inl e5), if_pos (by omega)]
              · rw [if_neg (by omega), if_neg (by omega)]
    · have q : x < tx_many r := by have := i_lt.mp (nle q); omega
      have step : ∀ v : Int64, v.toInt = tx_C r x i → ME g uX11_layTab 112 [.ref 11, .int l1, .int l2, .int l3, .int l4, .int (l5 + 1)] [] (wL h 54 (97 * i + x) v) (qV P) := by
        intro v hv
        refine ih (l5 + 1) (x + 1) _ (i_inc hx (by omega)) (by omega) (by omega) (Ok_wL ok (by decide)) ⟨t1, t2, t3, t4, fun i' j h2 h3 => ?_⟩
        rw [mL_wL]
        by_cases e : i' = i ∧ j = x
        · rw [if_pos ⟨rfl, by rw [e.1, e.2]⟩, if_pos (by omega), e.1, e.2]
          exact hv
        · rw [if_neg (fun z => ce_ne (by omega) (by omega) e z.2), t5 i' j h2 h3]
          by_cases e2 : i' < i ∨ (i' = i ∧ j < x)
          · rw [if_pos e2, if_pos (by omega)]
          · rw [if_neg e2, if_neg (by omega)]
      refine e_X11_cell _ _ (t_fitted t1 hR l3 l5 s x hs hx (by omega) (by omega) (fun v hv => ⟨fun ne => ⟨ce_p hi hx (by omega) (by omega), ?_⟩, fun eq => ⟨ce_p hi hx (by omega) (by omega), ?_⟩⟩))
      · rw [ce_n hi hx (by omega) (by omega)]
        refine step 0 ?_
        rw [cx x q, if_neg]
        · decide
        · intro z
          apply ne
          apply Int32.toInt_inj.mp
          rw [hv, ho, z]
      · rw [ce_n hi hx (by omega) (by omega)]
        refine step 1 ?_
        rw [cx x q, if_pos]
        · decide
        · rw [← hv, eq, ho]
set_option maxRecDepth 100000 in
set_option maxHeartbeats 4000000 in
theorem t_layTab_96 {g : gT} {h0 : mh_T} {P : mh_T → Prop} {r : Nat → Int32} (hR : tx_R r) (l1 : Int32) (h1 : l1.toInt = (tx_many r : Int)) (l3 : Int32) (s : Nat) (hs : l3.toInt = (s : Int)) (hsq : s < tx_q r) (K : ∀ (l2 : Int32) (h : mh_T), l2.toInt = ((tc_st (tc_oc (tx_tw r)) (s + 1) : Nat) : Int) → Ok [300, 11, 54, 55] h0 h → LB r (tc_st (tc_oc (tx_tw r)) (s + 1)) 0 h → ME g uX11_layTab 83 [.ref 11, .int l1, .int l2, .int (l3 + 1), .retAddr 0, .retAddr 0] [] h (qV P)) : ∀ (n : Nat) (l2 l4 : Int32) (o : Nat) (h : mh_T), l4.toInt = (o : Int) → o ≤ tc_oc (tx_tw r) s → l2.toInt = ((tc_st (tc_oc (tx_tw r)) s + o : Nat) : Int) → tc_oc (tx_tw r) s - o < n → Ok [300, 11, 54, 55] h0 h → LB r (tc_st (tc_oc (tx_tw r)) s + o) 0 h → ME g uX11_layTab 96 [.ref 11, .int l1, .int l2, .int l3, .int l4, .retAddr 0] [] h (qV P) := by
  have m32 := tx_m32 hR
  have y64 := tx_y64 hR
  have q8 := tx_q8 hR
  have oc4 := tc_oc4 (tx_tw r) s
  intro n
  induction n with
  | zero => intro l2 l4 o h _ _ _ hn; exact absurd hn (Nat.not_lt_zero _)
  | succ n ih =>
    intro l2 l4 o h ho hoc hi hn ok hL
    refine r_X11_layTab_96 l1 l2 l3 l4 (t_outcomes hL.1 l3 s hs (by omega) (fun v hv => ⟨fun q => ?_, fun q => ?_⟩))
    · have q := i_le.mp q
      have : o = tc_oc (tx_tw r) s := by omega
      subst this
      exact K l2 h hi ok hL
    · have q : o < tc_oc (tx_tw r) s := by have := i_lt.mp (nle q); omega
      have him := tx_m_lt r hsq q
      exact t_layTab_112 hR l1 h1 l2 l3 l4 s o hs hsq ho q hi (fun h' ok' hL' => ih (l2 + 1) (l4 + 1) (o + 1) h' (i_inc ho (by omega)) (by omega) (show (l2 + 1).toInt = ((tc_st (tc_oc (tx_tw r)) s + (o + 1) : Nat) : Int) from i_inc hi (show tc_st (tc_oc (tx_tw r)) s + o < 2147483647 by omega)) (by omega) ok' hL') (tx_many r + 1) 0 0 h (by decide) (Nat.zero_le _) (by omega) ok hL
set_option maxRecDepth 100000 in
set_option maxHeartbeats 4000000 in
theorem t_layTab_83 {g : gT} {h0 : mh_T} {P : mh_T → Prop} {r : Nat → Int32} (hR : tx_R r) (l1 : Int32) (h1 : l1.toInt = (tx_many r : Int)) (hp : ∀ h : mh_T, Ok [300, 11, 54, 55] h0 h → TB r (tx_w1 r) (fun _ => 0) (tx_b0 r) h → P h) : ∀ (n : Nat) (l2 l3 : Int32) (s : Nat) (h : mh_T), l3.toInt = (s : Int) → s ≤ tx_q r → l2.toInt = ((tc_st (tc_oc (tx_tw r)) s : Nat) : Int) → tx_q r - s < n → Ok [300, 11, 54, 55] h0 h → LB r (tc_st (tc_oc (tx_tw r)) s) 0 h → ME g uX11_layTab 83 [.ref 11, .int l1, .int l2, .int l3, .retAddr 0, .retAddr 0] [] h (qV P) := by
  have q8 := tx_q8 hR
  have y64 := tx_y64 hR
  intro n
  induction n with
  | zero => intro l2 l3 s h _ _ _ hn; exact absurd hn (Nat.not_lt_zero _)
  | succ n ih =>
    intro l2 l3 s h hs hsq hi hn ok hL
    have e0 : (mI h 45 (Int32.toNatClampNeg 0)).toInt = (tx_q r : Int) := by
      rw [show mI h 45 (Int32.toNatClampNeg 0) = r 0 from mI45 hL.1 0]
      exact i_cl hR.1.1
    refine r_X11_layTab_83 l1 l2 l3 ⟨fun q => ?_, fun q => ?_⟩
    · have q := i_le.mp q
      have : s = tx_q r := by omega
      subst this
      exact t_layTab_221 hR l1 l2 h1 hp (tx_many r + 1) 0 0 h (by decide) (Nat.zero_le _) (by omega) ok (LB_r hL rfl)
    · have q : s < tx_q r := by have := i_lt.mp (nle q); omega
      exact t_layTab_96 hR l1 h1 l3 s hs q (fun l2' h' hi' ok' hL' => ih l2' (l3 + 1) (s + 1) h' (i_inc hs (by omega)) (by omega) hi' (by omega) ok' hL') (tc_oc (tx_tw r) s + 1) l2 0 0 h (by decide) (Nat.zero_le _) (by rw [Nat.add_zero]; exact hi) (by omega) ok hL
set_option maxRecDepth 100000 in
set_option maxHeartbeats 4000000 in
theorem t_layTab_59 {g : gT} {h0 : mh_T} {P : mh_T → Prop} {r : Nat → Int32} (hR : tx_R r) (l1 : Int32) (h1 : l1.toInt = (tx_many r : Int)) (hp : ∀ h : mh_T, Ok [300, 11, 54, 55] h0 h → TB r (tx_w1 r) (fun _ => 0) (tx_b0 r) h → P h) : ∀ (n : Nat) (l2 : Int32) (k : Nat) (h : mh_T), l2.toInt = (k : Int) → k ≤ 3298 → 3298 - k < n → Ok [300, 11, 54, 55] h0 h → h.1 45 = r → (mI h 11 30).toInt = (tx_m r : Int) → (mI h 11 31).toInt = (tx_n r : Int) + 1 → (∀ q, q < k → (mL h 54 q).toInt = 0) → ME g uX11_layTab 59 [.ref 11, .int l1, .int l2, .retAddr 0, .retAddr 0, .retAddr 0] [] h (qV P) := by
  have m32 := tx_m32 hR
  have n96 := tx_n96 hR
  have c3 : (3298 : Int32).toInt = 3298 := by decide
  intro n
  induction n with
  | zero => intro l2 k h _ _ hn; exact absurd hn (Nat.not_lt_zero _)
  | succ n ih =>
    intro l2 k h hk hk2 hn ok t1 t2 t3 t4
    refine r_X11_layTab_59 l1 l2 ⟨fun q => ?_, fun q => ⟨?_, ?_⟩⟩
    · have q := i_le.mp q
      have : k = 3298 := by omega
      subst this
      refine t_layTab_83 hR l1 h1 hp (tx_q r + 1) 0 0 0 h (by decide) (Nat.zero_le _) i_0 (by omega) ok ⟨t1, t2, t3, fun k hk => absurd hk (Nat.not_lt_zero _), fun i' j h2 h3 => ?_⟩
      have z : ¬ (i' < 0 ∨ (i' = 0 ∧ j < 0)) := by omega
      show _ = if i' < 0 ∨ (i' = 0 ∧ j < 0) then _ else _
      rw [if_neg z]
      exact t4 _ (by omega)
    · have q := i_lt.mp (nle q)
      exact i_vp hk (by omega)
    · have q := i_lt.mp (nle q)
      refine ih (l2 + 1) (k + 1) _ (i_inc hk (by omega)) (by omega) (by omega) (Ok_wL ok (by decide)) t1 t2 t3 (fun q hq => ?_)
      rw [mL_wL, i_nat hk]
      split
      · decide
      · rename_i z; exact t4 q (by omega)
set_option maxRecDepth 100000 in
set_option maxHeartbeats 4000000 in
theorem t_layTab_12 {g : gT} {h0 : mh_T} {P : mh_T → Prop} {r : Nat → Int32} (hR : tx_R r) (l1 : Int32) (h1 : l1.toInt = (tx_many r : Int)) (hp : ∀ h : mh_T, Ok [300, 11, 54, 55] h0 h → TB r (tx_w1 r) (fun _ => 0) (tx_b0 r) h → P h) : ∀ (n : Nat) (l2 : Int32) (s : Nat) (h : mh_T), l2.toInt = (s : Int) → s ≤ tx_q r → tx_q r - s < n → Ok [300, 11, 54, 55] h0 h → h.1 45 = r → (mI h 11 30).toInt = ((tc_st (tc_oc (tx_tw r)) s : Nat) : Int) → ME g uX11_layTab 12 [.ref 11, .int l1, .int l2, .retAddr 0, .retAddr 0, .retAddr 0] [] h (qV P) := by
  have q8 := tx_q8 hR
  have m32 := tx_m32 hR
  have y64 := tx_y64 hR
  have nm : tx_n r = tx_many r + tx_m r := rfl
  intro n
  induction n with
  | zero => intro l2 s h _ _ hn; exact absurd hn (Nat.not_lt_zero _)
  | succ n ih =>
    intro l2 s h hs hsq hn ok t1 t2
    have e0 : (mI h 45 (Int32.toNatClampNeg 0)).toInt = (tx_q r : Int) := by
      rw [show mI h 45 (Int32.toNatClampNeg 0) = r 0 from mI45 t1 0]
      exact i_cl hR.1.1
    refine r_X11_layTab_12 l1 l2 ⟨fun q => ?_, fun q => ?_⟩
    · have q := i_le.mp q
      have : s = tx_q r := by omega
      subst this
      have t2 : (mI h 11 30).toInt = (tx_m r : Int) := t2
      have hw : ((l1 + (mI h 11 30)) + 1).toInt = (tx_n r : Int) + 1 := by
        rw [i_add (i_add h1 t2 (by omega)) (show (1 : Int32).toInt = 1 from by decide) (by omega)]
        omega
      refine t_layTab_59 hR l1 h1 hp 3299 0 0 _ (by decide) (Nat.zero_le _) (by omega) (Ok_w ok (k := 11) (j := 31) (lo := 0) (hi := 97) rfl ⟨by omega, by omega⟩ (by decide) (by decide)) t1 ?_ ?_ (fun q hq => absurd hq (Nat.not_lt_zero _))
      · rw [mI_wI, if_neg (fun z => absurd z.2 (by decide))]
        exact t2
      · rw [mI_wI, if_pos ⟨rfl, rfl⟩]
        exact hw
    · have q : s < tx_q r := by have := i_lt.mp (nle q); omega
      refine t_outcomes t1 l2 s hs (by omega) (fun v hv => ?_)
      have hm : tc_st (tc_oc (tx_tw r)) (s + 1) ≤ tx_m r := tc_mono _ q
      have hm' : tc_st (tc_oc (tx_tw r)) (s + 1) = tc_st (tc_oc (tx_tw r)) s + tc_oc (tx_tw r) s := rfl
      have hv2 : ((mI h 11 30) + v).toInt = ((tc_st (tc_oc (tx_tw r)) (s + 1) : Nat) : Int) := by
        rw [i_add t2 hv (by omega)]
        omega
      refine ih (l2 + 1) (s + 1) _ (i_inc hs (by omega)) (by omega) (by omega) (Ok_w ok (k := 11) (j := 30) (lo := 0) (hi := 32) rfl ⟨by omega, by omega⟩ (by decide) (by decide)) t1 ?_
      rw [mI_wI, if_pos ⟨rfl, rfl⟩]
      exact hv2
theorem t_layTab {g : gT} {h0 h : mh_T} {P : mh_T → Prop} {r : Nat → Int32} (ok : Ok [300, 11, 54, 55] h0 h) (t1 : h.1 45 = r) (hR : tx_R r) (hp : ∀ h : mh_T, Ok [300, 11, 54, 55] h0 h → TB r (tx_w1 r) (fun _ => 0) (tx_b0 r) h → P h) : MCv g yX11_layTab uX11_layTab [.ref 11] h P := by
  refine e_X11_layTab (t_hiddenMany t1 hR (fun v hv => ?_))
  refine t_layTab_12 hR v hv hp (tx_q r + 1) 0 0 _ (by decide) (Nat.zero_le _) (by omega) (Ok_w ok (k := 11) (j := 30) (lo := 0) (hi := 32) rfl ⟨by decide, by decide⟩ (by decide) (by decide)) t1 ?_
  rw [mI_wI, if_pos ⟨rfl, rfl⟩]
  exact i_0
/-! what stays of THE TABLE; isMixed, share, together, level of the reference -/
def TQ (f : Nat → Int32) (off : Nat) : Prop := ∀ s, s < 8 → 0 ≤ (f (off + 17 + 4 * s)).toInt ∧ 0 ≤ (f (off + 17 + 4 * s + 1)).toInt ∧ 0 ≤ (f (off + 17 + 4 * s + 2)).toInt ∧ 0 ≤ (f (off + 17 + 4 * s + 3)).toInt ∧ (f (off + 17 + 4 * s)).toInt + (f (off + 17 + 4 * s + 1)).toInt + (f (off + 17 + 4 * s + 2)).toInt + (f (off + 17 + 4 * s + 3)).toInt ≤ 240
def TVs (h : mh_T) : Prop := TQ (h.1 45) 0 ∧ TQ (h.1 48) 0 ∧ (∀ p, p < 20 → TQ (h.1 49) (49 * p)) ∧ (∀ p, p < 20 → TQ (h.1 50) (49 * p)) ∧ (∀ p, p < 4 → TQ (h.1 51) (49 * p)) ∧ (1 ≤ (h.1 45 50).toInt → 1 ≤ (h.1 45 49).toInt)
theorem TVs_fr {ms : List Nat} {h h' : mh_T} (f : Fr ms h h') (hm : 45 ∉ ms ∧ 48 ∉ ms ∧ 49 ∉ ms ∧ 50 ∉ ms ∧ 51 ∉ ms) (t : TVs h) : TVs h' := by
  have e1 := (f 45 (by decide) hm.1).1
  have e2 := (f 48 (by decide) hm.2.1).1
  have e3 := (f 49 (by decide) hm.2.2.1).1
  have e4 := (f 50 (by decide) hm.2.2.2.1).1
  have e5 := (f 51 (by decide) hm.2.2.2.2).1
  unfold TVs
  rw [e1, e2, e3, e4, e5]
  exact t
theorem TQ_at {f : Nat → Int32} (t : TQ f 0) {s o : Nat} (hs : s < 8) (ho : o < 4) : 0 ≤ tx_tm f s o ∧ tx_tm f s o ≤ 240 := by
  obtain ⟨a, b, c, d, e⟩ := t s hs
  unfold tx_tm
  rw [Nat.zero_add] at a b c d e
  rcases (show o = 0 ∨ o = 1 ∨ o = 2 ∨ o = 3 by omega) with z | z | z | z <;> subst z
  · rw [Nat.add_zero]; omega
  · omega
  · omega
  · omega
theorem tx_RI {h : mh_T} (hG : GI h) (t : TVs h) : tx_R (h.1 45) := by
  refine ⟨GI_rd hG 45 0 rfl, fun s hs => ⟨GI_rd hG 45 (1 + s) ?_, GI_rd hG 45 (9 + s) ?_⟩, GI_rd hG 45 50 rfl, fun s o hs ho => TQ_at t.1 hs ho⟩
  · exact rgp_45_1 (by omega) (by omega)
  · exact rgp_45_2 (by omega) (by omega)
theorem t_lowest {g : gT} {h : mh_T} {P : Int32 → mh_T → Prop} (l0 l2 : Int64) (l4 : Int32) (hG : GI h) (h0 : ¬ (l0 = 0 ∧ l2 = 0)) (hp : ∀ r, P r h) : MCi g yX11_lowest uX11_lowest [.long l0, .long l2, .int l4] h P :=
  e_X11_lowest l0 l2 l4 (s_X11_common l0 l2 hG h0 (fun r hr => ⟨fun _ => ⟨hr, hp _⟩, fun _ => ⟨hr, hp _⟩⟩))
theorem tx_ww1 (r : Nat → Int32) : tx_w (tx_w1 r) := by
  intro k
  unfold tx_w1
  split
  · exact Or.inr (Or.inl rfl)
  · exact Or.inl rfl
theorem tx_ww0 : tx_w (fun _ => 0) := fun _ => Or.inl rfl
set_option maxRecDepth 100000 in
set_option maxHeartbeats 4000000 in
theorem t_isMixed {g : gT} {h0 h : mh_T} {P : Int32 → mh_T → Prop} {r : Nat → Int32} (ok : Ok [300, 11, 54, 55] h0 h) (t1 : h.1 45 = r) (hR : tx_R r) (hp1 : r 0 = 0 → P 1 h) (hp : ∀ (v : Int32) (h' : mh_T) (b : Nat → Nat), ¬ r 0 = 0 → Ok [300, 11, 54, 55] h0 h' → tx_g r b → TB r (tx_w1 r) (fun _ => 0) b h' → (v = 0 ∧ ¬ mL h' 54 (97 * tx_m r + tx_n r) = mL h' 11 29 * (Int32.toInt64 (r 49))) ∨ v = 1 → P v h') : MCi g yX11_isMixed uX11_isMixed [.ref 11] h P := by
  have m32 := tx_m32 hR
  have n96 := tx_n96 hR
  have e0 : mI h 45 (Int32.toNatClampNeg 0) = r 0 := mI45 t1 0
  refine e_X11_isMixed ⟨fun ne => t_layTab ok t1 hR (fun h1 ok1 T1 => ?_), fun eq => hp1 (by rw [← e0]; exact eq)⟩
  rw [e0] at ne
  refine t_goesUp ok1 T1 hR (tx_g0 hR) (tx_ww1 r) tx_ww0 _ 0 (Or.inl rfl) (by rw [T1.2.1]; omega) (fun h2 b ok2 g2 T2 => ?_)
  have hm : (mI h2 11 30).toInt = ((tx_m r : Nat) : Int) := T2.2.1
  have hw : ((mI h2 11 31) - 1).toInt = ((tx_n r : Nat) : Int) := by
    rw [i_sub T2.2.2.1 (show (1 : Int32).toInt = 1 from by decide) (by omega)]
    omega
  refine e_X11_cell _ _ ⟨ce_p hm hw (by omega) (by omega), fun nz => hp 0 h2 b ne ok2 g2 T2 (Or.inl ⟨rfl, fun z => nz (lg_0.mpr ?_)⟩), fun _ => hp 1 h2 b ne ok2 g2 T2 (Or.inr rfl)⟩
  have e49 : mI h2 45 (Int32.toNatClampNeg 49) = r 49 := mI45 T2.1 49
  rw [ce_n hm hw (by omega) (by omega), e49, z]
theorem good45 {h h1 : mh_T} {ms : List Nat} (ok : Ok ms h h1) (hm : 45 ∉ ms) : h1.1 45 = h.1 45 := (ok.2.1 45 (by decide) hm).1
set_option maxRecDepth 100000 in
set_option maxHeartbeats 4000000 in
theorem u_X11_share {g : gT} {h : mh_T} {P : Int32 → mh_T → Prop} (l1 : Int32) (hG : GI h) (hI : TVs h) (hp : ∀ (v : Int32) (h' : mh_T), Ok [300, 11, 54, 55] h h' → ¬ mI h' 11 11 = 4 → P v h') : MCi g yX11_share uX11_share [.ref 11, .int l1] h P := by
  refine e_X11_share l1 (s_X11_good hG (fun h1 ok1 t4 => ?_))
  have ok1' : Ok [300, 11, 54, 55] h h1 := Ok_mono ok1 (by decide)
  have hp : ∀ (v : Int32) (h' : mh_T), Ok [300, 11, 54, 55] h1 h' → P v h' := fun v h' k => hp v h' (Ok_tr ok1' k (by decide)) (k.2.2.2.2.2.2 t4)
  have ok1' : Ok [300, 11, 54, 55] h1 h1 := Ok_rf ok1'.1
  have t1 := good45 ok1 (by decide)
  have hR := tx_RI hG hI
  have m32 := tx_m32 hR
  have n96 := tx_n96 hR
  refine ⟨fun _ => t_isMixed ok1' t1 hR (fun _ => ⟨fun z => absurd z (by decide), fun _ => hp 1 h1 ok1'⟩) (fun v h2 b ne ok2 g2 T2 hv => ⟨fun z => ?_, fun _ => hp 1 h2 ok2⟩), fun _ => s_X11_no 1 ok1.1 (fun v h2 ok2 _ => hp v h2 (Ok_tr ok1' ok2 (by decide)))⟩
  have hm : (mI h2 11 30).toInt = ((tx_m (h.1 45) : Nat) : Int) := T2.2.1
  have hw : ((mI h2 11 31) - 1).toInt = ((tx_n (h.1 45) : Nat) : Int) := by
    rw [i_sub T2.2.2.1 (show (1 : Int32).toInt = 1 from by decide) (by omega)]
    omega
  refine e_X11_cell _ _ ⟨ce_p hm hw (by omega) (by omega), ?_⟩
  refine t_lowest _ _ l1 ok2.1 ?_ (fun v => hp v h2 ok2)
  intro zz
  rcases hv with ⟨_, q⟩ | q
  · apply q
    have e49 : mI h2 45 (Int32.toNatClampNeg 49) = (h.1 45) 49 := mI45 T2.1 49
    rw [ce_n hm hw (by omega) (by omega), e49] at zz
    rw [zz.1, zz.2]
  · rw [q] at z
    exact absurd z (by decide)
noncomputable def tx_w2 (r : Nat → Int32) (l1 l2 l3 l4 : Int32) (sg : Int) : Nat → Int := fun k => if k < tx_many r ∧ (((nI k) >>> (l1 &&& 31)) &&& 1) = l2 ∧ (((nI k) >>> (l3 &&& 31)) &&& 1) = l4 then - sg else 0
def TW (r : Nat → Int32) (b : Nat → Nat) (h : mh_T) : Prop :=
  h.1 45 = r ∧ (mI h 11 30).toInt = (tx_m r : Int) ∧ (mI h 11 31).toInt = (tx_n r : Int) + 1 ∧ (∀ i, i < tx_m r → (mI h 55 i).toInt = (b i : Int)) ∧ (mL h 11 29).toInt = tx_D r b
  ∧ ∀ i j, i < tx_m r + 1 → j ≤ tx_n r → (mL h 54 (97 * i + j)).toInt = tx_T r (tx_w1 r) (fun _ => 0) b i j
theorem TW_w {r : Nat → Int32} {b : Nat → Nat} {h : mh_T} (t : TW r b h) {j : Nat} {v : Int64} (hj : j ≤ tx_n r) (hn : tx_n r ≤ 96) : TW r b (wL h 54 (97 * (tx_m r + 1) + j) v) := by
  obtain ⟨t1, t2, t3, t4, t5, t6⟩ := t
  refine ⟨t1, t2, t3, t4, t5, fun i j' h1 h2 => ?_⟩
  rw [mL_wL, if_neg (fun z => ce_ne (by omega) (by omega) (fun y => by omega) z.2)]
  exact t6 i j' h1 h2
theorem i_nI {x : Int32} {k : Nat} (h : x.toInt = (k : Int)) (hk : k < 2147483648) : x = nI k := Int32.toInt_inj.mp (by rw [h, nI_toInt (by omega)])
def tx_F (r : Nat → Int32) (w : Nat → Int) (b : Nat → Nat) (k j : Nat) : Int := la_S k (fun i => w (b i) * tx_t r b i j) - w j * tx_D r b
theorem tx_Fb {r : Nat → Int32} (hR : tx_R r) {w : Nat → Int} (hw : tx_w w) {b : Nat → Nat} (hg : tx_g r b) {k : Nat} (hk : k ≤ 32) (j : Nat) : -283467841536 ≤ tx_F r w b k j ∧ tx_F r w b k j ≤ 283467841536 := by
  have e1 := la_S_b (f := fun i => w (b i) * tx_t r b i j) (M := 8589934592) k (fun i _ => w1_b (hw (b i)) (tx_b2 hR hg i j))
  have e0 := tx_b1 hR hg
  have e2 := w1_b (hw j) e0
  have e3 : (k : Int) * 8589934592 ≤ 32 * 8589934592 := Int.mul_le_mul_of_nonneg_right (by omega) (by omega)
  unfold tx_F
  omega
set_option maxRecDepth 100000 in
set_option maxHeartbeats 4000000 in
theorem t_tog_247 {g : gT} {h0 : mh_T} {P : Int32 → mh_T → Prop} {r : Nat → Int32} {b : Nat → Nat} (hR : tx_R r) (hg : tx_g r b) (l1 l2 l3 l4 l5 l6 : Int32) (l7 : Int64) (sg : Int) (h7 : l7.toInt = sg) (hsg : sg = 1 ∨ sg = -1) (hw2 : tx_w (tx_w2 r l1 l2 l3 l4 sg)) (l9 l10 : Int32) (k : Nat) (h9 : l9.toInt = (k : Int)) (hk : k < tx_m r) (his : tx_w2 r l1 l2 l3 l4 sg (b k) = - sg) (K : ∀ h : mh_T, Ok [300, 11, 54, 55] h0 h → TW r b h → (∀ j, j ≤ tx_n r → (mL h 54 (97 * (tx_m r + 1) + j)).toInt = tx_F r (tx_w2 r l1 l2 l3 l4 sg) b (k + 1) j) → ME g uX11_together 189 [.ref 11, .int l1, .int l2, .int l3, .int l4, .int l5, .int l6, .long l7, .retAddr 0, .int (l9 + 1), .retAddr 0, .retAddr 0, .retAddr 0] [] h (qI P)) : ∀ (n : Nat) (l12 : Int32) (c : Nat) (h : mh_T), l12.toInt = (c : Int) → c ≤ tx_n r + 1 → tx_n r + 1 - c < n → Ok [300, 11, 54, 55] h0 h → TW r b h → (∀ j, j ≤ tx_n r → (mL h 54 (97 * (tx_m r + 1) + j)).toInt = if j < c then tx_F r (tx_w2 r l1 l2 l3 l4 sg) b (k + 1) j else tx_F r (tx_w2 r l1 l2 l3 l4 sg) b k j) → ME g uX11_together 247 [.ref 11, .int l1, .int l2, .int l3, .int l4, .int l5, .int l6, .long l7, .retAddr 0, .int l9, .int l10, .int 1, .int l12] [] h (qI P) := by
  have m32 := tx_m32 hR
  have n96 := tx_n96 hR
  intro n
  induction n with
  | zero => intro l12 c h _ _ hn; exact absurd hn (Nat.not_lt_zero _)
  | succ n ih =>
    intro l12 c h hc hcn hn ok T hF
    have e1 : ((mI h 11 30) + 1).toInt = ((tx_m r + 1 : Nat) : Int) := by rw [i_add T.2.1 (show (1 : Int32).toInt = 1 from by decide) (by omega)]; omega
    have t3 := T.2.2.1
    refine r_X11_together_247 l1 l2 l3 l4 l5 l6 l7 l9 l10 1 l12 ⟨fun q => ?_, fun q => ⟨fun z => absurd z (by decide), fun _ => ?_⟩⟩
    · have q := i_le.mp q
      have : c = tx_n r + 1 := by omega
      subst this
      exact K h ok T (fun j hj => by rw [hF j hj, if_pos (by omega)])
    · have q : c ≤ tx_n r := by have := i_lt.mp (nle q); omega
      refine e_X11_cell _ _ ⟨ce_p e1 hc (by omega) (by omega), e_X11_cell _ _ ⟨ce_p h9 hc (by omega) (by omega), ce_p e1 hc (by omega) (by omega), ?_⟩⟩
      rw [ce_n e1 hc (by omega) (by omega), ce_n h9 hc (by omega) (by omega)]
      have v1 : (mL h 54 (97 * (tx_m r + 1) + c)).toInt = tx_F r (tx_w2 r l1 l2 l3 l4 sg) b k c := by rw [hF c q, if_neg (by omega)]
      have v2 : (mL h 54 (97 * k + c)).toInt = tx_t r b k c := by
        rw [T.2.2.2.2.2 k c (by omega) q]
        unfold tx_T
        rw [if_pos hk]
      have B1 := tx_Fb hR hw2 hg (k := k) (by omega) c
      have B2 := tx_b2 hR hg k c
      have B3 : -8589934592 ≤ sg * tx_t r b k c ∧ sg * tx_t r b k c ≤ 8589934592 := w1_b (by omega) B2
      have e2 : (l7 * (mL h 54 (97 * k + c))).toInt = sg * tx_t r b k c := by rw [l_mul (by rw [h7, v2]; omega), h7, v2]
      have e3 : ((mL h 54 (97 * (tx_m r + 1) + c)) - (l7 * (mL h 54 (97 * k + c)))).toInt = tx_F r (tx_w2 r l1 l2 l3 l4 sg) b (k + 1) c := by
        rw [l_sub (by rw [v1, e2]; omega), v1, e2]
        show _ = la_S k (fun i => tx_w2 r l1 l2 l3 l4 sg (b i) * tx_t r b i c) + tx_w2 r l1 l2 l3 l4 sg (b k) * tx_t r b k c - tx_w2 r l1 l2 l3 l4 sg c * tx_D r b
        rw [his, Int.neg_mul]
        unfold tx_F
        omega
      refine ih (l12 + 1) (c + 1) _ (i_inc hc (by omega)) (by omega) (by omega) (Ok_wL ok (by decide)) (TW_w T q (by omega)) (fun j hj => ?_)
      rw [mL_wL]
      by_cases e : j = c
      · rw [if_pos ⟨rfl, by rw [e]⟩, if_pos (by omega), e]
        exact e3
      · rw [if_neg (fun z => e (by have := z.2; omega)), hF j hj]
        by_cases e4 : j < c
        · rw [if_pos e4, if_pos (by omega)]
        · rw [if_neg e4, if_neg (by omega)]
set_option maxRecDepth 100000 in
set_option maxHeartbeats 4000000 in
theorem t_tog_189 {g : gT} {h0 : mh_T} {P : Int32 → mh_T → Prop} {r : Nat → Int32} {b : Nat → Nat} (hR : tx_R r) (hg : tx_g r b) (hlaw : 1 ≤ (r 49).toInt ∧ (r 49).toInt ≤ 60) (l1 l2 l3 l4 l5 l6 : Int32) (l7 : Int64) (sg : Int) (h7 : l7.toInt = sg) (hsg : sg = 1 ∨ sg = -1) (hw2 : tx_w (tx_w2 r l1 l2 l3 l4 sg)) (hp : ∀ (v : Int32) (h : mh_T), Ok [300, 11, 54, 55] h0 h → P v h) : ∀ (n : Nat) (l9 : Int32) (k : Nat) (h : mh_T), l9.toInt = (k : Int) → k ≤ tx_m r → tx_m r - k < n → Ok [300, 11, 54, 55] h0 h → TW r b h → (∀ j, j ≤ tx_n r → (mL h 54 (97 * (tx_m r + 1) + j)).toInt = tx_F r (tx_w2 r l1 l2 l3 l4 sg) b k j) → ME g uX11_together 189 [.ref 11, .int l1, .int l2, .int l3, .int l4, .int l5, .int l6, .long l7, .retAddr 0, .int l9, .retAddr 0, .retAddr 0, .retAddr 0] [] h (qI P) := by
  have m32 := tx_m32 hR
  have n96 := tx_n96 hR
  have y64 := tx_y64 hR
  intro n
  induction n with
  | zero => intro l9 k h _ _ hn; exact absurd hn (Nat.not_lt_zero _)
  | succ n ih =>
    intro l9 k h h9 hk hn ok T hF
    have t2 := T.2.1
    refine r_X11_together_189 l1 l2 l3 l4 l5 l6 l7 l9 ⟨fun q => ?_, fun q => ?_⟩
    · have q := i_le.mp q
      have : k = tx_m r := by omega
      subst this
      have TB0 : TB r (tx_w1 r) (tx_w2 r l1 l2 l3 l4 sg) b h := by
        obtain ⟨s1, s2, s3, s4, s5, s6⟩ := T
        refine ⟨s1, s2, s3, s4, s5, fun i j h1 h2 => ?_⟩
        by_cases e : i = tx_m r + 1
        · rw [e, hF j h2]
          unfold tx_T
          rw [if_neg (by omega), if_neg (by omega)]
          rfl
        · rw [s6 i j (by omega) h2]
          unfold tx_T
          by_cases e2 : i < tx_m r
          · rw [if_pos e2, if_pos e2]
          · rw [if_neg e2, if_neg e2, if_pos (by omega), if_pos (by omega)]
      refine t_goesUp ok TB0 hR hg (tx_ww1 r) hw2 _ 1 (Or.inr rfl) (by rw [i_add t2 (show (1 : Int32).toInt = 1 from by decide) (by omega)]; omega) (fun h2 b2 ok2 g2 T2 => ?_)
      have hm : ((mI h2 11 30) + 1).toInt = ((tx_m r + 1 : Nat) : Int) := by rw [i_add T2.2.1 (show (1 : Int32).toInt = 1 from by decide) (by omega)]; omega
      have hw : ((mI h2 11 31) - 1).toInt = ((tx_n r : Nat) : Int) := by
        rw [i_sub T2.2.2.1 (show (1 : Int32).toInt = 1 from by decide) (by omega)]
        omega
      refine e_X11_cell _ _ ⟨ce_p hm hw (by omega) (by omega), fun x6 _ => t_lowest _ _ l6 ok2.1 ?_ (fun v => hp v h2 ok2)⟩
      intro zz
      have e49 : mI h2 45 (Int32.toNatClampNeg 49) = r 49 := mI45 T2.1 49
      have z2 := zz.2
      rw [e49] at z2
      have d0 : 0 < tx_D r b2 := g2.1
      have d1 := tx_b1 hR g2
      have d2 := T2.2.2.2.2.1
      have d3 := ab_mul (A := 8388608) (B := 60) (y := (r 49).toInt) d1 (by omega)
      have d4 : ((mL h2 11 29) * (Int32.toInt64 (r 49))).toInt = tx_D r b2 * (r 49).toInt := by rw [l_mul (by rw [d2, Int32.toInt_toInt64]; omega), d2, Int32.toInt_toInt64]
      rw [z2, ti_0] at d4
      have := Int.mul_pos d0 (show 0 < (r 49).toInt by omega)
      omega
    · have q : k < tx_m r := by have := i_lt.mp (nle q); omega
      refine ⟨i_vp h9 (by omega), fun x10 e10 => ?_⟩
      rw [i_nat h9] at e10
      have hb : x10.toInt = (b k : Int) := by rw [e10]; exact T.2.2.2.1 k q
      have hbn := hg.2.2 k q
      have ex : x10 = nI (b k) := i_nI hb (by omega)
      have go : ∀ l11 l12 : Int32, l11 = 0 → tx_w2 r l1 l2 l3 l4 sg (b k) = 0 → ME g uX11_together 247 [.ref 11, .int l1, .int l2, .int l3, .int l4, .int l5, .int l6, .long l7, .retAddr 0, .int l9, .int x10, .int l11, .int l12] [] h (qI P) := by
        intro l11 l12 e11 ew
        have cont : ME g uX11_together 189 [.ref 11, .int l1, .int l2, .int l3, .int l4, .int l5, .int l6, .long l7, .retAddr 0, .int (l9 + 1), .retAddr 0, .retAddr 0, .retAddr 0] [] h (qI P) := by
          refine ih (l9 + 1) (k + 1) h (i_inc h9 (by omega)) (by omega) (by omega) ok T (fun j hj => ?_)
          rw [hF j hj]
          show _ = la_S k (fun i => tx_w2 r l1 l2 l3 l4 sg (b i) * tx_t r b i j) + tx_w2 r l1 l2 l3 l4 sg (b k) * tx_t r b k j - tx_w2 r l1 l2 l3 l4 sg j * tx_D r b
          rw [ew, Int.zero_mul]
          unfold tx_F
          omega
        exact r_X11_together_247 l1 l2 l3 l4 l5 l6 l7 l9 x10 l11 l12 ⟨fun _ => cont, fun _ => ⟨fun _ => cont, fun z => absurd e11 z⟩⟩
      refine t_hiddenMany T.1 hR (fun v hv => ⟨fun c => ?_, fun c => ⟨fun n1 => ?_, fun y1 => ⟨fun n2 => ?_, fun y2 => ?_⟩⟩⟩)
      · have c := i_le.mp c
        exact go 0 0 rfl (if_neg (fun z => by have := z.1; omega))
      · exact go 0 0 rfl (if_neg (fun z => n1 (by rw [ex]; exact z.2.1)))
      · exact go 0 0 rfl (if_neg (fun z => n2 (by rw [ex]; exact z.2.2)))
      · have c := i_lt.mp (nle c)
        refine t_tog_247 hR hg l1 l2 l3 l4 l5 l6 l7 sg h7 hsg hw2 l9 x10 k h9 q (if_pos ⟨by omega, by rw [← ex]; exact y1, by rw [← ex]; exact y2⟩) (fun h' ok' T' hF' => ih (l9 + 1) (k + 1) h' (i_inc h9 (by omega)) (by omega) (by omega) ok' T' hF') (tx_n r + 2) 0 0 h (by decide) (Nat.zero_le _) (by omega) ok T (fun j hj => by rw [if_neg (Nat.not_lt_zero _)]; exact hF j hj)
set_option maxRecDepth 100000 in
set_option maxHeartbeats 4000000 in
theorem t_tog_102 {g : gT} {h0 : mh_T} {P : Int32 → mh_T → Prop} {r : Nat → Int32} {b : Nat → Nat} (hR : tx_R r) (hg : tx_g r b) (hlaw : 1 ≤ (r 49).toInt ∧ (r 49).toInt ≤ 60) (l1 l2 l3 l4 l5 l6 : Int32) (l7 : Int64) (sg : Int) (h7 : l7.toInt = sg) (hsg : sg = 1 ∨ sg = -1) (hp : ∀ (v : Int32) (h : mh_T), Ok [300, 11, 54, 55] h0 h → P v h) : ∀ (n : Nat) (l9 : Int32) (k : Nat) (h : mh_T), l9.toInt = (k : Int) → k ≤ tx_n r + 1 → tx_n r + 1 - k < n → Ok [300, 11, 54, 55] h0 h → TW r b h → (∀ j, j < k → (mL h 54 (97 * (tx_m r + 1) + j)).toInt = - (tx_w2 r l1 l2 l3 l4 sg j * tx_D r b)) → ME g uX11_together 102 [.ref 11, .int l1, .int l2, .int l3, .int l4, .int l5, .int l6, .long l7, .retAddr 0, .int l9, .retAddr 0, .retAddr 0, .retAddr 0] [] h (qI P) := by
  have m32 := tx_m32 hR
  have n96 := tx_n96 hR
  have hw2 : tx_w (tx_w2 r l1 l2 l3 l4 sg) := by
    intro k
    unfold tx_w2
    split <;> omega
  intro n
  induction n with
  | zero => intro l9 k h _ _ hn; exact absurd hn (Nat.not_lt_zero _)
  | succ n ih =>
    intro l9 k h h9 hk hn ok T hF
    have t3 := T.2.2.1
    have e1 : ((mI h 11 30) + 1).toInt = ((tx_m r + 1 : Nat) : Int) := by rw [i_add T.2.1 (show (1 : Int32).toInt = 1 from by decide) (by omega)]; omega
    refine r_X11_together_102 l1 l2 l3 l4 l5 l6 l7 l9 ⟨fun q => ?_, fun q => ?_⟩
    · have q := i_le.mp q
      have : k = tx_n r + 1 := by omega
      subst this
      refine t_tog_189 hR hg hlaw l1 l2 l3 l4 l5 l6 l7 sg h7 hsg hw2 hp (tx_m r + 1) 0 0 h (by decide) (Nat.zero_le _) (by omega) ok T (fun j hj => ?_)
      rw [hF j (by omega)]
      unfold tx_F
      show _ = 0 - _
      omega
    · have q : k ≤ tx_n r := by have := i_lt.mp (nle q); omega
      have ek : l9 = nI k := i_nI h9 (by omega)
      have step : ∀ v : Int64, v.toInt = - (tx_w2 r l1 l2 l3 l4 sg k * tx_D r b) → ME g uX11_together 102 [.ref 11, .int l1, .int l2, .int l3, .int l4, .int l5, .int l6, .long l7, .retAddr 0, .int (l9 + 1), .retAddr 0, .retAddr 0, .retAddr 0] [] (wL h 54 (97 * (tx_m r + 1) + k) v) (qI P) := by
        intro v hv
        refine ih (l9 + 1) (k + 1) _ (i_inc h9 (by omega)) (by omega) (by omega) (Ok_wL ok (by decide)) (TW_w T q (by omega)) (fun j hj => ?_)
        rw [mL_wL]
        by_cases e : j = k
        · rw [if_pos ⟨rfl, by rw [e]⟩, e]
          exact hv
        · rw [if_neg (fun z => e (by have := z.2; omega))]
          exact hF j (by omega)
      have zer : tx_w2 r l1 l2 l3 l4 sg k = 0 → (0 : Int64).toInt = - (tx_w2 r l1 l2 l3 l4 sg k * tx_D r b) := fun z => by rw [z, Int.zero_mul]; decide
      refine t_hiddenMany T.1 hR (fun v hv => ⟨fun c => ?_, fun c => ⟨fun n1 => ?_, fun y1 => ⟨fun n2 => ?_, fun y2 => ?_⟩⟩⟩)
      · refine e_X11_cell _ _ ⟨ce_p e1 h9 (by omega) (by omega), ?_⟩
        rw [ce_n e1 h9 (by omega) (by omega)]
        have c := i_le.mp c
        exact step 0 (zer (if_neg (fun z => by have := z.1; omega)))
      · refine e_X11_cell _ _ ⟨ce_p e1 h9 (by omega) (by omega), ?_⟩
        rw [ce_n e1 h9 (by omega) (by omega)]
        exact step 0 (zer (if_neg (fun z => n1 (by rw [ek]; exact z.2.1))))
      · refine e_X11_cell _ _ ⟨ce_p e1 h9 (by omega) (by omega), ?_⟩
        rw [ce_n e1 h9 (by omega) (by omega)]
        exact step 0 (zer (if_neg (fun z => n2 (by rw [ek]; exact z.2.2))))
      · refine e_X11_cell _ _ ⟨ce_p e1 h9 (by omega) (by omega), ?_⟩
        rw [ce_n e1 h9 (by omega) (by omega)]
        have c := i_lt.mp (nle c)
        refine step _ ?_
        have hw : tx_w2 r l1 l2 l3 l4 sg k = - sg := if_pos ⟨by omega, by rw [← ek]; exact y1, by rw [← ek]; exact y2⟩
        have d1 := tx_b1 hR hg
        have d2 := T.2.2.2.2.1
        have d3 : -8388608 ≤ sg * tx_D r b ∧ sg * tx_D r b ≤ 8388608 := w1_b (by omega) d1
        rw [l_mul (by rw [h7, d2]; omega), h7, d2, hw, Int.neg_mul]
        omega
theorem t_isLook {g : gT} {h : mh_T} {P : Int32 → mh_T → Prop} (l1 : Int32) (hG : GI h) (hp : ∀ v : Int32, (¬ v = 0 → 0 ≤ l1.toInt ∧ l1.toInt < (h.1 45 50).toInt) → P v h) : MCi g yX11_isLook uX11_isLook [.ref 11, .int l1] h P := by
  have hr : R 0 6 (mI h 45 50) := GI_rd hG 45 50 rfl
  have e : ((mI h 45 (Int32.toNatClampNeg 50)) - 1).toInt = (h.1 45 50).toInt - 1 := by
    have h1 : 0 ≤ (h.1 45 50).toInt := hr.1
    have h2 : (h.1 45 50).toInt ≤ 6 := hr.2
    exact i_sub (x := mI h 45 50) rfl (show (1 : Int32).toInt = 1 from by decide) (by omega)
  refine e_X11_isLook l1 ⟨fun _ => hp 0 (fun z => absurd rfl z), fun _ => e_X11_within _ _ _ ⟨fun _ => ⟨fun _ => hp 0 (fun z => absurd rfl z), fun z => absurd rfl z⟩, fun c1 => ⟨fun _ => ⟨fun _ => hp 0 (fun z => absurd rfl z), fun z => absurd rfl z⟩, fun c2 => ⟨fun z => absurd z (by decide), fun _ => hp 1 (fun _ => ?_)⟩⟩⟩⟩
  have c1 : ¬ l1.toInt < (0 : Int32).toInt := fun z => c1 (i_lt.mpr z)
  have c2 : ¬ ((mI h 45 (Int32.toNatClampNeg 50)) - 1).toInt < l1.toInt := fun z => c2 (i_lt.mpr z)
  rw [i_0] at c1
  rw [e] at c2
  omega
theorem TB_TW {r : Nat → Int32} {b : Nat → Nat} {h : mh_T} (t : TB r (tx_w1 r) (fun _ => 0) b h) : TW r b h := by
  obtain ⟨t1, t2, t3, t4, t5, t6⟩ := t
  exact ⟨t1, t2, t3, t4, t5, fun i j h1 h2 => t6 i j (by omega) h2⟩
set_option maxRecDepth 100000 in
set_option maxHeartbeats 4000000 in
theorem u_X11_together {g : gT} {h : mh_T} {P : Int32 → mh_T → Prop} (l1 l2 l3 l4 l5 l6 : Int32) (hG : GI h) (hI : TVs h) (hp : ∀ (v : Int32) (h' : mh_T), Ok [300, 11, 54, 55] h h' → ¬ mI h' 11 11 = 4 → P v h') : MCi g yX11_together uX11_together [.ref 11, .int l1, .int l2, .int l3, .int l4, .int l5, .int l6] h P := by
  have hR := tx_RI hG hI
  refine e_X11_together l1 l2 l3 l4 l5 l6 (s_X11_good hG (fun h1 ok1 t4 => ?_))
  have ok1' : Ok [300, 11, 54, 55] h h1 := Ok_mono ok1 (by decide)
  have hp : ∀ (v : Int32) (h' : mh_T), Ok [300, 11, 54, 55] h1 h' → P v h' := fun v h' k => hp v h' (Ok_tr ok1' k (by decide)) (k.2.2.2.2.2.2 t4)
  have ok1' : Ok [300, 11, 54, 55] h1 h1 := Ok_rf ok1'.1
  have t1 := good45 ok1 (by decide)
  have no : ∀ (h2 : mh_T) (l : Int32), ¬ l = 4 → Ok [300, 11, 54, 55] h1 h2 → MCi g yX11_no uX11_no [.ref 11, .int l] h2 (fun v h' => P v h') := fun h2 l l4 ok2 => s_X11_no l ok2.1 (fun v h3 ok3 _ => hp v h3 (Ok_tr ok2 ok3 (by decide))) l4
  refine t_isLook l1 ok1.1 (fun v hv => ⟨fun _ => no h1 1 (by decide) ok1', fun nz => t_isLook l3 ok1.1 (fun v3 hv3 => ⟨fun _ => no h1 1 (by decide) ok1', fun nz3 => ⟨fun _ => no h1 1 (by decide) ok1', fun _ => s_X11_isBit l2 ok1.1 (fun v4 _ => ⟨fun _ => no h1 1 (by decide) ok1', fun _ => s_X11_isBit l4 ok1.1 (fun v5 _ => ⟨fun _ => ?_, fun _ => no h1 1 (by decide) ok1'⟩)⟩)⟩⟩)⟩)
  have hl := hv nz
  rw [t1] at hl
  have law := hI.2.2.2.2.2 (by omega)
  have law2 : R 0 60 (mI h 45 49) := GI_rd hG 45 49 rfl
  have law3 : (h.1 45 49).toInt ≤ 60 := law2.2
  refine t_isMixed ok1' t1 hR (fun z => ⟨fun _ => ⟨fun nq => absurd ?_ nq, fun _ => ⟨fun _ => hp 1 h1 ok1', fun _ => ⟨fun _ => hp 0 h1 ok1', fun _ => hp 1 h1 ok1'⟩⟩⟩, fun z2 => absurd z2 (by decide)⟩) (fun v6 h2 b ne ok2 g2 T2 hv6 => ⟨fun _ => ⟨fun _ => ⟨fun _ => ?_, fun _ => ?_⟩, fun eq => absurd ?_ ne⟩, fun _ => no h2 6 (by decide) ok2⟩)
  · have e0 : mI h1 45 (Int32.toNatClampNeg 0) = (h.1 45) 0 := mI45 t1 0
    rw [e0]
    exact z
  · exact t_tog_102 hR g2 ⟨law, law3⟩ l1 l2 l3 l4 l5 l6 1 1 (by decide) (Or.inl rfl) hp (tx_n (h.1 45) + 2) 0 0 h2 (by decide) (Nat.zero_le _) (by omega) ok2 (TB_TW T2) (fun j hj => absurd hj (Nat.not_lt_zero _))
  · exact t_tog_102 hR g2 ⟨law, law3⟩ l1 l2 l3 l4 l5 l6 (-1) (-1) (by decide) (Or.inr rfl) hp (tx_n (h.1 45) + 2) 0 0 h2 (by decide) (Nat.zero_le _) (by omega) ok2 (TB_TW T2) (fun j hj => absurd hj (Nat.not_lt_zero _))
  · have e0 : mI h2 45 (Int32.toNatClampNeg 0) = (h.1 45) 0 := mI45 T2.1 0
    rw [← e0]
    exact eq
set_option maxRecDepth 100000 in
set_option maxHeartbeats 4000000 in
theorem t_level_45 {g : gT} {h : mh_T} {P : Int32 → mh_T → Prop} (hG : GI h) (hp : ∀ v : Int32, P v h) : ∀ n : Nat, (∀ (l1 l2 l3 : Int32), R 0 8 l3 → 10 * gap 8 l3 + 9 < n → ME g uX11_level 32 [.ref 11, .int l1, .int l2, .int l3, .retAddr 0] [] h (qI P)) ∧ (∀ (l1 l2 l3 l4 : Int32), R 0 7 l3 → R 0 4 l4 → 10 * gap 8 l3 + gap 4 l4 < n → ME g uX11_level 45 [.ref 11, .int l1, .int l2, .int l3, .int l4] [] h (qI P)) := by
  intro n
  induction n with
  | zero => exact ⟨fun _ _ _ _ hn => absurd hn (Nat.not_lt_zero _), fun _ _ _ _ _ _ hn => absurd hn (Nat.not_lt_zero _)⟩
  | succ n ih =>
    have c1 : R 1 1 1 := ⟨by decide, by decide⟩
    have c4 : R 4 4 4 := ⟨by decide, by decide⟩
    have c17 : R 17 17 17 := ⟨by decide, by decide⟩
    have z0 : R 0 4 0 := ⟨by decide, by decide⟩
    have g0 := gap_le (N := 4) z0 (m := 4) (by decide)
    have fm : R 0 8 (mI h 45 (Int32.toNatClampNeg 0)) := GI_rd hG 45 0 rfl
    refine ⟨fun l1 l2 l3 f3 hn => ?_, fun l1 l2 l3 l4 f3 f4 hn => ?_⟩
    · refine r_X11_level_32 l1 l2 l3 ⟨fun _ => ⟨fun _ => ⟨fun _ => hp _, fun _ => hp _⟩, fun _ => hp _⟩, fun c => ?_⟩
      have g3 : R 0 7 l3 := rf_lt_l f3 fm (nle c) 7 (by decide)
      exact ih.2 l1 l2 l3 0 g3 z0 (by omega)
    · have gj := gap_inc (N := 8) f3 (by decide)
      refine r_X11_level_45 l1 l2 l3 l4 (s_X11_outcomes l3 hG f3 (fun v fv => ⟨fun _ => ih.1 l1 l2 (l3 + 1) (R_add f3 c1 0 8 (by decide)) (by omega), fun c => ?_⟩))
      have g4 : R 0 3 l4 := rf_lt_l f4 fv (nle c) 3 (by decide)
      have gi := gap_inc (N := 4) g4 (by decide)
      have fy : R 17 48 ((17 + (4 * l3)) + l4) := R_add (R_add c17 (R_mul c4 f3 0 28 (by decide)) 17 45 (by decide)) g4 17 48 (by decide)
      have nx : ∀ a b : Int32, ME g uX11_level 45 [.ref 11, .int a, .int b, .int l3, .int (l4 + 1)] [] h (qI P) := fun a b => ih.2 a b l3 (l4 + 1) f3 (R_add g4 c1 0 4 (by decide)) (by omega)
      exact ⟨vin fy (by decide), fun _ => s_X11_doesExtend l3 l4 hG f3 (fun v _ => ⟨fun _ => nx _ _, fun _ => nx _ _⟩), fun _ => nx _ _⟩
set_option maxRecDepth 100000 in
set_option maxHeartbeats 4000000 in
theorem u_X11_level {g : gT} {h : mh_T} {P : Int32 → mh_T → Prop} (hG : GI h) (hI : TVs h) (hp : ∀ (v : Int32) (h' : mh_T), Ok [300, 11, 54, 55] h h' → ¬ mI h' 11 11 = 4 → P v h') : MCi g yX11_level uX11_level [.ref 11] h P := by
  refine e_X11_level (s_X11_good hG (fun h1 ok1 t4 => ?_))
  have ok1' : Ok [300, 11, 54, 55] h h1 := Ok_mono ok1 (by decide)
  have hp : ∀ (v : Int32) (h' : mh_T), Ok [300, 11, 54, 55] h1 h' → P v h' := fun v h' k => hp v h' (Ok_tr ok1' k (by decide)) (k.2.2.2.2.2.2 t4)
  have ok1' : Ok [300, 11, 54, 55] h1 h1 := Ok_rf ok1'.1
  have t1 := good45 ok1 (by decide)
  have hR := tx_RI hG hI
  have z0 : R 0 8 0 := ⟨by decide, by decide⟩
  have g0 := gap_le (N := 8) z0 (m := 8) (by decide)
  refine ⟨fun _ => t_isMixed ok1' t1 hR (fun _ => ⟨fun z => absurd z (by decide), fun _ => hp 0 h1 ok1'⟩) (fun v h2 b ne ok2 g2 T2 hv => ⟨fun _ => (t_level_45 ok2.1 (fun v => hp v h2 ok2) 100).1 0 0 0 z0 (by omega), fun _ => hp 0 h2 ok2⟩), fun _ => s_X11_no 1 ok1.1 (fun v h2 ok2 _ => hp v h2 (Ok_tr ok1' ok2 (by decide)))⟩
/-! what the acts of the reference leave of THE TABLE -/
def tq (f : Nat → Int32) (off s : Nat) : Prop := 0 ≤ (f (off + 17 + 4 * s)).toInt ∧ 0 ≤ (f (off + 17 + 4 * s + 1)).toInt ∧ 0 ≤ (f (off + 17 + 4 * s + 2)).toInt ∧ 0 ≤ (f (off + 17 + 4 * s + 3)).toInt ∧ (f (off + 17 + 4 * s)).toInt + (f (off + 17 + 4 * s + 1)).toInt + (f (off + 17 + 4 * s + 2)).toInt + (f (off + 17 + 4 * s + 3)).toInt ≤ 240
theorem TQ_cp {f g : Nat → Int32} {a c : Nat} (t : TQ f a) (h : ∀ j, j < 49 → g (c + j) = f (a + j)) : TQ g c := by
  intro s hs
  have e : ∀ o, o < 4 → g (c + 17 + 4 * s + o) = f (a + 17 + 4 * s + o) := fun o ho => by
    have := h (17 + 4 * s + o) (by omega)
    rw [show c + 17 + 4 * s + o = c + (17 + 4 * s + o) by omega, show a + 17 + 4 * s + o = a + (17 + 4 * s + o) by omega]
    exact this
  have e0 := e 0 (by omega)
  rw [Nat.add_zero, Nat.add_zero] at e0
  rw [e0, e 1 (by omega), e 2 (by omega), e 3 (by omega)]
  exact t s hs
/-- copy, as it is -/
def CPd (l0 a l2 c : Nat) (n : Nat) (h h' : mh_T) : Prop := (∀ j, j < n → h'.1 l2 (c + j) = h.1 l0 (a + j)) ∧ ∀ j, (j < c ∨ c + n ≤ j) → h'.1 l2 j = h.1 l2 j
set_option maxRecDepth 100000 in
set_option maxHeartbeats 4000000 in
theorem t_copy {g : gT} {h : mh_T} {P : mh_T → Prop} (l0 nl0 : Nat) (l1 : Int32) (l2 nl2 : Nat) (l3 : Int32) (sl0 : shp l0 = (20, nl0, [])) (sl2 : shp l2 = (20, nl2, [])) (hne : l0 ≠ l2) (h62 : l0 < 62) (p q : Nat) (e1 : l1.toInt = 49 * p) (e3 : l3.toInt = 49 * q) (b0 : 49 * p + 49 ≤ nl0) (b2 : 49 * q + 49 ≤ nl2) (bp : p ≤ 20) (bq : q ≤ 20) (hr0 : ∀ j, j < 49 → rgT l0 (49 * p + j) = rgRowM j) (hr2 : ∀ j, j < 49 → rgT l2 (49 * q + j) = rgRowM j) (hk : l2 ≠ 0 ∧ l2 ≠ 11 ∧ l2 ≠ 3 ∧ l2 ≠ 8) (hG : GI h) (hp : ∀ h', Ok [l2] h h' → CPd l0 (49 * p) l2 (49 * q) 49 h h' → P h') (hq45 : l2 = 45 → q = 0 := by first | exact fun _ => rfl | exact fun z => absurd z (by decide)) : MCv g yX11_copy uX11_copy [.ref l0, .int l1, .ref l2, .int l3, .int 49] h P := by
  have e4 : (49 : Int32).toInt = 49 := by decide
  have hm : l2 ∈ [l2] := List.mem_cons_self
  have L : ∀ (n : Nat) (l5 : Int32) (k : Nat) (h' : mh_T), l5.toInt = (k : Int) → k ≤ 49 → 49 - k < n → Ok [l2] h h' → CPd l0 (49 * p) l2 (49 * q) k h h' → ME g uX11_copy 3 [.ref l0, .int l1, .ref l2, .int l3, .int 49, .int l5] [] h' (qV P) := by
    intro n
    induction n with
    | zero => intro l5 k h' _ _ hn; exact absurd hn (Nat.not_lt_zero _)
    | succ n ih =>
      intro l5 k h' hk5 hk49 hn ok cp
      refine r_X11_copy_3 l0 nl0 l1 l2 nl2 l3 49 l5 sl0 sl2 ⟨fun c => ?_, fun c => ?_⟩
      · have c := i_le.mp c
        have : k = 49 := by omega
        subst this
        exact hp h' ok cp
      · have c := i_lt.mp (nle c)
        have s1 : (l1 + l5).toInt = ((49 * p + k : Nat) : Int) := by rw [i_add e1 hk5 (by omega)]; omega
        have s3 : (l3 + l5).toInt = ((49 * q + k : Nat) : Int) := by rw [i_add e3 hk5 (by omega)]; omega
        refine ⟨i_vp s1 (by omega), i_vp s3 (by omega), ?_⟩
        rw [i_nat s1, i_nat s3]
        have fv : R (rgRowM k).1 (rgRowM k).2 (mI h' l0 (49 * p + k)) := by
          have := ok.1.1 l0 (49 * p + k)
          rw [hr0 _ (by omega)] at this
          exact this
        have e0 : h'.1 l0 = h.1 l0 := (ok.2.1 l0 h62 (fun z => hne (List.mem_singleton.mp z))).1
        refine ih (l5 + 1) (k + 1) _ (i_inc hk5 (by omega)) (by omega) (by omega) (Ok_w ok (k := l2) (j := 49 * q + k) (v := mI h' l0 (49 * p + k)) (lo := (rgRowM k).1) (hi := (rgRowM k).2) (hr2 _ (by omega)) fv (Or.inl hm) (nt_c hk (fun z => by have := hq45 z; omega))) ⟨fun j hj => ?_, fun j hj => ?_⟩
        · show mI (wI h' l2 (49 * q + k) (mI h' l0 (49 * p + k))) l2 (49 * q + j) = _
          rw [mI_wI]
          by_cases e : j = k
          · rw [if_pos ⟨rfl, by rw [e]⟩, e]
            show h'.1 l0 _ = _
            rw [e0]
          · rw [if_neg (fun z => e (by have := z.2; omega))]
            exact cp.1 j (by omega)
        · show mI (wI h' l2 (49 * q + k) (mI h' l0 (49 * p + k))) l2 j = _
          rw [mI_wI, if_neg (fun z => by have := z.2; omega)]
          exact cp.2 j (by omega)
  exact e_X11_copy l0 nl0 l1 l2 nl2 l3 49 sl0 sl2 (L 50 0 0 h (by decide) (Nat.zero_le _) (by omega) (Ok_rf hG) ⟨fun j hj => absurd hj (Nat.not_lt_zero _), fun j _ => rfl⟩)
theorem OkC {ms : List Nat} {h h' : mh_T} (a : Ok ms h h') {k : Nat} (hk : k < 62 ∧ k ∉ ms) : h'.1 k = h.1 k := (a.2.1 k hk.1 hk.2).1
theorem TVs_45 {h h' : mh_T} (t : TVs h) (a : TQ (h'.1 45) 0) (e48 : h'.1 48 = h.1 48) (e49 : h'.1 49 = h.1 49) (e50 : h'.1 50 = h.1 50) (e51 : h'.1 51 = h.1 51) (l49 : h'.1 45 49 = h.1 45 49) (l50 : h'.1 45 50 = h.1 45 50) : TVs h' := by
  refine ⟨a, ?_, ?_, ?_, ?_, ?_⟩
  · rw [e48]; exact t.2.1
  · rw [e49]; exact t.2.2.1
  · rw [e50]; exact t.2.2.2.1
  · rw [e51]; exact t.2.2.2.2.1
  · rw [l49, l50]; exact t.2.2.2.2.2
/-- THE TABLE is kept -/
theorem t_was {g : gT} {h : mh_T} {P : mh_T → Prop} (hG : GI h) (t : TVs h) (hp : ∀ h', Ok [48] h h' → TVs h' → P h') : MCv g yX11_copy uX11_copy [.ref 45, .int 0, .ref 48, .int 0, .int 49] h P := by
  refine t_copy 45 346 0 48 49 0 rfl rfl (by decide) (by decide) 0 0 (by decide) (by decide) (by decide) (by decide) (by decide) (by decide) rr45 rr48 (by decide) hG (fun h' ok cp => hp h' ok ?_)
  have e45 := OkC ok (k := 45) (by decide)
  refine ⟨?_, TQ_cp t.1 cp.1, ?_, ?_, ?_, ?_⟩
  · rw [e45]; exact t.1
  · rw [OkC ok (k := 49) (by decide)]; exact t.2.2.1
  · rw [OkC ok (k := 50) (by decide)]; exact t.2.2.2.1
  · rw [OkC ok (k := 51) (by decide)]; exact t.2.2.2.2.1
  · rw [e45]; exact t.2.2.2.2.2
/-- a kept table is THE TABLE again -/
theorem TVs_back {h h' : mh_T} {l0 a : Nat} (t : TVs h) (ok : Ok [45] h h') (s : TQ (h.1 l0) a) (cp : CPd l0 a 45 (49 * 0) 49 h h') : TVs h' := by
  refine TVs_45 t (TQ_cp s cp.1) (OkC ok (by decide)) (OkC ok (by decide)) (OkC ok (by decide)) (OkC ok (by decide)) (cp.2 49 (by omega)) (cp.2 50 (by omega))
/-- keep -/
def TQs (f : Nat → Int32) : Prop := ∀ p, p < 20 → TQ f (49 * p)
set_option maxRecDepth 100000 in
set_option maxHeartbeats 4000000 in
theorem t_keep {g : gT} {h0 : mh_T} {P : mh_T → Prop} (l0 l1 : Nat) (l2 l4 l5 l6 l7 l8 : Int32) (sl0 : shp l0 = (20, 980, [])) (sl1 : shp l1 = (20, 100, [])) (k0 : l0 ≠ 0 ∧ l0 ≠ 11 ∧ l0 ≠ 45 ∧ l0 ≠ 3 ∧ l0 ≠ 8) (k1 : l1 ≠ 0 ∧ l1 ≠ 11 ∧ l1 ≠ 45 ∧ l1 ≠ 3 ∧ l1 ≠ 8) (k01 : l0 ≠ l1 ∧ l0 ≠ 48 ∧ l1 ≠ 48 ∧ l0 < 62 ∧ l1 < 62) (r0 : ∀ j, rgT l0 j = rgRowM (j % 49)) (r1 : ∀ j, rgT l1 j = (-2147483648, 2147483647)) (hG0 : GI h0) (f2 : R 0 20 l2) (t48 : TQ (h0.1 48) 0) (t0 : TQs (h0.1 l0)) (hp : ∀ h', Ok [l0, l1] h0 h' → TQs (h'.1 l0) → P h') : MCv g yX11_keep uX11_keep [.ref l0, .ref l1, .int l2, .ref 48, .int l4, .int l5, .int l6, .int l7, .int l8] h0 P := by
  have c1 : R 1 1 1 := ⟨by decide, by decide⟩
  have c2 : R 2 2 2 := ⟨by decide, by decide⟩
  have c3 : R 3 3 3 := ⟨by decide, by decide⟩
  have c4 : R 4 4 4 := ⟨by decide, by decide⟩
  have c5 : R 5 5 5 := ⟨by decide, by decide⟩
  have c49 : R 49 49 49 := ⟨by decide, by decide⟩
  have m0 : l0 ∈ [l0, l1] := List.mem_cons_self
  have m1 : l1 ∈ [l0, l1] := List.mem_cons_of_mem _ List.mem_cons_self
  have n48 : 48 ∉ [l0, l1] := fun z => by
    rcases List.mem_cons.mp z with y | y
    · exact k01.2.1 y.symm
    · exact k01.2.2.1 (List.mem_singleton.mp y).symm
  have fin : ∀ (x : Int32) (h : mh_T), R 0 19 x → Ok [l0, l1] h0 h → (∀ p : Nat, p < 20 → (p : Int) ≠ x.toInt → TQ (h.1 l0) (49 * p)) → MCv g yX11_copy uX11_copy [.ref 48, .int 0, .ref l0, .int (49 * x), .int 49] h (fun h2 => (vp_in (5 * x) 100) ∧ ((vp_in ((5 * x) + 1) 100) ∧ ((vp_in ((5 * x) + 2) 100) ∧ ((vp_in ((5 * x) + 3) 100) ∧ ((vp_in ((5 * x) + 4) 100) ∧ (P (wI (wI (wI (wI (wI h2 l1 (5 * x).toNatClampNeg l4) l1 ((5 * x) + 1).toNatClampNeg l5) l1 ((5 * x) + 2).toNatClampNeg l6) l1 ((5 * x) + 3).toNatClampNeg l7) l1 ((5 * x) + 4).toNatClampNeg l8))))))) := by
    intro x h fx ok tt
    have fx1 := fx.1
    have fx2 := fx.2
    obtain ⟨q, hq⟩ : ∃ q : Nat, x.toInt = (q : Int) := ⟨x.toInt.toNat, by omega⟩
    have eq : (49 * x).toInt = 49 * q := by rw [Int32.toInt_mul, show (49 : Int32).toInt = 49 from by decide, bm (by omega) (by omega), hq]
    have f5 : R 0 95 (5 * x) := R_mul c5 fx 0 95 (by decide)
    have e48 : h.1 48 = h0.1 48 := OkC ok ⟨by decide, n48⟩
    refine t_copy 48 49 0 l0 980 (49 * x) rfl sl0 (fun z => k01.2.1 z.symm) (by decide) 0 q (by decide) eq (by decide) (by omega) (by decide) (by omega) rr48 (fun j hj => ?_) ⟨k0.1, k0.2.1, k0.2.2.2.1, k0.2.2.2.2⟩ ok.1 (fun h2 k2 cp => ?_) (fun z => absurd z k0.2.2.1)
    · rw [r0, show (49 * q + j) % 49 = j by omega]
    · have o2 : Ok [l0, l1] h0 h2 := Ok_tr ok k2 (fun y z => by rw [List.mem_singleton.mp z]; exact m0)
      have w : ∀ {h : mh_T} (j : Nat) (v : Int32), Ok [l0, l1] h0 h → Ok [l0, l1] h0 (wI h l1 j v) := fun j v o => Ok_w o (k := l1) (j := j) (v := v) (r1 j) (R_full _) (Or.inl m1) (nt_k k1)
      have e1 : ∀ (h : mh_T) (j : Nat) (v : Int32), (wI h l1 j v).1 l0 = h.1 l0 := fun h j v => by
        funext b
        show mI (wI h l1 j v) l0 b = _
        rw [mI_wI, if_neg (fun z => k01.1 z.1)]
        rfl
      have tz : TQs (h2.1 l0) := by
        intro p hp20
        by_cases e : p = q
        · rw [e]
          exact TQ_cp t48 (fun j hj => by rw [cp.1 j hj, e48])
        · refine TQ_cp (tt p hp20 (by omega)) (fun j hj => cp.2 _ (by omega))
      exact ⟨vin f5 (by decide), vin (R_add f5 c1 0 96 (by decide)) (by decide), vin (R_add f5 c2 0 97 (by decide)) (by decide), vin (R_add f5 c3 0 98 (by decide)) (by decide), vin (R_add f5 c4 0 99 (by decide)) (by decide), hp _ (w _ _ (w _ _ (w _ _ (w _ _ (w _ _ o2))))) (by rw [e1, e1, e1, e1, e1]; exact tz)⟩
  have z20 : (20 : Int32).toInt = 20 := by decide
  have z95 : (95 : Int32).toInt = 95 := by decide
  have z931 : (931 : Int32).toInt = 931 := by decide
  have L40 : ∀ (n : Nat) (l10 : Int32) (h : mh_T), Ok [l0, l1] h0 h → (∀ p, p < 20 → p ≠ 19 → TQ (h.1 l0) (49 * p)) → R 0 95 l10 → gap 95 l10 < n → ME g uX11_keep 40 [.ref l0, .ref l1, .int l2, .ref 48, .int l4, .int l5, .int l6, .int l7, .int l8, .int 20, .int l10] [] h (qV P) := by
    intro n
    induction n with
    | zero => intro l10 h _ _ _ hn; exact absurd hn (Nat.not_lt_zero _)
    | succ n ih =>
      intro l10 h ok tt f10 hn
      refine r_X11_keep_40 l0 980 l1 100 l2 48 49 l4 l5 l6 l7 l8 20 l10 sl0 sl1 rfl ⟨fun _ => fin (20 + (-1)) h ⟨by decide, by decide⟩ ok (fun p h1 h2 => tt p h1 (fun z => h2 (by rw [z]; decide))), fun c => ?_⟩
      have c := lt_ti (nle c)
      have g10 : R 0 94 l10 := ⟨f10.1, by omega⟩
      have gi := gap_inc (N := 95) g10 (by decide)
      refine ⟨vin (R_add g10 c5 5 99 (by decide)) (by decide), vin g10 (by decide), ih (l10 + 1) _ (Ok_w ok (k := l1) (j := l10.toNatClampNeg) (v := mI h l1 (l10 + 5).toNatClampNeg) (r1 _) (R_full _) (Or.inl m1) (nt_k k1)) (fun p h1 h2 => TQ_cp (tt p h1 h2) (fun j _ => ?_)) (R_add g10 c1 0 95 (by decide)) (by omega)⟩
      show mI (wI h l1 l10.toNatClampNeg (mI h l1 (l10 + 5).toNatClampNeg)) l0 _ = _
      rw [mI_wI, if_neg (fun z => k01.1 z.1)]
      rfl
  have L12 : ∀ (n : Nat) (l10 : Int32) (k : Nat) (h : mh_T), Ok [l0, l1] h0 h → l10.toInt = (k : Int) → k ≤ 931 → (∀ j, h.1 l0 j = if j < k then h0.1 l0 (j + 49) else h0.1 l0 j) → 931 - k < n → ME g uX11_keep 12 [.ref l0, .ref l1, .int l2, .ref 48, .int l4, .int l5, .int l6, .int l7, .int l8, .int 20, .int l10] [] h (qV P) := by
    intro n
    induction n with
    | zero => intro l10 k h _ _ _ _ hn; exact absurd hn (Nat.not_lt_zero _)
    | succ n ih =>
      intro l10 k h ok hk hk2 hf hn
      refine r_X11_keep_12 l0 980 l1 100 l2 48 49 l4 l5 l6 l7 l8 20 l10 sl0 sl1 rfl ⟨fun c => ?_, fun c => ?_⟩
      · have c := le_ti c
        have : k = 931 := by omega
        subst this
        refine L40 96 0 h ok (fun p h1 h2 => TQ_cp (t0 (p + 1) (by omega)) (fun j hj => ?_)) ⟨by decide, by decide⟩ (by decide)
        rw [hf, if_pos (by omega), show 49 * p + j + 49 = 49 * (p + 1) + j by omega]
      · have c := lt_ti (nle c)
        have s1 : (l10 + 49).toInt = ((k + 49 : Nat) : Int) := by rw [i_add hk (show (49 : Int32).toInt = 49 from by decide) (by omega)]; omega
        have fv : R (rgRowM (k % 49)).1 (rgRowM (k % 49)).2 (mI h l0 (k + 49)) := by
          have := ok.1.1 l0 (k + 49)
          rw [r0, show (k + 49) % 49 = k % 49 by omega] at this
          exact this
        refine ⟨i_vp s1 (by omega), i_vp hk (by omega), ?_⟩
        rw [i_nat s1, i_nat hk]
        refine ih (l10 + 1) (k + 1) _ (Ok_w ok (k := l0) (j := k) (v := mI h l0 (k + 49)) (r0 _) fv (Or.inl m0) (nt_k k0)) (i_inc hk (by omega)) (by omega) (fun j => ?_) (by omega)
        show mI (wI h l0 k (mI h l0 (k + 49))) l0 j = _
        rw [mI_wI]
        by_cases e : j = k
        · rw [if_pos ⟨rfl, e⟩, if_pos (by omega), e]
          show h.1 l0 (k + 49) = _
          rw [hf, if_neg (by omega)]
        · rw [if_neg (fun z => e z.2)]
          show h.1 l0 j = _
          rw [hf]
          by_cases e2 : j < k
          · rw [if_pos e2, if_pos (by omega)]
          · rw [if_neg e2, if_neg (by omega)]
  refine e_X11_keep l0 980 l1 100 l2 48 49 l4 l5 l6 l7 l8 sl0 sl1 rfl ⟨fun c => ?_, fun c => ?_⟩
  · have n2 : l2.toInt ≠ 20 := fun z => c (Int32.toInt_inj.mp (by rw [z, z20]))
    exact fin l2 h0 ⟨f2.1, by have := f2.2; omega⟩ (Ok_rf hG0) (fun p h1 _ => t0 p h1)
  · subst c
    exact L12 932 0 0 h0 (Ok_rf hG0) (by decide) (Nat.zero_le _) (fun j => by rw [if_neg (Nat.not_lt_zero _)]) (by omega)
theorem t_keep49 {g : gT} {h : mh_T} {P : mh_T → Prop} (l2 l4 l5 l6 l7 l8 : Int32) (hG : GI h) (f2 : R 0 20 l2) (t : TVs h) (hp : ∀ h', Ok [49, 52] h h' → TVs h' → P h') : MCv g yX11_keep uX11_keep [.ref 49, .ref 52, .int l2, .ref 48, .int l4, .int l5, .int l6, .int l7, .int l8] h P :=
  t_keep 49 52 l2 l4 l5 l6 l7 l8 rfl rfl (by decide) (by decide) (by decide) (fun _ => rfl) (fun _ => rfl) hG f2 t.2.1 t.2.2.1 (fun h' ok tz => hp h' ok (by
    have e45 := OkC ok (k := 45) (by decide)
    refine ⟨?_, ?_, tz, ?_, ?_, ?_⟩
    · rw [e45]; exact t.1
    · rw [OkC ok (k := 48) (by decide)]; exact t.2.1
    · rw [OkC ok (k := 50) (by decide)]; exact t.2.2.2.1
    · rw [OkC ok (k := 51) (by decide)]; exact t.2.2.2.2.1
    · rw [e45]; exact t.2.2.2.2.2))
theorem t_keep50 {g : gT} {h : mh_T} {P : mh_T → Prop} (l2 l4 l5 l6 l7 l8 : Int32) (hG : GI h) (f2 : R 0 20 l2) (t : TVs h) (hp : ∀ h', Ok [50, 53] h h' → TVs h' → P h') : MCv g yX11_keep uX11_keep [.ref 50, .ref 53, .int l2, .ref 48, .int l4, .int l5, .int l6, .int l7, .int l8] h P :=
  t_keep 50 53 l2 l4 l5 l6 l7 l8 rfl rfl (by decide) (by decide) (by decide) (fun _ => rfl) (fun _ => rfl) hG f2 t.2.1 t.2.2.2.1 (fun h' ok tz => hp h' ok (by
    have e45 := OkC ok (k := 45) (by decide)
    refine ⟨?_, ?_, ?_, tz, ?_, ?_⟩
    · rw [e45]; exact t.1
    · rw [OkC ok (k := 48) (by decide)]; exact t.2.1
    · rw [OkC ok (k := 49) (by decide)]; exact t.2.2.1
    · rw [OkC ok (k := 51) (by decide)]; exact t.2.2.2.2.1
    · rw [e45]; exact t.2.2.2.2.2))
abbrev msA : List Nat := [300, 11, 45, 47, 48, 49, 50, 51, 52, 53]
theorem TVs_11 {h : mh_T} {j : Nat} {v : Int32} (t : TVs h) : TVs (wI h 11 j v) := by
  have e : ∀ k, k ≠ 11 → (wI h 11 j v).1 k = h.1 k := fun k hk => by
    funext b
    show mI (wI h 11 j v) k b = _
    rw [mI_wI, if_neg (fun z => hk z.1)]
    rfl
  unfold TVs
  rw [e 45 (by decide), e 48 (by decide), e 49 (by decide), e 50 (by decide), e 51 (by decide)]
  exact t
theorem u_X11_did {g : gT} {h0 h : mh_T} {P : Int32 → mh_T → Prop} (l1 l2 l3 l4 l5 : Int32) (ok : Ok msA h0 h) (t : TVs h) (hp : ∀ h', Ok msA h0 h' → TVs h' → P 1 h') : MCi g yX11_did uX11_did [.ref 11, .int l1, .int l2, .int l3, .int l4, .int l5] h P := by
  have f24 : R 0 20 (mI h 11 24) := GI_rd ok.1 11 24 rfl
  refine e_X11_did l1 l2 l3 l4 l5 (t_keep49 _ l1 l2 l3 l4 l5 ok.1 f24 t (fun h1 k1 t1 => ?_))
  have o1 := Ok_tr ok k1 (by decide)
  have f1 : R 0 20 (mI h1 11 24) := GI_rd o1.1 11 24 rfl
  have c1 : R 1 1 1 := ⟨by decide, by decide⟩
  refine ⟨fun ne => hp _ (Ok_w (Ok_w o1 (k := 11) (j := 24) (v := (mI h1 11 24) + 1) (lo := 0) (hi := 20) rfl ?_ (by decide) (by decide)) (k := 11) (j := 25) (v := 0) (lo := 0) (hi := 20) rfl ⟨by decide, by decide⟩ (by decide) (by decide)) (TVs_11 (TVs_11 t1)), fun _ => hp _ (Ok_w (Ok_w o1 (k := 11) (j := 24) (v := 20) (lo := 0) (hi := 20) rfl ⟨by decide, by decide⟩ (by decide) (by decide)) (k := 11) (j := 25) (v := 0) (lo := 0) (hi := 20) rfl ⟨by decide, by decide⟩ (by decide) (by decide)) (TVs_11 (TVs_11 t1))⟩
  have g1 : R 0 19 (mI h1 11 24) := rf_ne_hi f1 ne (by decide) 19 (by decide)
  exact R_add g1 c1 0 20 (by decide)
/-! flip, drop, forget, shift, undo, redo, mark, back of the reference -/
theorem TQ_i {f : Nat → Int32} (h : ∀ s, s < 8 → tq f 0 s) : TQ f 0 := h
theorem tq_x {f g : Nat → Int32} {s : Nat} (t : tq f 0 s) (h : ∀ o, o < 4 → g (17 + 4 * s + o) = f (17 + 4 * s + o)) : tq g 0 s := by
  unfold tq at *
  have e0 := h 0 (by omega)
  have e1 := h 1 (by omega)
  have e2 := h 2 (by omega)
  have e3 := h 3 (by omega)
  rw [Nat.add_zero] at e0
  rw [Nat.zero_add] at *
  rw [e0, e1, e2, e3]
  exact t
/-- a set's four numbers, by what they come to -/
theorem tq_v {g : Nat → Int32} {s : Nat} {a b c d : Int} (h0 : (g (17 + 4 * s)).toInt = a) (h1 : (g (17 + 4 * s + 1)).toInt = b) (h2 : (g (17 + 4 * s + 2)).toInt = c) (h3 : (g (17 + 4 * s + 3)).toInt = d) (h : 0 ≤ a ∧ 0 ≤ b ∧ 0 ≤ c ∧ 0 ≤ d ∧ a + b + c + d ≤ 240) : tq g 0 s := by
  unfold tq
  rw [Nat.zero_add, h0, h1, h2, h3]
  exact h
theorem tq_g {f : Nat → Int32} {s : Nat} (t : tq f 0 s) : 0 ≤ (f (17 + 4 * s)).toInt ∧ 0 ≤ (f (17 + 4 * s + 1)).toInt ∧ 0 ≤ (f (17 + 4 * s + 2)).toInt ∧ 0 ≤ (f (17 + 4 * s + 3)).toInt ∧ (f (17 + 4 * s)).toInt + (f (17 + 4 * s + 1)).toInt + (f (17 + 4 * s + 2)).toInt + (f (17 + 4 * s + 3)).toInt ≤ 240 := by
  unfold tq at t
  rw [Nat.zero_add] at t
  exact t
/-- two numbers of a set change places, or n goes from one to the other -/
theorem tq_2 {f g : Nat → Int32} {s o p : Nat} (t : tq f 0 s) (ho : o < 4) (hp : p < 4) (hop : o ≠ p) (ge : ∀ i, i < 4 → i ≠ o → i ≠ p → g (17 + 4 * s + i) = f (17 + 4 * s + i)) (g0 : 0 ≤ (g (17 + 4 * s + o)).toInt) (g1 : 0 ≤ (g (17 + 4 * s + p)).toInt) (gs : (g (17 + 4 * s + o)).toInt + (g (17 + 4 * s + p)).toInt = (f (17 + 4 * s + o)).toInt + (f (17 + 4 * s + p)).toInt) : tq g 0 s := by
  have t := tq_g t
  have e0 := ge 0 (by omega)
  have e1 := ge 1 (by omega)
  have e2 := ge 2 (by omega)
  have e3 := ge 3 (by omega)
  rw [Nat.add_zero] at e0
  refine tq_v rfl rfl rfl rfl ?_
  have ho' : o = 0 ∨ o = 1 ∨ o = 2 ∨ o = 3 := by omega
  have hp' : p = 0 ∨ p = 1 ∨ p = 2 ∨ p = 3 := by omega
  rcases ho' with z | z | z | z <;> rcases hp' with y | y | y | y <;> subst z <;> subst y
  · exact absurd rfl hop
  · simp only [Nat.add_zero] at g0 g1 gs; rw [e2 (by omega) (by omega), e3 (by omega) (by omega)]; omega
  · simp only [Nat.add_zero] at g0 g1 gs; rw [e1 (by omega) (by omega), e3 (by omega) (by omega)]; omega
  · simp only [Nat.add_zero] at g0 g1 gs; rw [e1 (by omega) (by omega), e2 (by omega) (by omega)]; omega
  · simp only [Nat.add_zero] at g0 g1 gs; rw [e2 (by omega) (by omega), e3 (by omega) (by omega)]; omega
  · exact absurd rfl hop
  · rw [e0 (by omega) (by omega), e3 (by omega) (by omega)]; omega
  · rw [e0 (by omega) (by omega), e2 (by omega) (by omega)]; omega
  · simp only [Nat.add_zero] at g0 g1 gs; rw [e1 (by omega) (by omega), e3 (by omega) (by omega)]; omega
  · rw [e0 (by omega) (by omega), e3 (by omega) (by omega)]; omega
  · exact absurd rfl hop
  · rw [e0 (by omega) (by omega), e1 (by omega) (by omega)]; omega
  · simp only [Nat.add_zero] at g0 g1 gs; rw [e1 (by omega) (by omega), e2 (by omega) (by omega)]; omega
  · rw [e0 (by omega) (by omega), e2 (by omega) (by omega)]; omega
  · rw [e0 (by omega) (by omega), e1 (by omega) (by omega)]; omega
  · exact absurd rfl hop
theorem wI_o {h : mh_T} {k j q : Nat} {v : Int32} (hk : q ≠ k) : (wI h k j v).1 q = h.1 q := by
  funext b
  show mI (wI h k j v) q b = _
  rw [mI_wI, if_neg (fun z => hk z.1)]
  rfl
theorem wI_i {h : mh_T} {k j : Nat} {v : Int32} (b : Nat) : (wI h k j v).1 k b = if b = j then v else h.1 k b := by
  show mI (wI h k j v) k b = _
  rw [mI_wI]
  by_cases e : b = j
  · rw [if_pos ⟨rfl, e⟩, if_pos e]
  · rw [if_neg (fun z => e z.2), if_neg e]
    rfl
/-- what of cell 45 and of the kept tables stays while a set's numbers change -/
def Z45 (h h' : mh_T) : Prop := h'.1 48 = h.1 48 ∧ h'.1 49 = h.1 49 ∧ h'.1 50 = h.1 50 ∧ h'.1 51 = h.1 51 ∧ h'.1 45 49 = h.1 45 49 ∧ h'.1 45 50 = h.1 45 50
theorem Z45_rf (h : mh_T) : Z45 h h := ⟨rfl, rfl, rfl, rfl, rfl, rfl⟩
theorem Z45_w {h0 h : mh_T} {j : Nat} {v : Int32} (z : Z45 h0 h) (hj : j ≠ 49 ∧ j ≠ 50) : Z45 h0 (wI h 45 j v) := by
  obtain ⟨a, b, c, d, e, f⟩ := z
  refine ⟨?_, ?_, ?_, ?_, ?_, ?_⟩
  · rw [wI_o (by decide)]; exact a
  · rw [wI_o (by decide)]; exact b
  · rw [wI_o (by decide)]; exact c
  · rw [wI_o (by decide)]; exact d
  · rw [wI_i, if_neg (fun z => hj.1 z.symm)]; exact e
  · rw [wI_i, if_neg (fun z => hj.2 z.symm)]; exact f
theorem Z45_o {h0 h : mh_T} {k j : Nat} {v : Int32} (z : Z45 h0 h) (hk : k ≠ 45 ∧ k ≠ 48 ∧ k ≠ 49 ∧ k ≠ 50 ∧ k ≠ 51) : Z45 h0 (wI h k j v) := by
  obtain ⟨a, b, c, d, e, f⟩ := z
  refine ⟨?_, ?_, ?_, ?_, ?_, ?_⟩
  · rw [wI_o (fun y => hk.2.1 y.symm)]; exact a
  · rw [wI_o (fun y => hk.2.2.1 y.symm)]; exact b
  · rw [wI_o (fun y => hk.2.2.2.1 y.symm)]; exact c
  · rw [wI_o (fun y => hk.2.2.2.2 y.symm)]; exact d
  · rw [wI_o (fun y => hk.1 y.symm)]; exact e
  · rw [wI_o (fun y => hk.1 y.symm)]; exact f
theorem TVs_Z {h h' : mh_T} (t : TVs h) (z : Z45 h h') (a : TQ (h'.1 45) 0) : TVs h' := TVs_45 t a z.1 z.2.1 z.2.2.1 z.2.2.2.1 z.2.2.2.2.1 z.2.2.2.2.2
theorem i_4s {l : Int32} {s : Nat} (h : l.toInt = (s : Int)) (hs : s < 8) : (4 * l).toInt = ((4 * s : Nat) : Int) := by
  rw [Int32.toInt_mul, show (4 : Int32).toInt = 4 from by decide, h, bm (by omega) (by omega)]
  omega
theorem i_17 {l m : Int32} {s o : Nat} (h : l.toInt = (s : Int)) (hs : s < 8) (k : m.toInt = (o : Int)) (ho : o < 4) : ((17 + (4 * l)) + m).toInt = ((17 + 4 * s + o : Nat) : Int) := by
  rw [i_add (i_add (show (17 : Int32).toInt = 17 from by decide) (i_4s h hs) (by omega)) k (by omega)]
  omega
theorem i_R {lo hi : Int} {x : Int32} (f : R lo hi x) (h : 0 ≤ lo) : ∃ k : Nat, x.toInt = (k : Int) ∧ lo ≤ (k : Int) ∧ (k : Int) ≤ hi := ⟨x.toInt.toNat, by have := f.1; omega, by have := f.1; omega, by have := f.2; have := f.1; omega⟩
-- shift
set_option maxRecDepth 100000 in
set_option maxHeartbeats 4000000 in
theorem u_X11_shift {g : gT} {h : mh_T} {P : Int32 → mh_T → Prop} (l1 l2 l3 l4 : Int32) (hG : GI h) (hI : TVs h) (hp : ∀ (v : Int32) (h' : mh_T), Ok msA h h' → TVs h' → ¬ mI h' 11 11 = 4 → P v h') : MCi g yX11_shift uX11_shift [.ref 11, .int l1, .int l2, .int l3, .int l4] h P := by
  refine e_X11_shift l1 l2 l3 l4 (s_X11_good hG (fun h1 k1 t4 => ?_))
  have o1 : Ok msA h h1 := Ok_mono k1 (by decide)
  have hp : ∀ (v : Int32) (h' : mh_T), Ok msA h1 h' → TVs h' → P v h' := fun v h' k t => hp v h' (Ok_tr o1 k (by decide)) t (k.2.2.2.2.2.2 t4)
  have o1 : Ok msA h1 h1 := Ok_rf o1.1
  have t1 : TVs h1 := TVs_fr k1.2.1 (by decide) hI
  have no : ∀ (l : Int32), ¬ l = 4 → MCi g yX11_isNot uX11_isNot [.ref 11, .int l] h1 (fun r6 h5 => (r6 = 0 ∨ r6 = 1) ∧ P r6 h5) := fun l l4 => e_X11_isNot l ⟨Or.inl rfl, hp 0 _ (Ok_w11 o1 l4 (by decide)) (TVs_11 t1)⟩
  refine s_X11_isOutcome l1 l2 o1.1 (fun v fv hv => ⟨fun _ => no 1 (by decide), fun nz => s_X11_isOutcome l1 l3 o1.1 (fun v2 fv2 hv2 => ⟨fun _ => no 1 (by decide), fun nz2 => ⟨fun ne => s_X11_within l4 1 60 o1.1 (fun v3 fv3 hv3 => ⟨fun nz3 => ?_, fun _ => no 2 (by decide)⟩), fun _ => no 1 (by decide)⟩⟩)⟩)
  have r1 := (hv nz).1
  have r2 := (hv nz).2
  have r3 := (hv2 nz2).2
  obtain ⟨q1, q2⟩ := hv3 nz3
  have q1 := i_le.mp q1
  have q2 := i_le.mp q2
  rw [show (1 : Int32).toInt = 1 from by decide] at q1
  rw [show (60 : Int32).toInt = 60 from by decide] at q2
  obtain ⟨s, es, _, hs⟩ := i_R r1 (by decide)
  obtain ⟨o, eo, _, ho⟩ := i_R r2 (by decide)
  obtain ⟨p, ep, _, hpp⟩ := i_R r3 (by decide)
  have hop : o ≠ p := fun z => ne (Int32.toInt_inj.mp (by rw [eo, ep, z]))
  have ia := i_17 es (by omega) eo (by omega)
  have ib := i_17 es (by omega) ep (by omega)
  have va : vp_in ((17 + (4 * l1)) + l2) 346 := i_vp ia (by omega)
  have vb : vp_in ((17 + (4 * l1)) + l3) 346 := i_vp ib (by omega)
  rw [i_nat ia, i_nat ib]
  refine ⟨va, fun le => t_was o1.1 t1 (fun h2 k2 t2 => ⟨va, va, vb, vb, ?_⟩), fun _ => no 5 (by decide)⟩
  have o2 := Ok_tr o1 k2 (by decide)
  have e45 := OkC k2 (k := 45) (by decide)
  have le := i_le.mp le
  have le : l4.toInt ≤ (h2.1 45 (17 + 4 * s + o)).toInt := by rw [e45]; exact le
  have tA := TQ_at t2.1 (s := s) (o := o) (by omega) (by omega)
  have tB := TQ_at t2.1 (s := s) (o := p) (by omega) (by omega)
  unfold tx_tm at tA tB
  have w1 : ((mI h2 45 (17 + 4 * s + o)) - l4).toInt = (h2.1 45 (17 + 4 * s + o)).toInt - l4.toInt := i_sub (x := mI h2 45 (17 + 4 * s + o)) rfl rfl (by show -2147483648 ≤ (h2.1 45 (17 + 4 * s + o)).toInt - l4.toInt ∧ (h2.1 45 (17 + 4 * s + o)).toInt - l4.toInt ≤ 2147483647; omega)
  rw [show mI (wI h2 45 (17 + 4 * s + o) ((mI h2 45 (17 + 4 * s + o)) - l4)) 45 (17 + 4 * s + p) = mI h2 45 (17 + 4 * s + p) by rw [mI_wI, if_neg (fun z => by have := z.2; omega)]]
  have w2 : ((mI h2 45 (17 + 4 * s + p)) + l4).toInt = (h2.1 45 (17 + 4 * s + p)).toInt + l4.toInt := i_add (x := mI h2 45 (17 + 4 * s + p)) rfl rfl (by show -2147483648 ≤ (h2.1 45 (17 + 4 * s + p)).toInt + l4.toInt ∧ (h2.1 45 (17 + 4 * s + p)).toInt + l4.toInt ≤ 2147483647; omega)
  have o3 := Ok_w o2 (k := 45) (j := 17 + 4 * s + o) (v := (mI h2 45 (17 + 4 * s + o)) - l4) (lo := -2147483648) (hi := 2147483647) (rgg_45_0 (by omega) (by omega)) (R_full _) (by decide) (nt_45 (by first | omega | decide))
  have o4 := Ok_w o3 (k := 45) (j := 17 + 4 * s + p) (v := (mI h2 45 (17 + 4 * s + p)) + l4) (lo := -2147483648) (hi := 2147483647) (rgg_45_0 (by omega) (by omega)) (R_full _) (by decide) (nt_45 (by first | omega | decide))
  have z2 := Z45_w (v := (mI h2 45 (17 + 4 * s + p)) + l4) (j := 17 + 4 * s + p) (Z45_w (v := (mI h2 45 (17 + 4 * s + o)) - l4) (j := 17 + 4 * s + o) (Z45_rf h2) (by omega)) (by omega)
  refine u_X11_did _ _ _ _ _ o4 (TVs_Z t2 z2 (TQ_i (fun s' hs' => ?_))) (fun h' ok' t' => ⟨Or.inr rfl, hp 1 h' ok' t'⟩)
  by_cases e : s' = s
  · subst e
    refine tq_2 (t2.1 s' hs') (o := o) (p := p) (by omega) (by omega) hop (fun i hi h1 h2 => ?_) ?_ ?_ ?_
    · rw [wI_i, if_neg (by omega), wI_i, if_neg (by omega)]
    · rw [wI_i, if_neg (by omega), wI_i, if_pos rfl, w1]
      omega
    · rw [wI_i, if_pos rfl, w2]
      omega
    · rw [wI_i, if_neg (by omega), wI_i, if_pos rfl, w1, wI_i, if_pos rfl, w2]
      omega
  · refine tq_x (t2.1 s' hs') (fun i hi => ?_)
    rw [wI_i, if_neg (by omega), wI_i, if_neg (by omega)]
theorem TQ_o {h : mh_T} {k j : Nat} {v : Int32} (t : TQ (h.1 45) 0) (hk : 45 ≠ k) : TQ ((wI h k j v).1 45) 0 := by rw [wI_o hk]; exact t
-- flip
set_option maxRecDepth 100000 in
set_option maxHeartbeats 4000000 in
theorem t_flip_L {g : gT} {h0 : mh_T} {P : Int32 → mh_T → Prop} (l1 : Int32) (hp : ∀ (v : Int32) (h' : mh_T), Ok msA h0 h' → TVs h' → P v h') : ∀ n : Nat, (∀ (l2 : Int32) (h : mh_T), Ok msA h0 h → TVs h → R 0 8 l2 → 10 * gap 8 l2 + 9 < n → ME g uX11_flip 35 [.ref 11, .int l1, .int l2, .retAddr 0, .retAddr 0, .retAddr 0, .retAddr 0, .retAddr 0, .retAddr 0] [] h (qI P)) ∧ (∀ (l2 l3 l4 : Int32) (h : mh_T), Ok msA h0 h → TVs h → R 0 7 l2 → (l3 = 1 ∨ l3 = 2) → R 0 4 l4 → 10 * gap 8 l2 + gap 4 l4 < n → ME g uX11_flip 124 [.ref 11, .int l1, .int l2, .int l3, .int l4, .retAddr 0, .retAddr 0, .retAddr 0, .retAddr 0] [] h (qI P)) := by
  intro n
  induction n with
  | zero => exact ⟨fun _ _ _ _ _ hn => absurd hn (Nat.not_lt_zero _), fun _ _ _ _ _ _ _ _ _ hn => absurd hn (Nat.not_lt_zero _)⟩
  | succ n ih =>
    have c1 : R 1 1 1 := ⟨by decide, by decide⟩
    have c9 : R 9 9 9 := ⟨by decide, by decide⟩
    have z0 : R 0 4 0 := ⟨by decide, by decide⟩
    have g0 := gap_le (N := 4) z0 (m := 4) (by decide)
    refine ⟨fun l2 h ok t f2 hn => ?_, fun l2 l3 l4 h ok t f2 h3 f4 hn => ?_⟩
    · have fm : R 0 8 (mI h 45 (Int32.toNatClampNeg 0)) := GI_rd ok.1 45 0 rfl
      refine r_X11_flip_35 l1 l2 ⟨fun _ => u_X11_did _ _ _ _ _ ok t (fun h' ok' t' => ⟨Or.inr rfl, hp 1 h' ok' t'⟩), fun c => ?_⟩
      have g2 : R 0 7 l2 := rf_lt_l f2 fm (nle c) 7 (by decide)
      have gi := gap_inc (N := 8) g2 (by decide)
      have v1 : vp_in (1 + l2) 346 := vin (R_add c1 g2 1 8 (by decide)) (by decide)
      have v9 : vp_in (9 + l2) 346 := vin (R_add c9 g2 9 16 (by decide)) (by decide)
      have nx : ME g uX11_flip 35 [.ref 11, .int l1, .int (l2 + 1), .retAddr 0, .retAddr 0, .retAddr 0, .retAddr 0, .retAddr 0, .retAddr 0] [] h (qI P) := ih.1 (l2 + 1) h ok t (R_add g2 c1 0 8 (by decide)) (by omega)
      exact ⟨v9, fun _ => ⟨v1, fun _ => ⟨v9, fun _ => nx, fun _ => ih.2 l2 1 0 h ok t g2 (Or.inl rfl) z0 (by omega)⟩, fun _ => ih.2 l2 2 0 h ok t g2 (Or.inr rfl) z0 (by omega)⟩, fun _ => ⟨v1, fun _ => nx, fun _ => ih.2 l2 1 0 h ok t g2 (Or.inl rfl) z0 (by omega)⟩⟩
    · have gj := gap_inc (N := 8) f2 (by decide)
      refine r_X11_flip_124 l1 l2 l3 l4 (s_X11_outcomes l2 ok.1 f2 (fun v fv => ⟨fun _ => ih.1 (l2 + 1) h ok t (R_add f2 c1 0 8 (by decide)) (by omega), fun c x4 e4 => ?_⟩))
      have g4 : R 0 3 l4 := rf_lt_l f4 fv (nle c) 3 (by decide)
      have gi := gap_inc (N := 4) g4 (by decide)
      have f3 : R 1 2 l3 := by rcases h3 with z | z <;> subst z <;> exact ⟨by decide, by decide⟩
      have fx : R 0 3 x4 := by rw [e4]; exact R_xor g4 f3 2 3 (by decide)
      have nx : ∀ h' : mh_T, Ok msA h0 h' → TVs h' → ME g uX11_flip 124 [.ref 11, .int l1, .int l2, .int l3, .int (l4 + 1), .retAddr 0, .retAddr 0, .retAddr 0, .retAddr 0] [] h' (qI P) := fun h' ok' t' => ih.2 l2 l3 (l4 + 1) h' ok' t' f2 h3 (R_add g4 c1 0 4 (by decide)) (by omega)
      refine ⟨fun _ x6 e6 x7 e7 => ?_, fun _ => nx h ok t⟩
      obtain ⟨s, es, _, hs⟩ := i_R f2 (by decide)
      obtain ⟨o, eo, _, ho⟩ := i_R g4 (by decide)
      obtain ⟨p, ep, _, hpp⟩ := i_R fx (by decide)
      have i6 : x6.toInt = ((4 * s + o : Nat) : Int) := by rw [e6, i_add (i_4s es (by omega)) eo (by omega)]; omega
      have i7 : x7.toInt = ((4 * s + p : Nat) : Int) := by rw [e7, i_add (i_4s es (by omega)) ep (by omega)]; omega
      have j6 : (17 + x6).toInt = ((17 + 4 * s + o : Nat) : Int) := by rw [i_add (show (17 : Int32).toInt = 17 from by decide) i6 (by omega)]; omega
      have j7 : (17 + x7).toInt = ((17 + 4 * s + p : Nat) : Int) := by rw [i_add (show (17 : Int32).toInt = 17 from by decide) i7 (by omega)]; omega
      have v6 : vp_in (17 + x6) 346 := i_vp j6 (by omega)
      have v7 : vp_in (17 + x7) 346 := i_vp j7 (by omega)
      have u6 : vp_in x6 32 := i_vp i6 (by omega)
      have u7 : vp_in x7 32 := i_vp i7 (by omega)
      rw [i_nat j6, i_nat j7, i_nat i6, i_nat i7]
      refine ⟨v6, fun x9 e9 => ⟨v7, v6, v7, u6, fun x14 _ => ⟨u7, u6, u7, nx _ ?_ ?_⟩⟩⟩
      · exact Ok_w (Ok_w (Ok_w (Ok_w ok (k := 45) (j := 17 + 4 * s + o) (lo := -2147483648) (hi := 2147483647) (rgg_45_0 (by omega) (by omega)) (R_full _) (by decide) (nt_45 (by first | omega | decide))) (k := 45) (j := 17 + 4 * s + p) (lo := -2147483648) (hi := 2147483647) (rgg_45_0 (by omega) (by omega)) (R_full _) (by decide) (nt_45 (by first | omega | decide))) (k := 47) (rgc_47 _) (R_full _) (by decide) (nt_k (by decide))) (k := 47) (rgc_47 _) (R_full _) (by decide) (nt_k (by decide))
      · refine TVs_Z t (Z45_o (Z45_o (Z45_w (Z45_w (Z45_rf h) (by omega)) (by omega)) (by decide)) (by decide)) (TQ_o (TQ_o (TQ_i (fun s' hs' => ?_)) (by decide)) (by decide))
        by_cases e : s' = s
        · subst e
          have e9 : x9 = h.1 45 (17 + 4 * s' + o) := e9
          by_cases hop : o = p
          · subst hop
            refine tq_x (t.1 s' hs') (fun i hi => ?_)
            rw [wI_i]
            by_cases ei : i = o
            · rw [if_pos (by omega), e9, ei]
            · rw [if_neg (by omega), wI_i, if_neg (by omega)]
          · have tA := TQ_at t.1 (s := s') (o := o) (by omega) (by omega)
            have tB := TQ_at t.1 (s := s') (o := p) (by omega) (by omega)
            unfold tx_tm at tA tB
            refine tq_2 (t.1 s' hs') (o := o) (p := p) (by omega) (by omega) hop (fun i hi h1 h2 => ?_) ?_ ?_ ?_
            · rw [wI_i, if_neg (by omega), wI_i, if_neg (by omega)]
            · rw [wI_i, if_neg (by omega), wI_i, if_pos rfl]
              exact tB.1
            · rw [wI_i, if_pos rfl, e9]
              exact tA.1
            · rw [wI_i, if_neg (by omega), wI_i, if_pos rfl, wI_i, if_pos rfl, e9]
              show (h.1 45 (17 + 4 * s' + p)).toInt + _ = _
              omega
        · refine tq_x (t.1 s' hs') (fun i hi => ?_)
          rw [wI_i, if_neg (by omega), wI_i, if_neg (by omega)]
theorem u_X11_flip {g : gT} {h : mh_T} {P : Int32 → mh_T → Prop} (l1 : Int32) (hG : GI h) (hI : TVs h) (hp : ∀ (v : Int32) (h' : mh_T), Ok msA h h' → TVs h' → ¬ mI h' 11 11 = 4 → P v h') : MCi g yX11_flip uX11_flip [.ref 11, .int l1] h P := by
  refine e_X11_flip l1 (s_X11_good hG (fun h1 k1 t4 => ?_))
  have o1 : Ok msA h h1 := Ok_mono k1 (by decide)
  have hp : ∀ (v : Int32) (h' : mh_T), Ok msA h1 h' → TVs h' → P v h' := fun v h' k t => hp v h' (Ok_tr o1 k (by decide)) t (k.2.2.2.2.2.2 t4)
  have o1 : Ok msA h1 h1 := Ok_rf o1.1
  have t1 : TVs h1 := TVs_fr k1.2.1 (by decide) hI
  have z0 : R 0 8 0 := ⟨by decide, by decide⟩
  have g0 := gap_le (N := 8) z0 (m := 8) (by decide)
  refine t_isLook l1 o1.1 (fun v _ => ⟨fun _ => t_was o1.1 t1 (fun h2 k2 t2 => (t_flip_L l1 hp 100).1 0 h2 (Ok_tr o1 k2 (by decide)) t2 z0 (by omega)), fun _ => e_X11_isNot 1 ⟨Or.inl rfl, hp 0 _ (Ok_w11 o1 (by decide) (by decide)) (TVs_11 t1)⟩⟩)
/-! goesAway, drop, forget, undo, redo, mark, back of the reference -/
theorem tq_w {h : mh_T} {j s : Nat} {v : Int32} (t : tq (h.1 45) 0 s) (hj : j < 17 + 4 * s ∨ 17 + 4 * s + 4 ≤ j) : tq ((wI h 45 j v).1 45) 0 s := tq_x t (fun i hi => by rw [wI_i, if_neg (by omega)])
theorem tq_o {h : mh_T} {k j s : Nat} {v : Int32} (t : tq (h.1 45) 0 s) (hk : 45 ≠ k) : tq ((wI h k j v).1 45) 0 s := by rw [wI_o hk]; exact t
set_option maxRecDepth 100000 in
set_option maxHeartbeats 4000000 in
theorem t_goesAway_159 {g : gT} {h0 : mh_T} {P : mh_T → Prop} (l1 l2 m : Int32) (s : Nat) (es : l2.toInt = (s : Int)) (hs : s < 8) (hp : ∀ h', Ok [45, 47] h0 h' → mI h' 45 (Int32.toNatClampNeg 0) = m → Z45 h0 h' → TQ (h'.1 45) 0 → P h') : ∀ (n : Nat) (l3 : Int32) (k : Nat) (h : mh_T), l3.toInt = (k : Int) → k ≤ 4 → 4 - k < n → Ok [45, 47] h0 h → mI h 45 (Int32.toNatClampNeg 0) = m → Z45 h0 h → (∀ s', s' < 8 → s' ≠ s → tq (h.1 45) 0 s') → (∀ i, i < k → h.1 45 (17 + 4 * s + i) = 0) → ME g uX11_goesAway 159 [.ref 11, .int l1, .int l2, .int l3] [] h (qV P) := by
  intro n
  induction n with
  | zero => intro l3 k h _ _ hn; exact absurd hn (Nat.not_lt_zero _)
  | succ n ih =>
    intro l3 k h ek hk hn ok e0 zz tt zr
    refine r_X11_goesAway_159 l1 l2 l3 ⟨fun c => hp h ok e0 zz (TQ_i (fun s' hs' => ?_)), fun c => ?_⟩
    · have c := i_le.mp c
      rw [show (4 : Int32).toInt = 4 from by decide, ek] at c
      by_cases e : s' = s
      · subst e
        have z0 := zr 0 (by omega)
        rw [Nat.add_zero] at z0
        refine tq_v (a := 0) (b := 0) (c := 0) (d := 0) ?_ ?_ ?_ ?_ (by decide)
        · rw [z0]; exact i_0
        · rw [zr 1 (by omega)]; exact i_0
        · rw [zr 2 (by omega)]; exact i_0
        · rw [zr 3 (by omega)]; exact i_0
      · exact tt s' hs' e
    · have c := i_lt.mp (nle c)
      rw [show (4 : Int32).toInt = 4 from by decide, ek] at c
      have ia := i_17 es hs ek (by omega)
      have ib : ((4 * l2) + l3).toInt = ((4 * s + k : Nat) : Int) := by rw [i_add (i_4s es hs) ek (by omega)]; omega
      refine ⟨i_vp ia (by omega), i_vp ib (by omega), ?_⟩
      rw [i_nat ia, i_nat ib]
      refine ih (l3 + 1) (k + 1) _ (i_inc ek (by omega)) (by omega) (by omega) (Ok_w (Ok_w ok (k := 45) (j := 17 + 4 * s + k) (lo := -2147483648) (hi := 2147483647) (rgg_45_0 (by omega) (by omega)) (R_full _) (by decide) (nt_45 (by first | omega | decide))) (k := 47) (rgc_47 _) (R_full _) (by decide) (nt_k (by decide))) (w47_0 (w45_0 e0 (by omega))) (Z45_o (Z45_w zz (by omega)) (by decide)) (fun s' hs' hn' => tq_o (tq_w (tt s' hs' hn') (by omega)) (by decide)) (fun i hi => ?_)
      rw [wI_o (by decide), wI_i]
      by_cases e : i = k
      · rw [if_pos (by omega)]
      · rw [if_neg (by omega)]
        exact zr i (by omega)
set_option maxRecDepth 100000 in
set_option maxHeartbeats 4000000 in
theorem t_goesAway_2 {g : gT} {h0 : mh_T} {P : mh_T → Prop} (l1 m : Int32) (fm : R 1 8 m) (hp : ∀ h', Ok [45, 47] h0 h' → mI h' 45 (Int32.toNatClampNeg 0) = m - 1 → Z45 h0 h' → TQ (h'.1 45) 0 → P h') : ∀ n : Nat, (∀ (l2 : Int32) (s : Nat) (h : mh_T), l2.toInt = (s : Int) → s < 8 → 10 * (8 - s) + 9 < n → Ok [45, 47] h0 h → mI h 45 (Int32.toNatClampNeg 0) = m → Z45 h0 h → TQ (h.1 45) 0 → ME g uX11_goesAway 2 [.ref 11, .int l1, .int l2, .retAddr 0] [] h (qV P)) ∧ (∀ (l2 l3 : Int32) (s k : Nat) (h : mh_T), l2.toInt = (s : Int) → s < 7 → l3.toInt = (k : Int) → k ≤ 4 → 10 * (8 - s) + (4 - k) < n → Ok [45, 47] h0 h → mI h 45 (Int32.toNatClampNeg 0) = m → Z45 h0 h → (∀ s', s' < 8 → s' ≠ s → tq (h.1 45) 0 s') → (∀ i, i < k → h.1 45 (17 + 4 * s + i) = h.1 45 (17 + 4 * (s + 1) + i)) → ME g uX11_goesAway 54 [.ref 11, .int l1, .int l2, .int l3] [] h (qV P)) := by
  intro n
  induction n with
  | zero => exact ⟨fun _ _ _ _ _ hn => absurd hn (Nat.not_lt_zero _), fun _ _ _ _ _ _ _ _ _ hn => absurd hn (Nat.not_lt_zero _)⟩
  | succ n ih =>
    have c1 : R 1 1 1 := ⟨by decide, by decide⟩
    have c9 : R 9 9 9 := ⟨by decide, by decide⟩
    have fm2 := fm.2
    refine ⟨fun l2 s h es hs hn ok e zz tt => ?_, fun l2 l3 s k h es hs ek hk hn ok e zz tt cc => ?_⟩
    · have e21 := i_inc es (by omega)
      have f2 : R 0 7 l2 := ⟨by omega, by omega⟩
      refine r_X11_goesAway_2 l1 l2 ⟨fun _ x2 e2 => ?_, fun c => ?_⟩
      · have e2 : x2 = m - 1 := by rw [e2, mI_wI, if_pos ⟨rfl, rfl⟩, e]
        have fx : R 0 7 x2 := by rw [e2]; exact R_sub fm c1 0 7 (by decide)
        have fa : R 1 8 (1 + x2) := R_add c1 fx 1 8 (by decide)
        have fb : R 9 16 (9 + x2) := R_add c9 fx 9 16 (by decide)
        obtain ⟨q, eq, _, hq⟩ := i_R fx (by decide)
        rw [e, ← e2]
        have a1 : 1 ≤ (1 + x2).toNatClampNeg := ix_ge fa (m := 1) (by decide)
        have a2 : (1 + x2).toNatClampNeg ≤ 8 := ix_le fa (m := 8) (by decide)
        have b1 : 9 ≤ (9 + x2).toNatClampNeg := ix_ge fb (m := 9) (by decide)
        have b2 : (9 + x2).toNatClampNeg ≤ 16 := ix_le fb (m := 16) (by decide)
        have o1 := Ok_w ok (k := 45) (j := Int32.toNatClampNeg 0) (v := x2) (lo := 0) (hi := 8) (by decide) (R_w fx (by decide)) (by decide) (nt_45 (by first | omega | decide))
        have o2 := Ok_w o1 (k := 45) (j := (1 + x2).toNatClampNeg) (v := 0) (lo := -1) (hi := 5) (rgp_45_1 a1 a2) ⟨by decide, by decide⟩ (by decide) (nt_45 (by first | omega | decide))
        have o3 := Ok_w o2 (k := 45) (j := (9 + x2).toNatClampNeg) (v := 0) (lo := -2) (hi := 5) (rgp_45_2 b1 b2) ⟨by decide, by decide⟩ (by decide) (nt_45 (by first | omega | decide))
        refine ⟨vin fa (by decide), vin fb (by decide), t_goesAway_159 l1 x2 (m - 1) q eq (by omega) hp 5 0 0 _ (by decide) (Nat.zero_le _) (by omega) o3 ?_ (Z45_w (Z45_w (Z45_w zz (by decide)) (by omega)) (by omega)) (fun s' hs' _ => tq_w (tq_w (tq_w (tt s' hs') (Or.inl (by show 0 < _; omega))) (by omega)) (by omega)) (fun i hi => absurd hi (Nat.not_lt_zero _))⟩
        refine w45_0 (w45_0 ?_ a1) (by omega)
        rw [mI_wI, if_pos ⟨rfl, rfl⟩, e2]
      · rw [e] at c
        have c := lt_ti (nle c)
        have hs7 : s < 7 := by omega
        have g2 : R 0 6 l2 := ⟨by omega, by omega⟩
        have fa : R 1 7 (1 + l2) := R_add c1 g2 1 7 (by decide)
        have fa1 : R 2 8 ((1 + l2) + 1) := R_add fa c1 2 8 (by decide)
        have fb : R 9 15 (9 + l2) := R_add c9 g2 9 15 (by decide)
        have fb1 : R 10 16 ((9 + l2) + 1) := R_add fb c1 10 16 (by decide)
        have a1 : 1 ≤ (1 + l2).toNatClampNeg := ix_ge fa (m := 1) (by decide)
        have a2 : (1 + l2).toNatClampNeg ≤ 8 := ix_le fa (m := 8) (by decide)
        have b1 : 9 ≤ (9 + l2).toNatClampNeg := ix_ge fb (m := 9) (by decide)
        have b2 : (9 + l2).toNatClampNeg ≤ 16 := ix_le fb (m := 16) (by decide)
        have va : R (-1) 5 (mI h 45 ((1 + l2) + 1).toNatClampNeg) := GI_rd ok.1 45 _ (rgp_45_1 (ix_ge fa1 (by decide)) (ix_le fa1 (by decide)))
        have o1 := Ok_w ok (k := 45) (j := (1 + l2).toNatClampNeg) (v := mI h 45 ((1 + l2) + 1).toNatClampNeg) (lo := -1) (hi := 5) (rgp_45_1 a1 a2) va (by decide) (nt_45 (by first | omega | decide))
        have vb : R (-2) 5 (mI (wI h 45 (1 + l2).toNatClampNeg (mI h 45 ((1 + l2) + 1).toNatClampNeg)) 45 ((9 + l2) + 1).toNatClampNeg) := GI_rd o1.1 45 _ (rgp_45_2 (ix_ge fb1 (by decide)) (ix_le fb1 (by decide)))
        have o2 := Ok_w o1 (k := 45) (j := (9 + l2).toNatClampNeg) (v := mI (wI h 45 (1 + l2).toNatClampNeg (mI h 45 ((1 + l2) + 1).toNatClampNeg)) 45 ((9 + l2) + 1).toNatClampNeg) (lo := -2) (hi := 5) (rgp_45_2 b1 b2) vb (by decide) (nt_45 (by first | omega | decide))
        exact ⟨vin fa1 (by decide), vin fa (by decide), vin fb1 (by decide), vin fb (by decide), ih.2 l2 0 s 0 _ es hs7 (by decide) (Nat.zero_le _) (by omega) o2 (w45_0 (w45_0 e a1) (by omega)) (Z45_w (Z45_w zz (by omega)) (by omega)) (fun s' hs' _ => tq_w (tq_w (tt s' hs') (by omega)) (by omega)) (fun i hi => absurd hi (Nat.not_lt_zero _))⟩
    · refine r_X11_goesAway_54 l1 l2 l3 ⟨fun c => ?_, fun c => ?_⟩
      · have c := i_le.mp c
        rw [show (4 : Int32).toInt = 4 from by decide, ek] at c
        refine ih.1 (l2 + 1) (s + 1) h (i_inc es (by omega)) (by omega) (by omega) ok e zz (TQ_i (fun s' hs' => ?_))
        by_cases e' : s' = s
        · subst e'
          have t1 := tq_g (tt (s' + 1) (by omega) (by omega))
          have y0 := cc 0 (by omega)
          rw [Nat.add_zero, Nat.add_zero] at y0
          refine tq_v rfl rfl rfl rfl ?_
          rw [y0, cc 1 (by omega), cc 2 (by omega), cc 3 (by omega)]
          exact t1
        · exact tt s' hs' e'
      · have c := i_lt.mp (nle c)
        rw [show (4 : Int32).toInt = 4 from by decide, ek] at c
        have e4 := i_4s es (show s < 8 by omega)
        have ia := i_17 es (show s < 8 by omega) ek (by omega)
        have ia4 : (((17 + (4 * l2)) + 4) + l3).toInt = ((17 + 4 * (s + 1) + k : Nat) : Int) := by rw [i_add (i_add (i_add (show (17 : Int32).toInt = 17 from by decide) e4 (by omega)) (show (4 : Int32).toInt = 4 from by decide) (by omega)) ek (by omega)]; omega
        have ib : ((4 * l2) + l3).toInt = ((4 * s + k : Nat) : Int) := by rw [i_add e4 ek (by omega)]; omega
        have ib4 : (((4 * l2) + 4) + l3).toInt = ((4 * (s + 1) + k : Nat) : Int) := by rw [i_add (i_add e4 (show (4 : Int32).toInt = 4 from by decide) (by omega)) ek (by omega)]; omega
        refine ⟨i_vp ia4 (by omega), i_vp ia (by omega), i_vp ib4 (by omega), i_vp ib (by omega), ?_⟩
        rw [i_nat ia, i_nat ia4, i_nat ib, i_nat ib4]
        refine ih.2 l2 (l3 + 1) s (k + 1) _ es hs (i_inc ek (by omega)) (by omega) (by omega) (Ok_w (Ok_w ok (k := 45) (j := 17 + 4 * s + k) (lo := -2147483648) (hi := 2147483647) (rgg_45_0 (by omega) (by omega)) (R_full _) (by decide) (nt_45 (by first | omega | decide))) (k := 47) (rgc_47 _) (R_full _) (by decide) (nt_k (by decide))) (w47_0 (w45_0 e (by omega))) (Z45_o (Z45_w zz (by omega)) (by decide)) (fun s' hs' hn' => tq_o (tq_w (tt s' hs' hn') (by omega)) (by decide)) (fun i hi => ?_)
        rw [wI_o (by decide), wI_i, wI_i, if_neg (show ¬ 17 + 4 * (s + 1) + i = 17 + 4 * s + k by omega)]
        by_cases e' : i = k
        · rw [if_pos (by omega), e']
          rfl
        · rw [if_neg (by omega)]
          exact cc i (by omega)
theorem t_goesAway {g : gT} {h : mh_T} {P : mh_T → Prop} (l1 : Int32) (hG : GI h) (fl1 : R 0 7 l1) (fm : R 1 8 (mI h 45 (Int32.toNatClampNeg 0))) (t : TQ (h.1 45) 0) (hp : ∀ h', Ok [45, 47] h h' → mI h' 45 (Int32.toNatClampNeg 0) = (mI h 45 (Int32.toNatClampNeg 0)) - 1 → Z45 h h' → TQ (h'.1 45) 0 → P h') : MCv g yX11_goesAway uX11_goesAway [.ref 11, .int l1] h P := by
  obtain ⟨s, es, _, hs⟩ := i_R fl1 (by decide)
  exact e_X11_goesAway l1 ((t_goesAway_2 l1 _ fm hp 100).1 l1 s h es (by omega) (by omega) (Ok_rf hG) rfl (Z45_rf h) t)
theorem t_isNot {g : gT} {h0 h1 : mh_T} {P : Int32 → mh_T → Prop} (o1 : Ok msA h0 h1) (t1 : TVs h1) (hp : ∀ (v : Int32) (h' : mh_T), Ok msA h0 h' → TVs h' → P v h') (l : Int32) (l4 : ¬ l = 4 := by decide) : MCi g yX11_isNot uX11_isNot [.ref 11, .int l] h1 (fun r6 h5 => (r6 = 0 ∨ r6 = 1) ∧ P r6 h5) := e_X11_isNot l ⟨Or.inl rfl, hp 0 _ (Ok_w11 o1 l4 (by decide)) (TVs_11 t1)⟩
theorem u_X11_drop {g : gT} {h : mh_T} {P : Int32 → mh_T → Prop} (l1 : Int32) (hG : GI h) (hI : TVs h) (hp : ∀ (v : Int32) (h' : mh_T), Ok msA h h' → TVs h' → ¬ mI h' 11 11 = 4 → P v h') : MCi g yX11_drop uX11_drop [.ref 11, .int l1] h P := by
  refine e_X11_drop l1 (s_X11_good hG (fun h1 k1 t4 => ?_))
  have o1 : Ok msA h h1 := Ok_mono k1 (by decide)
  have hp : ∀ (v : Int32) (h' : mh_T), Ok msA h1 h' → TVs h' → P v h' := fun v h' k t => hp v h' (Ok_tr o1 k (by decide)) t (k.2.2.2.2.2.2 t4)
  have o1 : Ok msA h1 h1 := Ok_rf o1.1
  have t1 : TVs h1 := TVs_fr k1.2.1 (by decide) hI
  refine s_X11_isSet l1 o1.1 (fun v _ hv => ⟨fun nz => t_was o1.1 t1 (fun h2 k2 t2 => ?_), fun _ => t_isNot o1 t1 hp 1⟩)
  have o2 := Ok_tr o1 k2 (by decide)
  have fm : R 1 8 (mI h2 45 (Int32.toNatClampNeg 0)) := Ok_rd k2 (by decide) (hv nz).2
  refine t_goesAway l1 o2.1 (hv nz).1 fm t2.1 (fun h3 k3 _ zz tq3 => ?_)
  exact u_X11_did _ _ _ _ _ (Ok_tr o2 k3 (by decide)) (TVs_Z t2 zz tq3) (fun h' ok' t' => ⟨Or.inr rfl, hp 1 h' ok' t'⟩)
/-- two numbers for four -/
theorem fg_TV {h : mh_T} {s : Nat} {u w x y : Int32} (t : TVs h) (hs : s < 8) (hx : 0 ≤ x.toInt) (hy : 0 ≤ y.toInt) (hxy : x.toInt + y.toInt ≤ 240) : TVs (wI (wI (wI (wI (wI (wI h 45 (1 + s) u) 45 (9 + s) w) 45 (17 + 4 * s) x) 45 (17 + 4 * s + 1) y) 45 (17 + 4 * s + 2) 0) 45 (17 + 4 * s + 3) 0) := by
  refine TVs_Z t (Z45_w (Z45_w (Z45_w (Z45_w (Z45_w (Z45_w (Z45_rf h) (by omega)) (by omega)) (by omega)) (by omega)) (by omega)) (by omega)) (TQ_i (fun s' hs' => ?_))
  by_cases e : s' = s
  · subst e
    refine tq_v (a := x.toInt) (b := y.toInt) (c := 0) (d := 0) ?_ ?_ ?_ ?_ (by omega)
    · rw [wI_i, if_neg (by omega), wI_i, if_neg (by omega), wI_i, if_neg (by omega), wI_i, if_pos rfl]
    · rw [wI_i, if_neg (by omega), wI_i, if_neg (by omega), wI_i, if_pos rfl]
    · rw [wI_i, if_neg (by omega), wI_i, if_pos rfl]; exact i_0
    · rw [wI_i, if_pos rfl]; exact i_0
  · exact tq_w (tq_w (tq_w (tq_w (tq_w (tq_w (t.1 s' hs') (by omega)) (by omega)) (by omega)) (by omega)) (by omega)) (by omega)
theorem fg_Ok {h0 h : mh_T} {s : Nat} {u w x y : Int32} (ok : Ok msA h0 h) (hs : s < 8) (fu : R (-1) 5 u) (fw : R (-2) 5 w) : Ok msA h0 (wI (wI (wI (wI (wI (wI h 45 (1 + s) u) 45 (9 + s) w) 45 (17 + 4 * s) x) 45 (17 + 4 * s + 1) y) 45 (17 + 4 * s + 2) 0) 45 (17 + 4 * s + 3) 0) := by
  have o1 := Ok_w ok (k := 45) (j := 1 + s) (v := u) (lo := -1) (hi := 5) (rgp_45_1 (by omega) (by omega)) fu (by decide) (nt_45 (by first | omega | decide))
  have o2 := Ok_w o1 (k := 45) (j := 9 + s) (v := w) (lo := -2) (hi := 5) (rgp_45_2 (by omega) (by omega)) fw (by decide) (nt_45 (by first | omega | decide))
  have o3 := Ok_w o2 (k := 45) (j := 17 + 4 * s) (v := x) (lo := -2147483648) (hi := 2147483647) (rgg_45_0 (by omega) (by omega)) (R_full _) (by decide) (nt_45 (by first | omega | decide))
  have o4 := Ok_w o3 (k := 45) (j := 17 + 4 * s + 1) (v := y) (lo := -2147483648) (hi := 2147483647) (rgg_45_0 (by omega) (by omega)) (R_full _) (by decide) (nt_45 (by first | omega | decide))
  have o5 := Ok_w o4 (k := 45) (j := 17 + 4 * s + 2) (v := 0) (lo := -2147483648) (hi := 2147483647) (rgg_45_0 (by omega) (by omega)) (R_full _) (by decide) (nt_45 (by first | omega | decide))
  exact Ok_w o5 (k := 45) (j := 17 + 4 * s + 3) (v := 0) (lo := -2147483648) (hi := 2147483647) (rgg_45_0 (by omega) (by omega)) (R_full _) (by decide) (nt_45 (by first | omega | decide))
theorem fg_0 {h : mh_T} {s : Nat} {u w x y m : Int32} (e : mI h 45 (Int32.toNatClampNeg 0) = m) : mI (wI (wI (wI (wI (wI (wI h 45 (1 + s) u) 45 (9 + s) w) 45 (17 + 4 * s) x) 45 (17 + 4 * s + 1) y) 45 (17 + 4 * s + 2) 0) 45 (17 + 4 * s + 3) 0) 45 (Int32.toNatClampNeg 0) = m := w45_0 (w45_0 (w45_0 (w45_0 (w45_0 (w45_0 e (by omega)) (by omega)) (by omega)) (by omega)) (by omega)) (by omega)
theorem i_off {x : Int32} {k : Nat} (h : x.toInt = (k : Int)) (c : Int32) (d : Nat) (hc : c.toInt = (d : Int)) (hk : k + d < 2147483647) : (x + c).toInt = ((k + d : Nat) : Int) := by
  rw [i_add h hc (by omega)]
  omega
set_option maxRecDepth 100000 in
set_option maxHeartbeats 4000000 in
theorem t_forget_L {g : gT} {h0 : mh_T} {P : Int32 → mh_T → Prop} (l1 l2 : Int32) (hp : ∀ (v : Int32) (h' : mh_T), Ok msA h0 h' → TVs h' → P v h') : ∀ n : Nat, (∀ (l3 : Int32) (h : mh_T), Ok msA h0 h → TVs h → R (-1) 7 l3 → l3.toInt < (mI h 45 (Int32.toNatClampNeg 0)).toInt → 10 * (l3.toInt + 1).toNat + 9 < n → ME g uX11_forget 107 [.ref 11, .int l1, .int l2, .int l3, .retAddr 0, .retAddr 0, .retAddr 0, .retAddr 0, .retAddr 0] [] h (qI P)) ∧ (∀ (l3 l4 l5 l6 l7 l8 : Int32) (h : mh_T), Ok msA h0 h → TVs h → R 0 7 l3 → l3.toInt < (mI h 45 (Int32.toNatClampNeg 0)).toInt → R 0 4 l8 → 10 * (l3.toInt + 1).toNat + gap 4 l8 < n → ME g uX11_forget 360 [.ref 11, .int l1, .int l2, .int l3, .int l4, .int l5, .int l6, .int l7, .int l8] [] h (qI P)) := by
  intro n
  induction n with
  | zero => exact ⟨fun _ _ _ _ _ _ hn => absurd hn (Nat.not_lt_zero _), fun _ _ _ _ _ _ _ _ _ _ _ _ hn => absurd hn (Nat.not_lt_zero _)⟩
  | succ n ih =>
    have c1 : R 1 1 1 := ⟨by decide, by decide⟩
    have c4 : R 4 4 4 := ⟨by decide, by decide⟩
    have z0 : R 0 4 0 := ⟨by decide, by decide⟩
    have g0 := gap_le (N := 4) z0 (m := 4) (by decide)
    refine ⟨fun l3 h ok t f3 lt hn => ?_, fun l3 l4 l5 l6 l7 l8 h ok t f3 lt f8 hn => ?_⟩
    · refine r_X11_forget_107 l1 l2 l3 ⟨fun _ => u_X11_did _ _ _ _ _ ok t (fun h' ok' t' => ⟨Or.inr rfl, hp 1 h' ok' t'⟩), fun c => ?_⟩
      have c : ¬ l3.toInt < (0 : Int32).toInt := fun z => c (i_lt.mpr z)
      rw [i_0] at c
      have g3 : R 0 7 l3 := ⟨by omega, f3.2⟩
      obtain ⟨s, es, _, hs⟩ := i_R g3 (by decide)
      have dec := ti_dec g3 (by decide)
      have g3' : R (-1) 7 (l3 + (-1)) := ⟨by omega, by omega⟩
      have nx : ∀ h' : mh_T, Ok msA h0 h' → TVs h' → l3.toInt - 1 < (mI h' 45 (Int32.toNatClampNeg 0)).toInt → ME g uX11_forget 107 [.ref 11, .int l1, .int l2, .int (l3 + (-1)), .retAddr 0, .retAddr 0, .retAddr 0, .retAddr 0, .retAddr 0] [] h' (qI P) := fun h' ok' t' lt' => ih.1 (l3 + (-1)) h' ok' t' g3' (by omega) (by omega)
      have j1 : (1 + l3).toInt = ((1 + s : Nat) : Int) := by rw [i_add (show (1 : Int32).toInt = 1 from by decide) es (by omega)]; omega
      have j9 : (9 + l3).toInt = ((9 + s : Nat) : Int) := by rw [i_add (show (9 : Int32).toInt = 9 from by decide) es (by omega)]; omega
      have v1 : vp_in (1 + l3) 346 := i_vp j1 (by omega)
      have v9 : vp_in (9 + l3) 346 := i_vp j9 (by omega)
      have fm : R 0 8 (mI h 45 (Int32.toNatClampNeg 0)) := GI_rd ok.1 45 0 rfl
      have fm' : R 1 8 (mI h 45 (Int32.toNatClampNeg 0)) := ⟨by omega, fm.2⟩
      have away : MCv g yX11_goesAway uX11_goesAway [.ref 11, .int l3] h (fun h28 => ME g uX11_forget 107 [.ref 11, .int l1, .int l2, .int (l3 + (-1)), .retAddr 0, .retAddr 0, .retAddr 0, .retAddr 0, .retAddr 0] [] h28 (qI P)) := by
        refine t_goesAway l3 ok.1 g3 fm' t.1 (fun h2 k2 e2 zz tq2 => nx h2 (Ok_tr ok k2 (by decide)) (TVs_Z t zz tq2) ?_)
        rw [e2, sub1, ti_dec fm' (by decide)]
        omega
      have tg := tq_g (t.1 s (by omega))
      have r1 : R (-1) 5 (mI h 45 (1 + s)) := GI_rd ok.1 45 _ (rgp_45_1 (by omega) (by omega))
      have r9 : R (-2) 5 (mI h 45 (9 + s)) := GI_rd ok.1 45 _ (rgp_45_2 (by omega) (by omega))
      have fn2 : R (-2) 5 (-2) := ⟨by decide, by decide⟩
      rw [i_nat j1, i_nat j9]
      have e17 : ∀ x : Int32, x = 17 + (4 * l3) → x.toInt = ((17 + 4 * s : Nat) : Int) := fun x ex => by rw [ex, i_add (show (17 : Int32).toInt = 17 from by decide) (i_4s es (by omega)) (by omega)]; omega
      have mrg : ∀ (u x y l4 l5 l6 l7 : Int32), R (-1) 5 u → 0 ≤ x.toInt → 0 ≤ y.toInt → x.toInt + y.toInt ≤ 240 → ME g uX11_forget 360 [.ref 11, .int l1, .int l2, .int l3, .int l4, .int l5, .int l6, .int l7, .int 0] [] (wI (wI (wI (wI (wI (wI h 45 (1 + s) u) 45 (9 + s) (-2)) 45 (17 + 4 * s) x) 45 (17 + 4 * s + 1) y) 45 (17 + 4 * s + 2) 0) 45 (17 + 4 * s + 3) 0) (qI P) := fun u x y l4 l5 l6 l7 fu hx hy hxy => ih.2 l3 l4 l5 l6 l7 0 _ (fg_Ok ok (by omega) fu fn2) (fg_TV t (by omega) hx hy hxy) g3 (by rw [fg_0 rfl]; exact lt) z0 (by omega)
      refine ⟨v1, fun _ => ⟨v9, fun _ => ⟨v9, fun _ x11 e11 => ?_, fun _ => away⟩, fun _ => nx h ok t (by omega)⟩, fun _ => ⟨v9, fun ne2 x32 e32 => ?_, fun _ => away⟩⟩
      · have k0 := e17 x11 e11
        have k1 := i_off k0 1 1 (by decide) (by omega)
        have k2 := i_off k0 2 2 (by decide) (by omega)
        have k3 := i_off k0 3 3 (by decide) (by omega)
        refine ⟨i_vp k0 (by omega), i_vp k1 (by omega), fun x15 e15 => ⟨i_vp k2 (by omega), i_vp k3 (by omega), fun x19 e19 => ⟨v1, v1, v9, i_vp k0 (by omega), i_vp k1 (by omega), i_vp k2 (by omega), i_vp k3 (by omega), ?_⟩⟩⟩
        rw [i_nat k0, i_nat k1] at e15
        rw [i_nat k2, i_nat k3] at e19
        rw [i_nat k0, i_nat k1, i_nat k2, i_nat k3]
        have w1 : x15.toInt = (h.1 45 (17 + 4 * s)).toInt + (h.1 45 (17 + 4 * s + 1)).toInt := by rw [e15]; exact i_add (x := mI h 45 (17 + 4 * s)) (y := mI h 45 (17 + 4 * s + 1)) rfl rfl (by show -2147483648 ≤ (h.1 45 (17 + 4 * s)).toInt + (h.1 45 (17 + 4 * s + 1)).toInt ∧ (h.1 45 (17 + 4 * s)).toInt + (h.1 45 (17 + 4 * s + 1)).toInt ≤ 2147483647; omega)
        have w2 : x19.toInt = (h.1 45 (17 + 4 * s + 2)).toInt + (h.1 45 (17 + 4 * s + 3)).toInt := by rw [e19]; exact i_add (x := mI h 45 (17 + 4 * s + 2)) (y := mI h 45 (17 + 4 * s + 3)) rfl rfl (by show -2147483648 ≤ (h.1 45 (17 + 4 * s + 2)).toInt + (h.1 45 (17 + 4 * s + 3)).toInt ∧ (h.1 45 (17 + 4 * s + 2)).toInt + (h.1 45 (17 + 4 * s + 3)).toInt ≤ 2147483647; omega)
        exact mrg _ x15 x19 _ _ _ _ r1 (by omega) (by omega) (by omega)
      · have k0 := e17 x32 e32
        have k1 := i_off k0 1 1 (by decide) (by omega)
        have k2 := i_off k0 2 2 (by decide) (by omega)
        have k3 := i_off k0 3 3 (by decide) (by omega)
        refine ⟨i_vp k0 (by omega), i_vp k2 (by omega), fun x36 e36 => ⟨i_vp k1 (by omega), i_vp k3 (by omega), fun x40 e40 => ⟨v9, v1, v9, i_vp k0 (by omega), i_vp k1 (by omega), i_vp k2 (by omega), i_vp k3 (by omega), ?_⟩⟩⟩
        rw [i_nat k0, i_nat k2] at e36
        rw [i_nat k1, i_nat k3] at e40
        rw [i_nat k0, i_nat k1, i_nat k2, i_nat k3]
        have w1 : x36.toInt = (h.1 45 (17 + 4 * s)).toInt + (h.1 45 (17 + 4 * s + 2)).toInt := by rw [e36]; exact i_add (x := mI h 45 (17 + 4 * s)) (y := mI h 45 (17 + 4 * s + 2)) rfl rfl (by show -2147483648 ≤ (h.1 45 (17 + 4 * s)).toInt + (h.1 45 (17 + 4 * s + 2)).toInt ∧ (h.1 45 (17 + 4 * s)).toInt + (h.1 45 (17 + 4 * s + 2)).toInt ≤ 2147483647; omega)
        have w2 : x40.toInt = (h.1 45 (17 + 4 * s + 1)).toInt + (h.1 45 (17 + 4 * s + 3)).toInt := by rw [e40]; exact i_add (x := mI h 45 (17 + 4 * s + 1)) (y := mI h 45 (17 + 4 * s + 3)) rfl rfl (by show -2147483648 ≤ (h.1 45 (17 + 4 * s + 1)).toInt + (h.1 45 (17 + 4 * s + 3)).toInt ∧ (h.1 45 (17 + 4 * s + 1)).toInt + (h.1 45 (17 + 4 * s + 3)).toInt ≤ 2147483647; omega)
        exact mrg _ x36 x40 _ _ _ _ (rf_ne_lo r9 ne2 (by decide) (-1) (by decide)) (by omega) (by omega) (by omega)
    · have dec := ti_dec f3 (by decide)
      have f31 := f3.1
      have f32 := f3.2
      refine r_X11_forget_360 l1 l2 l3 l4 l5 l6 l7 l8 ⟨fun _ => ih.1 (l3 + (-1)) h ok t ⟨by omega, by omega⟩ (by omega) (by omega), fun c => ?_⟩
      have g8 : R 0 3 l8 := rf_lt_l f8 c4 (nle c) 3 (by decide)
      have gi := gap_inc (N := 4) g8 (by decide)
      have fx : R 0 31 ((4 * l3) + l8) := R_add (R_mul c4 f3 0 28 (by decide)) g8 0 31 (by decide)
      refine ⟨vin fx (by decide), ih.2 l3 l4 l5 l6 l7 (l8 + 1) _ (Ok_w ok (k := 47) (rgc_47 _) (R_full _) (by decide) (nt_k (by decide))) (TVs_Z t (Z45_o (Z45_rf h) (by decide)) (TQ_o t.1 (by decide))) f3 (by rw [w47_0 rfl]; exact lt) (R_add g8 c1 0 4 (by decide)) (by omega)⟩
set_option maxRecDepth 100000 in
set_option maxHeartbeats 4000000 in
theorem t_forget_22 {g : gT} {h0 h : mh_T} {P : Int32 → mh_T → Prop} (l1 : Int32) (ok : Ok msA h0 h) (t : TVs h) (hp : ∀ (v : Int32) (h' : mh_T), Ok msA h0 h' → TVs h' → P v h') : ∀ (n : Nat) (l2 l3 : Int32), R 0 8 l3 → gap 8 l3 < n → ME g uX11_forget 22 [.ref 11, .int l1, .int l2, .int l3, .retAddr 0, .retAddr 0, .retAddr 0, .retAddr 0, .retAddr 0] [] h (qI P) := by
  intro n
  induction n with
  | zero => intro l2 l3 _ hn; exact absurd hn (Nat.not_lt_zero _)
  | succ n ih =>
    intro l2 l3 f3 hn
    have c1 : R 1 1 1 := ⟨by decide, by decide⟩
    have c9 : R 9 9 9 := ⟨by decide, by decide⟩
    have fm : R 0 8 (mI h 45 (Int32.toNatClampNeg 0)) := GI_rd ok.1 45 0 rfl
    refine r_X11_forget_22 l1 l2 l3 ⟨fun _ => ⟨fun _ => t_was ok.1 t (fun h2 k2 t2 x4 e4 => ?_), fun _ => t_isNot ok t hp 5⟩, fun c => ?_⟩
    · have o2 := Ok_tr ok k2 (by decide)
      have fm2 : R 0 8 (mI h2 45 (Int32.toNatClampNeg 0)) := GI_rd o2.1 45 0 rfl
      have a1 := fm2.1
      have a2 := fm2.2
      have ex : x4.toInt = (mI h2 45 (Int32.toNatClampNeg 0)).toInt - 1 := by rw [e4, sub1, ti_dec fm2 (by decide)]
      exact (t_forget_L l1 l2 hp 200).1 x4 h2 o2 t2 ⟨by omega, by omega⟩ (by omega) (by omega)
    · have g3 : R 0 7 l3 := rf_lt_l f3 fm (nle c) 7 (by decide)
      have gi := gap_inc (N := 8) g3 (by decide)
      have nx : ∀ l2 : Int32, ME g uX11_forget 22 [.ref 11, .int l1, .int l2, .int (l3 + 1), .retAddr 0, .retAddr 0, .retAddr 0, .retAddr 0, .retAddr 0] [] h (qI P) := fun l2 => ih l2 (l3 + 1) (R_add g3 c1 0 8 (by decide)) (by omega)
      exact ⟨fun _ => nx 1, fun _ => ⟨vin (R_add c1 g3 1 8 (by decide)) (by decide), fun _ => nx 1, fun _ => ⟨vin (R_add c9 g3 9 16 (by decide)) (by decide), fun _ => nx 0, fun _ => nx 1⟩⟩⟩
theorem u_X11_forget {g : gT} {h : mh_T} {P : Int32 → mh_T → Prop} (l1 : Int32) (hG : GI h) (hI : TVs h) (hp : ∀ (v : Int32) (h' : mh_T), Ok msA h h' → TVs h' → ¬ mI h' 11 11 = 4 → P v h') : MCi g yX11_forget uX11_forget [.ref 11, .int l1] h P := by
  refine e_X11_forget l1 (s_X11_good hG (fun h1 k1 t4 => ?_))
  have o1 : Ok msA h h1 := Ok_mono k1 (by decide)
  have hp : ∀ (v : Int32) (h' : mh_T), Ok msA h1 h' → TVs h' → P v h' := fun v h' k t => hp v h' (Ok_tr o1 k (by decide)) t (k.2.2.2.2.2.2 t4)
  have o1 : Ok msA h1 h1 := Ok_rf o1.1
  have t1 : TVs h1 := TVs_fr k1.2.1 (by decide) hI
  have z0 : R 0 8 0 := ⟨by decide, by decide⟩
  have g0 := gap_le (N := 8) z0 (m := 8) (by decide)
  exact t_isLook l1 o1.1 (fun v _ => ⟨fun _ => t_forget_22 l1 o1 t1 hp 10 0 0 z0 (by omega), fun _ => t_isNot o1 t1 hp 1⟩)
/-! undo, redo, mark, back, book of the reference -/
theorem TVs_47 {h h' : mh_T} (t : TVs h) (ok : Ok [47] h h') : TVs h' := TVs_fr ok.2.1 (by decide) t
set_option maxRecDepth 100000 in
set_option maxHeartbeats 4000000 in
theorem t_restore {g : gT} {h0 h : mh_T} {P : Int32 → mh_T → Prop} (l0 : Nat) (l1 : Int32) (nl0 p : Nat) (sl0 : shp l0 = (20, nl0, [])) (h45 : l0 ≠ 45) (h62 : l0 < 62) (e1 : l1.toInt = 49 * p) (bp : p ≤ 20) (b0 : 49 * p + 49 ≤ nl0) (hr0 : ∀ j, j < 49 → rgT l0 (49 * p + j) = rgRowM j) (ok : Ok msA h0 h) (t : TVs h) (s : TQ (h.1 l0) (49 * p)) (hp : ∀ (h' : mh_T), Ok msA h0 h' → TVs h' → P 1 h') : MCv g yX11_copy uX11_copy [.ref l0, .int l1, .ref 45, .int 0, .int 49] h (fun h12 => MCv g yX11_noCoins uX11_noCoins [.ref 11] h12 (fun h13 => P 1 h13)) := by
  refine t_copy l0 nl0 l1 45 346 0 sl0 rfl h45 h62 p 0 e1 (by decide) b0 (by decide) bp (by decide) hr0 rr45 (by decide) ok.1 (fun h2 k2 cp => ?_)
  have o2 := Ok_tr ok k2 (by decide)
  refine s_X11_noCoins o2.1 (fun h3 k3 => hp h3 (Ok_tr o2 k3 (by decide)) (TVs_47 (TVs_back t k2 s cp) k3))
theorem i_49 {x : Int32} (f : R 0 19 x) : ∃ p : Nat, (49 * x).toInt = 49 * (p : Int) ∧ p < 20 := by
  have f1 := f.1
  have f2 := f.2
  refine ⟨x.toInt.toNat, ?_, by omega⟩
  rw [Int32.toInt_mul, show (49 : Int32).toInt = 49 from by decide, bm (by omega) (by omega)]
  omega
set_option maxRecDepth 100000 in
set_option maxHeartbeats 4000000 in
theorem u_X11_undo {g : gT} {h : mh_T} {P : Int32 → mh_T → Prop} (hG : GI h) (hI : TVs h) (hp : ∀ (v : Int32) (h' : mh_T), Ok msA h h' → TVs h' → ¬ mI h' 11 11 = 4 → P v h') : MCi g yX11_undo uX11_undo [.ref 11] h P := by
  refine e_X11_undo (s_X11_good hG (fun h1 k1 t4 => ?_))
  have o1 : Ok msA h h1 := Ok_mono k1 (by decide)
  have hp : ∀ (v : Int32) (h' : mh_T), Ok msA h1 h' → TVs h' → P v h' := fun v h' k t => hp v h' (Ok_tr o1 k (by decide)) t (k.2.2.2.2.2.2 t4)
  have o1 : Ok msA h1 h1 := Ok_rf o1.1
  have t1 : TVs h1 := TVs_fr k1.2.1 (by decide) hI
  have f24 : R 0 20 (mI h1 11 24) := GI_rd o1.1 11 24 rfl
  refine ⟨fun nz => ?_, fun _ => t_isNot o1 t1 hp 6⟩
  have c1 : R 1 1 1 := ⟨by decide, by decide⟩
  have c2 : R 2 2 2 := ⟨by decide, by decide⟩
  have c3 : R 3 3 3 := ⟨by decide, by decide⟩
  have c4 : R 4 4 4 := ⟨by decide, by decide⟩
  have c5 : R 5 5 5 := ⟨by decide, by decide⟩
  have g24 : R 0 19 ((mI h1 11 24) - 1) := R_sub (rf_ne_lo f24 nz (by decide) 1 (by decide)) c1 0 19 (by decide)
  have o2 := Ok_w o1 (k := 11) (j := 24) (v := (mI h1 11 24) - 1) (lo := 0) (hi := 20) rfl (R_w g24 (by decide)) (by decide) (by decide)
  refine t_was o2.1 (TVs_11 t1) (fun h3 k3 t3 x4 e4 => ?_)
  have o3 := Ok_tr o2 k3 (by decide)
  have e24 : mI h3 11 24 = (mI h1 11 24) - 1 := by rw [Ok_eq k3 (by decide), mI_wI, if_pos ⟨rfl, rfl⟩]
  have fx : R 0 95 x4 := by rw [e4, e24]; exact R_mul c5 g24 0 95 (by decide)
  have f25 : R 0 20 (mI h3 11 25) := GI_rd o3.1 11 25 rfl
  refine ⟨vin fx (by decide), vin (R_add fx c1 0 96 (by decide)) (by decide), vin (R_add fx c2 0 97 (by decide)) (by decide), vin (R_add fx c3 0 98 (by decide)) (by decide), vin (R_add fx c4 0 99 (by decide)) (by decide), t_keep50 _ _ _ _ _ _ o3.1 f25 t3 (fun h10 k10 t10 => ?_)⟩
  have o10 := Ok_tr o3 k10 (by decide)
  have e24' : mI h10 11 24 = (mI h1 11 24) - 1 := by rw [Ok_eq k10 (by decide), e24]
  have f25' : R 0 20 (mI h10 11 25) := GI_rd o10.1 11 25 rfl
  obtain ⟨p, ep, hp20⟩ := i_49 g24
  have fin : ∀ v : Int32, R 0 20 v → MCv g yX11_copy uX11_copy [.ref 49, .int (49 * (mI (wI h10 11 25 v) 11 24)), .ref 45, .int 0, .int 49] (wI h10 11 25 v) (fun h12 => MCv g yX11_noCoins uX11_noCoins [.ref 11] h12 (fun h13 => P 1 h13)) := fun v fv => by
    rw [mI_wI, if_neg (by decide), e24']
    exact t_restore 49 _ 980 p rfl (by decide) (by decide) ep (by omega) (by omega) (rr49 p) (Ok_w o10 (k := 11) (j := 25) (v := v) (lo := 0) (hi := 20) rfl fv (by decide) (by decide)) (TVs_11 t10) (by rw [wI_o (by decide)]; exact t10.2.2.1 p hp20) (fun h' ok' t' => hp 1 h' ok' t')
  exact ⟨fun ne => fin _ (R_add (rf_ne_hi f25' ne (by decide) 19 (by decide)) c1 0 20 (by decide)), fun _ => fin 20 ⟨by decide, by decide⟩⟩
set_option maxRecDepth 100000 in
set_option maxHeartbeats 4000000 in
theorem u_X11_redo {g : gT} {h : mh_T} {P : Int32 → mh_T → Prop} (hG : GI h) (hI : TVs h) (hp : ∀ (v : Int32) (h' : mh_T), Ok msA h h' → TVs h' → ¬ mI h' 11 11 = 4 → P v h') : MCi g yX11_redo uX11_redo [.ref 11] h P := by
  refine e_X11_redo (s_X11_good hG (fun h1 k1 t4 => ?_))
  have o1 : Ok msA h h1 := Ok_mono k1 (by decide)
  have hp : ∀ (v : Int32) (h' : mh_T), Ok msA h1 h' → TVs h' → P v h' := fun v h' k t => hp v h' (Ok_tr o1 k (by decide)) t (k.2.2.2.2.2.2 t4)
  have o1 : Ok msA h1 h1 := Ok_rf o1.1
  have t1 : TVs h1 := TVs_fr k1.2.1 (by decide) hI
  have f24 : R 0 20 (mI h1 11 25) := GI_rd o1.1 11 25 rfl
  refine ⟨fun nz => ?_, fun _ => t_isNot o1 t1 hp 6⟩
  have c1 : R 1 1 1 := ⟨by decide, by decide⟩
  have c2 : R 2 2 2 := ⟨by decide, by decide⟩
  have c3 : R 3 3 3 := ⟨by decide, by decide⟩
  have c4 : R 4 4 4 := ⟨by decide, by decide⟩
  have c5 : R 5 5 5 := ⟨by decide, by decide⟩
  have g24 : R 0 19 ((mI h1 11 25) - 1) := R_sub (rf_ne_lo f24 nz (by decide) 1 (by decide)) c1 0 19 (by decide)
  have o2 := Ok_w o1 (k := 11) (j := 25) (v := (mI h1 11 25) - 1) (lo := 0) (hi := 20) rfl (R_w g24 (by decide)) (by decide) (by decide)
  refine t_was o2.1 (TVs_11 t1) (fun h3 k3 t3 x4 e4 => ?_)
  have o3 := Ok_tr o2 k3 (by decide)
  have e24 : mI h3 11 25 = (mI h1 11 25) - 1 := by rw [Ok_eq k3 (by decide), mI_wI, if_pos ⟨rfl, rfl⟩]
  have fx : R 0 95 x4 := by rw [e4, e24]; exact R_mul c5 g24 0 95 (by decide)
  have f25 : R 0 20 (mI h3 11 24) := GI_rd o3.1 11 24 rfl
  refine ⟨vin fx (by decide), vin (R_add fx c1 0 96 (by decide)) (by decide), vin (R_add fx c2 0 97 (by decide)) (by decide), vin (R_add fx c3 0 98 (by decide)) (by decide), vin (R_add fx c4 0 99 (by decide)) (by decide), t_keep49 _ _ _ _ _ _ o3.1 f25 t3 (fun h10 k10 t10 => ?_)⟩
  have o10 := Ok_tr o3 k10 (by decide)
  have e24' : mI h10 11 25 = (mI h1 11 25) - 1 := by rw [Ok_eq k10 (by decide), e24]
  have f25' : R 0 20 (mI h10 11 24) := GI_rd o10.1 11 24 rfl
  obtain ⟨p, ep, hp20⟩ := i_49 g24
  have fin : ∀ v : Int32, R 0 20 v → MCv g yX11_copy uX11_copy [.ref 50, .int (49 * (mI (wI h10 11 24 v) 11 25)), .ref 45, .int 0, .int 49] (wI h10 11 24 v) (fun h12 => MCv g yX11_noCoins uX11_noCoins [.ref 11] h12 (fun h13 => P 1 h13)) := fun v fv => by
    rw [mI_wI, if_neg (by decide), e24']
    exact t_restore 50 _ 980 p rfl (by decide) (by decide) ep (by omega) (by omega) (rr50 p) (Ok_w o10 (k := 11) (j := 24) (v := v) (lo := 0) (hi := 20) rfl fv (by decide) (by decide)) (TVs_11 t10) (by rw [wI_o (by decide)]; exact t10.2.2.2.1 p hp20) (fun h' ok' t' => hp 1 h' ok' t')
  exact ⟨fun ne => fin _ (R_add (rf_ne_hi f25' ne (by decide) 19 (by decide)) c1 0 20 (by decide)), fun _ => fin 20 ⟨by decide, by decide⟩⟩
set_option maxRecDepth 100000 in
set_option maxHeartbeats 4000000 in
theorem u_X11_mark {g : gT} {h : mh_T} {P : Int32 → mh_T → Prop} (hG : GI h) (hI : TVs h) (hp : ∀ (v : Int32) (h' : mh_T), Ok msA h h' → TVs h' → ¬ mI h' 11 11 = 4 → P v h') : MCi g yX11_mark uX11_mark [.ref 11] h P := by
  refine e_X11_mark (s_X11_good hG (fun h1 k1 t4 => ?_))
  have o1 : Ok msA h h1 := Ok_mono k1 (by decide)
  have hp : ∀ (v : Int32) (h' : mh_T), Ok msA h1 h' → TVs h' → P v h' := fun v h' k t => hp v h' (Ok_tr o1 k (by decide)) t (k.2.2.2.2.2.2 t4)
  have o1 : Ok msA h1 h1 := Ok_rf o1.1
  have t1 : TVs h1 := TVs_fr k1.2.1 (by decide) hI
  have no : ∀ l : Int32, ¬ l = 4 → MCi g yX11_no uX11_no [.ref 11, .int l] h1 (fun r6 h5 => P r6 h5) := fun l l4 => e_X11_no l (hp _ _ (Ok_w11 o1 l4 (by decide)) (TVs_11 t1))
  refine ⟨fun _ => ⟨fun ne => ?_, fun _ => no 3 (by decide)⟩, fun _ => no 1 (by decide)⟩
  have c1 : R 1 1 1 := ⟨by decide, by decide⟩
  have f26 : R 0 4 (mI h1 11 26) := GI_rd o1.1 11 26 rfl
  have g26 : R 0 3 (mI h1 11 26) := rf_ne_hi f26 ne (by decide) 3 (by decide)
  obtain ⟨p, ep, _⟩ := i_49 (R_w g26 (by decide))
  have p4 : p < 4 := by
    have a1 := g26.1
    have a2 := g26.2
    have : (49 * (mI h1 11 26)).toInt = 49 * (mI h1 11 26).toInt := by rw [Int32.toInt_mul, show (49 : Int32).toInt = 49 from by decide, bm (by omega) (by omega)]
    omega
  refine t_copy 45 346 0 51 196 (49 * (mI h1 11 26)) rfl rfl (by decide) (by decide) 0 p (by decide) ep (by decide) (by omega) (by decide) (by omega) rr45 (rr51 p) (by decide) o1.1 (fun h4 k4 cp => ?_)
  have o4 := Ok_tr o1 k4 (by decide)
  have e26 : mI h4 11 26 = mI h1 11 26 := Ok_eq k4 (by decide)
  have t4 : TVs h4 := by
    have e45 := OkC k4 (k := 45) (by decide)
    refine ⟨?_, ?_, ?_, ?_, ?_, ?_⟩
    · rw [e45]; exact t1.1
    · rw [OkC k4 (k := 48) (by decide)]; exact t1.2.1
    · rw [OkC k4 (k := 49) (by decide)]; exact t1.2.2.1
    · rw [OkC k4 (k := 50) (by decide)]; exact t1.2.2.2.1
    · intro q hq
      by_cases e : q = p
      · rw [e]
        exact TQ_cp t1.1 cp.1
      · exact TQ_cp (t1.2.2.2.2.1 q hq) (fun j hj => cp.2 _ (by omega))
    · rw [e45]; exact t1.2.2.2.2.2
  refine hp _ _ (Ok_w o4 (k := 11) (j := 26) (v := (mI h4 11 26) + 1) (lo := 0) (hi := 4) rfl (by rw [e26]; exact R_add g26 c1 0 4 (by decide)) (by decide) (by decide)) (TVs_11 t4)
set_option maxRecDepth 100000 in
set_option maxHeartbeats 4000000 in
theorem u_X11_back {g : gT} {h : mh_T} {P : Int32 → mh_T → Prop} (l1 : Int32) (hG : GI h) (hI : TVs h) (hp : ∀ (v : Int32) (h' : mh_T), Ok msA h h' → TVs h' → ¬ mI h' 11 11 = 4 → P v h') : MCi g yX11_back uX11_back [.ref 11, .int l1] h P := by
  refine e_X11_back l1 (s_X11_good hG (fun h1 k1 t4 => ?_))
  have o1 : Ok msA h h1 := Ok_mono k1 (by decide)
  have hp : ∀ (v : Int32) (h' : mh_T), Ok msA h1 h' → TVs h' → P v h' := fun v h' k t => hp v h' (Ok_tr o1 k (by decide)) t (k.2.2.2.2.2.2 t4)
  have o1 : Ok msA h1 h1 := Ok_rf o1.1
  have t1 : TVs h1 := TVs_fr k1.2.1 (by decide) hI
  have f26 : R 0 4 (mI h1 11 26) := GI_rd o1.1 11 26 rfl
  refine s_X11_within _ _ _ o1.1 (fun v _ hv => ⟨fun nz => ?_, fun _ => t_isNot o1 t1 hp 1⟩)
  obtain ⟨a, b⟩ := hv nz
  have a := i_le.mp a
  have b := i_le.mp b
  rw [i_0] at a
  rw [sub1, ti_dec f26 (by decide)] at b
  have m1 := f26.2
  have g1 : R 0 3 l1 := ⟨a, by omega⟩
  obtain ⟨p, ep, _⟩ := i_49 (R_w g1 (by decide))
  have p4 : p < 4 := by
    have a2 := g1.2
    have : (49 * l1).toInt = 49 * l1.toInt := by rw [Int32.toInt_mul, show (49 : Int32).toInt = 49 from by decide, bm (by omega) (by omega)]
    omega
  refine t_copy 51 196 (49 * l1) 45 346 0 rfl rfl (by decide) (by decide) p 0 ep (by decide) (by omega) (by decide) (by omega) (by decide) (rr51 p) rr45 (by decide) o1.1 (fun h2 k2 cp => ?_)
  have o2 := Ok_tr o1 k2 (by decide)
  have t2 := TVs_back t1 k2 (t1.2.2.2.2.1 p p4) cp
  have o3 := Ok_w o2 (k := 11) (j := 24) (v := 0) (lo := 0) (hi := 20) rfl ⟨by decide, by decide⟩ (by decide) (by decide)
  have o4 := Ok_w o3 (k := 11) (j := 25) (v := 0) (lo := 0) (hi := 20) rfl ⟨by decide, by decide⟩ (by decide) (by decide)
  exact s_X11_noCoins o4.1 (fun h3 k3 => hp 1 h3 (Ok_tr o4 k3 (by decide)) (TVs_47 (TVs_11 (TVs_11 t2)) k3))
