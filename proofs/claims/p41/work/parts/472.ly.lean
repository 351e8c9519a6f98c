/-! layTab: the first tableau -/
theorem i_cl {x : Int32} (h : 0 ≤ x.toInt) : x.toInt = (x.toNatClampNeg : Int) := by
  show _ = ((x.toInt.toNat : Nat) : Int)
  omega
theorem bit_all : ∀ x, x < 64 → ∀ a, a < 8 → (((nI x) >>> ((nI a - 2) &&& 31)) &&& 1).toInt = tc_A ((a : Int) - 2) x := by decide +kernel
theorem bit_v {y l : Int32} {x : Nat} (hy : y.toInt = (x : Int)) (hx : x < 64) (hl : R (-2) 5 l) : ((y >>> (l &&& 31)) &&& 1).toInt = tc_A l.toInt x := by
  have e1 : y = nI x := Int32.toInt_inj.mp (by rw [hy, nI_toInt (by omega)])
  have h1 := hl.1
  have h2 := hl.2
  obtain ⟨a, ha⟩ : ∃ a : Nat, (a : Int) = l.toInt + 2 := ⟨(l.toInt + 2).toNat, by omega⟩
  have e2 : l = nI a - 2 := Int32.toInt_inj.mp (by
    rw [i_sub (nI_toInt (n := a) (by omega)) (show (2 : Int32).toInt = 2 from by decide) (by omega)]
    omega)
  have := bit_all x hx a (by omega)
  rw [← e1, ← e2] at this
  rw [this]
  congr 1
  omega
theorem mI45 {h : mh_T} {r : Nat → Int32} (t : h.1 45 = r) (j : Nat) : mI h 45 j = r j := by
  show h.1 45 j = r j
  rw [t]
theorem t_fitted {g : gT} {h : mh_T} {P : Int32 → mh_T → Prop} {r : Nat → Int32} (t : h.1 45 = r) (hR : tx_R r) (l1 l2 : Int32) (s x : Nat) (h1 : l1.toInt = (s : Int)) (h2 : l2.toInt = (x : Int)) (hs : s < 8) (hx : x < 64) (hp : ∀ v : Int32, v.toInt = tc_f (tx_tw r s) (tx_la r s) (tx_lb r s) x → P v h) : MCi g yX11_fitted uX11_fitted [.ref 11, .int l1, .int l2] h P := by
  have a1 : (1 + l1).toInt = ((1 + s : Nat) : Int) := by rw [i_add (show (1 : Int32).toInt = 1 from by decide) h1 (by omega)]; omega
  have a9 : (9 + l1).toInt = ((9 + s : Nat) : Int) := by rw [i_add (show (9 : Int32).toInt = 9 from by decide) h1 (by omega)]; omega
  have R1 := (hR.2.1 s hs).1
  have R2 := (hR.2.1 s hs).2
  have b1 := bit_v h2 hx (R_w R1 (by decide))
  have b2 := bit_v h2 hx R2
  refine e_X11_fitted l1 l2 ⟨i_vp a1 (by omega), fun x2 e2 => ⟨i_vp a9 (by omega), fun ne => ⟨i_vp a9 (by omega), hp _ ?_⟩, fun eq => hp _ ?_⟩⟩
  · rw [i_nat a9, mI45 t] at ne
    rw [i_nat a1, mI45 t] at e2
    rw [i_nat a9, mI45 t]
    rw [← e2] at b1
    unfold tc_f tx_tw tx_la tx_lb
    rw [if_pos (decide_eq_true ne)]
    have c1 := tc_A01 (r (1 + s)).toInt x
    have c2 := tc_A01 (r (9 + s)).toInt x
    have d1 : (2 * x2).toInt = 2 * tc_A (r (1 + s)).toInt x := by
      rw [Int32.toInt_mul, show (2 : Int32).toInt = 2 from by decide, b1, bm (by omega) (by omega)]
    rw [i_add d1 b2 (by omega)]
  · rw [i_nat a9, mI45 t] at eq
    rw [i_nat a1, mI45 t] at e2
    rw [← e2] at b1
    unfold tc_f tx_tw tx_la tx_lb
    rw [if_neg (fun z => (of_decide_eq_true (p := ¬ r (9 + s) = -2) z) eq)]
    exact b1
theorem t_outcomes {g : gT} {h : mh_T} {P : Int32 → mh_T → Prop} {r : Nat → Int32} (t : h.1 45 = r) (l1 : Int32) (s : Nat) (h1 : l1.toInt = (s : Int)) (hs : s < 8) (hp : ∀ v : Int32, v.toInt = (tc_oc (tx_tw r) s : Int) → P v h) : MCi g yX11_outcomes uX11_outcomes [.ref 45, .int l1] h P := by
  have a9 : (9 + l1).toInt = ((9 + s : Nat) : Int) := by rw [i_add (show (9 : Int32).toInt = 9 from by decide) h1 (by omega)]; omega
  refine e_X11_outcomes l1 ⟨i_vp a9 (by omega), fun ne => hp _ ?_, fun eq => hp _ ?_⟩
  · rw [i_nat a9, mI45 t] at ne
    unfold tc_oc tx_tw
    rw [if_pos (decide_eq_true ne)]
    decide
  · rw [i_nat a9, mI45 t] at eq
    unfold tc_oc tx_tw
    rw [if_neg (fun z => (of_decide_eq_true (p := ¬ r (9 + s) = -2) z) eq)]
    decide
theorem t_hiddenMany {g : gT} {h : mh_T} {P : Int32 → mh_T → Prop} {r : Nat → Int32} (t : h.1 45 = r) (hR : tx_R r) (hp : ∀ v : Int32, v.toInt = (tx_many r : Int) → P v h) : MCi g yX11_hiddenMany uX11_hiddenMany [.ref 11] h P := by
  refine e_X11_hiddenMany (hp _ ?_)
  have e : mI h 45 (Int32.toNatClampNeg 50) = r 50 := mI45 t 50
  rw [e]
  have h1 := hR.2.2.1.1
  have h2 := hR.2.2.1.2
  obtain ⟨a, ha⟩ : ∃ a : Nat, (a : Int) = (r 50).toInt := ⟨(r 50).toInt.toNat, by omega⟩
  have e2 : r 50 = nI a := Int32.toInt_inj.mp (by rw [nI_toInt (by omega)]; exact ha.symm)
  have e3 : (r 50).toNatClampNeg = a := i_nat ha.symm
  unfold tx_many
  rw [e3, e2, shl_all a (by omega), Int.natCast_pow]
  rfl
def LB (r : Nat → Int32) (i x : Nat) (h : mh_T) : Prop :=
  h.1 45 = r ∧ (mI h 11 30).toInt = (tx_m r : Int) ∧ (mI h 11 31).toInt = (tx_n r : Int) + 1 ∧ (∀ k, k < i → (mI h 55 k).toInt = ((tx_many r + k : Nat) : Int))
  ∧ ∀ i' j, i' < tx_m r + 2 → j ≤ tx_n r → (mL h 54 (97 * i' + j)).toInt = if i' < i ∨ (i' = i ∧ j < x) then tx_C r j i' else 0
def tx_w1 (r : Nat → Int32) : Nat → Int := fun k => if k < tx_many r then 1 else 0
def tx_b0 (r : Nat → Int32) : Nat → Nat := fun i => tx_many r + i
theorem tx_C1 (r : Nat → Int32) : ∀ i, i < tx_m r → ∀ l, l < tx_m r → tx_C r (tx_many r + i) l = la_1 i l := by
  intro i hi l _
  have hi : i < tc_st (tc_oc (tx_tw r)) (tx_q r) := hi
  unfold tx_C tc_C
  rw [if_neg (by omega), if_pos (by omega), Nat.add_sub_cancel_left]
theorem tx_Cx (r : Nat → Int32) {s o x : Nat} (hs : s < tx_q r) (ho : o < tc_oc (tx_tw r) s) (hx : x < tx_many r) : tx_C r x (tc_st (tc_oc (tx_tw r)) s + o) = if tc_f (tx_tw r s) (tx_la r s) (tx_lb r s) x = (o : Int) then 1 else 0 := by
  unfold tx_C tc_C tc_N
  rw [if_pos hx, tc_rs_at _ hs ho, Nat.add_sub_cancel_left]
theorem tx_Cn (r : Nat → Int32) {s o : Nat} (hs : s < tx_q r) (ho : o < tc_oc (tx_tw r) s) : tx_C r (tx_n r) (tc_st (tc_oc (tx_tw r)) s + o) = tx_tm r s o := by
  have e : tx_n r = tx_many r + tc_st (tc_oc (tx_tw r)) (tx_q r) := rfl
  unfold tx_C tc_C
  rw [if_neg (by omega), if_neg (by omega), tc_rs_at _ hs ho, Nat.add_sub_cancel_left]
theorem tx_m_lt (r : Nat → Int32) {s o : Nat} (hs : s < tx_q r) (ho : o < tc_oc (tx_tw r) s) : tc_st (tc_oc (tx_tw r)) s + o < tx_m r := by
  have : tc_st (tc_oc (tx_tw r)) (s + 1) ≤ tx_m r := tc_mono _ hs
  have : tc_st (tc_oc (tx_tw r)) s + tc_oc (tx_tw r) s ≤ tx_m r := this
  omega
theorem tx_g0 {r : Nat → Int32} (hR : tx_R r) : tx_g r (tx_b0 r) := by
  refine ⟨?_, fun i hi => ?_, fun i hi => ?_⟩
  · have e := sx_D0 (tx_C1 r)
    show 0 < sx_D (tx_C r) (tx_m r) (fun i => tx_many r + i)
    rw [e]
    decide
  · have e := sx_t0 (tx_C1 r) hi (tx_n r)
    show 0 ≤ sx_t (tx_C r) (tx_m r) (fun i => tx_many r + i) i (tx_n r)
    rw [e]
    have hi' : i < tc_st (tc_oc (tx_tw r)) (tx_q r) := hi
    have k1 := tc_rs_o (tc_oc (tx_tw r)) i hi'
    have k2 : 0 < tx_q r := by
      rcases Nat.eq_zero_or_pos (tx_q r) with z | z
      · rw [z] at hi'
        exact absurd hi' (Nat.not_lt_zero _)
      · exact z
    have k3 := tc_rs_lt (tc_oc (tx_tw r)) i k2
    have k4 := tx_Cn r k3 (o := i - tc_st (tc_oc (tx_tw r)) (tc_rs (tc_oc (tx_tw r)) (tx_q r) i)) (by omega)
    rw [show tc_st (tc_oc (tx_tw r)) (tc_rs (tc_oc (tx_tw r)) (tx_q r) i) + (i - tc_st (tc_oc (tx_tw r)) (tc_rs (tc_oc (tx_tw r)) (tx_q r) i)) = i by omega] at k4
    rw [k4]
    exact (tx_tmb hR _ _ k3 (by omega)).1
  · show tx_many r + i < tx_many r + tx_m r
    omega
set_option maxRecDepth 100000 in
set_option maxHeartbeats 4000000 in
theorem t_layTab_221 {g : gT} {h0 : mh_T} {P : mh_T → Prop} {r : Nat → Int32} (hR : tx_R r) (l1 l2 : Int32) (h1 : l1.toInt = (tx_many r : Int)) (hp : ∀ h : mh_T, Ok [300, 11, 54, 55] h0 h → TB r (tx_w1 r) (fun _ => 0) (tx_b0 r) h → P h) : ∀ (n : Nat) (l3 : Int32) (x : Nat) (h : mh_T), l3.toInt = (x : Int) → x ≤ tx_many r → tx_many r - x < n → Ok [300, 11, 54, 55] h0 h → (h.1 45 = r ∧ (mI h 11 30).toInt = (tx_m r : Int) ∧ (mI h 11 31).toInt = (tx_n r : Int) + 1 ∧ (∀ k, k < tx_m r → (mI h 55 k).toInt = ((tx_many r + k : Nat) : Int)) ∧ ∀ i' j, i' < tx_m r + 2 → j ≤ tx_n r → (mL h 54 (97 * i' + j)).toInt = if i' < tx_m r then tx_C r j i' else if i' = tx_m r ∧ j < x then -1 else 0) → ME g uX11_layTab 221 [.ref 11, .int l1, .int l2, .int l3, .retAddr 0, .retAddr 0] [] h (qV P) := by
  intro n
  induction n with
  | zero => intro l3 x h _ _ hn; exact absurd hn (Nat.not_lt_zero _)
  | succ n ih =>
    intro l3 x h hx hxm hn ok hL
    obtain ⟨t1, t2, t3, t4, t5⟩ := hL
    have m32 := tx_m32 hR
    have n96 := tx_n96 hR
    have y64 := tx_y64 hR
    have t2' : (mI h 11 30).toInt = ((tx_m r : Nat) : Int) := t2
    refine r_X11_layTab_221 l1 l2 l3 ⟨fun q => ?_, fun q => ?_⟩
    · have q := i_le.mp q
      have : x = tx_many r := by omega
      subst this
      refine hp _ (Ok_wL ok (by decide)) ⟨t1, t2, t3, t4, ?_, fun i' j h2 h3 => ?_⟩
      · have e : tx_D r (tx_b0 r) = 1 := sx_D0 (tx_C1 r)
        rw [e]
        show (mL (wL h 11 29 1) 11 29).toInt = 1
        rw [mL_wL, if_pos ⟨rfl, rfl⟩]
        decide
      · rw [mL_wL, if_neg (fun z => absurd z.1 (by decide)), t5 i' j h2 h3]
        have hw : ∀ i, i < tx_m r → tx_w1 r (tx_many r + i) = 0 := fun i _ => if_neg (by omega)
        unfold tx_T
        by_cases e1 : i' < tx_m r
        · rw [if_pos e1, if_pos e1]
          exact (sx_t0 (tx_C1 r) e1 j).symm
        · rw [if_neg e1, if_neg e1]
          by_cases e2 : i' = tx_m r
          · rw [if_pos e2]
            have := sx_o0 (tx_C1 r) hw j
            show _ = sx_o (tx_C r) (tx_m r) (tx_w1 r) (fun i => tx_many r + i) j
            rw [this]
            unfold tx_w1
            by_cases e3 : j < tx_many r
            · rw [if_pos ⟨e2, e3⟩, if_pos e3]
            · rw [if_neg (fun z => e3 z.2), if_neg e3]
              rfl
          · rw [if_neg (fun z => e2 z.1), if_neg e2]
            exact (sx_o0 (w := fun _ => 0) (tx_C1 r) (fun _ _ => rfl) j).symm
    · have q : x < tx_many r := by have := i_lt.mp (nle q); omega
      have hxn : x ≤ tx_n r := by unfold tx_n; omega
      refine e_X11_cell _ _ ⟨ce_p t2' hx (by omega) (by omega), ?_⟩
      rw [ce_n t2' hx (by omega) (by omega)]
      refine ih (l3 + 1) (x + 1) _ (i_inc hx (by omega)) (by omega) (by omega) (Ok_wL ok (by decide)) ⟨t1, t2, t3, t4, fun i' j h2 h3 => ?_⟩
      rw [mL_wL]
      by_cases e : i' = tx_m r ∧ j = x
      · rw [if_pos ⟨rfl, by rw [e.1, e.2]⟩, if_neg (by omega), if_pos (by omega)]
        decide
      · rw [if_neg (fun z => ce_ne (by omega) (by omega) e z.2), t5 i' j h2 h3]
        by_cases e1 : i' < tx_m r
        · rw [if_pos e1, if_pos e1]
        · rw [if_neg e1, if_neg e1]
          by_cases e2 : i' = tx_m r ∧ j < x
          · rw [if_pos e2, if_pos (by omega)]
          · rw [if_neg e2, if_neg (by omega)]
theorem LB_r {r : Nat → Int32} {i : Nat} {h : mh_T} (hL : LB r i 0 h) (him : i = tx_m r) : h.1 45 = r ∧ (mI h 11 30).toInt = (tx_m r : Int) ∧ (mI h 11 31).toInt = (tx_n r : Int) + 1 ∧ (∀ k, k < tx_m r → (mI h 55 k).toInt = ((tx_many r + k : Nat) : Int)) ∧ ∀ i' j, i' < tx_m r + 2 → j ≤ tx_n r → (mL h 54 (97 * i' + j)).toInt = if i' < tx_m r then tx_C r j i' else if i' = tx_m r ∧ j < 0 then -1 else 0 := by
  subst him
  obtain ⟨t1, t2, t3, t4, t5⟩ := hL
  refine ⟨t1, t2, t3, t4, fun i' j h2 h3 => ?_⟩
  rw [t5 i' j h2 h3]
  by_cases e : i' < tx_m r
  · rw [if_pos (Or.inl e), if_pos e]
  · rw [if_neg (by omega), if_neg e, if_neg (by omega)]
set_option maxRecDepth 100000 in
set_option maxHeartbeats 4000000 in
theorem t_layTab_112 {g : gT} {h0 : mh_T} {P : mh_T → Prop} {r : Nat → Int32} (hR : tx_R r) (l1 : Int32) (h1 : l1.toInt = (tx_many r : Int)) (l2 l3 l4 : Int32) (s o : Nat) (hs : l3.toInt = (s : Int)) (hsq : s < tx_q r) (ho : l4.toInt = (o : Int)) (hoc : o < tc_oc (tx_tw r) s) (hi : l2.toInt = ((tc_st (tc_oc (tx_tw r)) s + o : Nat) : Int)) (K : ∀ h : mh_T, Ok [300, 11, 54, 55] h0 h → LB r (tc_st (tc_oc (tx_tw r)) s + o + 1) 0 h → ME g uX11_layTab 96 [.ref 11, .int l1, .int (l2 + 1), .int l3, .int (l4 + 1), .retAddr 0] [] h (qV P)) : ∀ (n : Nat) (l5 : Int32) (x : Nat) (h : mh_T), l5.toInt = (x : Int) → x ≤ tx_many r → tx_many r - x < n → Ok [300, 11, 54, 55] h0 h → LB r (tc_st (tc_oc (tx_tw r)) s + o) x h → ME g uX11_layTab 112 [.ref 11, .int l1, .int l2, .int l3, .int l4, .int l5] [] h (qV P) := by
  have m32 := tx_m32 hR
  have n96 := tx_n96 hR
  have y64 := tx_y64 hR
  have q8 := tx_q8 hR
  have oc4 := tc_oc4 (tx_tw r) s
  have him := tx_m_lt r hsq hoc
  have cx := fun x => tx_Cx r (x := x) hsq hoc
  have cn := tx_Cn r hsq hoc
  have c1 := tx_C1 r
  generalize tc_st (tc_oc (tx_tw r)) s + o = i at hi him cx cn K ⊢
  have nm : tx_n r = tx_many r + tx_m r := rfl
  intro n
  induction n with
  | zero => intro l5 x h _ _ hn; exact absurd hn (Nat.not_lt_zero _)
  | succ n ih =>
    intro l5 x h hx hxm hn ok hL
    obtain ⟨t1, t2, t3, t4, t5⟩ := hL
    refine r_X11_layTab_112 l1 l2 l3 l4 l5 ⟨fun q => ?_, fun q => ?_⟩
    · have q := i_le.mp q
      have : x = tx_many r := by omega
      subst this
      have hc : (l1 + l2).toInt = ((tx_many r + i : Nat) : Int) := by rw [i_add h1 hi (by omega)]; omega
      refine e_X11_cell _ _ ⟨ce_p hi hc (by omega) (by omega), ?_⟩
      rw [ce_n hi hc (by omega) (by omega)]
      have hw : ((mI (wL h 54 (97 * i + (tx_many r + i)) 1) 11 31) - 1).toInt = (tx_n r : Int) := by
        rw [mI_wL, i_sub t3 (show (1 : Int32).toInt = 1 from by decide) (by omega)]
        omega
      have h17 : ((17 + (4 * l3)) + l4).toInt = ((17 + 4 * s + o : Nat) : Int) := by
        have e4 : (4 * l3).toInt = 4 * (s : Int) := by rw [Int32.toInt_mul, show (4 : Int32).toInt = 4 from by decide, hs, bm (by omega) (by omega)]
        rw [i_add (i_add (show (17 : Int32).toInt = 17 from by decide) e4 (by omega)) ho (by omega)]
        omega
      refine e_X11_cell _ _ ⟨i_vp h17 (by omega), ce_p hi hw (by omega) (by omega), i_vp hi (by omega), ?_⟩
      rw [ce_n hi hw (by omega) (by omega), i_nat hi, i_nat h17, mI_wL, mI45 t1]
      refine K _ (Ok_w (Ok_wL (Ok_wL ok (by decide)) (by decide)) (lo := 0) (hi := 96) rfl ⟨by omega, by omega⟩ (by decide) (nt_k (by decide))) ⟨t1, t2, t3, fun k hk => ?_, fun i' j h2 h3 => ?_⟩
      · rw [mI_wI]
        by_cases e : k = i
        · rw [if_pos ⟨rfl, e⟩, e]
          exact hc
        · rw [if_neg (fun z => e z.2)]
          exact t4 k (by omega)
      · rw [mL_wI, mL_wL]
        by_cases e : i' = i ∧ j = tx_n r
        · rw [if_pos ⟨rfl, by rw [e.1, e.2]⟩, if_pos (by omega), e.1, e.2, cn, Int32.toInt_toInt64]
          rfl
        · rw [if_neg (fun z => ce_ne (by omega) (by omega) e z.2), mL_wL]
          by_cases e2 : i' = i ∧ j = tx_many r + i
          · rw [if_pos ⟨rfl, by rw [e2.1, e2.2]⟩, if_pos (by omega), e2.1, e2.2, c1 i him i him]
            unfold la_1
            rw [if_pos rfl]
            decide
          · rw [if_neg (fun z => ce_ne (by omega) (by omega) e2 z.2), t5 i' j h2 h3]
            by_cases e3 : i' = i
            · rw [if_pos (show i' < i + 1 ∨ (i' = i + 1 ∧ j < 0) by omega)]
              by_cases e4 : j < tx_many r
              · rw [if_pos (by omega)]
              · rw [if_neg (by omega), e3]
                obtain ⟨k, hk⟩ : ∃ k, j = tx_many r + k := ⟨j - tx_many r, by omega⟩
                rw [hk, c1 k (by omega) i him]
                unfold la_1
                rw [if_neg (by omega)]
            · by_cases e5 : i' < i
              · rw [if_pos (Or.inl e5), if_pos (by omega)]
              · rw [if_neg (by omega), if_neg (by omega)]
    · have q : x < tx_many r := by have := i_lt.mp (nle q); omega
      have step : ∀ v : Int64, v.toInt = tx_C r x i → ME g uX11_layTab 112 [.ref 11, .int l1, .int l2, .int l3, .int l4, .int (l5 + 1)] [] (wL h 54 (97 * i + x) v) (qV P) := by
        intro v hv
        refine ih (l5 + 1) (x + 1) _ (i_inc hx (by omega)) (by omega) (by omega) (Ok_wL ok (by decide)) ⟨t1, t2, t3, t4, fun i' j h2 h3 => ?_⟩
        rw [mL_wL]
        by_cases e : i' = i ∧ j = x
        · rw [if_pos ⟨rfl, by rw [e.1, e.2]⟩, if_pos (by omega), e.1, e.2]
          exact hv
        · rw [if_neg (fun z => ce_ne (by omega) (by omega) e z.2), t5 i' j h2 h3]
          by_cases e2 : i' < i ∨ (i' = i ∧ j < x)
          · rw [if_pos e2, if_pos (by omega)]
          · rw [if_neg e2, if_neg (by omega)]
      refine e_X11_cell _ _ (t_fitted t1 hR l3 l5 s x hs hx (by omega) (by omega) (fun v hv => ⟨fun ne => ⟨ce_p hi hx (by omega) (by omega), ?_⟩, fun eq => ⟨ce_p hi hx (by omega) (by omega), ?_⟩⟩))
      · rw [ce_n hi hx (by omega) (by omega)]
        refine step 0 ?_
        rw [cx x q, if_neg]
        · decide
        · intro z
          apply ne
          apply Int32.toInt_inj.mp
          rw [hv, ho, z]
      · rw [ce_n hi hx (by omega) (by omega)]
        refine step 1 ?_
        rw [cx x q, if_pos]
        · decide
        · rw [← hv, eq, ho]
set_option maxRecDepth 100000 in
set_option maxHeartbeats 4000000 in
theorem t_layTab_96 {g : gT} {h0 : mh_T} {P : mh_T → Prop} {r : Nat → Int32} (hR : tx_R r) (l1 : Int32) (h1 : l1.toInt = (tx_many r : Int)) (l3 : Int32) (s : Nat) (hs : l3.toInt = (s : Int)) (hsq : s < tx_q r) (K : ∀ (l2 : Int32) (h : mh_T), l2.toInt = ((tc_st (tc_oc (tx_tw r)) (s + 1) : Nat) : Int) → Ok [300, 11, 54, 55] h0 h → LB r (tc_st (tc_oc (tx_tw r)) (s + 1)) 0 h → ME g uX11_layTab 83 [.ref 11, .int l1, .int l2, .int (l3 + 1), .retAddr 0, .retAddr 0] [] h (qV P)) : ∀ (n : Nat) (l2 l4 : Int32) (o : Nat) (h : mh_T), l4.toInt = (o : Int) → o ≤ tc_oc (tx_tw r) s → l2.toInt = ((tc_st (tc_oc (tx_tw r)) s + o : Nat) : Int) → tc_oc (tx_tw r) s - o < n → Ok [300, 11, 54, 55] h0 h → LB r (tc_st (tc_oc (tx_tw r)) s + o) 0 h → ME g uX11_layTab 96 [.ref 11, .int l1, .int l2, .int l3, .int l4, .retAddr 0] [] h (qV P) := by
  have m32 := tx_m32 hR
  have y64 := tx_y64 hR
  have q8 := tx_q8 hR
  have oc4 := tc_oc4 (tx_tw r) s
  intro n
  induction n with
  | zero => intro l2 l4 o h _ _ _ hn; exact absurd hn (Nat.not_lt_zero _)
  | succ n ih =>
    intro l2 l4 o h ho hoc hi hn ok hL
    refine r_X11_layTab_96 l1 l2 l3 l4 (t_outcomes hL.1 l3 s hs (by omega) (fun v hv => ⟨fun q => ?_, fun q => ?_⟩))
    · have q := i_le.mp q
      have : o = tc_oc (tx_tw r) s := by omega
      subst this
      exact K l2 h hi ok hL
    · have q : o < tc_oc (tx_tw r) s := by have := i_lt.mp (nle q); omega
      have him := tx_m_lt r hsq q
      exact t_layTab_112 hR l1 h1 l2 l3 l4 s o hs hsq ho q hi (fun h' ok' hL' => ih (l2 + 1) (l4 + 1) (o + 1) h' (i_inc ho (by omega)) (by omega) (show (l2 + 1).toInt = ((tc_st (tc_oc (tx_tw r)) s + (o + 1) : Nat) : Int) from i_inc hi (show tc_st (tc_oc (tx_tw r)) s + o < 2147483647 by omega)) (by omega) ok' hL') (tx_many r + 1) 0 0 h (by decide) (Nat.zero_le _) (by omega) ok hL
set_option maxRecDepth 100000 in
set_option maxHeartbeats 4000000 in
theorem t_layTab_83 {g : gT} {h0 : mh_T} {P : mh_T → Prop} {r : Nat → Int32} (hR : tx_R r) (l1 : Int32) (h1 : l1.toInt = (tx_many r : Int)) (hp : ∀ h : mh_T, Ok [300, 11, 54, 55] h0 h → TB r (tx_w1 r) (fun _ => 0) (tx_b0 r) h → P h) : ∀ (n : Nat) (l2 l3 : Int32) (s : Nat) (h : mh_T), l3.toInt = (s : Int) → s ≤ tx_q r → l2.toInt = ((tc_st (tc_oc (tx_tw r)) s : Nat) : Int) → tx_q r - s < n → Ok [300, 11, 54, 55] h0 h → LB r (tc_st (tc_oc (tx_tw r)) s) 0 h → ME g uX11_layTab 83 [.ref 11, .int l1, .int l2, .int l3, .retAddr 0, .retAddr 0] [] h (qV P) := by
  have q8 := tx_q8 hR
  have y64 := tx_y64 hR
  intro n
  induction n with
  | zero => intro l2 l3 s h _ _ _ hn; exact absurd hn (Nat.not_lt_zero _)
  | succ n ih =>
    intro l2 l3 s h hs hsq hi hn ok hL
    have e0 : (mI h 45 (Int32.toNatClampNeg 0)).toInt = (tx_q r : Int) := by
      rw [show mI h 45 (Int32.toNatClampNeg 0) = r 0 from mI45 hL.1 0]
      exact i_cl hR.1.1
    refine r_X11_layTab_83 l1 l2 l3 ⟨fun q => ?_, fun q => ?_⟩
    · have q := i_le.mp q
      have : s = tx_q r := by omega
      subst this
      exact t_layTab_221 hR l1 l2 h1 hp (tx_many r + 1) 0 0 h (by decide) (Nat.zero_le _) (by omega) ok (LB_r hL rfl)
    · have q : s < tx_q r := by have := i_lt.mp (nle q); omega
      exact t_layTab_96 hR l1 h1 l3 s hs q (fun l2' h' hi' ok' hL' => ih l2' (l3 + 1) (s + 1) h' (i_inc hs (by omega)) (by omega) hi' (by omega) ok' hL') (tc_oc (tx_tw r) s + 1) l2 0 0 h (by decide) (Nat.zero_le _) (by rw [Nat.add_zero]; exact hi) (by omega) ok hL
set_option maxRecDepth 100000 in
set_option maxHeartbeats 4000000 in
theorem t_layTab_59 {g : gT} {h0 : mh_T} {P : mh_T → Prop} {r : Nat → Int32} (hR : tx_R r) (l1 : Int32) (h1 : l1.toInt = (tx_many r : Int)) (hp : ∀ h : mh_T, Ok [300, 11, 54, 55] h0 h → TB r (tx_w1 r) (fun _ => 0) (tx_b0 r) h → P h) : ∀ (n : Nat) (l2 : Int32) (k : Nat) (h : mh_T), l2.toInt = (k : Int) → k ≤ 3298 → 3298 - k < n → Ok [300, 11, 54, 55] h0 h → h.1 45 = r → (mI h 11 30).toInt = (tx_m r : Int) → (mI h 11 31).toInt = (tx_n r : Int) + 1 → (∀ q, q < k → (mL h 54 q).toInt = 0) → ME g uX11_layTab 59 [.ref 11, .int l1, .int l2, .retAddr 0, .retAddr 0, .retAddr 0] [] h (qV P) := by
  have m32 := tx_m32 hR
  have n96 := tx_n96 hR
  have c3 : (3298 : Int32).toInt = 3298 := by decide
  intro n
  induction n with
  | zero => intro l2 k h _ _ hn; exact absurd hn (Nat.not_lt_zero _)
  | succ n ih =>
    intro l2 k h hk hk2 hn ok t1 t2 t3 t4
    refine r_X11_layTab_59 l1 l2 ⟨fun q => ?_, fun q => ⟨?_, ?_⟩⟩
    · have q := i_le.mp q
      have : k = 3298 := by omega
      subst this
      refine t_layTab_83 hR l1 h1 hp (tx_q r + 1) 0 0 0 h (by decide) (Nat.zero_le _) i_0 (by omega) ok ⟨t1, t2, t3, fun k hk => absurd hk (Nat.not_lt_zero _), fun i' j h2 h3 => ?_⟩
      have z : ¬ (i' < 0 ∨ (i' = 0 ∧ j < 0)) := by omega
      show _ = if i' < 0 ∨ (i' = 0 ∧ j < 0) then _ else _
      rw [if_neg z]
      exact t4 _ (by omega)
    · have q := i_lt.mp (nle q)
      exact i_vp hk (by omega)
    · have q := i_lt.mp (nle q)
      refine ih (l2 + 1) (k + 1) _ (i_inc hk (by omega)) (by omega) (by omega) (Ok_wL ok (by decide)) t1 t2 t3 (fun q hq => ?_)
      rw [mL_wL, i_nat hk]
      split
      · decide
      · rename_i z; exact t4 q (by omega)
set_option maxRecDepth 100000 in
set_option maxHeartbeats 4000000 in
theorem t_layTab_12 {g : gT} {h0 : mh_T} {P : mh_T → Prop} {r : Nat → Int32} (hR : tx_R r) (l1 : Int32) (h1 : l1.toInt = (tx_many r : Int)) (hp : ∀ h : mh_T, Ok [300, 11, 54, 55] h0 h → TB r (tx_w1 r) (fun _ => 0) (tx_b0 r) h → P h) : ∀ (n : Nat) (l2 : Int32) (s : Nat) (h : mh_T), l2.toInt = (s : Int) → s ≤ tx_q r → tx_q r - s < n → Ok [300, 11, 54, 55] h0 h → h.1 45 = r → (mI h 11 30).toInt = ((tc_st (tc_oc (tx_tw r)) s : Nat) : Int) → ME g uX11_layTab 12 [.ref 11, .int l1, .int l2, .retAddr 0, .retAddr 0, .retAddr 0] [] h (qV P) := by
  have q8 := tx_q8 hR
  have m32 := tx_m32 hR
  have y64 := tx_y64 hR
  have nm : tx_n r = tx_many r + tx_m r := rfl
  intro n
  induction n with
  | zero => intro l2 s h _ _ hn; exact absurd hn (Nat.not_lt_zero _)
  | succ n ih =>
    intro l2 s h hs hsq hn ok t1 t2
    have e0 : (mI h 45 (Int32.toNatClampNeg 0)).toInt = (tx_q r : Int) := by
      rw [show mI h 45 (Int32.toNatClampNeg 0) = r 0 from mI45 t1 0]
      exact i_cl hR.1.1
    refine r_X11_layTab_12 l1 l2 ⟨fun q => ?_, fun q => ?_⟩
    · have q := i_le.mp q
      have : s = tx_q r := by omega
      subst this
      have t2 : (mI h 11 30).toInt = (tx_m r : Int) := t2
      have hw : ((l1 + (mI h 11 30)) + 1).toInt = (tx_n r : Int) + 1 := by
        rw [i_add (i_add h1 t2 (by omega)) (show (1 : Int32).toInt = 1 from by decide) (by omega)]
        omega
      refine t_layTab_59 hR l1 h1 hp 3299 0 0 _ (by decide) (Nat.zero_le _) (by omega) (Ok_w ok (k := 11) (j := 31) (lo := 0) (hi := 97) rfl ⟨by omega, by omega⟩ (by decide) (by decide)) t1 ?_ ?_ (fun q hq => absurd hq (Nat.not_lt_zero _))
      · rw [mI_wI, if_neg (fun z => absurd z.2 (by decide))]
        exact t2
      · rw [mI_wI, if_pos ⟨rfl, rfl⟩]
        exact hw
    · have q : s < tx_q r := by have := i_lt.mp (nle q); omega
      refine t_outcomes t1 l2 s hs (by omega) (fun v hv => ?_)
      have hm : tc_st (tc_oc (tx_tw r)) (s + 1) ≤ tx_m r := tc_mono _ q
      have hm' : tc_st (tc_oc (tx_tw r)) (s + 1) = tc_st (tc_oc (tx_tw r)) s + tc_oc (tx_tw r) s := rfl
      have hv2 : ((mI h 11 30) + v).toInt = ((tc_st (tc_oc (tx_tw r)) (s + 1) : Nat) : Int) := by
        rw [i_add t2 hv (by omega)]
        omega
      refine ih (l2 + 1) (s + 1) _ (i_inc hs (by omega)) (by omega) (by omega) (Ok_w ok (k := 11) (j := 30) (lo := 0) (hi := 32) rfl ⟨by omega, by omega⟩ (by decide) (by decide)) t1 ?_
      rw [mI_wI, if_pos ⟨rfl, rfl⟩]
      exact hv2
theorem t_layTab {g : gT} {h0 h : mh_T} {P : mh_T → Prop} {r : Nat → Int32} (ok : Ok [300, 11, 54, 55] h0 h) (t1 : h.1 45 = r) (hR : tx_R r) (hp : ∀ h : mh_T, Ok [300, 11, 54, 55] h0 h → TB r (tx_w1 r) (fun _ => 0) (tx_b0 r) h → P h) : MCv g yX11_layTab uX11_layTab [.ref 11] h P := by
  refine e_X11_layTab (t_hiddenMany t1 hR (fun v hv => ?_))
  refine t_layTab_12 hR v hv hp (tx_q r + 1) 0 0 _ (by decide) (Nat.zero_le _) (by omega) (Ok_w ok (k := 11) (j := 30) (lo := 0) (hi := 32) rfl ⟨by decide, by decide⟩ (by decide) (by decide)) t1 ?_
  rw [mI_wI, if_pos ⟨rfl, rfl⟩]
  exact i_0
