/-! turnOver and goesUp of the reference -/
def TM (r : Nat → Int32) (w1 w2 : Nat → Int) (b : Nat → Nat) (k c : Nat) (i j : Nat) (h : mh_T) : Prop :=
  h.1 45 = r ∧ (mI h 11 30).toInt = (tx_m r : Int) ∧ (mI h 11 31).toInt = (tx_n r : Int) + 1 ∧ (∀ i, i < tx_m r → (mI h 55 i).toInt = (b i : Int)) ∧ (mL h 11 29).toInt = tx_D r b
  ∧ ∀ i' j', i' < tx_m r + 2 → j' ≤ tx_n r → (mL h 54 (97 * i' + j')).toInt = if i' < i ∨ (i' = i ∧ j' < j) then tx_T r w1 w2 (sx_u b k c) i' j' else tx_T r w1 w2 b i' j'
theorem TM_0 {r : Nat → Int32} {w1 w2 : Nat → Int} {b : Nat → Nat} {k c : Nat} {h : mh_T} (hT : TB r w1 w2 b h) : TM r w1 w2 b k c 0 0 h := by
  obtain ⟨t1, t2, t3, t4, t5, t6⟩ := hT
  refine ⟨t1, t2, t3, t4, t5, fun i' j' h1 h2 => ?_⟩
  rw [if_neg (by omega)]
  exact t6 i' j' h1 h2
theorem TM_s {r : Nat → Int32} {w1 w2 : Nat → Int} {b : Nat → Nat} {k c i : Nat} {h : mh_T} (hT : TM r w1 w2 b k c i (tx_n r + 1) h) : TM r w1 w2 b k c (i + 1) 0 h := by
  obtain ⟨t1, t2, t3, t4, t5, t6⟩ := hT
  refine ⟨t1, t2, t3, t4, t5, fun i' j' h1 h2 => ?_⟩
  rw [t6 i' j' h1 h2]
  by_cases q : i' < i ∨ (i' = i ∧ j' < tx_n r + 1)
  · rw [if_pos q, if_pos (by omega)]
  · rw [if_neg q, if_neg (by omega)]
theorem TM_r {r : Nat → Int32} {w1 w2 : Nat → Int} {b : Nat → Nat} {k c : Nat} {h : mh_T} (hk : k < tx_m r) (hT : TM r w1 w2 b k c k 0 h) : TM r w1 w2 b k c (k + 1) 0 h := by
  obtain ⟨t1, t2, t3, t4, t5, t6⟩ := hT
  refine ⟨t1, t2, t3, t4, t5, fun i' j' h1 h2 => ?_⟩
  rw [t6 i' j' h1 h2]
  by_cases q : i' < k ∨ (i' = k ∧ j' < 0)
  · rw [if_pos q, if_pos (by omega)]
  · rw [if_neg q]
    by_cases e : i' = k
    · rw [if_pos (by omega), e, tx_pr c j' hk]
    · rw [if_neg (by omega)]
set_option maxRecDepth 100000 in
set_option maxHeartbeats 4000000 in
theorem t_turnOver_50 {g : gT} {h0 : mh_T} {P : mh_T → Prop} {r : Nat → Int32} {w1 w2 : Nat → Int} {b : Nat → Nat} (hR : tx_R r) (hg : tx_g r b) (hw1 : tx_w w1) (hw2 : tx_w w2) (l1 l2 : Int32) (l3 : Int64) (k c : Nat) (hk : l1.toInt = (k : Int)) (hkm : k < tx_m r) (hcn : c < tx_n r) (hpos : 0 < tx_t r b k c) (h3 : l3.toInt = tx_t r b k c) (l5 : Int32) (l6 : Int64) (i : Nat) (hi : l5.toInt = (i : Int)) (him : i < tx_m r + 2) (hik : i ≠ k) (h6 : l6.toInt = tx_T r w1 w2 b i c) (K : ∀ h : mh_T, Ok [300, 11, 54, 55] h0 h → TM r w1 w2 b k c (i + 1) 0 h → ME g uX11_turnOver 14 [.ref 11, .int l1, .int l2, .long l3, .retAddr 0, .int (l5 + 1), .retAddr 0, .retAddr 0, .retAddr 0] [] h (qV P)) : ∀ (n : Nat) (l8 : Int32) (j : Nat) (h : mh_T), l8.toInt = (j : Int) → j ≤ tx_n r + 1 → tx_n r + 1 - j < n → Ok [300, 11, 54, 55] h0 h → TM r w1 w2 b k c i j h → ME g uX11_turnOver 50 [.ref 11, .int l1, .int l2, .long l3, .retAddr 0, .int l5, .long l6, .retAddr 0, .int l8] [] h (qV P) := by
  intro n
  induction n with
  | zero => intro l8 j h _ _ hn; exact absurd hn (Nat.not_lt_zero _)
  | succ n ih =>
    intro l8 j h hj hjn hn ok hT
    have hT0 := hT
    obtain ⟨t1, t2, t3, t4, t5, t6⟩ := hT
    have m32 := tx_m32 hR
    have n96 := tx_n96 hR
    refine r_X11_turnOver_50 l1 l2 l3 l5 l6 l8 ⟨fun q => ?_, fun q => ?_⟩
    · have q := i_le.mp q
      have : j = tx_n r + 1 := by omega
      subst this
      exact K h ok (TM_s hT0)
    · have q : j ≤ tx_n r := by have := i_lt.mp (nle q); omega
      have d1 := hg.1
      have d1 : 0 < tx_D r b := d1
      refine e_X11_cell _ _ (e_X11_cell _ _ ⟨ce_p hi hj (by omega) (by omega), e_X11_cell _ _ ⟨ce_p hk hj (by omega) (by omega), ?_, ce_p hi hj (by omega) (by omega), ?_⟩⟩)
      · intro z
        rw [z, ti_0] at t5
        omega
      · rw [ce_n hi hj (by omega) (by omega), ce_n hk hj (by omega) (by omega)]
        have v1 : (mL h 54 (97 * i + j)).toInt = tx_T r w1 w2 b i j := by rw [t6 i j him q, if_neg (by omega)]
        have v2 : (mL h 54 (97 * k + j)).toInt = tx_t r b k j := by
          have e : tx_T r w1 w2 b k j = tx_t r b k j := by unfold tx_T; rw [if_pos hkm]
          rw [t6 k j (by omega) q]
          split
          · rw [tx_pr c j hkm, e]
          · exact e
        have B1 := tx_T2 hR hg hw1 hw2 i j
        have B2 := tx_b3 hR hg k hcn
        have B3 := tx_T3 hR hg hw1 hw2 i hcn
        have B4 := tx_b2 hR hg k j
        have M1 := ab_mul B1 B2
        have M2 := ab_mul B3 B4
        have e1 : ((mL h 54 (97 * i + j)) * l3).toInt = tx_T r w1 w2 b i j * tx_t r b k c := by rw [l_mul (by rw [v1, h3]; omega), v1, h3]
        have e2 : (l6 * (mL h 54 (97 * k + j))).toInt = tx_T r w1 w2 b i c * tx_t r b k j := by rw [l_mul (by rw [h6, v2]; omega), h6, v2]
        have e3 : (((mL h 54 (97 * i + j)) * l3) - (l6 * (mL h 54 (97 * k + j)))).toInt = tx_D r b * tx_T r w1 w2 (sx_u b k c) i j := by rw [l_sub (by rw [e1, e2]; omega), e1, e2, tx_pv c j hkm hik]
        have hbd : -9223372036854775808 ≤ tx_T r w1 w2 (sx_u b k c) i j ∧ tx_T r w1 w2 (sx_u b k c) i j ≤ 9223372036854775807 := by
          have e4 := tx_pv (r := r) (w1 := w1) (w2 := w2) (b := b) (i := i) c j hkm hik
          have e5 : -9223372036854775808 ≤ tx_D r b * tx_T r w1 w2 (sx_u b k c) i j ∧ tx_D r b * tx_T r w1 w2 (sx_u b k c) i j ≤ 9223372036854775807 := by omega
          generalize tx_T r w1 w2 (sx_u b k c) i j = X at e5
          rcases Int.le_total 0 X with z | z
          · have : 1 * X ≤ tx_D r b * X := Int.mul_le_mul_of_nonneg_right (by omega) z
            omega
          · have : 1 * (-X) ≤ tx_D r b * (-X) := Int.mul_le_mul_of_nonneg_right (by omega) (by omega)
            have e7 : tx_D r b * (-X) = -(tx_D r b * X) := Int.mul_neg _ _
            omega
        have e6 : ((((mL h 54 (97 * i + j)) * l3) - (l6 * (mL h 54 (97 * k + j)))) / (mL h 11 29)).toInt = tx_T r w1 w2 (sx_u b k c) i j := l_div (by rw [t5]; omega) (by rw [e3, t5]) hbd
        refine ih (l8 + 1) (j + 1) _ (i_inc hj (by omega)) (by omega) (by omega) (Ok_wL ok (by decide)) ⟨t1, t2, t3, t4, t5, fun i' j' h1 h2 => ?_⟩
        rw [mL_wL]
        by_cases e : i' = i ∧ j' = j
        · rw [if_pos ⟨rfl, by rw [e.1, e.2]⟩, if_pos (by omega), e.1, e.2]
          exact e6
        · rw [if_neg (fun z => ce_ne (by omega) (by omega) e z.2), t6 i' j' h1 h2]
          by_cases q2 : i' < i ∨ (i' = i ∧ j' < j)
          · rw [if_pos q2, if_pos (by omega)]
          · rw [if_neg q2, if_neg (by omega)]
set_option maxRecDepth 100000 in
set_option maxHeartbeats 4000000 in
theorem t_turnOver_14 {g : gT} {h0 : mh_T} {P : mh_T → Prop} {r : Nat → Int32} {w1 w2 : Nat → Int} {b : Nat → Nat} (hR : tx_R r) (hg : tx_g r b) (hw1 : tx_w w1) (hw2 : tx_w w2) (l1 l2 : Int32) (l3 : Int64) (k c : Nat) (hk : l1.toInt = (k : Int)) (hc : l2.toInt = (c : Int)) (hkm : k < tx_m r) (hcn : c < tx_n r) (hpos : 0 < tx_t r b k c) (h3 : l3.toInt = tx_t r b k c) (hp : ∀ h : mh_T, Ok [300, 11, 54, 55] h0 h → TB r w1 w2 (sx_u b k c) h → P h) : ∀ (n : Nat) (l5 : Int32) (i : Nat) (h : mh_T), l5.toInt = (i : Int) → i ≤ tx_m r + 2 → tx_m r + 2 - i < n → Ok [300, 11, 54, 55] h0 h → TM r w1 w2 b k c i 0 h → ME g uX11_turnOver 14 [.ref 11, .int l1, .int l2, .long l3, .retAddr 0, .int l5, .retAddr 0, .retAddr 0, .retAddr 0] [] h (qV P) := by
  intro n
  induction n with
  | zero => intro l5 i h _ _ hn; exact absurd hn (Nat.not_lt_zero _)
  | succ n ih =>
    intro l5 i h hi him hn ok hT
    have hT0 := hT
    obtain ⟨t1, t2, t3, t4, t5, t6⟩ := hT
    have m32 := tx_m32 hR
    have n96 := tx_n96 hR
    have e1 : ((mI h 11 30) + 1).toInt = (tx_m r : Int) + 1 := i_add t2 (by decide) (by omega)
    refine r_X11_turnOver_14 l1 l2 l3 l5 ⟨fun q => ?_, fun q => ⟨fun ne => ?_, fun eq => ?_⟩⟩
    · have q := i_lt.mp q
      have : i = tx_m r + 2 := by omega
      subst this
      refine ⟨i_vp hk (by omega), hp _ ?_ ?_⟩
      · refine Ok_w (Ok_wL ok (by decide)) (lo := 0) (hi := 96) rfl ⟨by omega, by omega⟩ (by decide) (nt_k (by decide))
      · refine ⟨t1, t2, t3, fun i' h1 => ?_, h3, fun i' j' h1 h2 => ?_⟩
        · rw [mI_wI, i_nat hk]
          by_cases e : i' = k
          · rw [if_pos ⟨rfl, e⟩, e, sx_u_eq]
            exact hc
          · rw [if_neg (fun z => e z.2), sx_u_ne b c e]
            exact t4 i' h1
        · have := t6 i' j' h1 h2
          rw [if_pos (by omega)] at this
          exact this
    · have q : i < tx_m r + 2 := by
        have : ¬ ((mI h 11 30) + 1).toInt < l5.toInt := fun z => q (i_lt.mpr z)
        omega
      have hik : i ≠ k := fun z => ne (Int32.toInt_inj.mp (by rw [hi, hk, z]))
      refine e_X11_cell _ _ ⟨ce_p hi hc (by omega) (by omega), fun x7 e7 => ?_⟩
      rw [ce_n hi hc (by omega) (by omega)] at e7
      have v7 : x7.toInt = tx_T r w1 w2 b i c := by rw [e7, t6 i c q (by omega), if_neg (by omega)]
      exact t_turnOver_50 hR hg hw1 hw2 l1 l2 l3 k c hk hkm hcn hpos h3 l5 x7 i hi q hik v7 (fun h' ok' hT' => ih (l5 + 1) (i + 1) h' (i_inc hi (by omega)) (by omega) (by omega) ok' hT') (tx_n r + 2) 0 0 h (by decide) (Nat.zero_le _) (by omega) ok hT0
    · have hik : i = k := by rw [eq, hk] at hi; omega
      subst hik
      exact ih (l5 + 1) (i + 1) h (i_inc hi (by omega)) (by omega) (by omega) ok (TM_r hkm hT0)
theorem t_turnOver {g : gT} {h0 h : mh_T} {P : mh_T → Prop} {r : Nat → Int32} {w1 w2 : Nat → Int} {b : Nat → Nat} (ok : Ok [300, 11, 54, 55] h0 h) (hT : TB r w1 w2 b h) (hR : tx_R r) (hg : tx_g r b) (hw1 : tx_w w1) (hw2 : tx_w w2) (l1 l2 : Int32) (k c : Nat) (hk : l1.toInt = (k : Int)) (hc : l2.toInt = (c : Int)) (hkm : k < tx_m r) (hcn : c < tx_n r) (hpos : 0 < tx_t r b k c) (hp : ∀ h : mh_T, Ok [300, 11, 54, 55] h0 h → TB r w1 w2 (sx_u b k c) h → P h) : MCv g yX11_turnOver uX11_turnOver [.ref 11, .int l1, .int l2] h P := by
  have m32 := tx_m32 hR
  have n96 := tx_n96 hR
  refine e_X11_turnOver l1 l2 (e_X11_cell _ _ ⟨ce_p hk hc (by omega) (by omega), fun x4 e4 => ?_⟩)
  rw [ce_n hk hc (by omega) (by omega)] at e4
  have v4 : x4.toInt = tx_t r b k c := by
    rw [e4, hT.2.2.2.2.2 k c (by omega) (by omega)]
    unfold tx_T
    rw [if_pos hkm]
  exact t_turnOver_14 hR hg hw1 hw2 l1 l2 x4 k c hk hc hkm hcn hpos v4 hp (tx_m r + 3) 0 0 h (by decide) (Nat.zero_le _) (by omega) ok (TM_0 hT)
/-- goesUp: the aim is row m (which = 0) or row m + 1 -/
def tx_al (a : Nat) : Prop := a = 1
def tx_en (r : Nat → Int32) (a : Nat) (w1 w2 : Nat → Int) (n : Nat) (b : Nat → Nat) : Prop := sx_en (tx_C r) (tx_m r) (tx_n r) (tx_al a) w1 (if a = 0 then w1 else w2) n b
def tx_el (r : Nat → Int32) (a : Nat) (w1 w2 : Nat → Int) (b : Nat → Nat) (j : Nat) : Prop := tx_o r (if a = 0 then w1 else w2) b j < 0 ∧ (tx_al a → tx_o r w1 b j = 0)
set_option maxRecDepth 100000 in
set_option maxHeartbeats 4000000 in
theorem t_goesUp_11 {g : gT} {h0 : mh_T} {P : mh_T → Prop} {r : Nat → Int32} {w1 w2 : Nat → Int} (hR : tx_R r) (hw1 : tx_w w1) (hw2 : tx_w w2) (l1 : Int32) (a : Nat) (ha : a = 0 ∨ a = 1) (hl : l1.toInt = (tx_m r : Int) + a) {b : Nat → Nat} (hg : tx_g r b) (h : mh_T) (ok : Ok [300, 11, 54, 55] h0 h) (hT : TB r w1 w2 b h) (hp : P h) (K : ∀ (k c : Nat) (h' : mh_T), Ok [300, 11, 54, 55] h0 h' → sx_pk (tx_C r) (tx_m r) (tx_n r) (tx_al a) w1 (if a = 0 then w1 else w2) b c k → TB r w1 w2 (sx_u b k c) h' → ME g uX11_goesUp 2 [.ref 11, .int l1, .int 1, .retAddr 0, .retAddr 0] [] h' (qV P)) : ∀ (n : Nat) (l3 l4 : Int32) (j : Nat), l4.toInt = (j : Int) → j ≤ tx_n r → tx_n r - j < n → ((l3.toInt = -1 ∧ ∀ q, q < j → ¬ tx_el r a w1 w2 b q) ∨ (∃ c : Nat, l3.toInt = (c : Int) ∧ c < tx_n r ∧ tx_el r a w1 w2 b c ∧ ∀ q, q < c → ¬ tx_el r a w1 w2 b q)) → ME g uX11_goesUp 11 [.ref 11, .int l1, .int 1, .int l3, .int l4] [] h (qV P) := by
  have hT0 := hT
  obtain ⟨t1, t2, t3, t4, t5, t6⟩ := hT
  have m32 := tx_m32 hR
  have n96 := tx_n96 hR
  have hw : ((mI h 11 31) - 1).toInt = (tx_n r : Int) := by
    rw [i_sub t3 (show (1 : Int32).toInt = 1 from by decide) (by omega)]
    omega
  have hl' : l1.toInt = ((tx_m r + a : Nat) : Int) := by omega
  have stop : ME g uX11_goesUp 2 [.ref 11, .int l1, .int 0, .retAddr 0, .retAddr 0] [] h (qV P) := r_X11_goesUp_2 l1 0 ⟨fun _ => hp, fun z => absurd rfl z⟩
  have aimv : ∀ j, j ≤ tx_n r → (mL h 54 (97 * (tx_m r + a) + j)).toInt = tx_o r (if a = 0 then w1 else w2) b j := by
    intro j hj
    rw [t6 (tx_m r + a) j (by omega) hj]
    unfold tx_T
    rw [if_neg (by omega)]
    rcases ha with e | e
    · rw [if_pos (by omega), if_pos e]
    · rw [if_neg (by omega), if_neg (by omega)]
  have sumv : ∀ j, j ≤ tx_n r → (mL h 54 (97 * (tx_m r) + j)).toInt = tx_o r w1 b j := by
    intro j hj
    rw [t6 (tx_m r) j (by omega) hj]
    unfold tx_T
    rw [if_neg (by omega), if_pos rfl]
  have turn : ∀ (l3 : Int32) (c : Nat), l3.toInt = (c : Int) → c < tx_n r → tx_el r a w1 w2 b c → (∀ q, q < c → ¬ tx_el r a w1 w2 b q) → MCi g yX11_bounding uX11_bounding [.ref 11, .int l3] h (fun r4 h3 => (r4 < 0 → ME g uX11_goesUp 2 [.ref 11, .int l1, .int 0, .retAddr 0, .retAddr 0] [] h3 (qV P)) ∧ (¬ r4 < 0 → MCv g yX11_turnOver uX11_turnOver [.ref 11, .int r4, .int l3] h3 (fun h8 => ME g uX11_goesUp 2 [.ref 11, .int l1, .int 1, .retAddr 0, .retAddr 0] [] h8 (qV P)))) := by
    intro l3 c h1 h2 h3 h4
    refine t_bounding hT0 hR hg l3 c h1 h2 (fun v hv => ⟨fun _ => stop, fun nn => ?_⟩)
    rcases hv with ⟨z, _⟩ | ⟨k, b1, b2, b3, b4⟩
    · exfalso
      exact nn (i_lt.mpr (by rw [z, i_0]; decide))
    · refine t_turnOver ok hT0 hR hg hw1 hw2 v l3 k c b2 h1 b1 h2 b3 (fun h' ok' hT' => K k c h' ok' ?_ hT')
      refine ⟨h2, h3.1, h3.2, fun q hq hal => ?_, b1, b3, b4⟩
      refine Int.not_lt.mp (fun z => h4 q hq ⟨z, hal⟩)
  intro n
  induction n with
  | zero => intro l3 l4 j _ _ hn; exact absurd hn (Nat.not_lt_zero _)
  | succ n ih =>
    intro l3 l4 j hj hjn hn hs
    have fin : (0 ≤ l3 → MCi g yX11_bounding uX11_bounding [.ref 11, .int l3] h (fun r4 h3 => (r4 < 0 → ME g uX11_goesUp 2 [.ref 11, .int l1, .int 0, .retAddr 0, .retAddr 0] [] h3 (qV P)) ∧ (¬ r4 < 0 → MCv g yX11_turnOver uX11_turnOver [.ref 11, .int r4, .int l3] h3 (fun h8 => ME g uX11_goesUp 2 [.ref 11, .int l1, .int 1, .retAddr 0, .retAddr 0] [] h8 (qV P))))) ∧ (¬ 0 ≤ l3 → ME g uX11_goesUp 2 [.ref 11, .int l1, .int 0, .retAddr 0, .retAddr 0] [] h (qV P)) := by
      refine ⟨fun nn => ?_, fun _ => stop⟩
      rcases hs with ⟨z, _⟩ | ⟨c, c1, c2, c3, c4⟩
      · exfalso
        have := i_le.mp nn
        rw [z, i_0] at this
        omega
      · exact turn l3 c c1 c2 c3 c4
    refine r_X11_goesUp_11 l1 1 l3 l4 ⟨fun _ => fin, fun q => ⟨fun _ => fin, fun nn => ?_⟩⟩
    have q : j < tx_n r := by have := i_lt.mp (nle q); omega
    rcases hs with ⟨z, z2⟩ | ⟨c, c1, c2, c3, c4⟩
    · have skip : ¬ tx_el r a w1 w2 b j → ME g uX11_goesUp 11 [.ref 11, .int l1, .int 1, .int l3, .int (l4 + 1)] [] h (qV P) := fun ne => ih l3 (l4 + 1) (j + 1) (i_inc hj (by omega)) (by omega) (by omega) (Or.inl ⟨z, fun q hq => by
          by_cases e : q = j
          · rw [e]; exact ne
          · exact z2 q (by omega)⟩)
      have take : tx_el r a w1 w2 b j → ME g uX11_goesUp 11 [.ref 11, .int l1, .int 1, .int l4, .int (l4 + 1)] [] h (qV P) := fun el => ih l4 (l4 + 1) (j + 1) (i_inc hj (by omega)) (by omega) (by omega) (Or.inr ⟨j, hj, q, el, z2⟩)
      refine e_X11_cell _ _ ⟨ce_p hl' hj (by omega) (by omega), fun ge => ?_, fun lt => ⟨fun eq => ?_, fun ne => ?_⟩⟩
      · refine skip (fun el => ?_)
        have ge := lg_ge.mp ge
        rw [ce_n hl' hj (by omega) (by omega), aimv j (by omega), ti_0] at ge
        have := el.1
        omega
      · refine take ⟨?_, fun al => ?_⟩
        · refine Int.not_le.mp (fun z => lt (lg_ge.mpr ?_))
          rw [ce_n hl' hj (by omega) (by omega), aimv j (by omega), ti_0]
          exact z
        · exfalso
          have al : a = 1 := al
          rw [eq, t2] at hl
          omega
      · have ht2 : (mI h 11 30).toInt = ((tx_m r : Nat) : Int) := t2
        refine e_X11_cell _ _ ⟨ce_p ht2 hj (by omega) (by omega), fun nz => ?_, fun ez => ?_⟩
        · refine skip (fun el => nz (lg_0.mpr ?_))
          rw [ce_n ht2 hj (by omega) (by omega), sumv j (by omega), ti_0]
          refine el.2 ?_
          rcases ha with e | e
          · exfalso
            apply ne
            apply Int32.toInt_inj.mp
            rw [hl, t2]
            omega
          · exact e
        · refine take ⟨?_, fun _ => ?_⟩
          · refine Int.not_le.mp (fun z => lt (lg_ge.mpr ?_))
            rw [ce_n hl' hj (by omega) (by omega), aimv j (by omega), ti_0]
            exact z
          · have := lg_0.mp ez
            rw [ce_n ht2 hj (by omega) (by omega), sumv j (by omega), ti_0] at this
            exact this
    · exfalso
      apply nn
      rw [i_le, c1, i_0]
      omega
theorem t_goesUp_2 {g : gT} {h0 : mh_T} {P : mh_T → Prop} {r : Nat → Int32} {w1 w2 : Nat → Int} (hR : tx_R r) (hw1 : tx_w w1) (hw2 : tx_w w2) (l1 : Int32) (a : Nat) (ha : a = 0 ∨ a = 1) (hl : l1.toInt = (tx_m r : Int) + a) (hp : ∀ (h : mh_T) (b : Nat → Nat), Ok [300, 11, 54, 55] h0 h → tx_g r b → TB r w1 w2 b h → P h) : ∀ (n : Nat) (b : Nat → Nat) (h : mh_T), tx_g r b → tx_en r a w1 w2 n b → Ok [300, 11, 54, 55] h0 h → TB r w1 w2 b h → ME g uX11_goesUp 2 [.ref 11, .int l1, .int 1, .retAddr 0, .retAddr 0] [] h (qV P) := by
  intro n
  induction n with
  | zero => intro b h _ he; exact absurd he (fun z => z)
  | succ n ih =>
    intro b h hg he ok hT
    exact r_X11_goesUp_2 l1 1 ⟨fun z => absurd z (by decide), fun _ => t_goesUp_11 hR hw1 hw2 l1 a ha hl hg h ok hT (hp h b ok hg hT) (fun k c h' ok' pk hT' => ih _ h' (sx_g_pk hg pk) (he c k pk) ok' hT') (tx_n r + 1) (-1) 0 0 (by decide) (Nat.zero_le _) (by omega) (Or.inl ⟨by decide, fun q hq => absurd hq (Nat.not_lt_zero _)⟩)⟩
theorem t_goesUp {g : gT} {h0 h : mh_T} {P : mh_T → Prop} {r : Nat → Int32} {w1 w2 : Nat → Int} {b : Nat → Nat} (ok : Ok [300, 11, 54, 55] h0 h) (hT : TB r w1 w2 b h) (hR : tx_R r) (hg : tx_g r b) (hw1 : tx_w w1) (hw2 : tx_w w2) (l1 : Int32) (a : Nat) (ha : a = 0 ∨ a = 1) (hl : l1.toInt = (tx_m r : Int) + a) (hp : ∀ (h : mh_T) (b : Nat → Nat), Ok [300, 11, 54, 55] h0 h → tx_g r b → TB r w1 w2 b h → P h) : MCv g yX11_goesUp uX11_goesUp [.ref 11, .int l1] h P := by
  obtain ⟨n, hn⟩ := sx_end (C := tx_C r) (m := tx_m r) (n := tx_n r) (al := tx_al a) (w1 := w1) (w := if a = 0 then w1 else w2) hg
  exact e_X11_goesUp l1 (t_goesUp_2 hR hw1 hw2 l1 a ha hl hp n b h hg hn ok hT)
