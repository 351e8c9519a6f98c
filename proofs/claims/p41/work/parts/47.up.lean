/-! the reference's bounding, turnOver and goesUp, as they are -/
def tx_bd (r : Nat → Int32) (b : Nat → Nat) (c K : Nat) (v : Int32) : Prop :=
  (v.toInt = -1 ∧ ∀ i, i < K → tx_t r b i c ≤ 0) ∨ ∃ k : Nat, k < K ∧ v.toInt = (k : Int) ∧ 0 < tx_t r b k c ∧ ∀ i, i < K → 0 < tx_t r b i c → tx_t r b k (tx_n r) * tx_t r b i c ≤ tx_t r b i (tx_n r) * tx_t r b k c ∧ (tx_t r b k (tx_n r) * tx_t r b i c = tx_t r b i (tx_n r) * tx_t r b k c → b k ≤ b i)
theorem fr_lt {a b c d e f : Int} (hd : 0 < d) (hb : 0 < b) (hf : 0 < f) (h1 : a * d < c * b) (h2 : c * f ≤ e * d) : a * f < e * b := by
  have g1 : a * d * f < c * b * f := Int.mul_lt_mul_of_pos_right h1 hf
  have g2 : c * f * b ≤ e * d * b := Int.mul_le_mul_of_nonneg_right h2 (Int.le_of_lt hb)
  have g3 : d * (a * f) < d * (e * b) := by
    have i1 : a * d * f = d * (a * f) := by grind
    have i2 : e * d * b = d * (e * b) := by grind
    have i3 : c * b * f = c * f * b := by grind
    omega
  exact Int.lt_of_mul_lt_mul_left g3 (Int.le_of_lt hd)
theorem fr_eq {a b c d e f : Int} (hd : 0 < d) (h1 : a * d = c * b) (h2 : a * f = e * b) (hb : 0 < b) : c * f = e * d := by
  have g : b * (c * f) = b * (e * d) := by
    have i1 : b * (c * f) = c * b * f := by grind
    have i2 : b * (e * d) = e * b * d := by grind
    have i3 : a * d * f = a * f * d := by grind
    rw [i1, i2, ← h1, ← h2, i3]
  exact Int.eq_of_mul_eq_mul_left (by omega) g
/-- a further row is no better -/
theorem bd_keep {r : Nat → Int32} {b : Nat → Nat} {c K k : Nat} {v : Int32} (hk : k < K) (hv : v.toInt = (k : Int)) (h0 : 0 < tx_t r b k c) (h : ∀ i, i < K → 0 < tx_t r b i c → tx_t r b k (tx_n r) * tx_t r b i c ≤ tx_t r b i (tx_n r) * tx_t r b k c ∧ (tx_t r b k (tx_n r) * tx_t r b i c = tx_t r b i (tx_n r) * tx_t r b k c → b k ≤ b i)) (hK : 0 < tx_t r b K c → tx_t r b k (tx_n r) * tx_t r b K c ≤ tx_t r b K (tx_n r) * tx_t r b k c ∧ (tx_t r b k (tx_n r) * tx_t r b K c = tx_t r b K (tx_n r) * tx_t r b k c → b k ≤ b K)) : tx_bd r b c (K + 1) v := by
  refine Or.inr ⟨k, by omega, hv, h0, fun i hi hp => ?_⟩
  by_cases e : i = K
  · subst e; exact hK hp
  · exact h i (by omega) hp
theorem bd_new {r : Nat → Int32} {b : Nat → Nat} {c K k : Nat} {v : Int32} (hv : v.toInt = (K : Int)) (hK : 0 < tx_t r b K c) (h0 : 0 < tx_t r b k c) (h : ∀ i, i < K → 0 < tx_t r b i c → tx_t r b k (tx_n r) * tx_t r b i c ≤ tx_t r b i (tx_n r) * tx_t r b k c ∧ (tx_t r b k (tx_n r) * tx_t r b i c = tx_t r b i (tx_n r) * tx_t r b k c → b k ≤ b i)) (hn : tx_t r b K (tx_n r) * tx_t r b k c < tx_t r b k (tx_n r) * tx_t r b K c ∨ (tx_t r b K (tx_n r) * tx_t r b k c = tx_t r b k (tx_n r) * tx_t r b K c ∧ b K < b k)) : tx_bd r b c (K + 1) v := by
  refine Or.inr ⟨K, by omega, hv, hK, fun i hi hp => ?_⟩
  by_cases e : i = K
  · subst e; exact ⟨Int.le_refl _, fun _ => Nat.le_refl _⟩
  · obtain ⟨h1, h2⟩ := h i (by omega) hp
    rcases hn with q | ⟨q, qb⟩
    · have := fr_lt h0 hK hp q h1
      exact ⟨Int.le_of_lt this, fun z => by omega⟩
    · refine ⟨fr_tr h0 hK hp (Int.le_of_eq q) h1, fun z => ?_⟩
      have := h2 (fr_eq h0 q z hK)
      omega
set_option maxRecDepth 100000 in
set_option maxHeartbeats 4000000 in
theorem t_bounding_4 {g : gT} {h : mh_T} {P : Int32 → mh_T → Prop} {r : Nat → Int32} {w1 w2 : Nat → Int} {b : Nat → Nat} (hT : TB r w1 w2 b h) (hR : tx_R r) (hg : tx_g r b) (l1 : Int32) (c : Nat) (hc : l1.toInt = (c : Int)) (hcn : c < tx_n r) (hp : ∀ v : Int32, tx_bd r b c (tx_m r) v → P v h) : ∀ (n : Nat) (l2 l3 : Int32) (k : Nat), l3.toInt = (k : Int) → k ≤ tx_m r → tx_m r - k < n → tx_bd r b c k l2 → ME g uX11_bounding 4 [.ref 11, .int l1, .int l2, .int l3, .retAddr 0, .retAddr 0, .retAddr 0, .retAddr 0, .retAddr 0, .retAddr 0, .retAddr 0, .retAddr 0] [] h (qI P) := by
  intro n
  induction n with
  | zero => intro l2 l3 k _ _ hn _; exact absurd hn (Nat.not_lt_zero _)
  | succ n ih =>
    intro l2 l3 k hk hkm hn hb
    obtain ⟨t1, t2, t3, t4, t5, t6⟩ := hT
    have m32 := tx_m32 hR
    have n96 := tx_n96 hR
    have hw : ((mI h 11 31) - 1).toInt = (tx_n r : Int) := by
      rw [i_sub t3 (show (1 : Int32).toInt = 1 from by decide) (by omega)]
      omega
    refine r_X11_bounding_4 l1 l2 l3 ⟨fun q => ?_, fun q => ?_⟩
    · have q := i_le.mp q
      have : k = tx_m r := by omega
      subst this
      exact hp l2 hb
    · have q : k < tx_m r := by have := i_lt.mp (nle q); omega
      have TT : ∀ j, j ≤ tx_n r → ∀ i, i < tx_m r → (mL h 54 (97 * i + j)).toInt = tx_t r b i j := fun j hj i hi => by
        rw [t6 i j (by omega) hj]
        unfold tx_T
        rw [if_pos hi]
      refine e_X11_cell _ _ ⟨ce_p hk hc (by omega) (by omega), fun x5 e5 => ?_⟩
      rw [ce_n hk hc (by omega) (by omega)] at e5
      have v5 : x5.toInt = tx_t r b k c := by rw [e5]; exact TT c (by omega) k q
      have go : ∀ l2 : Int32, tx_bd r b c (k + 1) l2 → ME g uX11_bounding 4 [.ref 11, .int l1, .int l2, .int (l3 + 1), .retAddr 0, .retAddr 0, .retAddr 0, .retAddr 0, .retAddr 0, .retAddr 0, .retAddr 0, .retAddr 0] [] h (qI P) := fun l2 hb2 => ih l2 (l3 + 1) (k + 1) (i_inc hk (by omega)) (by omega) (by omega) hb2
      refine ⟨fun pos => ⟨fun nn => ?_, fun neg => ?_⟩, fun npos => ?_⟩
      · have pos : 0 < tx_t r b k c := by have := lg_gt.mp pos; rw [v5, ti_0] at this; exact this
        rcases hb with ⟨z, _⟩ | ⟨k0, b1, b2, b3, b4⟩
        · exfalso
          have := i_le.mp nn
          rw [z, i_0] at this
          omega
        · refine e_X11_cell _ _ ⟨ce_p b2 hc (by omega) (by omega), fun x11 e11 => ?_⟩
          rw [ce_n b2 hc (by omega) (by omega)] at e11
          have v11 : x11.toInt = tx_t r b k0 c := by rw [e11]; exact TT c (by omega) k0 (by omega)
          refine e_X11_cell _ _ ⟨ce_p hk hw (by omega) (by omega), fun x15 e15 => ?_⟩
          rw [ce_n hk hw (by omega) (by omega)] at e15
          refine e_X11_cell _ _ ⟨ce_p b2 hw (by omega) (by omega), fun x19 e19 => ?_⟩
          rw [ce_n b2 hw (by omega) (by omega)] at e19
          have B1 := tx_b2 hR hg k (tx_n r)
          have B2 := tx_b2 hR hg k0 (tx_n r)
          have B3 := tx_b3 hR hg k hcn
          have B4 := tx_b3 hR hg k0 hcn
          have v15 : x15.toInt = tx_t r b k (tx_n r) * tx_t r b k0 c := by
            have u := TT (tx_n r) (Nat.le_refl _) k q
            have := ab_mul B1 B4
            rw [e15, l_mul (by rw [u, v11]; omega), u, v11]
          have v19 : x19.toInt = tx_t r b k0 (tx_n r) * tx_t r b k c := by
            have u := TT (tx_n r) (Nat.le_refl _) k0 (by omega)
            have := ab_mul B2 B3
            rw [e19, l_mul (by rw [u, v5]; omega), u, v5]
          refine ⟨fun lt => ?_, fun nlt => ⟨fun ne => ?_, fun eq => ⟨i_vp hk (by omega), i_vp b2 (by omega), fun le => ?_, fun nle' => ?_⟩⟩⟩
          · have lt := lg_lt.mp lt
            rw [v15, v19] at lt
            exact go l3 (bd_new hk pos b3 b4 (Or.inl lt))
          · have h1 : ¬ x15.toInt < x19.toInt := fun z => nlt (lg_lt.mpr z)
            have h2 : ¬ x15.toInt = x19.toInt := fun z => ne (lg_0.mpr z)
            rw [v15, v19] at h1 h2
            exact go l2 (bd_keep b1 b2 b3 b4 (fun _ => ⟨by omega, fun z => absurd z.symm h2⟩))
          · have h2 := lg_0.mp eq
            rw [v15, v19] at h2
            have le := i_le.mp le
            rw [i_nat hk, i_nat b2, t4 k q, t4 k0 (by omega)] at le
            exact go l2 (bd_keep b1 b2 b3 b4 (fun _ => ⟨by omega, fun _ => by omega⟩))
          · have h2 := lg_0.mp eq
            rw [v15, v19] at h2
            have le := i_lt.mp (nle nle')
            rw [i_nat hk, i_nat b2, t4 k q, t4 k0 (by omega)] at le
            exact go l3 (bd_new hk pos b3 b4 (Or.inr ⟨h2, by omega⟩))
      · have pos : 0 < tx_t r b k c := by have := lg_gt.mp pos; rw [v5, ti_0] at this; exact this
        rcases hb with ⟨z, z2⟩ | ⟨k0, b1, b2, b3, b4⟩
        · refine go l3 (Or.inr ⟨k, by omega, hk, pos, fun i hi hp => ?_⟩)
          by_cases e : i = k
          · subst e; exact ⟨Int.le_refl _, fun _ => Nat.le_refl _⟩
          · have := z2 i (by omega); omega
        · exfalso
          have := i_lt.mp (nle neg)
          rw [b2, i_0] at this
          omega
      · have np : tx_t r b k c ≤ 0 := by
          refine Int.not_lt.mp (fun z => npos (lg_gt.mpr ?_))
          rw [v5, ti_0]
          exact z
        rcases hb with ⟨z, z2⟩ | ⟨k0, b1, b2, b3, b4⟩
        · refine go l2 (Or.inl ⟨z, fun i hi => ?_⟩)
          by_cases e : i = k
          · subst e; exact np
          · exact z2 i (by omega)
        · exact go l2 (bd_keep b1 b2 b3 b4 (fun z => absurd z (by omega)))
theorem t_bounding {g : gT} {h : mh_T} {P : Int32 → mh_T → Prop} {r : Nat → Int32} {w1 w2 : Nat → Int} {b : Nat → Nat} (hT : TB r w1 w2 b h) (hR : tx_R r) (hg : tx_g r b) (l1 : Int32) (c : Nat) (hc : l1.toInt = (c : Int)) (hcn : c < tx_n r) (hp : ∀ v : Int32, tx_bd r b c (tx_m r) v → P v h) : MCi g yX11_bounding uX11_bounding [.ref 11, .int l1] h P :=
  e_X11_bounding l1 (t_bounding_4 hT hR hg l1 c hc hcn hp (tx_m r + 1) (-1) 0 0 (by decide) (Nat.zero_le _) (by omega) (Or.inl ⟨by decide, fun i hi => absurd hi (Nat.not_lt_zero _)⟩))
