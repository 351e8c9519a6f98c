theorem c_takeSign {g : gT} {h : mh_T} {P : mh_T → Prop} {T : Nat → Int32} {n e : Nat} (hG : GI h) (hT : Tp h T n) (hen : e ≤ n) (h9 : (mI h 1 9).toInt = (rx_s T n e : Int)) (h7 : (mI h 1 7).toInt = (rx_s T n e : Int)) (hl : ¬ (rx_s T n e < n ∧ rx_l (T (rx_s T n e)) = true)) (hd : ¬ (rx_s T n e < n ∧ rx_d (T (rx_s T n e)) = true)) (hp : ∀ h', Kp h h' → Tk h' T n e → P h') : MCv g yX6_takeSign uX6_takeSign [.ref 1] h P := by
  have hsn := rx_s_le (T := T) hen
  have f8 : ∀ v : Int32, Kp h (wI (wI h 1 8 0) 1 8 v) := fun v => Kp_w (Kp_w (Kp_rf hG) (j := 8) (v := 0) (by decide) (lo := -2147483648) (hi := 2147483647) (by decide) (R_full _)) (j := 8) (v := v) (by decide) (lo := -2147483648) (hi := 2147483647) (by decide) (R_full _)
  have e6 : mI (wI h 1 8 0) 1 6 = mI h 1 6 := by rw [mI_wI, if_neg (by decide)]
  have e7 : mI (wI h 1 8 0) 1 7 = mI h 1 7 := by rw [mI_wI, if_neg (by decide)]
  have e7v : ∀ v : Int32, mI (wI (wI h 1 8 0) 1 8 v) 1 7 = mI h 1 7 := fun v => by rw [mI_wI, if_neg (by decide), mI_wI, if_neg (by decide)]
  have fin : ∀ v : Int32, rx_s T n e < n → v = rx_k T n e → P (wI (wI (wI h 1 8 0) 1 8 v) 1 7 ((mI (wI (wI h 1 8 0) 1 8 v) 1 7) + 1)) := by
    intro v c hv
    rw [e7v v]
    have i7 := i_inc h7 (by have := hT.2.1; omega)
    have ee : rx_e T n e = rx_s T n e + 1 := by
      unfold rx_e
      rw [if_pos c, if_neg (fun a => hl ⟨c, a⟩), if_neg (fun a => hd ⟨c, a⟩)]
    refine hp _ (Kp_w (f8 v) (j := 7) (by decide) (lo := 0) (hi := 900) (by decide) ⟨by omega, by have := hT.2.1; omega⟩) ⟨?_, ?_, ?_, ?_, ?_⟩
    · rw [mI_wI, if_neg (by decide), mI_wI, if_neg (by decide), mI_wI, if_neg (by decide)]; exact h9
    · rw [mI_wI, if_pos ⟨rfl, rfl⟩, ee]; exact i7
    · rw [mI_wI, if_neg (by decide), mI_wI, if_pos ⟨rfl, rfl⟩]; exact hv
    · intro k3
      exfalso
      unfold rx_k at k3
      rw [if_pos c, if_neg (fun a => hl ⟨c, a⟩), if_neg (fun a => hd ⟨c, a⟩)] at k3
      split at k3
      · rename_i z
        rw [k3] at z
        revert z; decide
      · revert k3; decide
    · intro k3
      exfalso
      unfold rx_k at k3
      rw [if_pos c, if_neg (fun a => hl ⟨c, a⟩), if_neg (fun a => hd ⟨c, a⟩)] at k3
      split at k3
      · rename_i z
        rw [k3] at z
        revert z; decide
      · revert k3; decide
  have hk : rx_s T n e < n → rx_k T n e = if T (rx_s T n e) = 59 ∨ T (rx_s T n e) = 44 ∨ T (rx_s T n e) = 45 then T (rx_s T n e) else 1 := by
    intro c
    unfold rx_k
    rw [if_pos c, if_neg (fun a => hl ⟨c, a⟩), if_neg (fun a => hd ⟨c, a⟩)]
  refine e_X6_takeSign ⟨fun c => ?_, fun c => ?_⟩
  · rw [e6, e7, i_le, hT.1, h7] at c
    have hns : ¬ rx_s T n e < n := by omega
    have ee : rx_e T n e = rx_s T n e := by unfold rx_e; rw [if_neg hns]
    have ek : rx_k T n e = 0 := by unfold rx_k; rw [if_neg hns]
    refine hp _ (Kp_w (Kp_rf hG) (j := 8) (by decide) (lo := -2147483648) (hi := 2147483647) (by decide) (R_full _)) ⟨?_, ?_, ?_, ?_, ?_⟩
    · rw [mI_wI, if_neg (by decide)]; exact h9
    · rw [mI_wI, if_neg (by decide), ee]; exact h7
    · rw [mI_wI, if_pos ⟨rfl, rfl⟩, ek]
    · intro k3; rw [ek] at k3; exact absurd k3 (by decide)
    · intro k3; rw [ek] at k3; exact absurd k3 (by decide)
  · rw [e6, e7, i_le, hT.1, h7] at c
    have hs : rx_s T n e < n := by omega
    refine ⟨by rw [e7]; exact i_vp h7 (by have := hT.2.1; omega), fun x3 ex => ?_⟩
    have ex : x3 = T (rx_s T n e) := by
      rw [ex, e7, i_nat h7, mI_wI, if_neg (fun z => absurd z.1 (by decide))]
      exact hT.2.2 _ hs
    have hk := hk hs
    rw [← ex] at hk
    refine ⟨fun a => fin _ hs ?_, fun a => ⟨fun b => fin _ hs ?_, fun b => ⟨fun d => fin _ hs ?_, fun d => fin _ hs ?_⟩⟩⟩
    · rw [hk, if_pos (Or.inl a)]
    · rw [hk, if_pos (Or.inr (Or.inl b))]
    · rw [hk, if_neg (by rintro (z | z | z); exact a z; exact b z; exact d z)]
    · rw [hk, if_pos (Or.inr (Or.inr d))]
/-- a run of signs of one kind from the token's start -/
theorem c_next_d {g : gT} {h0 : mh_T} {P : mh_T → Prop} {T : Nat → Int32} {n e s : Nat} (hT : Tp h0 T n) (hen : e ≤ n) (es : rx_s T n e = s) (hl : ¬ (s < n ∧ rx_l (T s) = true)) (hp : ∀ h', Kp h0 h' → Tk h' T n e → P h') : ∀ (m : Nat) (h : mh_T) (p : Nat), Kp h0 h → (mI h 1 9).toInt = (s : Int) → (mI h 1 7).toInt = (p : Int) → s ≤ p → p ≤ n → n - p < m → (∀ i, s ≤ i → i < p → i < n ∧ rx_d (T i) = true) → mI h 1 11 = rx_vs T s (p - s) → ME g uX6_next 156 [.ref 1] [] h (qV P) := by
  intro m
  induction m with
  | zero => intro h p _ _ _ _ _ hm; exact absurd hm (Nat.not_lt_zero _)
  | succ m ih =>
    intro h p kp h9 h7 hsp hpn hm hin hv
    have hT' := Tp_k kp hT
    have n9 := hT.2.1
    have sg : ¬ (p < n ∧ rx_d (T p) = true) → (mI h 1 7) ≤ (mI h 1 9) → MCv g yX6_takeSign uX6_takeSign [.ref 1] h (fun h3 => P h3) := by
      intro hx c
      rw [i_le, h7, h9] at c
      have : p = s := by omega
      subst this
      subst es
      exact c_takeSign kp.1.1 hT' hen h9 h7 hl hx (fun h' a b => hp h' (Kp_tr kp a) b)
    have dn : ¬ (p < n ∧ rx_d (T p) = true) → ¬ (mI h 1 7) ≤ (mI h 1 9) → (3 < ((mI h 1 7) - (mI h 1 9)) → P (wI h 1 8 1)) ∧ (¬ 3 < ((mI h 1 7) - (mI h 1 9)) → P (wI h 1 8 3)) := by
      intro hx c
      rw [i_le, h7, h9] at c
      have hs : s < n := by omega
      have hd := (hin s (Nat.le_refl _) (by omega)).2
      have ep : rx_sc rx_d T n s = p := rx_eq _ s p rfl hsp hin hx
      have ee : rx_e T n e = p := by
        unfold rx_e
        rw [es, if_pos hs, if_neg (fun a => hl ⟨hs, a⟩), if_pos hd, ep]
      have ek : rx_k T n e = if p - s ≤ 3 then 3 else 1 := by
        unfold rx_k
        rw [ee, es, if_pos hs, if_neg (fun a => hl ⟨hs, a⟩), if_pos hd]
      have i79 : ((mI h 1 7) - (mI h 1 9)).toInt = (p : Int) - s := i_sub h7 h9 (by omega)
      have i3 : (3 : Int32).toInt = 3 := by decide
      have fin : ∀ v : Int32, v = rx_k T n e → P (wI h 1 8 v) := by
        intro v hv8
        refine hp _ (Kp_w kp (j := 8) (by decide) (lo := -2147483648) (hi := 2147483647) (by decide) (R_full _)) ⟨?_, ?_, ?_, ?_, ?_⟩
        · rw [mI_wI, if_neg (by decide), es]; exact h9
        · rw [mI_wI, if_neg (by decide), ee]; exact h7
        · rw [mI_wI, if_pos ⟨rfl, rfl⟩]; exact hv8
        · intro _
          rw [mI_wI, if_neg (by decide), hv]
          unfold rx_v
          rw [ee, es]
        · intro k3
          rw [ek] at k3
          split at k3 <;> exact absurd k3 (by decide)
      rw [i_lt, i79, i3]
      refine ⟨fun a => fin _ ?_, fun a => fin _ ?_⟩
      · rw [ek, if_neg (by omega)]
      · rw [ek, if_pos (by omega)]
    refine r_X6_next_156 ⟨fun c => ?_, fun c => ?_⟩
    · rw [i_le, hT'.1, h7] at c
      have hx : ¬ (p < n ∧ rx_d (T p) = true) := fun z => by have := z.1; omega
      exact ⟨sg hx, dn hx⟩
    · rw [i_le, hT'.1, h7] at c
      have hpl : p < n := by omega
      have eT : mI h 12 (mI h 1 7).toNatClampNeg = T p := by rw [i_nat h7]; exact hT'.2.2 p hpl
      refine ⟨i_vp h7 (by omega), ?_⟩
      rw [eT]
      refine c_isDigit _ (fun d => ⟨fun z => absurd z (by decide), fun _ => ⟨i_vp h7 (by omega), ?_⟩⟩) (fun d => ⟨fun _ => ?_, fun z => absurd rfl z⟩)
      · rw [mI_wI, if_neg (by decide)]
        refine ih _ (p + 1) (Kp_w (Kp_w kp (j := 11) (by decide) (lo := -2147483648) (hi := 2147483647) (by decide) (R_full _)) (j := 7) (by decide) (lo := 0) (hi := 900) (by decide) ?_) ?_ ?_ (by omega) (by omega) (by omega) ?_ ?_
        · have := i_inc h7 (by omega)
          exact ⟨by omega, by omega⟩
        · rw [mI_wI, if_neg (by decide), mI_wI, if_neg (by decide)]; exact h9
        · rw [mI_wI, if_pos ⟨rfl, rfl⟩]; exact i_inc h7 (by omega)
        · intro i h1 h2
          by_cases z : i = p
          · rw [z]; exact ⟨hpl, d⟩
          · exact hin i h1 (by omega)
        · rw [mI_wI, if_neg (by decide), mI_wI, if_pos ⟨rfl, rfl⟩, hv]
          have : p + 1 - s = (p - s) + 1 := by omega
          rw [this]
          show _ = 10 * rx_vs T s (p - s) + T (s + (p - s)) - 48
          rw [show s + (p - s) = p by omega, eT]
      · exact ⟨sg (fun z => d z.2), dn (fun z => d z.2)⟩
theorem c_next_l {g : gT} {h0 : mh_T} {P : mh_T → Prop} {T : Nat → Int32} {n e s : Nat} (hT : Tp h0 T n) (hen : e ≤ n) (es : rx_s T n e = s) (hp : ∀ h', Kp h0 h' → Tk h' T n e → P h') : ∀ (m : Nat) (h : mh_T) (p : Nat), Kp h0 h → (mI h 1 9).toInt = (s : Int) → (mI h 1 7).toInt = (p : Int) → s ≤ p → p ≤ n → n - p < m → (∀ i, s ≤ i → i < p → i < n ∧ rx_l (T i) = true) → mL h 1 10 = rx_ws T s (p - s) → mI h 1 11 = 0 → ME g uX6_next 56 [.ref 1] [] h (qV P) := by
  intro m
  induction m with
  | zero => intro h p _ _ _ _ _ hm; exact absurd hm (Nat.not_lt_zero _)
  | succ m ih =>
    intro h p kp h9 h7 hsp hpn hm hin hv h11
    have hT' := Tp_k kp hT
    have n9 := hT.2.1
    have sg : ¬ (p < n ∧ rx_l (T p) = true) → (mI h 1 7) ≤ (mI h 1 9) → ME g uX6_next 156 [.ref 1] [] h (qV P) := by
      intro hx c
      rw [i_le, h7, h9] at c
      have : p = s := by omega
      subst this
      exact c_next_d hT hen es hx hp _ h p kp h9 h7 hsp hpn (Nat.lt_succ_self _) (fun i h1 h2 => absurd h1 (Nat.not_le.mpr h2)) (by rw [Nat.sub_self]; exact h11)
    have dn : ¬ (p < n ∧ rx_l (T p) = true) → ¬ (mI h 1 7) ≤ (mI h 1 9) → (8 < ((mI h 1 7) - (mI h 1 9)) → P (wI h 1 8 1)) ∧ (¬ 8 < ((mI h 1 7) - (mI h 1 9)) → P (wI h 1 8 2)) := by
      intro hx c
      rw [i_le, h7, h9] at c
      have hs : s < n := by omega
      have hd := (hin s (Nat.le_refl _) (by omega)).2
      have ep : rx_sc rx_l T n s = p := rx_eq _ s p rfl hsp hin hx
      have ee : rx_e T n e = p := by
        unfold rx_e
        rw [es, if_pos hs, if_pos hd, ep]
      have ek : rx_k T n e = if p - s ≤ 8 then 2 else 1 := by
        unfold rx_k
        rw [ee, es, if_pos hs, if_pos hd]
      have i79 : ((mI h 1 7) - (mI h 1 9)).toInt = (p : Int) - s := i_sub h7 h9 (by omega)
      have i8 : (8 : Int32).toInt = 8 := by decide
      have fin : ∀ v : Int32, v = rx_k T n e → P (wI h 1 8 v) := by
        intro v hv8
        refine hp _ (Kp_w kp (j := 8) (by decide) (lo := -2147483648) (hi := 2147483647) (by decide) (R_full _)) ⟨?_, ?_, ?_, ?_, ?_⟩
        · rw [mI_wI, if_neg (by decide), es]; exact h9
        · rw [mI_wI, if_neg (by decide), ee]; exact h7
        · rw [mI_wI, if_pos ⟨rfl, rfl⟩]; exact hv8
        · intro k3
          rw [ek] at k3
          split at k3 <;> exact absurd k3 (by decide)
        · intro _
          rw [mL_wI, hv]
          unfold rx_w
          rw [ee, es]
      rw [i_lt, i79, i8]
      refine ⟨fun a => fin _ ?_, fun a => fin _ ?_⟩
      · rw [ek, if_neg (by omega)]
      · rw [ek, if_pos (by omega)]
    refine r_X6_next_56 ⟨fun c => ?_, fun c => ?_⟩
    · rw [i_le, hT'.1, h7] at c
      have hx : ¬ (p < n ∧ rx_l (T p) = true) := fun z => by have := z.1; omega
      exact ⟨sg hx, dn hx⟩
    · rw [i_le, hT'.1, h7] at c
      have hpl : p < n := by omega
      have eT : mI h 12 (mI h 1 7).toNatClampNeg = T p := by rw [i_nat h7]; exact hT'.2.2 p hpl
      refine ⟨i_vp h7 (by omega), ?_⟩
      rw [eT]
      refine c_isLetter _ (fun d => ⟨fun z => absurd z (by decide), fun _ => ⟨i_vp h7 (by omega), ?_⟩⟩) (fun d => ⟨fun _ => ?_, fun z => absurd rfl z⟩)
      · rw [mI_wL]
        refine ih _ (p + 1) (Kp_w (Kp_wL kp (j := 10)) (j := 7) (by decide) (lo := 0) (hi := 900) (by decide) ?_) ?_ ?_ (by omega) (by omega) (by omega) ?_ ?_ ?_
        · have := i_inc h7 (by omega)
          exact ⟨by omega, by omega⟩
        · rw [mI_wI, if_neg (by decide), mI_wL]; exact h9
        · rw [mI_wI, if_pos ⟨rfl, rfl⟩]; exact i_inc h7 (by omega)
        · intro i h1 h2
          by_cases z : i = p
          · rw [z]; exact ⟨hpl, d⟩
          · exact hin i h1 (by omega)
        · rw [mL_wI, mL_wL, if_pos ⟨rfl, rfl⟩, hv]
          have : p + 1 - s = (p - s) + 1 := by omega
          rw [this]
          show _ = rx_ws T s (p - s) <<< 5 ||| (T (s + (p - s)) - 97 + 1).toInt64
          rw [show s + (p - s) = p by omega, eT, show (Int32.toInt64 5 &&& 63) = (5 : Int64) from by decide]
        · rw [mI_wI, if_neg (by decide), mI_wL]; exact h11
      · exact ⟨sg (fun z => d z.2), dn (fun z => d z.2)⟩
theorem c_next_b {g : gT} {h0 : mh_T} {P : mh_T → Prop} {T : Nat → Int32} {n e : Nat} (hT : Tp h0 T n) (hen : e ≤ n) (hp : ∀ h', Kp h0 h' → Tk h' T n e → P h') : ∀ (m : Nat) (h : mh_T) (p : Nat), Kp h0 h → (mI h 1 7).toInt = (p : Int) → p ≤ n → n - p < m → rx_s T n p = rx_s T n e → ((mI h 1 6) ≤ (mI h 1 7) → ME g uX6_next 56 [.ref 1] [] (wI (wL (wI h 1 9 (mI h 1 7)) 1 10 0) 1 11 0) (qV P)) ∧ (¬ (mI h 1 6) ≤ (mI h 1 7) → (vp_in (mI h 1 7) 900) ∧ ((¬ (mI h 12 (mI h 1 7).toNatClampNeg) = 32 → ME g uX6_next 56 [.ref 1] [] (wI (wL (wI h 1 9 (mI h 1 7)) 1 10 0) 1 11 0) (qV P)) ∧ ((mI h 12 (mI h 1 7).toNatClampNeg) = 32 → ME g uX6_next 0 [.ref 1] [] (wI h 1 7 ((mI h 1 7) + 1)) (qV P)))) := by
  intro m
  induction m with
  | zero => intro h p _ _ _ hm; exact absurd hm (Nat.not_lt_zero _)
  | succ m ih =>
    intro h p kp h7 hpn hm es
    have hT' := Tp_k kp hT
    have n9 := hT.2.1
    have go : ¬ (p < n ∧ rx_b (T p) = true) → ME g uX6_next 56 [.ref 1] [] (wI (wL (wI h 1 9 (mI h 1 7)) 1 10 0) 1 11 0) (qV P) := by
      intro hx
      have e0 : rx_s T n p = p := rx_stop hx
      refine c_next_l (s := p) hT hen (by rw [← es, e0]) hp _ _ p (Kp_w (Kp_wL (Kp_w kp (j := 9) (by decide) (lo := 0) (hi := 900) (by decide) ⟨by omega, by omega⟩) (j := 10)) (j := 11) (by decide) (lo := -2147483648) (hi := 2147483647) (by decide) (R_full _)) ?_ ?_ (Nat.le_refl _) hpn (Nat.lt_succ_self _) (fun i h1 h2 => absurd h1 (Nat.not_le.mpr h2)) ?_ ?_
      · rw [mI_wI, if_neg (by decide), mI_wL, mI_wI, if_pos ⟨rfl, rfl⟩]; exact h7
      · rw [mI_wI, if_neg (by decide), mI_wL, mI_wI, if_neg (by decide)]; exact h7
      · rw [mL_wI, mL_wL, if_pos ⟨rfl, rfl⟩, Nat.sub_self]; rfl
      · rw [mI_wI, if_pos ⟨rfl, rfl⟩]
    refine ⟨fun c => go (fun z => ?_), fun c => ?_⟩
    · rw [i_le, hT'.1, h7] at c
      have := z.1
      omega
    · rw [i_le, hT'.1, h7] at c
      have hpl : p < n := by omega
      have eT : mI h 12 (mI h 1 7).toNatClampNeg = T p := by rw [i_nat h7]; exact hT'.2.2 p hpl
      rw [eT]
      refine ⟨i_vp h7 (by omega), fun a => go (fun z => a (by have := z.2; unfold rx_b at this; exact eq_of_beq this)), fun a => ?_⟩
      have i7 := i_inc h7 (by omega)
      refine r_X6_next_0 (ih _ (p + 1) (Kp_w kp (j := 7) (by decide) (lo := 0) (hi := 900) (by decide) ⟨by omega, by omega⟩) ?_ (by omega) (by omega) ?_)
      · rw [mI_wI, if_pos ⟨rfl, rfl⟩]; exact i7
      · rw [← es]
        exact (rx_step ⟨hpl, by unfold rx_b; rw [a]; decide⟩).symm
theorem c_next {g : gT} {h : mh_T} {P : mh_T → Prop} {T : Nat → Int32} {n e : Nat} (hG : GI h) (hT : Tp h T n) (he : (mI h 1 7).toInt = (e : Int)) (hen : e ≤ n) (hp : ∀ h', Kp h h' → Tk h' T n e → P h') : MCv g yX6_next uX6_next [.ref 1] h P :=
  e_X6_next (c_next_b hT hen hp _ h e (Kp_rf hG) he hen (Nat.lt_succ_self _) rfl)
