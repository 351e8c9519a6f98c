/-! the reference's next() finds the token -/
abbrev mms : List Nat := [11, 44, 46]
def H62 (h h' : mh_T) : Prop := ∀ k, 62 ≤ k → h'.1 k = h.1 k
theorem H62_w {h0 h : mh_T} (a : H62 h0 h) {k j : Nat} {v : Int32} (hk : k < 62) : H62 h0 (wI h k j v) := fun q h62 => by
  rw [← a q h62]
  funext b
  exact (mI_wI h k j q b v).trans (if_neg (fun y => by have := y.1; omega))
theorem H62_tr {a b c : mh_T} (x : H62 a b) (y : H62 b c) : H62 a c := fun k hk => (y k hk).trans (x k hk)
def Of (h h' : mh_T) : Prop := GI h' ∧ Fr mms h h' ∧ (∀ j, (j = 0 ∨ j = 2 ∨ j = 11 ∨ j = 14 ∨ j = 24 ∨ j = 25 ∨ j = 26) → mI h' 11 j = mI h 11 j) ∧ H62 h h'
def Og (h h' : mh_T) : Prop := GI h' ∧ Fr mms h h' ∧ (∀ j, (j = 0 ∨ j = 2 ∨ j = 9 ∨ j = 11 ∨ j = 14 ∨ j = 24 ∨ j = 25 ∨ j = 26) → mI h' 11 j = mI h 11 j) ∧ H62 h h'
def Kq (h h' : mh_T) : Prop := GI h' ∧ Fr [11, 44] h h' ∧ (∀ j, (j < 4 ∨ 9 ≤ j) → mI h' 11 j = mI h 11 j) ∧ H62 h h'
theorem Fr_rf {ms : List Nat} (h : mh_T) : Fr ms h h := fun _ _ _ => ⟨rfl, rfl, rfl⟩
theorem Fr_t2 {ms ms' : List Nat} {h h1 h2 : mh_T} (a : Fr ms h h1) (b : Fr ms' h1 h2) (hs : ∀ x ∈ ms', x ∈ ms) : Fr ms h h2 := fun k hk hm => by
  have x := a k hk hm
  have y := b k hk (fun z => hm (hs k z))
  exact ⟨y.1.trans x.1, y.2.1.trans x.2.1, y.2.2.trans x.2.2⟩
theorem Og_rf {h : mh_T} (hG : GI h) : Og h h := ⟨hG, Fr_rf h, fun _ _ => rfl, fun _ _ => rfl⟩
theorem Og_of {h h' : mh_T} (a : Og h h') : Of h h' := ⟨a.1, a.2.1, fun j hj => a.2.2.1 j (by omega), a.2.2.2⟩
theorem Of_w {h0 h : mh_T} (a : Of h0 h) {k j : Nat} {v : Int32} {lo hi : Int} (e : rgT k j = (lo, hi)) (f : R lo hi v) (hk : k ∈ mms) (hn : ¬ (k = 11 ∧ (j = 0 ∨ j = 2 ∨ j = 11 ∨ j = 14 ∨ j = 24 ∨ j = 25 ∨ j = 26))) : Of h0 (wI h k j v) :=
  ⟨GI_w a.1 e f, Fr_w a.2.1 hk, fun i hi => by rw [mI_wI, if_neg (by omega)]; exact a.2.2.1 i hi, H62_w a.2.2.2 ((show ∀ x ∈ mms, x < 62 by decide) k hk)⟩
theorem Og_w {h0 h : mh_T} (a : Og h0 h) {k j : Nat} {v : Int32} {lo hi : Int} (e : rgT k j = (lo, hi)) (f : R lo hi v) (hk : k ∈ mms) (hn : ¬ k = 11) : Og h0 (wI h k j v) :=
  ⟨GI_w a.1 e f, Fr_w a.2.1 hk, fun i hi => by rw [mI_wI, if_neg (by omega)]; exact a.2.2.1 i hi, H62_w a.2.2.2 ((show ∀ x ∈ mms, x < 62 by decide) k hk)⟩
theorem Og_kq {h0 h h' : mh_T} (a : Og h0 h) (b : Kq h h') : Og h0 h' := ⟨b.1, Fr_t2 a.2.1 b.2.1 (by decide), fun j hj => (b.2.2.1 j (by omega)).trans (a.2.2.1 j hj), H62_tr a.2.2.2 b.2.2.2⟩
theorem Kq_rf {h : mh_T} (hG : GI h) : Kq h h := ⟨hG, Fr_rf h, fun _ _ => rfl, fun _ _ => rfl⟩
theorem Kq_w {h0 h : mh_T} (a : Kq h0 h) {j : Nat} {v : Int32} (hj : 4 ≤ j ∧ j ≤ 8) {lo hi : Int} (e : rgT 11 j = (lo, hi)) (f : R lo hi v) : Kq h0 (wI h 11 j v) :=
  ⟨GI_w a.1 e f, Fr_w a.2.1 (by decide), fun i hi => by rw [mI_wI, if_neg (by omega)]; exact a.2.2.1 i hi, H62_w a.2.2.2 (by decide)⟩
theorem Kq_l {h0 h : mh_T} (a : Kq h0 h) {j : Nat} {v : Int32} : Kq h0 (wI h 44 j v) :=
  ⟨GI_w a.1 (rgc_44 j) (R_full v), Fr_w a.2.1 (by decide), fun i hi => by rw [mI_wI, if_neg (fun z => absurd z.1 (by decide))]; exact a.2.2.1 i hi, H62_w a.2.2.2 (by decide)⟩
theorem Mp_k {h h' : mh_T} {T : Nat → Int32} {n : Nat} (a : Kq h h') (t : Mp h T n) : Mp h' T n :=
  ⟨by rw [a.2.2.1 3 (by decide)]; exact t.1, t.2.1, fun j hj => by
    have := (a.2.1 43 (by decide) (by decide)).1
    show h'.1 43 j = T j
    rw [this]
    exact t.2.2.1 j hj, t.2.2.2⟩
def Mk (h : mh_T) (T : Nat → Int32) (n e : Nat) : Prop := (mI h 11 4).toInt = (rx_s T n e : Int) ∧ (mI h 11 5).toInt = (rx_e T n e : Int) ∧ mI h 11 6 = rx_k T n e ∧ (rx_k T n e = 3 → mI h 11 7 = rx_v T n e) ∧ (rx_k T n e = 2 → (mI h 11 8).toInt = ((rx_e T n e - rx_s T n e : Nat) : Int) ∧ ∀ i, i < rx_e T n e - rx_s T n e → mI h 44 i = T (rx_s T n e + i))
theorem b_next_w {g : gT} {h0 : mh_T} {P : mh_T → Prop} {T : Nat → Int32} {n e s : Nat} (hT : Mp h0 T n) (es : rx_s T n e = s) (hsn : s < n) (hl : rx_l (T s) = true) (hp : ∀ h', Kq h0 h' → Mk h' T n e → P h') (l2 : Int32) : ∀ (m : Nat) (h : mh_T) (l1 : Int32) (p : Nat), Kq h0 h → (mI h 11 4).toInt = (s : Int) → l1.toInt = (p : Int) → s ≤ p → p ≤ n → n - p < m → (∀ i, s ≤ i → i < p → i < n ∧ rx_l (T i) = true) → (mI h 11 8).toInt = ((p - s : Nat) : Int) → (∀ i, i < p - s → i < 8 → mI h 44 i = T (s + i)) → ME g uX11_next 67 [.ref 11, .int l1, .int l2, .retAddr 0] [] h (qV P) := by
  intro m
  induction m with
  | zero => intro h l1 p _ _ _ _ _ hm; exact absurd hm (Nat.not_lt_zero _)
  | succ m ih =>
    intro h l1 p kq h4 e1 hsp hpn hm hin h8 hlt
    have hT' := Mp_k kq hT
    have n9 := hT.2.1
    have dn : ¬ (p < n ∧ rx_l (T p) = true) → ((mI (wI h 11 5 l1) 11 8) ≤ 8 → P (wI (wI h 11 5 l1) 11 6 2)) ∧ (¬ (mI (wI h 11 5 l1) 11 8) ≤ 8 → P (wI (wI h 11 5 l1) 11 6 1)) := by
      intro hx
      have ep : rx_sc rx_l T n s = p := rx_eq _ s p rfl hsp hin hx
      have ee : rx_e T n e = p := by
        unfold rx_e
        rw [es, if_pos hsn, if_pos hl, ep]
      have ek : rx_k T n e = if p - s ≤ 8 then 2 else 1 := by
        unfold rx_k
        rw [ee, es, if_pos hsn, if_pos hl]
      have i8 : (8 : Int32).toInt = 8 := by decide
      have fin : ∀ v : Int32, v = rx_k T n e → P (wI (wI h 11 5 l1) 11 6 v) := by
        intro v hv
        refine hp _ (Kq_w (Kq_w kq (j := 5) (by decide) (lo := 0) (hi := 900) (by decide) ⟨by omega, by omega⟩) (j := 6) (by decide) (lo := -2147483648) (hi := 2147483647) (by decide) (R_full _)) ⟨?_, ?_, ?_, ?_, ?_⟩
        · rw [mI_wI, if_neg (by decide), mI_wI, if_neg (by decide), es]; exact h4
        · rw [mI_wI, if_neg (by decide), mI_wI, if_pos ⟨rfl, rfl⟩, ee]; exact e1
        · rw [mI_wI, if_pos ⟨rfl, rfl⟩]; exact hv
        · intro k3
          rw [ek] at k3
          split at k3 <;> exact absurd k3 (by decide)
        · intro k2
          have hle : p - s ≤ 8 := by
            rw [ek] at k2
            split at k2
            · assumption
            · exact absurd k2 (by decide)
          rw [mI_wI, if_neg (by decide), mI_wI, if_neg (by decide), ee, es]
          refine ⟨h8, fun i hi => ?_⟩
          rw [mI_wI, if_neg (fun z => absurd z.1 (by decide)), mI_wI, if_neg (fun z => absurd z.1 (by decide))]
          exact hlt i hi (by omega)
      rw [mI_wI, if_neg (by decide), i_le, h8, i8]
      refine ⟨fun a => fin _ ?_, fun a => fin _ ?_⟩
      · rw [ek, if_pos (by omega)]
      · rw [ek, if_neg (by omega)]
    refine r_X11_next_67 l1 l2 (m_see_ l1 hT' e1 (fun hp1 => ?_) (fun hp0 => ?_))
    · refine m_isSmall_ _ (fun d => ⟨fun z => absurd z (by decide), fun _ => ?_⟩) (fun d => ⟨fun _ => dn (fun z => d z.2), fun z => absurd rfl z⟩)
      have hin' : ∀ i, s ≤ i → i < p + 1 → i < n ∧ rx_l (T i) = true := fun i a b => by
        by_cases c : i = p
        · subst c; exact ⟨hp1, d⟩
        · exact hin i a (by omega)
      have e1' := i_inc e1 (by omega)
      have i8 : (8 : Int32).toInt = 8 := by decide
      have h8' := i_inc h8 (by omega)
      have ps : p + 1 - s = p - s + 1 := by omega
      refine ⟨fun a => ?_, fun a => m_see_ l1 hT' e1 (fun _ => ⟨i_vp h8 ?_, ?_⟩) (fun z => absurd hp1 z)⟩
      · rw [i_le, h8, i8] at a
        refine ih _ (l1 + 1) (p + 1) (Kq_w kq (j := 8) (by decide) (lo := 0) (hi := 900) (by decide) ⟨by omega, by omega⟩) ?_ e1' (by omega) (by omega) (by omega) hin' ?_ (fun i hi h8i => ?_)
        · rw [mI_wI, if_neg (by decide)]; exact h4
        · rw [mI_wI, if_pos ⟨rfl, rfl⟩, ps]; exact h8'
        · rw [mI_wI, if_neg (fun z => absurd z.1 (by decide))]
          exact hlt i (by omega) h8i
      · rw [i_le, h8, i8] at a
        omega
      · rw [i_le, h8, i8] at a
        have ei : mI (wI h 44 (mI h 11 8).toNatClampNeg (T p)) 11 8 = mI h 11 8 := by rw [mI_wI, if_neg (fun z => absurd z.1 (by decide))]
        rw [ei]
        refine ih _ (l1 + 1) (p + 1) (Kq_w (Kq_l kq) (j := 8) (by decide) (lo := 0) (hi := 900) (by decide) ⟨by omega, by omega⟩) ?_ e1' (by omega) (by omega) (by omega) hin' ?_ (fun i hi h8i => ?_)
        · rw [mI_wI, if_neg (by decide), mI_wI, if_neg (fun z => absurd z.1 (by decide))]; exact h4
        · rw [mI_wI, if_pos ⟨rfl, rfl⟩, ps]; exact h8'
        · rw [mI_wI, if_neg (fun z => absurd z.1 (by decide)), mI_wI, i_nat h8]
          by_cases c : i = p - s
          · rw [if_pos ⟨rfl, c⟩, c, show s + (p - s) = p by omega]
          · rw [if_neg (fun z => c z.2)]
            exact hlt i (by omega) h8i
    · refine m_isSmall_ _ (fun d => absurd d (by decide)) (fun d => ⟨fun _ => dn (fun z => hp0 z.1), fun z => absurd rfl z⟩)
theorem b_next_d {g : gT} {h0 : mh_T} {P : mh_T → Prop} {T : Nat → Int32} {n e s : Nat} (hT : Mp h0 T n) (es : rx_s T n e = s) (hsn : s < n) (hl : ¬ rx_l (T s) = true) (hd : rx_d (T s) = true) (hp : ∀ h', Kq h0 h' → Mk h' T n e → P h') (l2 : Int32) : ∀ (m : Nat) (h : mh_T) (l1 l3 : Int32) (p : Nat), Kq h0 h → (mI h 11 4).toInt = (s : Int) → l1.toInt = (p : Int) → s ≤ p → p ≤ n → n - p < m → (∀ i, s ≤ i → i < p → i < n ∧ rx_d (T i) = true) → l3.toInt = ((p - s : Nat) : Int) → (p - s ≤ 3 → mI h 11 7 = rx_vs T s (p - s)) → ME g uX11_next 152 [.ref 11, .int l1, .int l2, .int l3] [] h (qV P) := by
  intro m
  induction m with
  | zero => intro h l1 l3 p _ _ _ _ _ hm; exact absurd hm (Nat.not_lt_zero _)
  | succ m ih =>
    intro h l1 l3 p kq h4 e1 hsp hpn hm hin e3 hv
    have hT' := Mp_k kq hT
    have n9 := hT.2.1
    have i3 : (3 : Int32).toInt = 3 := by decide
    have dn : ¬ (p < n ∧ rx_d (T p) = true) → (l3 ≤ 3 → P (wI (wI h 11 5 l1) 11 6 3)) ∧ (¬ l3 ≤ 3 → P (wI (wI h 11 5 l1) 11 6 1)) := by
      intro hx
      have ep : rx_sc rx_d T n s = p := rx_eq _ s p rfl hsp hin hx
      have ee : rx_e T n e = p := by
        unfold rx_e
        rw [es, if_pos hsn, if_neg hl, if_pos hd, ep]
      have ek : rx_k T n e = if p - s ≤ 3 then 3 else 1 := by
        unfold rx_k
        rw [ee, es, if_pos hsn, if_neg hl, if_pos hd]
      have fin : ∀ v : Int32, v = rx_k T n e → P (wI (wI h 11 5 l1) 11 6 v) := by
        intro v hv6
        refine hp _ (Kq_w (Kq_w kq (j := 5) (by decide) (lo := 0) (hi := 900) (by decide) ⟨by omega, by omega⟩) (j := 6) (by decide) (lo := -2147483648) (hi := 2147483647) (by decide) (R_full _)) ⟨?_, ?_, ?_, ?_, ?_⟩
        · rw [mI_wI, if_neg (by decide), mI_wI, if_neg (by decide), es]; exact h4
        · rw [mI_wI, if_neg (by decide), mI_wI, if_pos ⟨rfl, rfl⟩, ee]; exact e1
        · rw [mI_wI, if_pos ⟨rfl, rfl⟩]; exact hv6
        · intro k3
          have hle : p - s ≤ 3 := by
            rw [ek] at k3
            split at k3
            · assumption
            · exact absurd k3 (by decide)
          rw [mI_wI, if_neg (by decide), mI_wI, if_neg (by decide), hv hle]
          unfold rx_v
          rw [ee, es]
        · intro k2
          rw [ek] at k2
          split at k2 <;> exact absurd k2 (by decide)
      rw [i_le, e3, i3]
      refine ⟨fun a => fin _ ?_, fun a => fin _ ?_⟩
      · rw [ek, if_pos (by omega)]
      · rw [ek, if_neg (by omega)]
    refine r_X11_next_152 l1 l2 l3 (m_see_ l1 hT' e1 (fun hp1 => ?_) (fun hp0 => ?_))
    · refine m_isDigit_ _ (fun d => ⟨fun z => absurd z (by decide), fun _ => ?_⟩) (fun d => ⟨fun _ => dn (fun z => d z.2), fun z => absurd rfl z⟩)
      have hin' : ∀ i, s ≤ i → i < p + 1 → i < n ∧ rx_d (T i) = true := fun i a b => by
        by_cases c : i = p
        · subst c; exact ⟨hp1, d⟩
        · exact hin i a (by omega)
      have e1' := i_inc e1 (by omega)
      have e3' := i_inc e3 (by omega)
      have ps : p + 1 - s = p - s + 1 := by omega
      refine ⟨fun a => ?_, fun a => m_see_ l1 hT' e1 (fun _ => ?_) (fun z => absurd hp1 z)⟩
      · rw [i_le, e3, i3] at a
        refine ih _ (l1 + 1) (l3 + 1) (p + 1) kq h4 e1' (by omega) (by omega) (by omega) hin' ?_ (fun hi => ?_)
        · rw [ps]; exact e3'
        · omega
      · rw [i_le, e3, i3] at a
        refine ih _ (l1 + 1) (l3 + 1) (p + 1) (Kq_w kq (j := 7) (by decide) (lo := -2147483648) (hi := 2147483647) (by decide) (R_full _)) ?_ e1' (by omega) (by omega) (by omega) hin' ?_ (fun hi => ?_)
        · rw [mI_wI, if_neg (by decide)]; exact h4
        · rw [ps]; exact e3'
        · rw [mI_wI, if_pos ⟨rfl, rfl⟩, ps, hv (by omega)]
          show _ = 10 * rx_vs T s (p - s) + T (s + (p - s)) - 48
          rw [show s + (p - s) = p by omega]
    · refine m_isDigit_ _ (fun d => absurd d (by decide)) (fun d => ⟨fun _ => dn (fun z => hp0 z.1), fun z => absurd rfl z⟩)
theorem b_next_5 {g : gT} {h : mh_T} {P : mh_T → Prop} {T : Nat → Int32} {n e : Nat} (hG : GI h) (hT : Mp h T n) (hp : ∀ h', Kq h h' → Mk h' T n e → P h') : ∀ (m : Nat) (l1 : Int32) (p : Nat), l1.toInt = (p : Int) → e ≤ p → p ≤ n → n - p < m → (∀ i, e ≤ i → i < p → i < n ∧ rx_b (T i) = true) → ME g uX11_next 5 [.ref 11, .int l1, .retAddr 0, .retAddr 0] [] h (qV P) := by
  intro m
  induction m with
  | zero => intro l1 p _ _ _ hm; exact absurd hm (Nat.not_lt_zero _)
  | succ m ih =>
    intro l1 p e1 hep hpn hm hin
    have n9 := hT.2.1
    have kA : Kq h (wI h 11 4 l1) := Kq_w (Kq_rf hG) (j := 4) (by decide) (lo := 0) (hi := 900) (by decide) ⟨by omega, by omega⟩
    have kB : Kq h (wI (wI (wI h 11 4 l1) 11 8 0) 11 7 0) := Kq_w (Kq_w kA (j := 8) (by decide) (lo := 0) (hi := 900) (by decide) ⟨by decide, by decide⟩) (j := 7) (by decide) (lo := -2147483648) (hi := 2147483647) (by decide) (R_full _)
    have b4 : mI (wI (wI (wI h 11 4 l1) 11 8 0) 11 7 0) 11 4 = l1 := by rw [mI_wI, if_neg (by decide), mI_wI, if_neg (by decide), mI_wI, if_pos ⟨rfl, rfl⟩]
    have b8 : mI (wI (wI (wI h 11 4 l1) 11 8 0) 11 7 0) 11 8 = 0 := by rw [mI_wI, if_neg (by decide), mI_wI, if_pos ⟨rfl, rfl⟩]
    have b7 : mI (wI (wI (wI h 11 4 l1) 11 8 0) 11 7 0) 11 7 = 0 := by rw [mI_wI, if_pos ⟨rfl, rfl⟩]
    refine r_X11_next_5 l1 (m_see_ l1 hT e1 (fun hp1 => ⟨fun c => ?_, fun c => ?_⟩) (fun hp0 => ⟨fun _ => ?_, fun c => absurd c (by decide)⟩))
    · have hx : ¬ (p < n ∧ rx_b (T p) = true) := fun z => c (by have := z.2; unfold rx_b at this; exact eq_of_beq this)
      have es : rx_s T n e = p := rx_eq _ e p rfl hep hin hx
      refine m_see_ l1 (Mp_k kA hT) e1 (fun _ => ⟨fun _ => ?_, fun z => ?_⟩) (fun z => absurd hp1 z)
      · refine m_isSmall_ _ (fun d => ⟨fun z => absurd z (by decide), fun _ => ?_⟩) (fun d => ⟨fun _ => ?_, fun z => absurd rfl z⟩)
        · refine b_next_w hT es hp1 d hp _ (n + 1) _ l1 p kB (by rw [b4]; exact e1) e1 (Nat.le_refl _) hpn (by omega) (fun i a b => by omega) ?_ (fun i hi => by omega)
          rw [b8, Nat.sub_self]; rfl
        · refine m_isDigit_ _ (fun d2 => ⟨fun z => absurd z (by decide), fun _ => ?_⟩) (fun d2 => ⟨fun _ => ?_, fun z => absurd rfl z⟩)
          · refine b_next_d hT es hp1 d d2 hp _ (n + 1) _ l1 0 p kB (by rw [b4]; exact e1) e1 (Nat.le_refl _) hpn (by omega) (fun i a b => by omega) ?_ (fun _ => ?_)
            · rw [Nat.sub_self]; rfl
            · rw [b7, Nat.sub_self]; rfl
          · have e1' := i_inc e1 (by omega)
            have ee : rx_e T n e = p + 1 := by
              unfold rx_e
              rw [es, if_pos hp1, if_neg d, if_neg d2]
            have hk : rx_k T n e = if T p = 59 ∨ T p = 44 ∨ T p = 45 then T p else 1 := by
              unfold rx_k
              rw [es, if_pos hp1, if_neg d, if_neg d2]
            have kn : ∀ w : Int32, (w = 2 ∨ w = 3) → ¬ rx_k T n e = w := by
              intro w hw z
              rw [hk] at z
              split at z
              · rename_i q
                rcases hw with rfl | rfl <;> rw [z] at q <;> revert q <;> decide
              · rcases hw with rfl | rfl <;> exact absurd z (by decide)
            have fin : ∀ v : Int32, v = rx_k T n e → P (wI (wI (wI (wI (wI h 11 4 l1) 11 8 0) 11 7 0) 11 5 (l1 + 1)) 11 6 v) := by
              intro v hv
              refine hp _ (Kq_w (Kq_w kB (j := 5) (by decide) (lo := 0) (hi := 900) (by decide) ⟨by omega, by omega⟩) (j := 6) (by decide) (lo := -2147483648) (hi := 2147483647) (by decide) (R_full _)) ⟨?_, ?_, ?_, fun z => absurd z (kn 3 (Or.inr rfl)), fun z => absurd z (kn 2 (Or.inl rfl))⟩
              · rw [mI_wI, if_neg (by decide), mI_wI, if_neg (by decide), b4, es]; exact e1
              · rw [mI_wI, if_neg (by decide), mI_wI, if_pos ⟨rfl, rfl⟩, ee]; exact e1'
              · rw [mI_wI, if_pos ⟨rfl, rfl⟩]; exact hv
            refine ⟨fun a => fin _ ?_, fun a => ⟨fun b => fin _ ?_, fun b => ⟨fun d => fin _ ?_, fun d => fin _ ?_⟩⟩⟩
            · rw [hk, if_pos (Or.inl a)]
            · rw [hk, if_pos (Or.inr (Or.inl b))]
            · rw [hk, if_neg (by rintro (z | z | z); exact a z; exact b z; exact d z)]
            · rw [hk, if_pos (Or.inr (Or.inr d))]
      · exfalso
        have := hT.2.2.2 p hp1
        rw [z] at this
        exact absurd this (by decide)
    · exact ih (l1 + 1) (p + 1) (i_inc e1 (by omega)) (by omega) (by omega) (by omega) (fun i a b => by
        by_cases q : i = p
        · subst q; exact ⟨hp1, by unfold rx_b; rw [c]; rfl⟩
        · exact hin i a (by omega))
    · have hx : ¬ (p < n ∧ rx_b (T p) = true) := fun z => hp0 z.1
      have es : rx_s T n e = p := rx_eq _ e p rfl hep hin hx
      have ee : rx_e T n e = p := by unfold rx_e; rw [es, if_neg hp0]
      have ek : rx_k T n e = 0 := by unfold rx_k; rw [es, if_neg hp0]
      refine m_see_ l1 (Mp_k kA hT) e1 (fun z => absurd z hp0) (fun _ => ⟨fun z => absurd rfl z, fun _ => ?_⟩)
      refine hp _ (Kq_w (Kq_w kB (j := 6) (by decide) (lo := -2147483648) (hi := 2147483647) (by decide) (R_full _)) (j := 5) (by decide) (lo := 0) (hi := 900) (by decide) ⟨by omega, by omega⟩) ⟨?_, ?_, ?_, fun z => ?_, fun z => ?_⟩
      · rw [mI_wI, if_neg (by decide), mI_wI, if_neg (by decide), b4, es]; exact e1
      · rw [mI_wI, if_pos ⟨rfl, rfl⟩, ee]; exact e1
      · rw [mI_wI, if_neg (by decide), mI_wI, if_pos ⟨rfl, rfl⟩, ek]
      · rw [ek] at z; exact absurd z (by decide)
      · rw [ek] at z; exact absurd z (by decide)
theorem b_next {g : gT} {h : mh_T} {P : mh_T → Prop} {T : Nat → Int32} {n e : Nat} (hG : GI h) (hT : Mp h T n) (he : (mI h 11 5).toInt = (e : Int)) (hen : e ≤ n) (hp : ∀ h', Kq h h' → Mk h' T n e → P h') : MCv g yX11_next uX11_next [.ref 11] h P :=
  e_X11_next (fun x1 ex => by
    subst ex
    exact b_next_5 hG hT hp (n + 1) _ e he (Nat.le_refl _) hen (by omega) (fun i a b => by omega))
