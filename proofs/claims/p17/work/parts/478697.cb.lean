theorem c_clear {g : gT} {h : mh_T} {P : mh_T → Prop} (hG : GI h) (hp : ∀ h', Ok [2, 17] h h' → (∀ j, j < 7 → mI h' 2 j = 0) → (∀ j, j < 32 → mI h' 17 j = 0) → P h') : MCv g yX1_clear uX1_clear [.ref 2] h P := by
  refine e_X1_clear ?_
  have z0 : R 0 0 (0 : Int32) := ⟨by decide, by decide⟩
  have o0 := Ok_w (Ok_rf (ms := [2, 17]) hG) (k := 2) (j := 0) (v := 0) (lo := 0) (hi := 60) (by decide) ⟨by decide, by decide⟩ (by decide) (by decide)
  have o1 := Ok_w o0 (k := 2) (j := 1) (v := 0) (lo := 0) (hi := 6) (by decide) ⟨by decide, by decide⟩ (by decide) (by decide)
  have o2 := Ok_w o1 (k := 2) (j := 2) (v := 0) (lo := 0) (hi := 9) (by decide) ⟨by decide, by decide⟩ (by decide) (by decide)
  have o3 := Ok_w o2 (k := 2) (j := 3) (v := 0) (lo := 0) (hi := 8) (by decide) ⟨by decide, by decide⟩ (by decide) (by decide)
  have o4 := Ok_w o3 (k := 2) (j := 4) (v := 0) (lo := 0) (hi := 8) (by decide) ⟨by decide, by decide⟩ (by decide) (by decide)
  have o5 := Ok_w o4 (k := 2) (j := 5) (v := 0) (lo := 0) (hi := 18) (by decide) ⟨by decide, by decide⟩ (by decide) (by decide)
  have o6 := Ok_w o5 (k := 2) (j := 6) (v := 0) (lo := 0) (hi := 4) (by decide) ⟨by decide, by decide⟩ (by decide) (by decide)
  have L : ∀ (m : Nat) (l1 : Int32) (j : Nat) (h1 : mh_T), l1.toInt = (j : Int) → j ≤ 32 → 32 - j < m → Ok [2, 17] h h1 → (∀ j, j < 7 → mI h1 2 j = 0) → (∀ i, i < j → mI h1 17 i = 0) → ME g uX1_clear 37 [.ref 2, .int l1] [] h1 (qV P) := by
    intro m
    induction m with
    | zero => intro l1 j h1 _ _ hm; exact absurd hm (Nat.not_lt_zero _)
    | succ m ih =>
      intro l1 j h1 e1 hj hm ok hz h17
      have i32 : (32 : Int32).toInt = 32 := by decide
      refine r_X1_clear_37 l1 ⟨fun z => hp h1 ok hz (fun i hi => h17 i (by rw [i_le, i32, e1] at z; omega)), fun z => ?_⟩
      rw [i_le, i32, e1] at z
      refine ⟨i_vp e1 (by omega), ih (l1 + 1) (j + 1) _ (i_inc e1 (by omega)) (by omega) (by omega) (Ok_w ok (lo := -2147483648) (hi := 2147483647) rfl (R_full _) (by decide) (nt_k (by decide))) (fun i hi => ?_) (fun i hi => ?_)⟩
      · rw [mI_wI, if_neg (fun q => absurd q.1 (by decide))]
        exact hz i hi
      · rw [mI_wI, i_nat e1]
        by_cases q : i = j
        · rw [if_pos ⟨rfl, q⟩]
        · rw [if_neg (fun y => q y.2)]
          exact h17 i (by omega)
  refine L _ 0 0 _ (by decide) (by decide) (Nat.lt_succ_self _) o6 (fun j hj => ?_) (fun i hi => absurd hi (Nat.not_lt_zero i))
  rcases (show j = 0 ∨ j = 1 ∨ j = 2 ∨ j = 3 ∨ j = 4 ∨ j = 5 ∨ j = 6 by omega) with q | q | q | q | q | q | q <;> subst q <;> simp only [mI_wI] <;> rfl
theorem Nv_0 : Nv (fun _ => 0) := by
  refine ⟨⟨by decide, by decide⟩, ⟨by decide, by decide⟩, fun j _ => ⟨fun u => ?_, fun _ => rfl⟩, fun i j _ _ u => ?_⟩
  · exfalso
    unfold rx_used at u
    rw [show (0 : Int32).toInt = 0 from by decide] at u
    omega
  · exfalso
    unfold rx_used at u
    rw [show (0 : Int32).toInt = 0 from by decide] at u
    omega
/-- the class's reading of the first n bytes of its tape -/
theorem c_read {g : gT} {h : mh_T} {P : mh_T → Prop} {T : Nat → Int32} {n : Nat} (l1 : Int32) (hG : GI h) (e1 : l1.toInt = (n : Int)) (hn : n ≤ 900) (hT : ∀ j, j < n → mI h 12 j = T j) (hp : ∀ h', Cz h T n (rx_book T n) h' → P h') : MCv g yX6_read uX6_read [.ref 1, .int l1] h P := by
  have i900 : (900 : Int32).toInt = 900 := by decide
  refine e_X6_read l1 ?_
  refine c_clear hG (fun h1 o1 z1 z17 => ?_)
  have ee : (if 900 < l1 then (900 : Int32) else l1) = l1 := by
    rw [if_neg (by rw [i_lt, i900, e1]; omega)]
  rw [ee]
  have o1 : Ok cms h h1 := Ok_tr (Ok_rf (ms := cms) hG) o1 (by decide)
  have o2 := Ok_w o1 (k := 1) (j := 1) (v := 0) (lo := -2147483648) (hi := 2147483647) (by decide) (R_full _) (by decide) (by decide)
  have o3 := Ok_w o2 (k := 1) (j := 2) (v := 0) (lo := -2147483648) (hi := 2147483647) (by decide) (R_full _) (by decide) (by decide)
  have o4 := Ok_w o3 (k := 1) (j := 6) (v := l1) (lo := 0) (hi := 900) (by decide) ⟨by omega, by omega⟩ (by decide) (by decide)
  have o5 := Ok_w o4 (k := 1) (j := 7) (v := 0) (lo := 0) (hi := 900) (by decide) ⟨by decide, by decide⟩ (by decide) (by decide)
  have e12 : ∀ j, mI h1 12 j = mI h 12 j := fun j => congrFun (o1.2.1 12 (by decide) (by decide)).1 j
  have t5 : Tp (wI (wI (wI (wI h1 1 1 0) 1 2 0) 1 6 l1) 1 7 0) T n := by
    refine ⟨?_, hn, fun j hj => ?_⟩
    · rw [mI_wI, if_neg (by decide), mI_wI, if_pos ⟨rfl, rfl⟩]; exact e1
    · rw [mI_wI, if_neg (fun q => absurd q.1 (by decide)), mI_wI, if_neg (fun q => absurd q.1 (by decide)), mI_wI, if_neg (fun q => absurd q.1 (by decide)), mI_wI, if_neg (fun q => absurd q.1 (by decide)), e12]
      exact hT j hj
  have d5 : Dr (wI (wI (wI (wI h1 1 1 0) 1 2 0) 1 6 l1) 1 7 0) (fun _ => 0) := by
    have s : ∀ j, j < 7 → mI (wI (wI (wI (wI h1 1 1 0) 1 2 0) 1 6 l1) 1 7 0) 2 j = 0 := fun j hj => by
      rw [mI_wI, if_neg (fun q => absurd q.1 (by decide)), mI_wI, if_neg (fun q => absurd q.1 (by decide)), mI_wI, if_neg (fun q => absurd q.1 (by decide)), mI_wI, if_neg (fun q => absurd q.1 (by decide))]
      exact z1 j hj
    refine ⟨⟨s 0 (by decide), s 1 (by decide), s 2 (by decide), s 3 (by decide), s 4 (by decide), s 5 (by decide), s 6 (by decide)⟩, fun i hi => ?_, fun i hi => ?_⟩
    · exfalso
      rw [show (0 : Int32).toInt = 0 from by decide] at hi
      omega
    · exfalso
      rw [show (0 : Int32).toInt = 0 from by decide] at hi
      omega
  have a1 : Ar h1 (fun _ => 0) := ⟨fun s hs => absurd hs (by rw [show (0 : Int32).toInt = 0 from by decide]; omega), fun i hi => z17 i hi, fun i hi => absurd hi (by rw [show (0 : Int32).toInt = 0 from by decide]; omega), fun l hl => absurd hl (by rw [show (0 : Int32).toInt = 0 from by decide]; omega), fun _ _ _ => rfl, ⟨by decide, by decide⟩⟩
  refine c_next (e := 0) o5.1 t5 (by rw [mI_wI, if_pos ⟨rfl, rfl⟩]; decide) (Nat.zero_le _) (fun h2 k2 t2 => ?_)
  have c2 : Cs h T n 0 (fun _ => 0) h2 := ⟨Ok_tr o5 k2.1 (by decide), Tp_k k2 t5, t2, Nat.zero_le _, Dr_eq (Kp_2 k2 (by decide) (by decide)).1 (Kp_2 k2 (by decide) (by decide)).2 (Kp_2 k2 (by decide) (by decide)).2 d5, Nv_0, by
    rw [k2.2 1 (by decide), mI_wI, if_neg (by decide), mI_wI, if_neg (by decide), mI_wI, if_neg (by decide), mI_wI, if_pos ⟨rfl, rfl⟩], Ar_eq (Kp_2 k2 (by decide) (by decide)).1 (Kp_2 k2 (by decide) (by decide)).1 (Kp_2 k2 (by decide) (by decide)).1 (Kp_2 k2 (by decide) (by decide)).1 (Kp_2 k2 (by decide) (by decide)).1 (Kp_2 k2 (by decide) (by decide)).1 (Ar_k (by decide) (Ar_k (by decide) (Ar_k (by decide) (Ar_k (by decide) a1))))⟩
  exact c_read_L l1 (n + 1) 0 0 0 _ h2 c2 (by decide) (Nat.le_refl _) (by omega) hp
/-! the reference's reader: see, isSmall, isDigit -/
def Mp (h : mh_T) (T : Nat → Int32) (n : Nat) : Prop := (mI h 11 3).toInt = (n : Int) ∧ n ≤ 900 ∧ (∀ j, j < n → mI h 43 j = T j) ∧ ∀ j, j < n → 0 ≤ (T j).toInt
theorem m_see_ {g : gT} {h : mh_T} {P : Int32 → mh_T → Prop} {T : Nat → Int32} {n p : Nat} (l1 : Int32) (hT : Mp h T n) (e1 : l1.toInt = (p : Int)) (h1 : p < n → P (T p) h) (h0 : ¬ p < n → P (-1) h) : MCi g yX11_see uX11_see [.ref 11, .int l1] h P := by
  refine e_X11_see l1 ⟨fun z => ?_, fun z => ?_⟩
  · rw [i_le, hT.1, e1] at z
    exact h0 (by omega)
  · rw [i_le, hT.1, e1] at z
    have hp : p < n := by omega
    refine ⟨i_vp e1 (by have := hT.2.1; omega), ?_⟩
    rw [i_nat e1, hT.2.2.1 p hp]
    exact h1 hp
theorem m_isSmall_ {g : gT} {h : mh_T} {P : Int32 → mh_T → Prop} (c : Int32) (h1 : rx_l c = true → P 1 h) (h0 : ¬ rx_l c = true → P 0 h) : MCi g yX11_isSmall uX11_isSmall [.int c] h P :=
  e_X11_isSmall c ⟨fun a => h0 (fun b => (rx_li.mp b).1 a), fun a => ⟨fun b => h0 (fun d => (rx_li.mp d).2 b), fun b => h1 (rx_li.mpr ⟨a, b⟩)⟩⟩
theorem m_isDigit_ {g : gT} {h : mh_T} {P : Int32 → mh_T → Prop} (c : Int32) (h1 : rx_d c = true → P 1 h) (h0 : ¬ rx_d c = true → P 0 h) : MCi g yX11_isDigit uX11_isDigit [.int c] h P :=
  e_X11_isDigit c ⟨fun a => h0 (fun b => (rx_di.mp b).1 a), fun a => ⟨fun b => h0 (fun d => (rx_di.mp d).2 b), fun b => h1 (rx_di.mpr ⟨a, b⟩)⟩⟩
/-! the reference's next() finds the token -/
abbrev mms : List Nat := [11, 44, 46]
def H62 (h h' : mh_T) : Prop := ∀ k, 62 ≤ k → h'.1 k = h.1 k
theorem H62_w {h0 h : mh_T} (a : H62 h0 h) {k j : Nat} {v : Int32} (hk : k < 62) : H62 h0 (wI h k j v) := fun q h62 => by
  rw [← a q h62]
  funext b
  exact (mI_wI h k j q b v).trans (if_neg (fun y => by have := y.1; omega))
theorem H62_tr {a b c : mh_T} (x : H62 a b) (y : H62 b c) : H62 a c := fun k hk => (y k hk).trans (x k hk)
def Of (h h' : mh_T) : Prop := GI h' ∧ Fr mms h h' ∧ (∀ j, (j = 0 ∨ j = 2 ∨ j = 11 ∨ j = 14 ∨ j = 24 ∨ j = 25 ∨ j = 26) → mI h' 11 j = mI h 11 j) ∧ H62 h h'
def Og (h h' : mh_T) : Prop := GI h' ∧ Fr mms h h' ∧ (∀ j, (j = 0 ∨ j = 2 ∨ j = 9 ∨ j = 11 ∨ j = 14 ∨ j = 24 ∨ j = 25 ∨ j = 26) → mI h' 11 j = mI h 11 j) ∧ H62 h h'
def Kq (h h' : mh_T) : Prop := GI h' ∧ Fr [11, 44] h h' ∧ (∀ j, (j < 4 ∨ 9 ≤ j) → mI h' 11 j = mI h 11 j) ∧ H62 h h'
theorem Fr_rf {ms : List Nat} (h : mh_T) : Fr ms h h := fun _ _ _ => ⟨rfl, rfl, rfl⟩
theorem Fr_t2 {ms ms' : List Nat} {h h1 h2 : mh_T} (a : Fr ms h h1) (b : Fr ms' h1 h2) (hs : ∀ x ∈ ms', x ∈ ms) : Fr ms h h2 := fun k hk hm => by
  have x := a k hk hm
  have y := b k hk (fun z => hm (hs k z))
  exact ⟨y.1.trans x.1, y.2.1.trans x.2.1, y.2.2.trans x.2.2⟩
theorem Og_rf {h : mh_T} (hG : GI h) : Og h h := ⟨hG, Fr_rf h, fun _ _ => rfl, fun _ _ => rfl⟩
theorem Og_of {h h' : mh_T} (a : Og h h') : Of h h' := ⟨a.1, a.2.1, fun j hj => a.2.2.1 j (by omega), a.2.2.2⟩
theorem Of_w {h0 h : mh_T} (a : Of h0 h) {k j : Nat} {v : Int32} {lo hi : Int} (e : rgT k j = (lo, hi)) (f : R lo hi v) (hk : k ∈ mms) (hn : ¬ (k = 11 ∧ (j = 0 ∨ j = 2 ∨ j = 11 ∨ j = 14 ∨ j = 24 ∨ j = 25 ∨ j = 26))) : Of h0 (wI h k j v) :=
  ⟨GI_w a.1 e f, Fr_w a.2.1 hk, fun i hi => by rw [mI_wI, if_neg (by omega)]; exact a.2.2.1 i hi, H62_w a.2.2.2 ((show ∀ x ∈ mms, x < 62 by decide) k hk)⟩
theorem Og_w {h0 h : mh_T} (a : Og h0 h) {k j : Nat} {v : Int32} {lo hi : Int} (e : rgT k j = (lo, hi)) (f : R lo hi v) (hk : k ∈ mms) (hn : ¬ k = 11) : Og h0 (wI h k j v) :=
  ⟨GI_w a.1 e f, Fr_w a.2.1 hk, fun i hi => by rw [mI_wI, if_neg (by omega)]; exact a.2.2.1 i hi, H62_w a.2.2.2 ((show ∀ x ∈ mms, x < 62 by decide) k hk)⟩
theorem Og_kq {h0 h h' : mh_T} (a : Og h0 h) (b : Kq h h') : Og h0 h' := ⟨b.1, Fr_t2 a.2.1 b.2.1 (by decide), fun j hj => (b.2.2.1 j (by omega)).trans (a.2.2.1 j hj), H62_tr a.2.2.2 b.2.2.2⟩
theorem Kq_rf {h : mh_T} (hG : GI h) : Kq h h := ⟨hG, Fr_rf h, fun _ _ => rfl, fun _ _ => rfl⟩
theorem Kq_w {h0 h : mh_T} (a : Kq h0 h) {j : Nat} {v : Int32} (hj : 4 ≤ j ∧ j ≤ 8) {lo hi : Int} (e : rgT 11 j = (lo, hi)) (f : R lo hi v) : Kq h0 (wI h 11 j v) :=
  ⟨GI_w a.1 e f, Fr_w a.2.1 (by decide), fun i hi => by rw [mI_wI, if_neg (by omega)]; exact a.2.2.1 i hi, H62_w a.2.2.2 (by decide)⟩
theorem Kq_l {h0 h : mh_T} (a : Kq h0 h) {j : Nat} {v : Int32} : Kq h0 (wI h 44 j v) :=
  ⟨GI_w a.1 (rgc_44 j) (R_full v), Fr_w a.2.1 (by decide), fun i hi => by rw [mI_wI, if_neg (fun z => absurd z.1 (by decide))]; exact a.2.2.1 i hi, H62_w a.2.2.2 (by decide)⟩
theorem Mp_k {h h' : mh_T} {T : Nat → Int32} {n : Nat} (a : Kq h h') (t : Mp h T n) : Mp h' T n :=
  ⟨by rw [a.2.2.1 3 (by decide)]; exact t.1, t.2.1, fun j hj => by
    have := (a.2.1 43 (by decide) (by decide)).1
    show h'.1 43 j = T j
    rw [this]
    exact t.2.2.1 j hj, t.2.2.2⟩
def Mk (h : mh_T) (T : Nat → Int32) (n e : Nat) : Prop := (mI h 11 4).toInt = (rx_s T n e : Int) ∧ (mI h 11 5).toInt = (rx_e T n e : Int) ∧ mI h 11 6 = rx_k T n e ∧ (rx_k T n e = 3 → mI h 11 7 = rx_v T n e) ∧ (rx_k T n e = 2 → (mI h 11 8).toInt = ((rx_e T n e - rx_s T n e : Nat) : Int) ∧ ∀ i, i < rx_e T n e - rx_s T n e → mI h 44 i = T (rx_s T n e + i))
theorem b_next_w {g : gT} {h0 : mh_T} {P : mh_T → Prop} {T : Nat → Int32} {n e s : Nat} (hT : Mp h0 T n) (es : rx_s T n e = s) (hsn : s < n) (hl : rx_l (T s) = true) (hp : ∀ h', Kq h0 h' → Mk h' T n e → P h') (l2 : Int32) : ∀ (m : Nat) (h : mh_T) (l1 : Int32) (p : Nat), Kq h0 h → (mI h 11 4).toInt = (s : Int) → l1.toInt = (p : Int) → s ≤ p → p ≤ n → n - p < m → (∀ i, s ≤ i → i < p → i < n ∧ rx_l (T i) = true) → (mI h 11 8).toInt = ((p - s : Nat) : Int) → (∀ i, i < p - s → i < 8 → mI h 44 i = T (s + i)) → ME g uX11_next 67 [.ref 11, .int l1, .int l2, .retAddr 0] [] h (qV P) := by
  intro m
  induction m with
  | zero => intro h l1 p _ _ _ _ _ hm; exact absurd hm (Nat.not_lt_zero _)
  | succ m ih =>
    intro h l1 p kq h4 e1 hsp hpn hm hin h8 hlt
    have hT' := Mp_k kq hT
    have n9 := hT.2.1
    have dn : ¬ (p < n ∧ rx_l (T p) = true) → ((mI (wI h 11 5 l1) 11 8) ≤ 8 → P (wI (wI h 11 5 l1) 11 6 2)) ∧ (¬ (mI (wI h 11 5 l1) 11 8) ≤ 8 → P (wI (wI h 11 5 l1) 11 6 1)) := by
      intro hx
      have ep : rx_sc rx_l T n s = p := rx_eq _ s p rfl hsp hin hx
      have ee : rx_e T n e = p := by
        unfold rx_e
        rw [es, if_pos hsn, if_pos hl, ep]
      have ek : rx_k T n e = if p - s ≤ 8 then 2 else 1 := by
        unfold rx_k
        rw [ee, es, if_pos hsn, if_pos hl]
      have i8 : (8 : Int32).toInt = 8 := by decide
      have fin : ∀ v : Int32, v = rx_k T n e → P (wI (wI h 11 5 l1) 11 6 v) := by
        intro v hv
        refine hp _ (Kq_w (Kq_w kq (j := 5) (by decide) (lo := 0) (hi := 900) (by decide) ⟨by omega, by omega⟩) (j := 6) (by decide) (lo := -2147483648) (hi := 2147483647) (by decide) (R_full _)) ⟨?_, ?_, ?_, ?_, ?_⟩
        · rw [mI_wI, if_neg (by decide), mI_wI, if_neg (by decide), es]; exact h4
        · rw [mI_wI, if_neg (by decide), mI_wI, if_pos ⟨rfl, rfl⟩, ee]; exact e1
        · rw [mI_wI, if_pos ⟨rfl, rfl⟩]; exact hv
        · intro k3
          rw [ek] at k3
          split at k3 <;> exact absurd k3 (by decide)
        · intro k2
          have hle : p - s ≤ 8 := by
            rw [ek] at k2
            split at k2
            · assumption
            · exact absurd k2 (by decide)
          rw [mI_wI, if_neg (by decide), mI_wI, if_neg (by decide), ee, es]
          refine ⟨h8, fun i hi => ?_⟩
          rw [mI_wI, if_neg (fun z => absurd z.1 (by decide)), mI_wI, if_neg (fun z => absurd z.1 (by decide))]
          exact hlt i hi (by omega)
      rw [mI_wI, if_neg (by decide), i_le, h8, i8]
      refine ⟨fun a => fin _ ?_, fun a => fin _ ?_⟩
      · rw [ek, if_pos (by omega)]
      · rw [ek, if_neg (by omega)]
    refine r_X11_next_67 l1 l2 (m_see_ l1 hT' e1 (fun hp1 => ?_) (fun hp0 => ?_))
    · refine m_isSmall_ _ (fun d => ⟨fun z => absurd z (by decide), fun _ => ?_⟩) (fun d => ⟨fun _ => dn (fun z => d z.2), fun z => absurd rfl z⟩)
      have hin' : ∀ i, s ≤ i → i < p + 1 → i < n ∧ rx_l (T i) = true := fun i a b => by
        by_cases c : i = p
        · subst c; exact ⟨hp1, d⟩
        · exact hin i a (by omega)
      have e1' := i_inc e1 (by omega)
      have i8 : (8 : Int32).toInt = 8 := by decide
      have h8' := i_inc h8 (by omega)
      have ps : p + 1 - s = p - s + 1 := by omega
      refine ⟨fun a => ?_, fun a => m_see_ l1 hT' e1 (fun _ => ⟨i_vp h8 ?_, ?_⟩) (fun z => absurd hp1 z)⟩
      · rw [i_le, h8, i8] at a
        refine ih _ (l1 + 1) (p + 1) (Kq_w kq (j := 8) (by decide) (lo := 0) (hi := 900) (by decide) ⟨by omega, by omega⟩) ?_ e1' (by omega) (by omega) (by omega) hin' ?_ (fun i hi h8i => ?_)
        · rw [mI_wI, if_neg (by decide)]; exact h4
        · rw [mI_wI, if_pos ⟨rfl, rfl⟩, ps]; exact h8'
        · rw [mI_wI, if_neg (fun z => absurd z.1 (by decide))]
          exact hlt i (by omega) h8i
      · rw [i_le, h8, i8] at a
        omega
      · rw [i_le, h8, i8] at a
        have ei : mI (wI h 44 (mI h 11 8).toNatClampNeg (T p)) 11 8 = mI h 11 8 := by rw [mI_wI, if_neg (fun z => absurd z.1 (by decide))]
        rw [ei]
        refine ih _ (l1 + 1) (p + 1) (Kq_w (Kq_l kq) (j := 8) (by decide) (lo := 0) (hi := 900) (by decide) ⟨by omega, by omega⟩) ?_ e1' (by omega) (by omega) (by omega) hin' ?_ (fun i hi h8i => ?_)
        · rw [mI_wI, if_neg (by decide), mI_wI, if_neg (fun z => absurd z.1 (by decide))]; exact h4
        · rw [mI_wI, if_pos ⟨rfl, rfl⟩, ps]; exact h8'
        · rw [mI_wI, if_neg (fun z => absurd z.1 (by decide)), mI_wI, i_nat h8]
          by_cases c : i = p - s
          · rw [if_pos ⟨rfl, c⟩, c, show s + (p - s) = p by omega]
          · rw [if_neg (fun z => c z.2)]
            exact hlt i (by omega) h8i
    · refine m_isSmall_ _ (fun d => absurd d (by decide)) (fun d => ⟨fun _ => dn (fun z => hp0 z.1), fun z => absurd rfl z⟩)
theorem b_next_d {g : gT} {h0 : mh_T} {P : mh_T → Prop} {T : Nat → Int32} {n e s : Nat} (hT : Mp h0 T n) (es : rx_s T n e = s) (hsn : s < n) (hl : ¬ rx_l (T s) = true) (hd : rx_d (T s) = true) (hp : ∀ h', Kq h0 h' → Mk h' T n e → P h') (l2 : Int32) : ∀ (m : Nat) (h : mh_T) (l1 l3 : Int32) (p : Nat), Kq h0 h → (mI h 11 4).toInt = (s : Int) → l1.toInt = (p : Int) → s ≤ p → p ≤ n → n - p < m → (∀ i, s ≤ i → i < p → i < n ∧ rx_d (T i) = true) → l3.toInt = ((p - s : Nat) : Int) → (p - s ≤ 3 → mI h 11 7 = rx_vs T s (p - s)) → ME g uX11_next 152 [.ref 11, .int l1, .int l2, .int l3] [] h (qV P) := by
  intro m
  induction m with
  | zero => intro h l1 l3 p _ _ _ _ _ hm; exact absurd hm (Nat.not_lt_zero _)
  | succ m ih =>
    intro h l1 l3 p kq h4 e1 hsp hpn hm hin e3 hv
    have hT' := Mp_k kq hT
    have n9 := hT.2.1
    have i3 : (3 : Int32).toInt = 3 := by decide
    have dn : ¬ (p < n ∧ rx_d (T p) = true) → (l3 ≤ 3 → P (wI (wI h 11 5 l1) 11 6 3)) ∧ (¬ l3 ≤ 3 → P (wI (wI h 11 5 l1) 11 6 1)) := by
      intro hx
      have ep : rx_sc rx_d T n s = p := rx_eq _ s p rfl hsp hin hx
      have ee : rx_e T n e = p := by
        unfold rx_e
        rw [es, if_pos hsn, if_neg hl, if_pos hd, ep]
      have ek : rx_k T n e = if p - s ≤ 3 then 3 else 1 := by
        unfold rx_k
        rw [ee, es, if_pos hsn, if_neg hl, if_pos hd]
      have fin : ∀ v : Int32, v = rx_k T n e → P (wI (wI h 11 5 l1) 11 6 v) := by
        intro v hv6
        refine hp _ (Kq_w (Kq_w kq (j := 5) (by decide) (lo := 0) (hi := 900) (by decide) ⟨by omega, by omega⟩) (j := 6) (by decide) (lo := -2147483648) (hi := 2147483647) (by decide) (R_full _)) ⟨?_, ?_, ?_, ?_, ?_⟩
        · rw [mI_wI, if_neg (by decide), mI_wI, if_neg (by decide), es]; exact h4
        · rw [mI_wI, if_neg (by decide), mI_wI, if_pos ⟨rfl, rfl⟩, ee]; exact e1
        · rw [mI_wI, if_pos ⟨rfl, rfl⟩]; exact hv6
        · intro k3
          have hle : p - s ≤ 3 := by
            rw [ek] at k3
            split at k3
            · assumption
            · exact absurd k3 (by decide)
          rw [mI_wI, if_neg (by decide), mI_wI, if_neg (by decide), hv hle]
          unfold rx_v
          rw [ee, es]
        · intro k2
          rw [ek] at k2
          split at k2 <;> exact absurd k2 (by decide)
      rw [i_le, e3, i3]
      refine ⟨fun a => fin _ ?_, fun a => fin _ ?_⟩
      · rw [ek, if_pos (by omega)]
      · rw [ek, if_neg (by omega)]
    refine r_X11_next_152 l1 l2 l3 (m_see_ l1 hT' e1 (fun hp1 => ?_) (fun hp0 => ?_))
    · refine m_isDigit_ _ (fun d => ⟨fun z => absurd z (by decide), fun _ => ?_⟩) (fun d => ⟨fun _ => dn (fun z => d z.2), fun z => absurd rfl z⟩)
      have hin' : ∀ i, s ≤ i → i < p + 1 → i < n ∧ rx_d (T i) = true := fun i a b => by
        by_cases c : i = p
        · subst c; exact ⟨hp1, d⟩
        · exact hin i a (by omega)
      have e1' := i_inc e1 (by omega)
      have e3' := i_inc e3 (by omega)
      have ps : p + 1 - s = p - s + 1 := by omega
      refine ⟨fun a => ?_, fun a => m_see_ l1 hT' e1 (fun _ => ?_) (fun z => absurd hp1 z)⟩
      · rw [i_le, e3, i3] at a
        refine ih _ (l1 + 1) (l3 + 1) (p + 1) kq h4 e1' (by omega) (by omega) (by omega) hin' ?_ (fun hi => ?_)
        · rw [ps]; exact e3'
        · omega
      · rw [i_le, e3, i3] at a
        refine ih _ (l1 + 1) (l3 + 1) (p + 1) (Kq_w kq (j := 7) (by decide) (lo := -2147483648) (hi := 2147483647) (by decide) (R_full _)) ?_ e1' (by omega) (by omega) (by omega) hin' ?_ (fun hi => ?_)
        · rw [mI_wI, if_neg (by decide)]; exact h4
        · rw [ps]; exact e3'
        · rw [mI_wI, if_pos ⟨rfl, rfl⟩, ps, hv (by omega)]
          show _ = 10 * rx_vs T s (p - s) + T (s + (p - s)) - 48
          rw [show s + (p - s) = p by omega]
    · refine m_isDigit_ _ (fun d => absurd d (by decide)) (fun d => ⟨fun _ => dn (fun z => hp0 z.1), fun z => absurd rfl z⟩)
theorem b_next_5 {g : gT} {h : mh_T} {P : mh_T → Prop} {T : Nat → Int32} {n e : Nat} (hG : GI h) (hT : Mp h T n) (hp : ∀ h', Kq h h' → Mk h' T n e → P h') : ∀ (m : Nat) (l1 : Int32) (p : Nat), l1.toInt = (p : Int) → e ≤ p → p ≤ n → n - p < m → (∀ i, e ≤ i → i < p → i < n ∧ rx_b (T i) = true) → ME g uX11_next 5 [.ref 11, .int l1, .retAddr 0, .retAddr 0] [] h (qV P) := by
  intro m
  induction m with
  | zero => intro l1 p _ _ _ hm; exact absurd hm (Nat.not_lt_zero _)
  | succ m ih =>
    intro l1 p e1 hep hpn hm hin
    have n9 := hT.2.1
    have kA : Kq h (wI h 11 4 l1) := Kq_w (Kq_rf hG) (j := 4) (by decide) (lo := 0) (hi := 900) (by decide) ⟨by omega, by omega⟩
    have kB : Kq h (wI (wI (wI h 11 4 l1) 11 8 0) 11 7 0) := Kq_w (Kq_w kA (j := 8) (by decide) (lo := 0) (hi := 900) (by decide) ⟨by decide, by decide⟩) (j := 7) (by decide) (lo := -2147483648) (hi := 2147483647) (by decide) (R_full _)
    have b4 : mI (wI (wI (wI h 11 4 l1) 11 8 0) 11 7 0) 11 4 = l1 := by rw [mI_wI, if_neg (by decide), mI_wI, if_neg (by decide), mI_wI, if_pos ⟨rfl, rfl⟩]
    have b8 : mI (wI (wI (wI h 11 4 l1) 11 8 0) 11 7 0) 11 8 = 0 := by rw [mI_wI, if_neg (by decide), mI_wI, if_pos ⟨rfl, rfl⟩]
    have b7 : mI (wI (wI (wI h 11 4 l1) 11 8 0) 11 7 0) 11 7 = 0 := by rw [mI_wI, if_pos ⟨rfl, rfl⟩]
    refine r_X11_next_5 l1 (m_see_ l1 hT e1 (fun hp1 => ⟨fun c => ?_, fun c => ?_⟩) (fun hp0 => ⟨fun _ => ?_, fun c => absurd c (by decide)⟩))
    · have hx : ¬ (p < n ∧ rx_b (T p) = true) := fun z => c (by have := z.2; unfold rx_b at this; exact eq_of_beq this)
      have es : rx_s T n e = p := rx_eq _ e p rfl hep hin hx
      refine m_see_ l1 (Mp_k kA hT) e1 (fun _ => ⟨fun _ => ?_, fun z => ?_⟩) (fun z => absurd hp1 z)
      · refine m_isSmall_ _ (fun d => ⟨fun z => absurd z (by decide), fun _ => ?_⟩) (fun d => ⟨fun _ => ?_, fun z => absurd rfl z⟩)
        · refine b_next_w hT es hp1 d hp _ (n + 1) _ l1 p kB (by rw [b4]; exact e1) e1 (Nat.le_refl _) hpn (by omega) (fun i a b => by omega) ?_ (fun i hi => by omega)
          rw [b8, Nat.sub_self]; rfl
        · refine m_isDigit_ _ (fun d2 => ⟨fun z => absurd z (by decide), fun _ => ?_⟩) (fun d2 => ⟨fun _ => ?_, fun z => absurd rfl z⟩)
          · refine b_next_d hT es hp1 d d2 hp _ (n + 1) _ l1 0 p kB (by rw [b4]; exact e1) e1 (Nat.le_refl _) hpn (by omega) (fun i a b => by omega) ?_ (fun _ => ?_)
            · rw [Nat.sub_self]; rfl
            · rw [b7, Nat.sub_self]; rfl
          · have e1' := i_inc e1 (by omega)
            have ee : rx_e T n e = p + 1 := by
              unfold rx_e
              rw [es, if_pos hp1, if_neg d, if_neg d2]
            have hk : rx_k T n e = if T p = 59 ∨ T p = 44 ∨ T p = 45 then T p else 1 := by
              unfold rx_k
              rw [es, if_pos hp1, if_neg d, if_neg d2]
            have kn : ∀ w : Int32, (w = 2 ∨ w = 3) → ¬ rx_k T n e = w := by
              intro w hw z
              rw [hk] at z
              split at z
              · rename_i q
                rcases hw with rfl | rfl <;> rw [z] at q <;> revert q <;> decide
              · rcases hw with rfl | rfl <;> exact absurd z (by decide)
            have fin : ∀ v : Int32, v = rx_k T n e → P (wI (wI (wI (wI (wI h 11 4 l1) 11 8 0) 11 7 0) 11 5 (l1 + 1)) 11 6 v) := by
              intro v hv
              refine hp _ (Kq_w (Kq_w kB (j := 5) (by decide) (lo := 0) (hi := 900) (by decide) ⟨by omega, by omega⟩) (j := 6) (by decide) (lo := -2147483648) (hi := 2147483647) (by decide) (R_full _)) ⟨?_, ?_, ?_, fun z => absurd z (kn 3 (Or.inr rfl)), fun z => absurd z (kn 2 (Or.inl rfl))⟩
              · rw [mI_wI, if_neg (by decide), mI_wI, if_neg (by decide), b4, es]; exact e1
              · rw [mI_wI, if_neg (by decide), mI_wI, if_pos ⟨rfl, rfl⟩, ee]; exact e1'
              · rw [mI_wI, if_pos ⟨rfl, rfl⟩]; exact hv
            refine ⟨fun a => fin _ ?_, fun a => ⟨fun b => fin _ ?_, fun b => ⟨fun d => fin _ ?_, fun d => fin _ ?_⟩⟩⟩
            · rw [hk, if_pos (Or.inl a)]
            · rw [hk, if_pos (Or.inr (Or.inl b))]
            · rw [hk, if_neg (by rintro (z | z | z); exact a z; exact b z; exact d z)]
            · rw [hk, if_pos (Or.inr (Or.inr d))]
      · exfalso
        have := hT.2.2.2 p hp1
        rw [z] at this
        exact absurd this (by decide)
    · exact ih (l1 + 1) (p + 1) (i_inc e1 (by omega)) (by omega) (by omega) (by omega) (fun i a b => by
        by_cases q : i = p
        · subst q; exact ⟨hp1, by unfold rx_b; rw [c]; rfl⟩
        · exact hin i a (by omega))
    · have hx : ¬ (p < n ∧ rx_b (T p) = true) := fun z => hp0 z.1
      have es : rx_s T n e = p := rx_eq _ e p rfl hep hin hx
      have ee : rx_e T n e = p := by unfold rx_e; rw [es, if_neg hp0]
      have ek : rx_k T n e = 0 := by unfold rx_k; rw [es, if_neg hp0]
      refine m_see_ l1 (Mp_k kA hT) e1 (fun z => absurd z hp0) (fun _ => ⟨fun z => absurd rfl z, fun _ => ?_⟩)
      refine hp _ (Kq_w (Kq_w kB (j := 6) (by decide) (lo := -2147483648) (hi := 2147483647) (by decide) (R_full _)) (j := 5) (by decide) (lo := 0) (hi := 900) (by decide) ⟨by omega, by omega⟩) ⟨?_, ?_, ?_, fun z => ?_, fun z => ?_⟩
      · rw [mI_wI, if_neg (by decide), mI_wI, if_neg (by decide), b4, es]; exact e1
      · rw [mI_wI, if_pos ⟨rfl, rfl⟩, ee]; exact e1
      · rw [mI_wI, if_neg (by decide), mI_wI, if_pos ⟨rfl, rfl⟩, ek]
      · rw [ek] at z; exact absurd z (by decide)
      · rw [ek] at z; exact absurd z (by decide)
theorem b_next {g : gT} {h : mh_T} {P : mh_T → Prop} {T : Nat → Int32} {n e : Nat} (hG : GI h) (hT : Mp h T n) (he : (mI h 11 5).toInt = (e : Int)) (hen : e ≤ n) (hp : ∀ h', Kq h h' → Mk h' T n e → P h') : MCv g yX11_next uX11_next [.ref 11] h P :=
  e_X11_next (fun x1 ex => by
    subst ex
    exact b_next_5 hG hT hp (n + 1) _ e he (Nat.le_refl _) hen (by omega) (fun i a b => by omega))
/-! the reference's small readers -/
theorem i_of {x : Int32} {k : Nat} (h : x.toInt = (k : Int)) (hk : k < 2147483648) : x = Int32.ofNat k := Int32.toInt_inj.mp (h.trans (Int32.toInt_ofNat_of_lt (by omega)).symm)
def Mc (h : mh_T) (f : Nat → Int32) : Prop := ∀ j, j < 346 → mI h 46 j = f j
def Ms (h0 : mh_T) (T : Nat → Int32) (n e : Nat) (f : Nat → Int32) (h : mh_T) : Prop := Og h0 h ∧ Mp h T n ∧ Mk h T n e ∧ e ≤ n ∧ Mc h f ∧ mI h 11 13 = 0
def Mx (h0 : mh_T) (f : Nat → Int32) (w : Int32) (p : Nat) (h : mh_T) : Prop := Of h0 h ∧ mI h 11 13 = 1 ∧ mI h 11 9 = w ∧ (mI h 11 10).toInt = (p : Int) ∧ Mc h f
def wr (h : mh_T) (w : Int32) : mh_T := wI (wI (wI h 11 13 1) 11 9 w) 11 10 (mI h 11 4)
theorem Mc_kq {h h' : mh_T} {f : Nat → Int32} (k : Kq h h') (c : Mc h f) : Mc h' f := fun j hj => by
  have := (k.2.1 46 (by decide) (by decide)).1
  show h'.1 46 j = f j
  rw [this]
  exact c j hj
theorem Ms_next {h0 h h' : mh_T} {T : Nat → Int32} {n e : Nat} {f : Nat → Int32} (c : Ms h0 T n e f h) (k : Kq h h') (t : Mk h' T n (rx_e T n e)) : Ms h0 T n (rx_e T n e) f h' :=
  ⟨Og_kq c.1 k, Mp_k k c.2.1, t, rx_e_le c.2.2.2.1, Mc_kq k c.2.2.2.2.1, by rw [k.2.2.1 13 (by decide)]; exact c.2.2.2.2.2⟩
theorem b_nx {g : gT} {h0 h : mh_T} {P : mh_T → Prop} {T : Nat → Int32} {n e : Nat} {f : Nat → Int32} (c : Ms h0 T n e f h) (hp : ∀ h', Ms h0 T n (rx_e T n e) f h' → P h') : MCv g yX11_next uX11_next [.ref 11] h P :=
  b_next c.1.1 c.2.1 c.2.2.1.2.1 (rx_e_le c.2.2.2.1) (fun h' k t => hp h' (Ms_next c k t))
theorem Mx_wr {h0 h : mh_T} {T : Nat → Int32} {n e : Nat} {f : Nat → Int32} (c : Ms h0 T n e f h) (w : Int32) : Mx h0 f w (rx_s T n e) (wr h w) := by
  refine ⟨Of_w (Of_w (Of_w (Og_of c.1) (k := 11) (j := 13) (lo := 0) (hi := 1) (by decide) ⟨by decide, by decide⟩ (by decide) (by decide)) (k := 11) (j := 9) (lo := -2147483648) (hi := 2147483647) (by decide) (R_full _) (by decide) (by decide)) (k := 11) (j := 10) (lo := -2147483648) (hi := 2147483647) (by decide) (R_full _) (by decide) (by decide), ?_, ?_, ?_, fun j hj => ?_⟩
  · unfold wr
    rw [mI_wI, if_neg (by decide), mI_wI, if_neg (by decide), mI_wI, if_pos ⟨rfl, rfl⟩]
  · unfold wr
    rw [mI_wI, if_neg (by decide), mI_wI, if_pos ⟨rfl, rfl⟩]
  · unfold wr
    rw [mI_wI, if_pos ⟨rfl, rfl⟩]
    exact c.2.2.1.1
  · unfold wr
    rw [mI_wI, if_neg (fun z => absurd z.1 (by decide)), mI_wI, if_neg (fun z => absurd z.1 (by decide)), mI_wI, if_neg (fun z => absurd z.1 (by decide))]
    exact c.2.2.2.2.1 j hj
theorem b_wrong {g : gT} {h0 h : mh_T} {P : mh_T → Prop} {T : Nat → Int32} {n e : Nat} {f : Nat → Int32} (c : Ms h0 T n e f h) (w : Int32) (hp : Mx h0 f w (rx_s T n e) (wr h w) → P (wr h w)) : MCv g yX11_wrong uX11_wrong [.ref 11, .int w, .int (mI h 11 4)] h P :=
  e_X11_wrong w _ ⟨fun _ => hp (Mx_wr c w), fun z => absurd c.2.2.2.2.2 z⟩
theorem Mx_ne {h0 h : mh_T} {f : Nat → Int32} {w : Int32} {p : Nat} (c : Mx h0 f w p h) : ¬ mI h 11 13 = 0 := fun z => by
  rw [c.2.1] at z
  exact absurd z (by decide)
theorem b_isWord_L {g : gT} {h0 h : mh_T} {P : Int32 → mh_T → Prop} {T : Nat → Int32} {n e : Nat} {f : Nat → Int32} (l1 : Nat) (sl1 : l1 < nJS) (c : Ms h0 T n e f h) (k2 : rx_k T n e = 2) (hz : rx_e T n e - rx_s T n e = lenJS.getD l1 0) (h1 : (∀ i, i < lenJS.getD l1 0 → T (rx_s T n e + i) = (bytJS.getD l1 []).getD i 0) → P 1 h) (h0' : ¬ (∀ i, i < lenJS.getD l1 0 → T (rx_s T n e + i) = (bytJS.getD l1 []).getD i 0) → P 0 h) : ∀ (m : Nat) (l2 l3 : Int32) (j : Nat), l3.toInt = (j : Int) → j ≤ lenJS.getD l1 0 → lenJS.getD l1 0 - j < m → ((l2 = 1 ∧ ∀ i, i < j → T (rx_s T n e + i) = (bytJS.getD l1 []).getD i 0) ∨ (l2 = 0 ∧ ¬ (∀ i, i < lenJS.getD l1 0 → T (rx_s T n e + i) = (bytJS.getD l1 []).getD i 0))) → ME g uX11_isWord 32 [.ref 11, .ref (1000 + l1), .int l2, .int l3] [] h (qI P) := by
  intro m
  induction m with
  | zero => intro l2 l3 j _ _ hm; exact absurd hm (Nat.not_lt_zero _)
  | succ m ih =>
    intro l2 l3 j e3 hj hm hin
    obtain ⟨-, k1, k8, kl⟩ := rx_k2 k2
    obtain ⟨e8, el⟩ := c.2.2.1.2.2.2.2 k2
    refine r_X11_isWord_32 l1 l2 l3 sl1 ⟨fun z => ?_, fun z => ?_⟩
    · rw [i_le, e8, e3] at z
      rcases hin with ⟨a, b⟩ | ⟨a, b⟩
      · rw [a]; exact ⟨Or.inr rfl, h1 (fun i hi => b i (by omega))⟩
      · rw [a]; exact ⟨Or.inl rfl, h0' b⟩
    · rw [i_le, e8, e3] at z
      have e3' := i_inc e3 (by omega)
      refine ⟨fun a => ?_, fun a => ⟨i_vp e3 (by omega), ?_⟩⟩
      · have b : ¬ (∀ i, i < lenJS.getD l1 0 → T (rx_s T n e + i) = (bytJS.getD l1 []).getD i 0) := by
          rcases hin with ⟨q, _⟩ | ⟨_, b⟩
          · rw [q] at a; exact absurd a (by decide)
          · exact b
        exact ih 0 (l3 + 1) (j + 1) e3' (by omega) (by omega) (Or.inr ⟨rfl, b⟩)
      · have b : ∀ i, i < j → T (rx_s T n e + i) = (bytJS.getD l1 []).getD i 0 := by
          rcases hin with ⟨_, b⟩ | ⟨q, _⟩
          · exact b
          · exact absurd q a
        rw [i_nat e3, el j (by omega)]
        refine s_J0_charAt l1 l3 sl1 ⟨by omega, by omega⟩ ?_
        rw [i_nat e3, ch_byt l1 sl1 j (by omega)]
        refine ⟨fun y => ih 0 (l3 + 1) (j + 1) e3' (by omega) (by omega) (Or.inr ⟨rfl, fun x => y (x j (by omega))⟩), fun y => ih 1 (l3 + 1) (j + 1) e3' (by omega) (by omega) (Or.inl ⟨rfl, fun i hi => ?_⟩)⟩
        by_cases q : i = j
        · rw [q]; exact y
        · exact b i (by omega)
theorem b_isWord {g : gT} {h0 h : mh_T} {P : Int32 → mh_T → Prop} {T : Nat → Int32} {n e : Nat} {f : Nat → Int32} (l1 : Nat) (sl1 : l1 < nJS) (c : Ms h0 T n e f h) (h1 : rx_wd T n e (bytJS.getD l1 []) = true → P 1 h) (h0' : ¬ rx_wd T n e (bytJS.getD l1 []) = true → P 0 h) : MCi g yX11_isWord uX11_isWord [.ref 11, .ref (1000 + l1)] h P := by
  rw [rx_wd_iff, byt_len l1 sl1] at h1 h0'
  have c6 := c.2.2.1.2.2.1
  refine e_X11_isWord l1 sl1 ⟨fun z => absurd c.2.2.2.2.2 z, fun _ => ⟨fun z => h0' (fun y => z (by rw [c6]; exact y.1)), fun z => ?_⟩⟩
  rw [c6] at z
  obtain ⟨-, k1, k8, kl⟩ := rx_k2 z
  obtain ⟨e8, el⟩ := c.2.2.1.2.2.2.2 z
  refine s_J0_length l1 sl1 (fun r er fr => ?_)
  have iq : mI h 11 8 = r ↔ rx_e T n e - rx_s T n e = lenJS.getD l1 0 := by
    rw [← Int32.toInt_inj, e8, er]
    omega
  rw [iq]
  exact ⟨fun y => b_isWord_L l1 sl1 c z y (fun x => h1 ⟨z, y, x⟩) (fun x => h0' (fun q => x q.2.2)) _ 1 0 0 (by decide) (Nat.zero_le _) (Nat.lt_succ_self _) (Or.inl ⟨rfl, fun i hi => absurd hi (Nat.not_lt_zero i)⟩), fun y => h0' (fun x => y x.2.1)⟩
theorem b_takes {g : gT} {h0 h : mh_T} {P : Int32 → mh_T → Prop} {T : Nat → Int32} {n e : Nat} {f : Nat → Int32} (l1 : Nat) (sl1 : l1 < nJS) (c : Ms h0 T n e f h) (h1 : rx_wd T n e (bytJS.getD l1 []) = true → ∀ h', Ms h0 T n (rx_e T n e) f h' → P 1 h') (h0' : ¬ rx_wd T n e (bytJS.getD l1 []) = true → P 0 h) : MCi g yX11_takes uX11_takes [.ref 11, .ref (1000 + l1)] h P :=
  e_X11_takes l1 sl1 (b_isWord l1 sl1 c (fun z => ⟨fun _ => b_nx c (h1 z), fun y => absurd y (by decide)⟩) (fun z => ⟨fun y => absurd rfl y, fun _ => h0' z⟩))
theorem b_pass {g : gT} {h0 h : mh_T} {P : mh_T → Prop} {T : Nat → Int32} {n e : Nat} {f : Nat → Int32} (l1 : Nat) (sl1 : l1 < nJS) (c : Ms h0 T n e f h) (h1 : rx_word T n l1 e f = .inr ((), rx_e T n e, f) → ∀ h', Ms h0 T n (rx_e T n e) f h' → P h') (h0' : rx_word T n l1 e f = rx_no T n e 1 → Mx h0 f 1 (rx_s T n e) (wr h 1) → P (wr h 1)) : MCv g yX11_pass uX11_pass [.ref 11, .ref (1000 + l1)] h P := by
  refine e_X11_pass l1 sl1 ⟨fun z => absurd c.2.2.2.2.2 z, fun _ => b_takes l1 sl1 c (fun z h' c' => ⟨fun _ => h1 ?_ h' c', fun y => absurd y (by decide)⟩) (fun z => ⟨fun y => absurd rfl y, fun _ => b_wrong c 1 (h0' ?_)⟩)⟩
  · unfold rx_word; rw [if_pos z]
  · unfold rx_word; rw [if_neg z]
theorem x_pass {g : gT} {h : mh_T} {P : mh_T → Prop} (l1 : Nat) (sl1 : l1 < nJS) (z : ¬ mI h 11 13 = 0) (hp : P h) : MCv g yX11_pass uX11_pass [.ref 11, .ref (1000 + l1)] h P := e_X11_pass l1 sl1 ⟨fun _ => hp, fun y => absurd y z⟩
theorem b_mustName {g : gT} {h0 h : mh_T} {P : mh_T → Prop} {T : Nat → Int32} {n e : Nat} {f : Nat → Int32} (c : Ms h0 T n e f h) (h1 : rx_nm T n e = true → P h) (h0' : ¬ rx_nm T n e = true → Mx h0 f 1 (rx_s T n e) (wr h 1) → P (wr h 1)) : MCv g yX11_mustName uX11_mustName [.ref 11] h P := by
  rw [rx_nm_iff] at h1 h0'
  have c6 := c.2.2.1.2.2.1
  have no : ∀ i, i < 7 → rx_wd T n e (bytJS.getD i []) = true → (¬ (mI h 11 6) = 2 → MCv g yX11_wrong uX11_wrong [.ref 11, .int 1, .int (mI h 11 4)] h (fun h5 => P h5)) ∧ ((mI h 11 6) = 2 → MCv g yX11_wrong uX11_wrong [.ref 11, .int 1, .int (mI h 11 4)] h (fun h7 => P h7)) := fun i hi z => ⟨fun _ => b_wrong c 1 (h0' (fun y => y.2 i hi z)), fun _ => b_wrong c 1 (h0' (fun y => y.2 i hi z))⟩
  refine e_X11_mustName ?_
  refine b_isWord 0 (by decide) c (fun z => ⟨fun _ => no 0 (by decide) z, fun y => absurd y (by decide)⟩) (fun z0 => ⟨fun y => absurd rfl y, fun _ => ?_⟩)
  refine b_isWord 1 (by decide) c (fun z => ⟨fun _ => no 1 (by decide) z, fun y => absurd y (by decide)⟩) (fun z1 => ⟨fun y => absurd rfl y, fun _ => ?_⟩)
  refine b_isWord 2 (by decide) c (fun z => ⟨fun _ => no 2 (by decide) z, fun y => absurd y (by decide)⟩) (fun z2 => ⟨fun y => absurd rfl y, fun _ => ?_⟩)
  refine b_isWord 3 (by decide) c (fun z => ⟨fun _ => no 3 (by decide) z, fun y => absurd y (by decide)⟩) (fun z3 => ⟨fun y => absurd rfl y, fun _ => ?_⟩)
  refine b_isWord 4 (by decide) c (fun z => ⟨fun _ => no 4 (by decide) z, fun y => absurd y (by decide)⟩) (fun z4 => ⟨fun y => absurd rfl y, fun _ => ?_⟩)
  refine b_isWord 5 (by decide) c (fun z => ⟨fun _ => no 5 (by decide) z, fun y => absurd y (by decide)⟩) (fun z5 => ⟨fun y => absurd rfl y, fun _ => ?_⟩)
  refine b_isWord 6 (by decide) c (fun z => ⟨fun y => absurd y (by decide), fun _ => no 6 (by decide) z⟩) (fun z6 => ⟨fun _ => ⟨fun y => ?_, fun y => ?_⟩, fun y => absurd rfl y⟩)
  · rw [c6] at y
    exact b_wrong c 1 (h0' (fun x => y x.1))
  · rw [c6] at y
    refine h1 ⟨y, fun i hi => ?_⟩
    rcases (show i = 0 ∨ i = 1 ∨ i = 2 ∨ i = 3 ∨ i = 4 ∨ i = 5 ∨ i = 6 by omega) with q | q | q | q | q | q | q <;> subst q <;> assumption
theorem rx_is_i {T : Nat → Int32} {n e : Nat} {f : Nat → Int32} {j : Nat} : rx_is T n e f j = true ↔ (0 < f (211 + j) ∧ f (211 + j) = Int32.ofNat (rx_e T n e - rx_s T n e)) ∧ ∀ i, i < rx_e T n e - rx_s T n e → f (226 + 8 * j + i) = T (rx_s T n e + i) := by
  unfold rx_is
  rw [Bool.and_eq_true, decide_eq_true_iff, List.all_eq_true]
  constructor
  · rintro ⟨a, c⟩
    exact ⟨a, fun i hi => eq_of_beq (c i (List.mem_range.mpr hi))⟩
  · rintro ⟨a, c⟩
    exact ⟨a, fun i hi => beq_iff_eq.mpr (c i (List.mem_range.mp hi))⟩
theorem rx_fd_first {T : Nat → Int32} {n e : Nat} {f : Nat → Int32} {j : Nat} (hj : j < 15) (h : rx_is T n e f j = true) (hn : ∀ i, i < j → ¬ rx_is T n e f i = true) : rx_fd T n e f = some j := by
  unfold rx_fd
  rw [List.find?_range_eq_some]
  exact ⟨h, List.mem_range.mpr hj, fun i hi => by rw [Bool.not_eq_true']; exact Bool.eq_false_iff.mpr (hn i hi)⟩
theorem b_find {g : gT} {h0 h : mh_T} {P : Int32 → mh_T → Prop} {T : Nat → Int32} {n e : Nat} {f : Nat → Int32} (c : Ms h0 T n e f h) (k2 : rx_k T n e = 2) (h1 : ∀ (r : Int32) (j : Nat), rx_fd T n e f = some j → r.toInt = (j : Int) → j < 15 → P r h) (h0' : rx_fd T n e f = none → P (-1) h) : MCi g yX11_find uX11_find [.ref 11] h P := by
  obtain ⟨-, k1, k8, kl⟩ := rx_k2 k2
  obtain ⟨e8, el⟩ := c.2.2.1.2.2.2.2 k2
  have q8 : mI h 11 8 = Int32.ofNat (rx_e T n e - rx_s T n e) := i_of e8 (by omega)
  have i0 : (0 : Int32).toInt = 0 := by decide
  have i15 : (15 : Int32).toInt = 15 := by decide
  have i226 : (226 : Int32).toInt = 226 := by decide
  have L : ∀ (m : Nat) (l1 : Int32) (j : Nat), l1.toInt = (j : Int) → j ≤ 15 → 15 - j < m → (∀ i, i < j → ¬ rx_is T n e f i = true) → ME g uX11_find 2 [.ref 11, .int l1, .retAddr 0, .retAddr 0] [] h (qI P) := by
    intro m
    induction m with
    | zero => intro l1 j _ _ hm; exact absurd hm (Nat.not_lt_zero _)
    | succ m ih =>
      intro l1 j e1 hj hm hin
      have nx : j < 15 → ¬ rx_is T n e f j = true → ME g uX11_find 2 [.ref 11, .int (l1 + 1), .retAddr 0, .retAddr 0] [] h (qI P) := fun hj' hx => ih (l1 + 1) (j + 1) (i_inc e1 (by omega)) (by omega) (by omega) (fun i hi => by
        by_cases q : i = j
        · rw [q]; exact hx
        · exact hin i (by omega))
      have K : j < 15 → ∀ (m : Nat) (l2 l3 : Int32) (k : Nat), l3.toInt = (k : Int) → k ≤ 8 → 8 - k < m → ((l2 = 1 ∧ (0 < f (211 + j) ∧ f (211 + j) = Int32.ofNat (rx_e T n e - rx_s T n e)) ∧ (∀ i, i < k → i < rx_e T n e - rx_s T n e → f (226 + 8 * j + i) = T (rx_s T n e + i))) ∨ (l2 = 0 ∧ ¬ rx_is T n e f j = true)) → ME g uX11_find 46 [.ref 11, .int l1, .int l2, .int l3] [] h (qI P) := by
        intro hj' m'
        induction m' with
        | zero => intro l2 l3 k _ _ hm; exact absurd hm (Nat.not_lt_zero _)
        | succ m' ih' =>
          intro l2 l3 k e3 hk8 hmk hst
          have fin0 : l2 = 0 → ME g uX11_find 2 [.ref 11, .int (l1 + 1), .retAddr 0, .retAddr 0] [] h (qI P) := fun a => by
            rcases hst with ⟨q, _⟩ | ⟨_, q⟩
            · rw [q] at a; exact absurd a (by decide)
            · exact nx hj' q
          have i8 : (8 * l1).toInt = ((8 * j : Nat) : Int) := by
            rw [Int32.toInt_mul, e1, show (8 : Int32).toInt = 8 from by decide, bm (by omega) (by omega)]
            omega
          have ia : (226 + 8 * l1).toInt = ((226 + 8 * j : Nat) : Int) := by
            rw [i_add i226 i8 (by omega)]; omega
          have ib : ((226 + 8 * l1) + l3).toInt = ((226 + 8 * j + k : Nat) : Int) := by
            rw [i_add ia e3 (by omega)]; omega
          refine r_X11_find_46 l1 l2 l3 ⟨fun z => ⟨fin0, fun a => ?_⟩, fun z => ⟨fun a => ⟨fin0, fun b => absurd a b⟩, fun a => ?_⟩⟩
          · rw [i_le, e8, e3] at z
            rcases hst with ⟨_, q, q2⟩ | ⟨q, _⟩
            · exact h1 l1 j (rx_fd_first hj' (rx_is_i.mpr ⟨q, fun i hi => q2 i (by omega) hi⟩) hin) e1 hj'
            · exact absurd q a
          · rw [i_le, e8, e3] at z
            rcases hst with ⟨_, q, q2⟩ | ⟨q, _⟩
            · refine ⟨i_vp ib (by omega), i_vp e3 (by omega), ?_⟩
              rw [i_nat ib, i_nat e3, c.2.2.2.2.1 _ (by omega), el k (by omega)]
              have e3' := i_inc e3 (by omega)
              refine ⟨fun y => ih' 0 (l3 + 1) (k + 1) e3' (by omega) (by omega) (Or.inr ⟨rfl, fun x => y ((rx_is_i.mp x).2 k (by omega))⟩), fun y => ih' 1 (l3 + 1) (k + 1) e3' (by omega) (by omega) (Or.inl ⟨rfl, q, fun i hi hi2 => ?_⟩)⟩
              by_cases x : i = k
              · rw [x]; exact y
              · exact q2 i (by omega) hi2
            · exact absurd q a
      refine r_X11_find_2 l1 ⟨fun z => ?_, fun z => ?_⟩
      · rw [i_le, i15, e1] at z
        exact h0' (rx_fd_none (fun i hi => hin i (by omega)))
      · rw [i_le, i15, e1] at z
        have hj' : j < 15 := by omega
        have ix : (211 + l1).toInt = ((211 + j : Nat) : Int) := by
          rw [i_add (show (211 : Int32).toInt = 211 from by decide) e1 (by omega)]; omega
        have vx := i_vp (n := 346) ix (by omega)
        refine ⟨vx, ?_⟩
        rw [i_nat ix, c.2.2.2.2.1 _ (by omega), q8]
        refine ⟨fun y => K hj' 9 0 0 0 (by decide) (by omega) (by omega) (Or.inr ⟨rfl, fun x => ?_⟩), fun y => ⟨vx, fun w => K hj' 9 0 0 0 (by decide) (by omega) (by omega) (Or.inr ⟨rfl, fun x => w (rx_is_i.mp x).1.2⟩), fun w => K hj' 9 1 0 0 (by decide) (by omega) (by omega) (Or.inl ⟨rfl, ⟨nle y, w⟩, fun i hi => absurd hi (Nat.not_lt_zero i)⟩)⟩⟩
        have := (rx_is_i.mp x).1.1
        rw [i_lt] at this
        rw [i_le] at y
        omega
  exact e_X11_find (L 16 0 0 (by decide) (by omega) (by omega) (fun i hi => absurd hi (Nat.not_lt_zero i)))
/-! the reference's names, numbers, signs -/
def Un (l2 : Int32) (u : Nat → Bool) : Prop := ∀ q, q < 9 → u q = bt l2 q
theorem Un_0 : Un 0 (fun _ => false) := by
  unfold Un
  decide
theorem Un_or {x r : Int32} {p : Nat} {u : Nat → Bool} (e : r.toInt = (p : Int)) (hp : p < 9) (hu : Un x u) : Un (x ||| (1 <<< (r &&& 31))) (fun q => q == p || u q) := fun q hq => by
  rw [bt_or e hp hq]
  show (q == p || u q) = _
  rw [hu q hq]
theorem Un_1 {r : Int32} {p : Nat} (e : r.toInt = (p : Int)) (hp : p < 9) : Un (1 <<< (r &&& 31)) (fun q => q == p || false) := by
  have := Un_or e hp Un_0
  rw [Int32.zero_or] at this
  exact this
theorem bt_1 {x r : Int32} {p : Nat} (e : r.toInt = (p : Int)) (hp : p < 9) : ((x >>> (r &&& 31)) &&& 1) = 1 ↔ bt x p = true := by
  have a := bt_0 (x := x) e hp
  have b : ((x >>> (r &&& 31)) &&& 1) = 0 ∨ ((x >>> (r &&& 31)) &&& 1) = 1 := R_z (R_and (x := x >>> (r &&& 31)) (y := 1) (c := 1) (d := 1) ⟨by decide, by decide⟩ (by decide))
  constructor
  · intro z
    cases y : bt x p
    · rw [a.mpr y] at z
      exact absurd z (by decide)
    · rfl
  · intro z
    rcases b with b | b
    · rw [a.mp b] at z
      cases z
    · exact b
theorem b_has {g : gT} {h0 h : mh_T} {P : mh_T → Prop} {T : Nat → Int32} {n e : Nat} {f : Nat → Int32} (c : Ms h0 T n e f h) {l2 : Int32} {u : Nat → Bool} (hu : Un l2 u) (k : Nat) (x : Int32) (ex : x.toInt = (k : Int)) (hk : k < 9) (h1 : u k = false → P h) (h3 : u k = true → Mx h0 f 3 (rx_s T n e) (wr h 3) → P (wr h 3)) : MCi g yX11_has uX11_has [.int l2, .int x] h (fun r12 h11 => (r12 = 0 → P h11) ∧ (¬ r12 = 0 → MCv g yX11_wrong uX11_wrong [.ref 11, .int 3, .int (mI h11 11 4)] h11 (fun h14 => P h14))) := by
  rw [hu k hk] at h1 h3
  refine e_X11_has l2 x ⟨fun z => ⟨fun _ => h1 (Bool.eq_false_iff.mpr (fun y => z ((bt_1 ex hk).mpr y))), fun y => absurd rfl y⟩, fun z => ⟨fun y => absurd y (by decide), fun _ => b_wrong c 3 (h3 ((bt_1 ex hk).mp z))⟩⟩
theorem b_namedL {g : gT} {h0 h : mh_T} {P : Int32 → mh_T → Prop} {T : Nat → Int32} {n e : Nat} {f : Nat → Int32} (c : Ms h0 T n e f h) (l2 : Int32) (u : Nat → Bool) (hu : Un l2 u) (h1 : ∀ (r : Int32) (k : Nat), rx_name T n true e f = .inr (k, rx_e T n e, f) → r.toInt = (k : Int) → k < 6 → u k = false → P r h) (h3 : ∀ (r : Int32) (k : Nat), rx_name T n true e f = .inr (k, rx_e T n e, f) → r.toInt = (k : Int) → k < 6 → u k = true → Mx h0 f 3 (rx_s T n e) (wr h 3) → P r (wr h 3)) (h0' : ∀ w : Int32, ¬ w = 0 → rx_name T n true e f = rx_no T n e w → Mx h0 f w (rx_s T n e) (wr h w) → P 0 (wr h w)) : MCi g yX11_named uX11_named [.ref 11, .int 1, .int l2] h P := by
  have c13 := c.2.2.2.2.2
  have i0 : (0 : Int32).toInt = 0 := by decide
  have i6 : (6 : Int32).toInt = 6 := by decide
  refine e_X11_named 1 l2 ⟨fun _ => b_mustName c (fun z => ⟨fun _ => ?_, fun y => absurd c13 y⟩) (fun z mx => ⟨fun y => absurd y (Mx_ne mx), fun _ => h0' 1 (by decide) (by unfold rx_name; rw [if_neg z]) mx⟩), fun y => absurd c13 y⟩
  have k2 := (rx_nm_iff.mp z).1
  refine b_find c k2 (fun r j fj er hj => ⟨fun y => ?_, fun y => ⟨fun x => ⟨fun q => absurd q (by decide), fun _ => ?_⟩, fun x => ⟨fun _ => ⟨fun _ => ⟨fun q => absurd q (by decide), fun _ => ?_⟩, fun q => absurd c13 q⟩, fun q => absurd rfl q⟩⟩⟩) (fun fn => ⟨fun _ => ?_, fun y => absurd (by decide) y⟩)
  · rw [i_lt, er, i0] at y
    omega
  · rw [i_le, er, i6] at x
    refine b_wrong c 2 (fun mx => ⟨fun q => absurd q (Mx_ne mx), fun _ => h0' 2 (by decide) ?_ mx⟩)
    unfold rx_name
    rw [if_pos z, fj]
    show (if decide (j < 6) = true then _ else _) = _
    rw [if_neg (by rw [decide_eq_true_iff]; omega)]
  · rw [i_le, er, i6] at x
    have en : rx_name T n true e f = .inr (j, rx_e T n e, f) := by
      unfold rx_name
      rw [if_pos z, fj]
      show (if decide (j < 6) = true then _ else _) = _
      rw [if_pos (decide_eq_true (by omega : j < 6))]
      rfl
    exact b_has c hu j r er (by omega) (fun w => h1 r j en er (by omega) w) (fun w mx => h3 r j en er (by omega) w mx)
  · refine b_wrong c 2 (fun mx => ⟨fun q => absurd q (Mx_ne mx), fun _ => h0' 2 (by decide) ?_ mx⟩)
    unfold rx_name
    rw [if_pos z, fn]
theorem b_namedP {g : gT} {h0 h : mh_T} {P : Int32 → mh_T → Prop} {T : Nat → Int32} {n e : Nat} {f : Nat → Int32} (c : Ms h0 T n e f h) (l2 : Int32) (u : Nat → Bool) (hu : Un l2 u) (h1 : ∀ (r : Int32) (k : Nat), rx_name T n false e f = .inr (k, rx_e T n e, f) → r.toInt = (k : Int) → k < 9 → u k = false → P r h) (h3 : ∀ (r : Int32) (k : Nat), rx_name T n false e f = .inr (k, rx_e T n e, f) → r.toInt = (k : Int) → k < 9 → u k = true → Mx h0 f 3 (rx_s T n e) (wr h 3) → P r (wr h 3)) (h0' : ∀ w : Int32, ¬ w = 0 → rx_name T n false e f = rx_no T n e w → Mx h0 f w (rx_s T n e) (wr h w) → P 0 (wr h w)) : MCi g yX11_named uX11_named [.ref 11, .int 0, .int l2] h P := by
  have c13 := c.2.2.2.2.2
  have i0 : (0 : Int32).toInt = 0 := by decide
  have i6 : (6 : Int32).toInt = 6 := by decide
  refine e_X11_named 0 l2 ⟨fun _ => b_mustName c (fun z => ⟨fun _ => ?_, fun y => absurd c13 y⟩) (fun z mx => ⟨fun y => absurd y (Mx_ne mx), fun _ => h0' 1 (by decide) (by unfold rx_name; rw [if_neg z]) mx⟩), fun y => absurd c13 y⟩
  have k2 := (rx_nm_iff.mp z).1
  refine b_find c k2 (fun r j fj er hj => ⟨fun y => ?_, fun y => ⟨fun x => ⟨fun _ => ⟨fun _ => ⟨fun _ x23 ex => ?_, fun q => absurd rfl q⟩, fun q => absurd c13 q⟩, fun q => absurd rfl q⟩, fun x => ⟨fun q => absurd q (by decide), fun _ => ?_⟩⟩⟩) (fun fn => ⟨fun _ => ?_, fun y => absurd (by decide) y⟩)
  · rw [i_lt, er, i0] at y
    omega
  · rw [i_le, er, i6] at x
    have e6 : x23.toInt = ((j - 6 : Nat) : Int) := by
      rw [ex, i_sub er i6 (by omega)]
      omega
    have en : rx_name T n false e f = .inr (j - 6, rx_e T n e, f) := by
      unfold rx_name
      rw [if_pos z, fj]
      show (if decide (j < 6) = false then _ else _) = _
      rw [if_pos (decide_eq_false (by omega : ¬ j < 6))]
      rfl
    exact b_has c hu (j - 6) x23 e6 (by omega) (fun w => h1 x23 (j - 6) en e6 (by omega) w) (fun w mx => h3 x23 (j - 6) en e6 (by omega) w mx)
  · rw [i_le, er, i6] at x
    refine b_wrong c 2 (fun mx => ⟨fun q => absurd q (Mx_ne mx), fun _ => h0' 2 (by decide) ?_ mx⟩)
    unfold rx_name
    rw [if_pos z, fj]
    show (if decide (j < 6) = false then _ else _) = _
    rw [if_neg (by rw [decide_eq_true (by omega : j < 6)]; decide)]
  · refine b_wrong c 2 (fun mx => ⟨fun q => absurd q (Mx_ne mx), fun _ => h0' 2 (by decide) ?_ mx⟩)
    unfold rx_name
    rw [if_pos z, fn]
theorem x_named {g : gT} {h : mh_T} {P : Int32 → mh_T → Prop} (l1 l2 : Int32) (z : ¬ mI h 11 13 = 0) (hp : P 0 h) : MCi g yX11_named uX11_named [.ref 11, .int l1, .int l2] h P := e_X11_named l1 l2 ⟨fun y => absurd y z, fun _ => hp⟩
theorem x_passed {g : gT} {h : mh_T} {P : Int32 → mh_T → Prop} (l1 l2 : Int32) (z : ¬ mI h 11 13 = 0) (hp : P 0 h) : MCi g yX11_passed uX11_passed [.ref 11, .int l1, .int l2] h P := e_X11_passed l1 l2 (x_named l1 l2 z ⟨fun _ => hp, fun y => absurd y z⟩)
theorem b_passedL {g : gT} {h0 h : mh_T} {P : Int32 → mh_T → Prop} {T : Nat → Int32} {n e : Nat} {f : Nat → Int32} (c : Ms h0 T n e f h) (l2 : Int32) (u : Nat → Bool) (hu : Un l2 u) (h1 : ∀ (r : Int32) (k : Nat) (h' : mh_T), rx_name T n true e f = .inr (k, rx_e T n e, f) → r.toInt = (k : Int) → k < 6 → u k = false → Ms h0 T n (rx_e T n e) f h' → P r h') (h3 : ∀ (r : Int32) (k : Nat), rx_name T n true e f = .inr (k, rx_e T n e, f) → r.toInt = (k : Int) → k < 6 → u k = true → Mx h0 f 3 (rx_s T n e) (wr h 3) → P r (wr h 3)) (h0' : ∀ w : Int32, ¬ w = 0 → rx_name T n true e f = rx_no T n e w → Mx h0 f w (rx_s T n e) (wr h w) → P 0 (wr h w)) : MCi g yX11_passed uX11_passed [.ref 11, .int 1, .int l2] h P :=
  e_X11_passed 1 l2 (b_namedL c l2 u hu (fun r k a b d uk => ⟨fun y => absurd c.2.2.2.2.2 y, fun _ => b_nx c (fun h' c' => h1 r k h' a b d uk c')⟩) (fun r k a b d uk mx => ⟨fun _ => h3 r k a b d uk mx, fun y => absurd y (Mx_ne mx)⟩) (fun w hw a mx => ⟨fun _ => h0' w hw a mx, fun y => absurd y (Mx_ne mx)⟩))
theorem b_passedP {g : gT} {h0 h : mh_T} {P : Int32 → mh_T → Prop} {T : Nat → Int32} {n e : Nat} {f : Nat → Int32} (c : Ms h0 T n e f h) (l2 : Int32) (u : Nat → Bool) (hu : Un l2 u) (h1 : ∀ (r : Int32) (k : Nat) (h' : mh_T), rx_name T n false e f = .inr (k, rx_e T n e, f) → r.toInt = (k : Int) → k < 9 → u k = false → Ms h0 T n (rx_e T n e) f h' → P r h') (h3 : ∀ (r : Int32) (k : Nat), rx_name T n false e f = .inr (k, rx_e T n e, f) → r.toInt = (k : Int) → k < 9 → u k = true → Mx h0 f 3 (rx_s T n e) (wr h 3) → P r (wr h 3)) (h0' : ∀ w : Int32, ¬ w = 0 → rx_name T n false e f = rx_no T n e w → Mx h0 f w (rx_s T n e) (wr h w) → P 0 (wr h w)) : MCi g yX11_passed uX11_passed [.ref 11, .int 0, .int l2] h P :=
  e_X11_passed 0 l2 (b_namedP c l2 u hu (fun r k a b d uk => ⟨fun y => absurd c.2.2.2.2.2 y, fun _ => b_nx c (fun h' c' => h1 r k h' a b d uk c')⟩) (fun r k a b d uk mx => ⟨fun _ => h3 r k a b d uk mx, fun y => absurd y (Mx_ne mx)⟩) (fun w hw a mx => ⟨fun _ => h0' w hw a mx, fun y => absurd y (Mx_ne mx)⟩))
theorem b_within {g : gT} {h : mh_T} {P : Int32 → mh_T → Prop} (x lo hi : Int32) (h1 : lo ≤ x ∧ x ≤ hi → P 1 h) (h0 : ¬ (lo ≤ x ∧ x ≤ hi) → P 0 h) : MCi g yX11_within uX11_within [.int x, .int lo, .int hi] h P := by
  rw [i_le, i_le] at h1 h0
  refine e_X11_within x lo hi ⟨fun z => ?_, fun z => ⟨fun y => ?_, fun y => ?_⟩⟩
  · rw [i_lt] at z; exact h0 (by omega)
  · rw [i_lt] at y; exact h0 (by omega)
  · rw [i_lt] at z y; exact h1 (by omega)
theorem b_number {g : gT} {h0 h : mh_T} {P : Int32 → mh_T → Prop} {T : Nat → Int32} {n e : Nat} {f : Nat → Int32} (lo hi : Int32) (c : Ms h0 T n e f h) (h1 : rx_num T n lo hi e f = .inr (rx_v T n e, rx_e T n e, f) → rx_k T n e = 3 → lo ≤ rx_v T n e ∧ rx_v T n e ≤ hi → ∀ h', Ms h0 T n (rx_e T n e) f h' → P (rx_v T n e) h') (h0' : ∀ w : Int32, ¬ w = 0 → rx_num T n lo hi e f = rx_no T n e w → Mx h0 f w (rx_s T n e) (wr h w) → P lo (wr h w)) : MCi g yX11_number uX11_number [.ref 11, .int lo, .int hi] h P := by
  have c6 := c.2.2.1.2.2.1
  refine e_X11_number lo hi ⟨fun _ => ⟨fun z x3 ex => ?_, fun z => ?_⟩, fun y => absurd c.2.2.2.2.2 y⟩
  · rw [c6] at z
    rw [c.2.2.1.2.2.2.1 z] at ex
    subst ex
    refine b_within _ lo hi (fun y => ⟨fun _ => b_nx c (fun h' c' => h1 ?_ z y h' c'), fun x => absurd x (by decide)⟩) (fun y => ⟨fun x => absurd rfl x, fun _ => b_wrong c 4 (h0' 4 (by decide) ?_)⟩)
    · unfold rx_num; rw [if_neg (fun x => x z), if_pos y]
    · unfold rx_num; rw [if_neg (fun x => x z), if_neg y]
  · rw [c6] at z
    refine b_wrong c 1 (h0' 1 (by decide) ?_)
    unfold rx_num; rw [if_pos z]
theorem x_number {g : gT} {h : mh_T} {P : Int32 → mh_T → Prop} (lo hi : Int32) (z : ¬ mI h 11 13 = 0) (hp : P lo h) : MCi g yX11_number uX11_number [.ref 11, .int lo, .int hi] h P := e_X11_number lo hi ⟨fun y => absurd y z, fun _ => hp⟩
theorem b_comma {g : gT} {h0 h : mh_T} {P : Int32 → mh_T → Prop} {T : Nat → Int32} {n e : Nat} {f : Nat → Int32} (c : Ms h0 T n e f h) (h1 : rx_k T n e = 44 → ∀ h', Ms h0 T n (rx_e T n e) f h' → P 1 h') (h0' : ¬ rx_k T n e = 44 → P 0 h) : MCi g yX11_comma uX11_comma [.ref 11] h P := by
  have c6 := c.2.2.1.2.2.1
  refine e_X11_comma ⟨fun y => absurd c.2.2.2.2.2 y, fun _ => ⟨fun z => b_nx c (h1 (by rw [← c6]; exact z)), fun z => h0' (by rw [← c6]; exact z)⟩⟩
theorem x_comma {g : gT} {h : mh_T} {P : Int32 → mh_T → Prop} (z : ¬ mI h 11 13 = 0) (hp : P 0 h) : MCi g yX11_comma uX11_comma [.ref 11] h P := e_X11_comma ⟨fun _ => hp, fun y => absurd y z⟩
theorem b_mustComma {g : gT} {h0 h : mh_T} {P : mh_T → Prop} {T : Nat → Int32} {n e : Nat} {f : Nat → Int32} (c : Ms h0 T n e f h) (h1 : rx_sign T n 44 e f = .inr ((), rx_e T n e, f) → ∀ h', Ms h0 T n (rx_e T n e) f h' → P h') (h0' : rx_sign T n 44 e f = rx_no T n e 1 → Mx h0 f 1 (rx_s T n e) (wr h 1) → P (wr h 1)) : MCv g yX11_mustComma uX11_mustComma [.ref 11] h P := by
  refine e_X11_mustComma ⟨fun y => absurd c.2.2.2.2.2 y, fun _ => b_comma c (fun z h' c' => ⟨fun _ => h1 ?_ h' c', fun y => absurd y (by decide)⟩) (fun z => ⟨fun y => absurd rfl y, fun _ => b_wrong c 1 (h0' ?_)⟩)⟩
  · unfold rx_sign; rw [if_pos z]
  · unfold rx_sign; rw [if_neg z]
theorem x_mustComma {g : gT} {h : mh_T} {P : mh_T → Prop} (z : ¬ mI h 11 13 = 0) (hp : P h) : MCv g yX11_mustComma uX11_mustComma [.ref 11] h P := e_X11_mustComma ⟨fun _ => hp, fun y => absurd y z⟩
/-- a slot of the draft -/
theorem Mc_w {h : mh_T} {f : Nat → Int32} (c : Mc h f) (j : Nat) (v : Int32) : Mc (wI h 46 j v) (rx_set f j v) := fun i hi => by
  rw [mI_wI]
  unfold rx_set
  by_cases q : i = j
  · rw [if_pos ⟨rfl, q⟩, if_pos q]
  · rw [if_neg (fun z => q z.2), if_neg q]
    exact c i hi
theorem Ms_w {h0 h : mh_T} {T : Nat → Int32} {n e : Nat} {f : Nat → Int32} (c : Ms h0 T n e f h) {j : Nat} {v : Int32} {lo hi : Int} (er : rgT 46 j = (lo, hi)) (fr : R lo hi v) : Ms h0 T n e (rx_set f j v) (wI h 46 j v) := by
  have o : ∀ k i, ¬ k = 46 → mI (wI h 46 j v) k i = mI h k i := fun k i hk => by rw [mI_wI, if_neg (fun z => hk z.1)]
  refine ⟨Og_w c.1 er fr (by decide) (by decide), ⟨?_, c.2.1.2.1, fun i hi => ?_, c.2.1.2.2.2⟩, ⟨?_, ?_, ?_, fun z => ?_, fun z => ?_⟩, c.2.2.2.1, Mc_w c.2.2.2.2.1 j v, ?_⟩
  · rw [o 11 3 (by decide)]; exact c.2.1.1
  · rw [o 43 i (by decide)]; exact c.2.1.2.2.1 i hi
  · rw [o 11 4 (by decide)]; exact c.2.2.1.1
  · rw [o 11 5 (by decide)]; exact c.2.2.1.2.1
  · rw [o 11 6 (by decide)]; exact c.2.2.1.2.2.1
  · rw [o 11 7 (by decide)]; exact c.2.2.1.2.2.2.1 z
  · rw [o 11 8 (by decide)]
    exact ⟨(c.2.2.1.2.2.2.2 z).1, fun i hi => by rw [o 44 i (by decide)]; exact (c.2.2.1.2.2.2.2 z).2 i hi⟩
  · rw [o 11 13 (by decide)]; exact c.2.2.2.2.2
theorem Mx_w {h0 h : mh_T} {f : Nat → Int32} {w : Int32} {p : Nat} (c : Mx h0 f w p h) {j : Nat} {v : Int32} {lo hi : Int} (er : rgT 46 j = (lo, hi)) (fr : R lo hi v) : Mx h0 (rx_set f j v) w p (wI h 46 j v) := by
  have o : ∀ k i, ¬ k = 46 → mI (wI h 46 j v) k i = mI h k i := fun k i hk => by rw [mI_wI, if_neg (fun z => hk z.1)]
  refine ⟨Of_w c.1 er fr (by decide) (fun z => absurd z.1 (by decide)), ?_, ?_, ?_, Mc_w c.2.2.2.2 j v⟩
  · rw [o 11 13 (by decide)]; exact c.2.1
  · rw [o 11 9 (by decide)]; exact c.2.2.1
  · rw [o 11 10 (by decide)]; exact c.2.2.2.1
/-- what a line comes to -/
def Mo (h0 : mh_T) (T : Nat → Int32) (n : Nat) (o : rx_O Unit) (h : mh_T) : Prop := (∃ e f, o = .inr ((), e, f) ∧ Ms h0 T n e f h) ∨ (∃ w p f, o = .inl (w, p) ∧ Mx h0 f w p h)
theorem Mo_no {h0 h : mh_T} {T : Nat → Int32} {n e : Nat} {f : Nat → Int32} {w : Int32} {o : rx_O Unit} (c : Mx h0 f w (rx_s T n e) h) (ho : o = rx_no T n e w) : Mo h0 T n o h := Or.inr ⟨w, rx_s T n e, f, ho, c⟩
theorem Mo_ok {h0 h : mh_T} {T : Nat → Int32} {n e : Nat} {f : Nat → Int32} {o : rx_O Unit} (c : Ms h0 T n e f h) (ho : o = .inr ((), e, f)) : Mo h0 T n o h := Or.inl ⟨e, f, ho, c⟩
/-! the reference's lines: law, set -/
theorem b_lawLine {g : gT} {h0 h : mh_T} {P : mh_T → Prop} {T : Nat → Int32} {n e : Nat} {f : Nat → Int32} (c : Ms h0 T n e f h) (hp : ∀ h', Mo h0 T n (rx_bind (rx_word T n 7 e f) (fun _ e1 f1 => rx_bind (rx_num T n 1 60 e1 f1) (fun v e2 f2 => .inr ((), e2, rx_set f2 49 v)))) h' → P h') : MCv g yX11_lawLine uX11_lawLine [.ref 11] h P := by
  have n49 : Int32.toNatClampNeg 49 = 49 := by decide
  refine e_X11_lawLine (b_pass 7 (by decide) c (fun ew h1 c1 => ?_) (fun ew mx => ?_))
  · rw [ew] at hp
    change ∀ h', Mo h0 T n (rx_bind (rx_num T n 1 60 (rx_e T n e) f) (fun v e2 f2 => .inr ((), e2, rx_set f2 49 v))) h' → P h' at hp
    refine b_number 1 60 c1 (fun en k3 vr h2 c2 => ⟨fun y => absurd c2.2.2.2.2.2 y, fun _ => ?_⟩) (fun w hw en mx => ⟨fun _ => hp _ (Mo_no mx (by rw [en]; rfl)), fun y => absurd y (Mx_ne mx)⟩)
    rw [en] at hp
    rw [i_le, i_le, show (1 : Int32).toInt = 1 from by decide, show (60 : Int32).toInt = 60 from by decide] at vr
    rw [n49]
    exact hp _ (Mo_ok (Ms_w c2 (lo := 0) (hi := 60) (by decide) ⟨by omega, by omega⟩) rfl)
  · exact x_number 1 60 (Mx_ne mx) ⟨fun _ => hp _ (Mo_no mx (by rw [ew]; rfl)), fun y => absurd y (Mx_ne mx)⟩
theorem x_tm {g : gT} {h0 h : mh_T} {P : mh_T → Prop} {f : Nat → Int32} {w : Int32} {p : Nat} (l1 l2 l3 l4 l5 : Int32) (c : Mx h0 f w p h) (hp : P h) : ME g uX11_setLine 142 [.ref 11, .int l1, .int l2, .int l3, .int l4, .int l5, .retAddr 0, .retAddr 0] [] h (qV P) :=
  r_X11_setLine_142 l1 l2 l3 l4 l5 ⟨fun _ => ⟨fun _ => hp, fun y => absurd y (Mx_ne c)⟩, fun _ => ⟨fun _ => ⟨fun y => absurd y (Mx_ne c), fun _ => hp⟩, fun _ => x_mustComma (Mx_ne c) ⟨fun y => absurd y (Mx_ne c), fun _ => hp⟩⟩⟩
theorem b_tm {g : gT} {h0 : mh_T} {P : mh_T → Prop} {T : Nat → Int32} {n s many : Nat} (l1 l2 l3 : Int32) (hs : s < 8) (e1 : l1.toInt = (s : Int)) (hm : many = 2 ∨ many = 4) (e3 : l3.toInt = (many : Int)) : ∀ (r : Nat) (l4 l5 : Int32) (e : Nat) (f : Nat → Int32) (h : mh_T), Ms h0 T n e f h → (f 0).toInt = (s : Int) → r ≤ many → l5.toInt = ((many - r : Nat) : Int) → (∀ h', Mo h0 T n (rx_tm T n s many r l4 e f) h' → P h') → ME g uX11_setLine 142 [.ref 11, .int l1, .int l2, .int l3, .int l4, .int l5, .retAddr 0, .retAddr 0] [] h (qV P) := by
  have n0 : Int32.toNatClampNeg 0 = 0 := by decide
  have n49 : Int32.toNatClampNeg 49 = 49 := by decide
  have i0 : (0 : Int32).toInt = 0 := by decide
  have i60 : (60 : Int32).toInt = 60 := by decide
  intro r
  induction r with
  | zero =>
    intro l4 l5 e f h c f0 hr e5 hp
    refine r_X11_setLine_142 l1 l2 l3 l4 l5 ⟨fun _ => ⟨fun y => absurd c.2.2.2.2.2 y, fun _ => ?_⟩, fun z => ?_⟩
    · rw [n0, c.2.2.2.2.1 0 (by decide)]
      have := i_inc f0 (by omega)
      exact hp _ (Mo_ok (Ms_w c (lo := 0) (hi := 8) (by decide) ⟨by omega, by omega⟩) rfl)
    · exfalso
      apply z
      rw [i_le, e3, e5]
      omega
  | succ r ih =>
    intro l4 l5 e f h c f0 hr e5 hp
    have ix : ((17 + (4 * l1)) + l5).toInt = ((17 + 4 * s + (many - (r + 1)) : Nat) : Int) := by
      have a : (4 * l1).toInt = 4 * (s : Int) := by
        rw [Int32.toInt_mul, e1, show (4 : Int32).toInt = 4 from by decide, bm (by omega) (by omega)]
      have b : (17 + (4 * l1)).toInt = 17 + 4 * (s : Int) := i_add (by decide) a (by omega)
      rw [i_add b e5 (by omega)]
      omega
    have hix : 17 + 4 * s + (many - (r + 1)) ≤ 48 := by omega
    have vx := i_vp (n := 346) ix (by omega)
    have e5' : (l5 + 1).toInt = ((many - r : Nat) : Int) := by
      have := i_inc e5 (by omega)
      rw [this]
      omega
    have N : ∀ (h1 : mh_T) (e0 : Nat), Ms h0 T n e0 f h1 → (∀ h', Mo h0 T n (rx_bind (rx_num T n 0 60 e0 f) (fun v e1 f1 => if r = 0 ∧ ¬ l4 + v = f1 49 then rx_no T n e0 4 else rx_tm T n s many r (l4 + v) e1 (rx_set f1 (17 + 4 * s + (many - (r + 1))) v))) h' → P h') → (rx_k T n e0 = 3 → 0 ≤ rx_v T n e0 ∧ rx_v T n e0 ≤ 60 → ¬ (r = 0 ∧ ¬ l4 + rx_v T n e0 = f 49)) → MCi g yX11_number uX11_number [.ref 11, .int 0, .int 60] h1 (fun r8 h7 => (vp_in ((17 + (4 * l1)) + l5) 346) ∧ (∀ x10 : Int32, x10 = (l4 + r8) → ME g uX11_setLine 142 [.ref 11, .int l1, .int l2, .int l3, .int x10, .int (l5 + 1), .retAddr 0, .retAddr 0] [] (wI h7 46 ((17 + (4 * l1)) + l5).toNatClampNeg r8) (qV P))) := by
      intro h1 e0 c1 hp1 hno
      refine b_number 0 60 c1 (fun en k3 vr h2 c2 => ⟨vx, fun x10 ex => ?_⟩) (fun w hw en mx => ⟨vx, fun x10 ex => ?_⟩)
      · subst ex
        rw [i_nat ix]
        have vr' := vr
        rw [i_le, i_le, i0, i60] at vr'
        refine ih _ (l5 + 1) _ _ _ (Ms_w c2 (rgp_46_15 (by omega) hix) ⟨by omega, by omega⟩) ?_ (by omega) e5' (fun h' m => hp1 h' ?_)
        · rw [rx_set_o (by omega)]; exact f0
        · rw [en]
          show Mo h0 T n (if r = 0 ∧ ¬ l4 + rx_v T n e0 = f 49 then rx_no T n e0 4 else _) h'
          rw [if_neg (hno k3 vr)]
          exact m
      · rw [i_nat ix]
        have := Mx_w mx (rgp_46_15 (j := 17 + 4 * s + (many - (r + 1))) (by omega) hix) (v := 0) ⟨by decide, by decide⟩
        exact x_tm l1 l2 l3 x10 (l5 + 1) this (hp1 _ (Mo_no this (by rw [en]; rfl)))
    have B : ∀ (h1 : mh_T) (e0 : Nat), Ms h0 T n e0 f h1 → (∀ h', Mo h0 T n (rx_bind (rx_num T n 0 60 e0 f) (fun v e1 f1 => if r = 0 ∧ ¬ l4 + v = f1 49 then rx_no T n e0 4 else rx_tm T n s many r (l4 + v) e1 (rx_set f1 (17 + 4 * s + (many - (r + 1))) v))) h' → P h') → (¬ l5 = (l3 - 1) → MCi g yX11_number uX11_number [.ref 11, .int 0, .int 60] h1 (fun r8 h7 => (vp_in ((17 + (4 * l1)) + l5) 346) ∧ (∀ x10 : Int32, x10 = (l4 + r8) → ME g uX11_setLine 142 [.ref 11, .int l1, .int l2, .int l3, .int x10, .int (l5 + 1), .retAddr 0, .retAddr 0] [] (wI h7 46 ((17 + (4 * l1)) + l5).toNatClampNeg r8) (qV P)))) ∧ (l5 = (l3 - 1) → (¬ (mI h1 11 6) = 3 → MCi g yX11_number uX11_number [.ref 11, .int 0, .int 60] h1 (fun r14 h13 => (vp_in ((17 + (4 * l1)) + l5) 346) ∧ (∀ x16 : Int32, x16 = (l4 + r14) → ME g uX11_setLine 142 [.ref 11, .int l1, .int l2, .int l3, .int x16, .int (l5 + 1), .retAddr 0, .retAddr 0] [] (wI h13 46 ((17 + (4 * l1)) + l5).toNatClampNeg r14) (qV P)))) ∧ ((mI h1 11 6) = 3 → MCi g yX11_within uX11_within [.int (mI h1 11 7), .int 0, .int 60] h1 (fun r18 h17 => (r18 = 0 → MCi g yX11_number uX11_number [.ref 11, .int 0, .int 60] h17 (fun r22 h21 => (vp_in ((17 + (4 * l1)) + l5) 346) ∧ (∀ x24 : Int32, x24 = (l4 + r22) → ME g uX11_setLine 142 [.ref 11, .int l1, .int l2, .int l3, .int x24, .int (l5 + 1), .retAddr 0, .retAddr 0] [] (wI h21 46 ((17 + (4 * l1)) + l5).toNatClampNeg r22) (qV P)))) ∧ (¬ r18 = 0 → ((l4 + (mI h17 11 7)) = (mI h17 46 (Int32.toNatClampNeg 49)) → MCi g yX11_number uX11_number [.ref 11, .int 0, .int 60] h17 (fun r28 h27 => (vp_in ((17 + (4 * l1)) + l5) 346) ∧ (∀ x30 : Int32, x30 = (l4 + r28) → ME g uX11_setLine 142 [.ref 11, .int l1, .int l2, .int l3, .int x30, .int (l5 + 1), .retAddr 0, .retAddr 0] [] (wI h27 46 ((17 + (4 * l1)) + l5).toNatClampNeg r28) (qV P)))) ∧ (¬ (l4 + (mI h17 11 7)) = (mI h17 46 (Int32.toNatClampNeg 49)) → MCv g yX11_wrong uX11_wrong [.ref 11, .int 4, .int (mI h17 11 4)] h17 (fun h31 => MCi g yX11_number uX11_number [.ref 11, .int 0, .int 60] h31 (fun r33 h32 => (vp_in ((17 + (4 * l1)) + l5) 346) ∧ (∀ x35 : Int32, x35 = (l4 + r33) → ME g uX11_setLine 142 [.ref 11, .int l1, .int l2, .int l3, .int x35, .int (l5 + 1), .retAddr 0, .retAddr 0] [] (wI h32 46 ((17 + (4 * l1)) + l5).toNatClampNeg r33) (qV P))))))))) := by
      intro h1 e0 c1 hp1
      have c6 := c1.2.2.1.2.2.1
      have i31 : (l3 - 1).toInt = (many : Int) - 1 := i_sub e3 (by decide) (by omega)
      have iq : l5 = l3 - 1 ↔ r = 0 := by
        rw [← Int32.toInt_inj, e5, i31]
        omega
      rw [iq]
      refine ⟨fun z => N h1 e0 c1 hp1 (fun _ _ y => z y.1), fun z => ⟨fun y => N h1 e0 c1 hp1 (fun k3 => absurd (by rw [c6]; exact k3) y), fun y => ?_⟩⟩
      rw [c6] at y
      rw [c1.2.2.1.2.2.2.1 y]
      refine b_within _ 0 60 (fun x => ⟨fun q => absurd q (by decide), fun _ => ?_⟩) (fun x => ⟨fun _ => N h1 e0 c1 hp1 (fun _ q => absurd q x), fun q => absurd rfl q⟩)
      rw [c1.2.2.1.2.2.2.1 y, n49, c1.2.2.2.2.1 49 (by decide)]
      refine ⟨fun q => N h1 e0 c1 hp1 (fun _ _ w => w.2 q), fun q => b_wrong c1 4 (fun mx => x_number 0 60 (Mx_ne mx) ⟨vx, fun x10 ex => ?_⟩)⟩
      rw [i_nat ix]
      have := Mx_w mx (rgp_46_15 (j := 17 + 4 * s + (many - (r + 1))) (by omega) hix) (v := 0) ⟨by decide, by decide⟩
      refine x_tm l1 l2 l3 x10 (l5 + 1) this (hp1 _ (Mo_no this ?_))
      unfold rx_num
      rw [if_neg (fun w => w y), if_pos x]
      show (if r = 0 ∧ ¬ l4 + rx_v T n e0 = f 49 then rx_no T n e0 4 else _) = _
      rw [if_pos ⟨z, q⟩]
    refine r_X11_setLine_142 l1 l2 l3 l4 l5 ⟨fun z => ?_, fun z => ⟨fun y => ⟨fun _ => ?_, fun x => absurd c.2.2.2.2.2 x⟩, fun y => ?_⟩⟩
    · rw [i_le, e3, e5] at z
      omega
    · rw [i_le, e5, i0] at y
      refine B h e c (fun h' m => hp h' ?_)
      show Mo h0 T n (rx_bind (if many = r + 1 then .inr ((), e, f) else rx_sign T n 44 e f) _) h'
      rw [if_pos (by omega)]
      exact m
    · rw [i_le, e5, i0] at y
      have hne : ¬ many = r + 1 := by omega
      have eo : rx_tm T n s many (r + 1) l4 e f = rx_bind (rx_sign T n 44 e f) (fun _ e0 f0 => rx_bind (rx_num T n 0 60 e0 f0) (fun v e1 f1 => if r = 0 ∧ ¬ l4 + v = f1 49 then rx_no T n e0 4 else rx_tm T n s many r (l4 + v) e1 (rx_set f1 (17 + 4 * s + (many - (r + 1))) v))) := by
        show rx_bind (if many = r + 1 then .inr ((), e, f) else rx_sign T n 44 e f) _ = _
        rw [if_neg hne]
      refine b_mustComma c (fun es h1 c1 => ⟨fun _ => B h1 _ c1 (fun h' m => hp h' ?_), fun x => absurd c1.2.2.2.2.2 x⟩) (fun es mx => ⟨fun x => absurd x (Mx_ne mx), fun _ => hp _ (Mo_no mx ?_)⟩)
      · rw [eo, es]; exact m
      · rw [eo, es]; rfl
theorem rx_fd_cg {T : Nat → Int32} {n e : Nat} {f f' : Nat → Int32} (h : ∀ i, 211 ≤ i → f' i = f i) : rx_fd T n e f' = rx_fd T n e f := by
  have : ∀ j, rx_is T n e f' j = rx_is T n e f j := fun j => by
    apply Bool.eq_iff_iff.mpr
    rw [rx_is_i, rx_is_i, h _ (by omega)]
    constructor
    · rintro ⟨a, b⟩
      exact ⟨a, fun i hi => by rw [← h _ (by omega)]; exact b i hi⟩
    · rintro ⟨a, b⟩
      exact ⟨a, fun i hi => by rw [h _ (by omega)]; exact b i hi⟩
  unfold rx_fd
  congr 1
  exact funext this
theorem rx_name_cg {T : Nat → Int32} {n e : Nat} {lk : Bool} {f f' : Nat → Int32} (h : ∀ i, 211 ≤ i → f' i = f i) : (∀ k, rx_name T n lk e f' = .inr (k, rx_e T n e, f') → rx_name T n lk e f = .inr (k, rx_e T n e, f)) ∧ (∀ w, rx_name T n lk e f' = rx_no T n e w → rx_name T n lk e f = rx_no T n e w) := by
  unfold rx_name rx_no
  rw [rx_fd_cg h]
  split
  · split
    · exact ⟨fun k z => (by cases z), fun w z => z⟩
    · split
      · exact ⟨fun k z => (by cases z; rfl), fun w z => (by cases z)⟩
      · exact ⟨fun k z => (by cases z), fun w z => z⟩
  · exact ⟨fun k z => (by cases z), fun w z => z⟩
theorem i_1p {x c : Int32} {s d : Nat} (e : x.toInt = (s : Int)) (hc : c.toInt = (d : Int)) (hs : s < 1000) (hd : d < 1000) : (c + x).toInt = ((d + s : Nat) : Int) := by
  rw [i_add hc e (by omega)]
  omega
theorem x_tell {g : gT} {h0 h : mh_T} {P : mh_T → Prop} {f : Nat → Int32} {w : Int32} {p s : Nat} (l1 l2 : Int32) (hs : s < 8) (e1 : l1.toInt = (s : Int)) (c : Mx h0 f w p h) (hp : P h) : MCv g yX11_pass uX11_pass [.ref 11, .ref (1000 + 8)] h (fun h13 => (vp_in (9 + l1) 346) ∧ ((¬ (mI h13 46 (9 + s)) = (-2) → ME g uX11_setLine 142 [.ref 11, .int l1, .int l2, .int 4, .int 0, .int 0, .retAddr 0, .retAddr 0] [] h13 (qV P)) ∧ ((mI h13 46 (9 + s)) = (-2) → ME g uX11_setLine 142 [.ref 11, .int l1, .int l2, .int 2, .int 0, .int 0, .retAddr 0, .retAddr 0] [] h13 (qV P)))) :=
  x_pass 8 (by decide) (Mx_ne c) ⟨i_vp (i_1p (d := 9) e1 (by decide) (by omega) (by decide)) (by omega), fun _ => x_tm _ _ _ _ _ c hp, fun _ => x_tm _ _ _ _ _ c hp⟩
theorem b_tell {g : gT} {h0 h : mh_T} {P : mh_T → Prop} {T : Nat → Int32} {n e s one : Nat} {two : Int32} {f f3 : Nat → Int32} (l1 l2 : Int32) (hs : s < 8) (e1 : l1.toInt = (s : Int)) (f0 : (f 0).toInt = (s : Int)) (ef : f3 = rx_set (rx_set f (1 + s) (Int32.ofNat one)) (9 + s) two) (c : Ms h0 T n e f3 h) (hp : ∀ h', Mo h0 T n (rx_tell T n one two e f) h' → P h') : MCv g yX11_pass uX11_pass [.ref 11, .ref (1000 + 8)] h (fun h13 => (vp_in (9 + l1) 346) ∧ ((¬ (mI h13 46 (9 + s)) = (-2) → ME g uX11_setLine 142 [.ref 11, .int l1, .int l2, .int 4, .int 0, .int 0, .retAddr 0, .retAddr 0] [] h13 (qV P)) ∧ ((mI h13 46 (9 + s)) = (-2) → ME g uX11_setLine 142 [.ref 11, .int l1, .int l2, .int 2, .int 0, .int 0, .retAddr 0, .retAddr 0] [] h13 (qV P)))) := by
  have i9 := i_1p (c := 9) (d := 9) e1 (by decide) (by omega) (by decide)
  have v9 := i_vp (n := 346) i9 (by omega)
  unfold rx_tell at hp
  rw [i_nat f0, ← ef] at hp
  have f30 : (f3 0).toInt = (s : Int) := by
    rw [ef, rx_set_o (by omega), rx_set_o (by omega)]
    exact f0
  have f39 : f3 (9 + s) = two := by rw [ef, rx_set_i]
  refine b_pass 8 (by decide) c (fun ew h1 c1 => ⟨v9, ?_⟩) (fun ew mx => ⟨v9, fun _ => x_tm _ _ _ _ _ mx (hp _ (Mo_no mx (by rw [ew]; rfl))), fun _ => x_tm _ _ _ _ _ mx (hp _ (Mo_no mx (by rw [ew]; rfl)))⟩)
  rw [c1.2.2.2.2.1 _ (by omega), f39]
  rw [ew] at hp
  refine ⟨fun z => ?_, fun z => ?_⟩
  · refine b_tm l1 l2 4 hs e1 (many := 4) (Or.inr rfl) (by decide) 4 0 0 _ f3 h1 c1 f30 (Nat.le_refl _) (by decide) (fun h' m => hp h' ?_)
    show Mo h0 T n (rx_tm T n s (if two = -2 then 2 else 4) (if two = -2 then 2 else 4) 0 (rx_e T n e) f3) h'
    rw [if_neg z]
    exact m
  · refine b_tm l1 l2 2 hs e1 (many := 2) (Or.inl rfl) (by decide) 2 0 0 _ f3 h1 c1 f30 (Nat.le_refl _) (by decide) (fun h' m => hp h' ?_)
    show Mo h0 T n (rx_tm T n s (if two = -2 then 2 else 4) (if two = -2 then 2 else 4) 0 (rx_e T n e) f3) h'
    rw [if_pos z]
    exact m
theorem rx_set_2 {f : Nat → Int32} {j : Nat} {u v : Int32} : rx_set (rx_set f j u) j v = rx_set f j v := by
  funext i
  unfold rx_set
  split <;> rfl
theorem b_setLine {g : gT} {h0 h : mh_T} {P : mh_T → Prop} {T : Nat → Int32} {n e : Nat} {f : Nat → Int32} (c : Ms h0 T n e f h) (lw : f 49 = 0 → f 0 = 0) (hp : ∀ h', Mo h0 T n (rx_setL T n e f) h' → P h') : MCv g yX11_setLine uX11_setLine [.ref 11] h P := by
  have n0 : Int32.toNatClampNeg 0 = 0 := by decide
  have n49 : Int32.toNatClampNeg 49 = 49 := by decide
  have c0 := c.2.2.2.2.1 0 (by decide)
  have c49 := c.2.2.2.2.1 49 (by decide)
  have r0 : R 0 8 (f 0) := by
    rw [← c0]
    exact GI_rd c.1.1 46 0 (by decide)
  refine e_X11_setLine ⟨fun z => ⟨fun y => ⟨fun _ => ?_, fun x => absurd c.2.2.2.2.2 x⟩, fun y => ?_⟩, fun z => ?_⟩
  · rw [n0, c0] at z
    rw [n49, c49] at y
    obtain ⟨s, es, s0, s8⟩ := i_R r0 (by decide)
    have hs : s < 8 := by
      by_cases q : s = 8
      · exact absurd (Int32.toInt_inj.mp (by rw [es, q]; decide)) z
      · omega
    have eo : rx_setL T n e f = rx_bind (rx_name T n true (rx_e T n e) f) (fun one e1 f1 => if rx_k T n e1 = 44 then rx_bind (rx_name T n true (rx_e T n e1) f1) (fun two e2 f2 => if two = one then rx_no T n (rx_e T n e1) 3 else rx_tell T n one (Int32.ofNat two) e2 f2) else rx_tell T n one (-2) e1 f1) := by
      unfold rx_setL
      rw [if_neg y, if_neg z]
    rw [eo] at hp
    refine b_nx c (fun h4 c4 x5 e5 => ?_)
    rw [n0, c4.2.2.2.2.1 0 (by decide)] at e5
    subst e5
    have i1 := i_1p (c := 1) (d := 1) es (by decide) (by omega) (by decide)
    have i9 := i_1p (c := 9) (d := 9) es (by decide) (by omega) (by decide)
    have v1 := i_vp (n := 346) i1 (by omega)
    have v9 := i_vp (n := 346) i9 (by omega)
    have r1 := rgp_46_1 (j := 1 + s) (by omega) (by omega)
    have r9 := rgp_46_2 (j := 9 + s) (by omega) (by omega)
    refine b_passedL c4 0 _ Un_0 (fun r7 one h6 en er h1 _ c6 => ⟨v1, v9, ?_⟩) (fun r7 one _ _ _ q => by cases q) (fun w hw en mx => ⟨v1, v9, ?_⟩)
    · rw [i_nat i1, i_nat i9]
      rw [en] at hp
      change ∀ h', Mo h0 T n (if rx_k T n (rx_e T n (rx_e T n e)) = 44 then rx_bind (rx_name T n true (rx_e T n (rx_e T n (rx_e T n e))) f) (fun two e2 f2 => if two = one then rx_no T n (rx_e T n (rx_e T n (rx_e T n e))) 3 else rx_tell T n one (Int32.ofNat two) e2 f2) else rx_tell T n one (-2) (rx_e T n (rx_e T n e)) f) h' → P h' at hp
      have e7 : r7 = Int32.ofNat one := i_of er (by omega)
      have cw := Ms_w (Ms_w c6 r1 (v := r7) ⟨by omega, by omega⟩) r9 (v := -2) ⟨by decide, by decide⟩
      have fh : ∀ i, 211 ≤ i → rx_set (rx_set f (1 + s) r7) (9 + s) (-2) i = f i := fun i hi => by rw [rx_set_o (by omega), rx_set_o (by omega)]
      refine b_comma cw (fun k44 h10 c10 => ⟨fun q => absurd q (by decide), fun _ => ?_⟩) (fun k44 => ⟨fun _ => ?_, fun q => absurd rfl q⟩)
      · rw [if_pos k44] at hp
        have cg := rx_name_cg (T := T) (n := n) (e := rx_e T n (rx_e T n (rx_e T n e))) (lk := true) fh
        refine b_passedL c10 _ _ (Un_1 er (by omega)) (fun r17 two h16 en2 er2 h2 u2 c16 => ⟨v9, ?_⟩) (fun r17 two en2 er2 h2 u2 mx => ⟨v9, ?_⟩) (fun w hw en2 mx => ⟨v9, ?_⟩)
        · rw [cg.1 two en2] at hp
          have ne : ¬ two = one := by
            intro q
            rw [q] at u2
            simp at u2
          change ∀ h', Mo h0 T n (if two = one then rx_no T n (rx_e T n (rx_e T n (rx_e T n e))) 3 else rx_tell T n one (Int32.ofNat two) (rx_e T n (rx_e T n (rx_e T n (rx_e T n e)))) f) h' → P h' at hp
          rw [if_neg ne] at hp
          have e17 : r17 = Int32.ofNat two := i_of er2 (by omega)
          exact b_tell (f := f) (one := one) (two := Int32.ofNat two) _ _ hs es es (by rw [rx_set_2, e7, e17]) (Ms_w c16 r9 (v := r17) ⟨by omega, by omega⟩) hp
        · rw [cg.1 two en2] at hp
          have eq : two = one := by
            simp at u2
            exact u2
          change ∀ h', Mo h0 T n (if two = one then rx_no T n (rx_e T n (rx_e T n (rx_e T n e))) 3 else rx_tell T n one (Int32.ofNat two) (rx_e T n (rx_e T n (rx_e T n (rx_e T n e)))) f) h' → P h' at hp
          rw [if_pos eq] at hp
          have m2 := Mx_w mx r9 (v := r17) ⟨by omega, by omega⟩
          exact x_tell _ _ hs es m2 (hp _ (Mo_no m2 rfl))
        · rw [cg.2 w en2] at hp
          have m2 := Mx_w mx r9 (v := 0) ⟨by decide, by decide⟩
          exact x_tell _ _ hs es m2 (hp _ (Mo_no m2 rfl))
      · rw [if_neg k44] at hp
        exact b_tell (f := f) (one := one) (two := -2) _ _ hs es es (by rw [e7]) cw hp
    · rw [i_nat i1, i_nat i9]
      rw [en] at hp
      have m2 := Mx_w (Mx_w mx r1 (v := 0) ⟨by decide, by decide⟩) r9 (v := -2) ⟨by decide, by decide⟩
      exact x_comma (Mx_ne m2) ⟨fun _ => x_tell _ _ hs es m2 (hp _ (Mo_no m2 rfl)), fun q => absurd rfl q⟩
  · rw [n49, c49] at y
    refine b_wrong c 6 (fun mx => ⟨fun q => absurd q (Mx_ne mx), fun _ => hp _ (Mo_no mx ?_)⟩)
    unfold rx_setL
    rw [if_pos y]
  · rw [n0, c0] at z
    have y : ¬ f 49 = 0 := fun q => by
      rw [lw q] at z
      exact absurd z (by decide)
    refine b_wrong c 5 (fun mx => ⟨fun _ => ⟨fun q => absurd q (Mx_ne mx), fun _ => hp _ (Mo_no mx ?_)⟩, fun q => ?_⟩)
    · unfold rx_setL
      rw [if_neg y, if_pos z]
    · rw [n49, mx.2.2.2.2 49 (by decide)] at q
      exact absurd q y
/-! the reference's lines: line, ray, run -/
theorem b_lineLine_L {g : gT} {h0 : mh_T} {P : mh_T → Prop} {T : Nat → Int32} {n l : Nat} (l1 : Int32) (hl : l < 8) (e1 : l1.toInt = (l : Int)) (f52 : Int32) (ef : f52.toInt = (l : Int)) : ∀ (r : Nat) (l2 l3 : Int32) (u : Nat → Bool) (e : Nat) (f : Nat → Int32) (h : mh_T), Ms h0 T n e f h → f 52 = f52 → r ≤ 3 → l3.toInt = ((3 - r : Nat) : Int) → Un l2 u → (∀ h', Mo h0 T n (rx_bind (rx_pt T n l r u e f) (fun _ e1 f1 => rx_bind (rx_word T n 9 e1 f1) (fun _ e2 f2 => if rx_wd T n e2 (bytJS.getD 11 []) = true then .inr ((), rx_e T n e2, rx_set (rx_set f2 (77 + l) 1) 52 (f52 + 1)) else if rx_wd T n e2 (bytJS.getD 10 []) = true then .inr ((), rx_e T n e2, rx_set f2 52 (f52 + 1)) else rx_no T n e2 1))) h' → P h') → ME g uX11_lineLine 20 [.ref 11, .int l1, .int l2, .int l3, .retAddr 0] [] h (qV P) := by
  have n52 : Int32.toNatClampNeg 52 = 52 := by decide
  have i0 : (0 : Int32).toInt = 0 := by decide
  have i3 : (3 : Int32).toInt = 3 := by decide
  have i52 := i_inc ef (by omega)
  intro r
  induction r with
  | zero =>
    intro l2 l3 u e f h c e52 hr e3 hu hp
    have i77 := i_1p (c := 77) (d := 77) e1 (by decide) (by omega) (by decide)
    change ∀ h', Mo h0 T n (rx_bind (rx_word T n 9 e f) (fun _ e2 f2 => if rx_wd T n e2 (bytJS.getD 11 []) = true then .inr ((), rx_e T n e2, rx_set (rx_set f2 (77 + l) 1) 52 (f52 + 1)) else if rx_wd T n e2 (bytJS.getD 10 []) = true then .inr ((), rx_e T n e2, rx_set f2 52 (f52 + 1)) else rx_no T n e2 1)) h' → P h' at hp
    refine r_X11_lineLine_20 l1 l2 l3 ⟨fun _ => ?_, fun z => absurd (by rw [i_le, i3, e3]; omega) z⟩
    refine b_pass 9 (by decide) c (fun ew h1 c1 => ⟨fun _ => ?_, fun y => absurd c1.2.2.2.2.2 y⟩) (fun ew mx => ⟨fun y => absurd y (Mx_ne mx), fun _ => hp _ (Mo_no mx (by rw [ew]; rfl))⟩)
    rw [ew] at hp
    change ∀ h', Mo h0 T n (if rx_wd T n (rx_e T n e) (bytJS.getD 11 []) = true then .inr ((), rx_e T n (rx_e T n e), rx_set (rx_set f (77 + l) 1) 52 (f52 + 1)) else if rx_wd T n (rx_e T n e) (bytJS.getD 10 []) = true then .inr ((), rx_e T n (rx_e T n e), rx_set f 52 (f52 + 1)) else rx_no T n (rx_e T n e) 1) h' → P h' at hp
    refine b_takes 11 (by decide) c1 (fun wd h2 c2 => ⟨fun y => absurd y (by decide), fun _ => ⟨i_vp i77 (by omega), ?_⟩⟩) (fun wd => ⟨fun _ => ?_, fun y => absurd rfl y⟩)
    · rw [if_pos wd] at hp
      rw [i_nat i77, n52]
      have cw := Ms_w c2 (rgp_46_8 (j := 77 + l) (by omega) (by omega)) (v := 1) ⟨by decide, by decide⟩
      rw [cw.2.2.2.2.1 52 (by decide), rx_set_o (by omega), e52]
      exact hp _ (Mo_ok (Ms_w cw (lo := 0) (hi := 8) (by decide) ⟨by omega, by omega⟩) rfl)
    · rw [if_neg wd] at hp
      refine b_pass 10 (by decide) c1 (fun ew2 h2 c2 => ?_) (fun ew2 mx => ?_)
      · rw [n52, c2.2.2.2.2.1 52 (by decide), e52]
        refine hp _ (Mo_ok (Ms_w c2 (lo := 0) (hi := 8) (by decide) ⟨by omega, by omega⟩) ?_)
        unfold rx_word at ew2
        split at ew2
        · rename_i q
          rw [if_pos q]
        · unfold rx_no at ew2
          cases ew2
      · rw [n52, mx.2.2.2.2 52 (by decide), e52]
        refine hp _ (Mo_no (Mx_w mx (lo := 0) (hi := 8) (by decide) ⟨by omega, by omega⟩) ?_)
        unfold rx_word at ew2
        split at ew2
        · unfold rx_no at ew2
          cases ew2
        · rename_i q
          rw [if_neg q]
  | succ r ih =>
    intro l2 l3 u e f h c e52 hr e3 hu hp
    have ix : ((53 + (3 * l1)) + l3).toInt = ((53 + 3 * l + (2 - r) : Nat) : Int) := by
      have a : (3 * l1).toInt = 3 * (l : Int) := by
        rw [Int32.toInt_mul, e1, i3, bm (by omega) (by omega)]
      have b : (53 + (3 * l1)).toInt = 53 + 3 * (l : Int) := i_add (by decide) a (by omega)
      rw [i_add b e3 (by omega)]
      omega
    have vx := i_vp (n := 346) ix (by omega)
    have e3' : (l3 + 1).toInt = ((3 - r : Nat) : Int) := by
      rw [i_inc e3 (by omega)]
      omega
    have B : ∀ (h1 : mh_T) (e0 : Nat), Ms h0 T n e0 f h1 → (∀ h', Mo h0 T n (rx_bind (rx_bind (rx_name T n false e0 f) (fun p e1 f1 => if u p = true then rx_no T n e0 3 else rx_pt T n l r (fun q => q == p || u q) e1 (rx_set f1 (53 + 3 * l + (2 - r)) (Int32.ofNat p)))) (fun _ e1 f1 => rx_bind (rx_word T n 9 e1 f1) (fun _ e2 f2 => if rx_wd T n e2 (bytJS.getD 11 []) = true then .inr ((), rx_e T n e2, rx_set (rx_set f2 (77 + l) 1) 52 (f52 + 1)) else if rx_wd T n e2 (bytJS.getD 10 []) = true then .inr ((), rx_e T n e2, rx_set f2 52 (f52 + 1)) else rx_no T n e2 1))) h' → P h') → MCi g yX11_passed uX11_passed [.ref 11, .int 0, .int l2] h1 (fun r11 h10 => ((mI h10 11 13) = 0 → ∀ x13 : Int32, x13 = (l2 ||| (1 <<< (r11 &&& 31))) → (vp_in ((53 + (3 * l1)) + l3) 346) ∧ (ME g uX11_lineLine 20 [.ref 11, .int l1, .int x13, .int (l3 + 1), .retAddr 0] [] (wI h10 46 ((53 + (3 * l1)) + l3).toNatClampNeg r11) (qV P))) ∧ (¬ (mI h10 11 13) = 0 → P h10)) := by
      intro h1 e0 c1 hp1
      refine b_passedP c1 l2 u hu (fun rr p h2 en er hpp up c2 => ⟨fun _ x13 ex => ⟨vx, ?_⟩, fun y => absurd c2.2.2.2.2.2 y⟩) (fun rr p en er hpp up mx => ⟨fun y => absurd y (Mx_ne mx), fun _ => hp1 _ (Mo_no mx ?_)⟩) (fun w hw en mx => ⟨fun y => absurd y (Mx_ne mx), fun _ => hp1 _ (Mo_no mx (by rw [en]; rfl))⟩)
      · subst ex
        rw [i_nat ix]
        have er2 : rr = Int32.ofNat p := i_of er (by omega)
        refine ih _ (l3 + 1) (fun q => q == p || u q) _ _ _ (Ms_w c2 (rgp_46_7 (j := 53 + 3 * l + (2 - r)) (by omega) (by omega)) ⟨by omega, by omega⟩) ?_ (by omega) e3' (Un_or er hpp hu) (fun h' m => hp1 h' ?_)
        · rw [rx_set_o (by omega)]; exact e52
        · rw [en]
          show Mo h0 T n (rx_bind (if u p = true then _ else _) _) h'
          rw [if_neg (by rw [up]; decide), ← er2]
          exact m
      · rw [en]
        show rx_bind (if u p = true then _ else _) _ = _
        rw [if_pos up]
        rfl
    refine r_X11_lineLine_20 l1 l2 l3 ⟨fun z => ?_, fun z => ⟨fun y => ?_, fun y => ?_⟩⟩
    · rw [i_le, i3, e3] at z
      omega
    · rw [i_le, e3, i0] at y
      refine B h e c (fun h' m => hp h' ?_)
      show Mo h0 T n (rx_bind (rx_bind (if r = 2 then .inr ((), e, f) else rx_sign T n 44 e f) _) _) h'
      rw [if_pos (by omega)]
      exact m
    · rw [i_le, e3, i0] at y
      have eo : rx_pt T n l (r + 1) u e f = rx_bind (rx_sign T n 44 e f) (fun _ e0 f0 => rx_bind (rx_name T n false e0 f0) (fun p e1 f1 => if u p = true then rx_no T n e0 3 else rx_pt T n l r (fun q => q == p || u q) e1 (rx_set f1 (53 + 3 * l + (2 - r)) (Int32.ofNat p)))) := by
        show rx_bind (if r = 2 then .inr ((), e, f) else rx_sign T n 44 e f) _ = _
        rw [if_neg (by omega)]
      refine b_mustComma c (fun es h1 c1 => B h1 _ c1 (fun h' m => hp h' ?_)) (fun es mx => x_passed 0 l2 (Mx_ne mx) ⟨fun x => absurd x (Mx_ne mx), fun _ => hp _ (Mo_no mx ?_)⟩)
      · rw [eo, es]; exact m
      · rw [eo, es]; rfl
theorem b_lineLine {g : gT} {h0 h : mh_T} {P : mh_T → Prop} {T : Nat → Int32} {n e : Nat} {f : Nat → Int32} (c : Ms h0 T n e f h) (h8 : ¬ f 52 = 8) (hp : ∀ h', Mo h0 T n (rx_bind (rx_pt T n (f 52).toNatClampNeg 3 (fun _ => false) e f) (fun _ e1 f1 => rx_bind (rx_word T n 9 e1 f1) (fun _ e2 f2 => if rx_wd T n e2 (bytJS.getD 11 []) = true then .inr ((), rx_e T n e2, rx_set (rx_set f2 (77 + (f 52).toNatClampNeg) 1) 52 (f 52 + 1)) else if rx_wd T n e2 (bytJS.getD 10 []) = true then .inr ((), rx_e T n e2, rx_set f2 52 (f 52 + 1)) else rx_no T n e2 1))) h' → P h') : MCv g yX11_lineLine uX11_lineLine [.ref 11] h P := by
  have c52 := c.2.2.2.2.1 52 (by decide)
  have r52 : R 0 8 (f 52) := by
    rw [← c52]
    exact GI_rd c.1.1 46 52 (by decide)
  obtain ⟨l, el, l0, l8⟩ := i_R r52 (by decide)
  have hl : l < 8 := by
    by_cases q : l = 8
    · exact absurd (Int32.toInt_inj.mp (by rw [el, q]; decide)) h8
    · omega
  rw [i_nat el] at hp
  refine e_X11_lineLine ⟨fun _ x2 ex => ?_, fun y => absurd c.2.2.2.2.2 y⟩
  rw [show Int32.toNatClampNeg 52 = 52 from by decide, c52] at ex
  subst ex
  exact b_lineLine_L _ hl el _ el 3 0 0 (fun _ => false) e f h c rfl (Nat.le_refl _) (by decide) Un_0 hp
theorem x_lineLine {g : gT} {h : mh_T} {P : mh_T → Prop} (z : ¬ mI h 11 13 = 0) (hp : P h) : MCv g yX11_lineLine uX11_lineLine [.ref 11] h P := e_X11_lineLine ⟨fun y => absurd y z, fun _ => hp⟩
theorem x_rayLine {g : gT} {h : mh_T} {P : mh_T → Prop} (z : ¬ mI h 11 13 = 0) (hp : P h) : MCv g yX11_rayLine uX11_rayLine [.ref 11] h P := e_X11_rayLine ⟨fun y => absurd y z, fun _ => hp⟩
theorem x_runLine {g : gT} {h : mh_T} {P : mh_T → Prop} (z : ¬ mI h 11 13 = 0) (hp : P h) : MCv g yX11_runLine uX11_runLine [.ref 11] h P := e_X11_runLine ⟨fun y => absurd y z, fun _ => hp⟩
theorem x_lawLine {g : gT} {h : mh_T} {P : mh_T → Prop} (z : ¬ mI h 11 13 = 0) (hp : P h) : MCv g yX11_lawLine uX11_lawLine [.ref 11] h P := e_X11_lawLine (x_pass 7 (by decide) z (x_number 1 60 z ⟨fun _ => hp, fun y => absurd y z⟩))
def rayD (g : gT) (P : mh_T → Prop) (l1 l2 l3 x r : Int32) (h : mh_T) : Prop := (¬ l2 = 0 → (vp_in ((86 + (4 * l1)) + l3) 346) ∧ (ME g uX11_rayLine 20 [.ref 11, .int l1, .int 1, .int (l3 + 1), .retAddr 0, .retAddr 0, .retAddr 0] [] (wI h 46 ((86 + (4 * l1)) + l3).toNatClampNeg x) (qV P))) ∧ (l2 = 0 → (r ≤ 0 → (vp_in ((86 + (4 * l1)) + l3) 346) ∧ (ME g uX11_rayLine 20 [.ref 11, .int l1, .int 0, .int (l3 + 1), .retAddr 0, .retAddr 0, .retAddr 0] [] (wI h 46 ((86 + (4 * l1)) + l3).toNatClampNeg x) (qV P))) ∧ (¬ r ≤ 0 → (vp_in ((86 + (4 * l1)) + l3) 346) ∧ (ME g uX11_rayLine 20 [.ref 11, .int l1, .int 1, .int (l3 + 1), .retAddr 0, .retAddr 0, .retAddr 0] [] (wI h 46 ((86 + (4 * l1)) + l3).toNatClampNeg x) (qV P))))
def rayN (g : gT) (P : mh_T → Prop) (l1 l2 l3 : Int32) (sg : Int32 → Int32) (h : mh_T) : Prop := MCi g yX11_number uX11_number [.ref 11, .int 0, .int 3] h (fun r h' => rayD g P l1 l2 l3 (sg r) r h')
def rayC (g : gT) (P : mh_T → Prop) (l1 l2 l3 : Int32) (sg : Int32 → Int32) (h : mh_T) : Prop := (¬ l3 = 3 → rayN g P l1 l2 l3 sg h) ∧ (l3 = 3 → (¬ l2 = 0 → rayN g P l1 l2 l3 sg h) ∧ (l2 = 0 → (¬ (mI h 11 6) = 3 → rayN g P l1 l2 l3 sg h) ∧ ((mI h 11 6) = 3 → (¬ (mI h 11 7) = 0 → rayN g P l1 l2 l3 sg h) ∧ ((mI h 11 7) = 0 → MCv g yX11_wrong uX11_wrong [.ref 11, .int 4, .int (mI h 11 4)] h (fun h' => rayN g P l1 l2 l3 sg h')))))
theorem x_pa {g : gT} {h0 h : mh_T} {P : mh_T → Prop} {f : Nat → Int32} {w : Int32} {p : Nat} (l1 l2 l3 : Int32) (c : Mx h0 f w p h) (hp : P h) : ME g uX11_rayLine 20 [.ref 11, .int l1, .int l2, .int l3, .retAddr 0, .retAddr 0, .retAddr 0] [] h (qV P) :=
  r_X11_rayLine_20 l1 l2 l3 ⟨fun _ => ⟨fun _ => hp, fun y => absurd y (Mx_ne c)⟩, fun _ => ⟨fun _ => ⟨fun y => absurd y (Mx_ne c), fun _ => hp⟩, fun _ => x_mustComma (Mx_ne c) ⟨fun y => absurd y (Mx_ne c), fun _ => hp⟩⟩⟩
theorem b_pa {g : gT} {h0 : mh_T} {P : mh_T → Prop} {T : Nat → Int32} {n l : Nat} (l1 : Int32) (hl : l < 18) (e1 : l1.toInt = (l : Int)) : ∀ (r : Nat) (l2 l3 : Int32) (an : Bool) (e : Nat) (f : Nat → Int32) (h : mh_T), Ms h0 T n e f h → (f 85).toInt = (l : Int) → r ≤ 4 → l3.toInt = ((4 - r : Nat) : Int) → (l2 = 0 ↔ an = false) → (∀ h', Mo h0 T n (rx_pa T n l r an e f) h' → P h') → ME g uX11_rayLine 20 [.ref 11, .int l1, .int l2, .int l3, .retAddr 0, .retAddr 0, .retAddr 0] [] h (qV P) := by
  have n85 : Int32.toNatClampNeg 85 = 85 := by decide
  have i0 : (0 : Int32).toInt = 0 := by decide
  have i3 : (3 : Int32).toInt = 3 := by decide
  have i4 : (4 : Int32).toInt = 4 := by decide
  intro r
  induction r with
  | zero =>
    intro l2 l3 an e f h c f85 hr e3 ha hp
    refine r_X11_rayLine_20 l1 l2 l3 ⟨fun _ => ⟨fun y => absurd c.2.2.2.2.2 y, fun _ => ?_⟩, fun z => absurd (by rw [i_le, i4, e3]; omega) z⟩
    rw [n85, c.2.2.2.2.1 85 (by decide)]
    have := i_inc f85 (by omega)
    exact hp _ (Mo_ok (Ms_w c (lo := 0) (hi := 18) (by decide) ⟨by omega, by omega⟩) rfl)
  | succ r ih =>
    intro l2 l3 an e f h c f85 hr e3 ha hp
    have ix : ((86 + (4 * l1)) + l3).toInt = ((86 + 4 * l + (3 - r) : Nat) : Int) := by
      have a : (4 * l1).toInt = 4 * (l : Int) := by
        rw [Int32.toInt_mul, e1, i4, bm (by omega) (by omega)]
      have b : (86 + (4 * l1)).toInt = 86 + 4 * (l : Int) := i_add (by decide) a (by omega)
      rw [i_add b e3 (by omega)]
      omega
    have vx := i_vp (n := 346) ix (by omega)
    have rg := rgg_46_0 (j := 86 + 4 * l + (3 - r)) (by omega) (by omega)
    have e3' : (l3 + 1).toInt = ((4 - r : Nat) : Int) := by
      rw [i_inc e3 (by omega)]
      omega
    have X : ∀ (sg : Int32 → Int32) (w : Int32) (p : Nat) (f' : Nat → Int32) (h1 : mh_T), Mx h0 f' w p h1 → (∀ h2 f2, Mx h0 f2 w p h2 → P h2) → rayD g P l1 l2 l3 (sg 0) 0 h1 := by
      intro sg w p f' h1 mx hq
      have m2 := Mx_w mx rg (v := sg 0) (R_full _)
      unfold rayD
      rw [i_nat ix]
      exact ⟨fun _ => ⟨vx, x_pa _ _ _ m2 (hq _ _ m2)⟩, fun _ => ⟨fun _ => ⟨vx, x_pa _ _ _ m2 (hq _ _ m2)⟩, fun _ => ⟨vx, x_pa _ _ _ m2 (hq _ _ m2)⟩⟩⟩
    have N : ∀ (sg : Int32 → Int32) (h1 : mh_T) (e0 : Nat), Ms h0 T n e0 f h1 → (∀ h', Mo h0 T n (rx_bind (rx_num T n 0 3 e0 f) (fun v e2 f1 => if r = 0 ∧ an = false ∧ v = 0 then rx_no T n e0 4 else rx_pa T n l r (an || decide (¬ v = 0)) e2 (rx_set f1 (86 + 4 * l + (3 - r)) (sg v)))) h' → P h') → (rx_k T n e0 = 3 → ¬ (r = 0 ∧ an = false ∧ rx_v T n e0 = 0)) → rayN g P l1 l2 l3 sg h1 := by
      intro sg h1 e0 c1 hp1 hno
      unfold rayN
      refine b_number 0 3 c1 (fun en k3 vr h2 c2 => ?_) (fun w hw en mx => X sg w _ f _ mx (fun h2 f2 m2 => hp1 _ (Mo_no m2 (by rw [en]; rfl))))
      have cw := Ms_w c2 rg (v := sg (rx_v T n e0)) (R_full _)
      rw [i_le, i_le, i0, i3] at vr
      have G : ∀ (l2' : Int32), (l2' = 0 ↔ (an || decide (¬ rx_v T n e0 = 0)) = false) → ME g uX11_rayLine 20 [.ref 11, .int l1, .int l2', .int (l3 + 1), .retAddr 0, .retAddr 0, .retAddr 0] [] (wI h2 46 (86 + 4 * l + (3 - r)) (sg (rx_v T n e0))) (qV P) := by
        intro l2' hz
        refine ih l2' (l3 + 1) _ _ _ _ cw ?_ (by omega) e3' hz (fun h' m => hp1 h' ?_)
        · rw [rx_set_o (by omega)]; exact f85
        · rw [en]
          show Mo h0 T n (if r = 0 ∧ an = false ∧ rx_v T n e0 = 0 then _ else _) h'
          rw [if_neg (hno k3)]
          exact m
      unfold rayD
      rw [i_nat ix]
      refine ⟨fun z => ⟨vx, G 1 ?_⟩, fun z => ⟨fun y => ⟨vx, G 0 ?_⟩, fun y => ⟨vx, G 1 ?_⟩⟩⟩
      · have : an = true := by
          cases an
          · exact absurd (ha.mpr rfl) z
          · rfl
        rw [this, Bool.true_or]
        decide
      · rw [i_le, i0] at y
        have v0 : rx_v T n e0 = 0 := Int32.toInt_inj.mp (by rw [i0]; omega)
        rw [ha.mp z, v0]
        decide
      · rw [i_le, i0] at y
        have v0 : ¬ rx_v T n e0 = 0 := fun q => by
          rw [q, i0] at y
          omega
        rw [decide_eq_true v0, Bool.or_true]
        decide
    have C : ∀ (sg : Int32 → Int32) (h1 : mh_T) (e0 : Nat), Ms h0 T n e0 f h1 → (∀ h', Mo h0 T n (rx_bind (rx_num T n 0 3 e0 f) (fun v e2 f1 => if r = 0 ∧ an = false ∧ v = 0 then rx_no T n e0 4 else rx_pa T n l r (an || decide (¬ v = 0)) e2 (rx_set f1 (86 + 4 * l + (3 - r)) (sg v)))) h' → P h') → rayC g P l1 l2 l3 sg h1 := by
      intro sg h1 e0 c1 hp1
      have c6 := c1.2.2.1.2.2.1
      have iq : l3 = 3 ↔ r = 0 := by
        rw [← Int32.toInt_inj, e3, i3]
        omega
      unfold rayC
      rw [iq]
      refine ⟨fun z => N sg h1 e0 c1 hp1 (fun _ y => z y.1), fun z => ⟨fun y => N sg h1 e0 c1 hp1 (fun _ x => y (ha.mpr x.2.1)), fun y => ⟨fun x => N sg h1 e0 c1 hp1 (fun k3 => absurd (by rw [c6]; exact k3) x), fun x => ?_⟩⟩⟩
      rw [c6] at x
      rw [c1.2.2.1.2.2.2.1 x]
      refine ⟨fun w => N sg h1 e0 c1 hp1 (fun _ q => w q.2.2), fun w => b_wrong c1 4 (fun mx => ?_)⟩
      unfold rayN
      refine x_number 0 3 (Mx_ne mx) (X sg 4 _ f _ mx (fun h2 f2 m2 => hp1 _ (Mo_no m2 ?_)))
      unfold rx_num
      rw [if_neg (fun q => q x), if_pos (by rw [w]; decide)]
      show (if r = 0 ∧ an = false ∧ rx_v T n e0 = 0 then _ else _) = _
      rw [if_pos ⟨z, ha.mp y, w⟩]
    have B : ∀ (h1 : mh_T) (e0 : Nat), Ms h0 T n e0 f h1 → (∀ h', Mo h0 T n (rx_bind (rx_num T n 0 3 (if rx_k T n e0 = 45 then rx_e T n e0 else e0) f) (fun v e1 f1 => if r = 0 ∧ an = false ∧ v = 0 then rx_no T n (if rx_k T n e0 = 45 then rx_e T n e0 else e0) 4 else rx_pa T n l r (an || decide (¬ v = 0)) e1 (rx_set f1 (86 + 4 * l + (3 - r)) (if rx_k T n e0 = 45 then -v else v)))) h' → P h') → (¬ (mI h1 11 6) = 45 → rayC g P l1 l2 l3 (fun v => v) h1) ∧ ((mI h1 11 6) = 45 → MCv g yX11_next uX11_next [.ref 11] h1 (fun h' => rayC g P l1 l2 l3 (fun v => -v) h')) := by
      intro h1 e0 c1 hp1
      have c6 := c1.2.2.1.2.2.1
      refine ⟨fun z => ?_, fun z => ?_⟩
      · rw [c6] at z
        simp only [if_neg z] at hp1
        exact C (fun v => v) h1 e0 c1 hp1
      · rw [c6] at z
        simp only [if_pos z] at hp1
        exact b_nx c1 (fun h' c2 => C (fun v => -v) h' _ c2 hp1)
    refine r_X11_rayLine_20 l1 l2 l3 ⟨fun z => ?_, fun z => ⟨fun y => ⟨fun _ => ?_, fun x => absurd c.2.2.2.2.2 x⟩, fun y => ?_⟩⟩
    · rw [i_le, i4, e3] at z
      omega
    · rw [i_le, e3, i0] at y
      refine B h e c (fun h' m => hp h' ?_)
      show Mo h0 T n (rx_bind (if r = 3 then .inr ((), e, f) else rx_sign T n 44 e f) _) h'
      rw [if_pos (by omega)]
      exact m
    · rw [i_le, e3, i0] at y
      have eo : rx_pa T n l (r + 1) an e f = rx_bind (rx_sign T n 44 e f) (fun _ e0 f0 => rx_bind (rx_num T n 0 3 (if rx_k T n e0 = 45 then rx_e T n e0 else e0) f0) (fun v e1 f1 => if r = 0 ∧ an = false ∧ v = 0 then rx_no T n (if rx_k T n e0 = 45 then rx_e T n e0 else e0) 4 else rx_pa T n l r (an || decide (¬ v = 0)) e1 (rx_set f1 (86 + 4 * l + (3 - r)) (if rx_k T n e0 = 45 then -v else v)))) := by
        show rx_bind (if r = 3 then .inr ((), e, f) else rx_sign T n 44 e f) _ = _
        rw [if_neg (by omega)]
      refine b_mustComma c (fun es h1 c1 => ⟨fun _ => B h1 _ c1 (fun h' m => hp h' ?_), fun x => absurd c1.2.2.2.2.2 x⟩) (fun es mx => ⟨fun x => absurd x (Mx_ne mx), fun _ => hp _ (Mo_no mx ?_)⟩)
      · rw [eo, es]; exact m
      · rw [eo, es]; rfl
theorem b_rayLine {g : gT} {h0 h : mh_T} {P : mh_T → Prop} {T : Nat → Int32} {n e : Nat} {f : Nat → Int32} (c : Ms h0 T n e f h) (h8 : ¬ f 85 = 18) (hp : ∀ h', Mo h0 T n (rx_pa T n (f 85).toNatClampNeg 4 false e f) h' → P h') : MCv g yX11_rayLine uX11_rayLine [.ref 11] h P := by
  have c85 := c.2.2.2.2.1 85 (by decide)
  have r85 : R 0 18 (f 85) := by
    rw [← c85]
    exact GI_rd c.1.1 46 85 (by decide)
  obtain ⟨l, el, l0, l8⟩ := i_R r85 (by decide)
  have hl : l < 18 := by
    by_cases q : l = 18
    · exact absurd (Int32.toInt_inj.mp (by rw [el, q]; decide)) h8
    · omega
  rw [i_nat el] at hp
  refine e_X11_rayLine ⟨fun _ x2 ex => ?_, fun y => absurd c.2.2.2.2.2 y⟩
  rw [show Int32.toNatClampNeg 85 = 85 from by decide, c85] at ex
  subst ex
  exact b_pa _ hl el 4 0 0 false e f h c el (Nat.le_refl _) (by decide) ⟨fun _ => rfl, fun _ => rfl⟩ hp
