def CL (f : Nat → Int32) (n m s : Nat) : Prop := ∃ v, v < 2 ^ m ∧ ∀ t, t < 8 → bt (Int32.ofNat s) t = true → bt (sv f n v) t = true
/-- what the class knows of the lines -/
def LF (f : Nat → Int32) (n m : Nat) (h : mh_T) : Prop := (mI h 7 0).toInt = (m : Int) ∧ (mI h 7 1).toInt = (n : Int) ∧ mI h 7 2 = wyc f n (2 ^ m) ∧ (∀ p, p < 9 → (bt (mI h 7 3) p = true ↔ ∃ w, w < 2 ^ m ∧ sv f n w = An n ∧ bt (Int32.ofNat w) p = true)) ∧ (∀ p, p < 9 → (bt (mI h 7 4) p = true ↔ ∃ w, w < 2 ^ m ∧ sv f n w = An n ∧ bt (Int32.ofNat w) p = false)) ∧ ∀ s, s < 2 ^ n → (¬ mI h 31 s = 0 ↔ CL f n m s)
theorem LF_cg {f f' : Nat → Int32} {n m : Nat} {h h' : mh_T} (hn : n ≤ 8) (e : ∀ i, 53 ≤ i → i < 85 → f i = f' i) (e7 : h'.1 7 = h.1 7) (e31 : h'.1 31 = h.1 31) (l : LF f n m h) : LF f' n m h' := by
  have g7 : ∀ j, mI h' 7 j = mI h 7 j := fun j => congrFun e7 j
  have g31 : ∀ j, mI h' 31 j = mI h 31 j := fun j => congrFun e31 j
  have es : ∀ w, sv f' n w = sv f n w := fun w => (slb_cg n hn e).symm
  unfold LF CL
  simp only [g7, g31, es, ← wyc_cg hn e]
  exact l
theorem v_X5_openL {g : gT} {h : mh_T} {P : mh_T → Prop} {f : Nat → Int32} {n m : Nat} (hG : GI h) (em : (mI h 2 2).toInt = (m : Int)) (hm9 : m ≤ 9) (en : (mI h 2 4).toInt = (n : Int)) (hn : n ≤ 8) (hl : ∀ l : Nat, l < n → mI h 19 l = f (77 + l) ∧ Lp (mI h 18 l) (f (53 + 3 * l)) (f (54 + 3 * l)) (f (55 + 3 * l))) (hp : ∀ h', GI h' → Fr [7, 31] h h' → LF f n m h' → P h') : MCv g yX5_open uX5_open [.ref 7, .ref 2] h P := by
  refine e_X5_open (fun x1 ex => ?_)
  have q1 : mI (wI h 7 0 (mI h 2 2)) 2 4 = mI h 2 4 := by rw [mI_wI, if_neg (by decide)]
  rw [q1] at ex ⊢
  have g0 : GI (wI (wI (wI (wI (wI h 7 0 (mI h 2 2)) 7 1 (mI h 2 4)) 7 2 0) 7 3 0) 7 4 0) := GI_w (GI_w (GI_w (GI_w (GI_w hG (k := 7) (j := 0) (lo := 0) (hi := 9) (by decide) (GI_rd hG 2 2 (by decide))) (k := 7) (j := 1) (lo := 0) (hi := 8) (by decide) (GI_rd hG 2 4 (by decide))) (k := 7) (j := 2) (lo := -2147483648) (hi := 2147483647) (by decide) (R_full _)) (k := 7) (j := 3) (lo := -2147483648) (hi := 2147483647) (by decide) (R_full _)) (k := 7) (j := 4) (lo := -2147483648) (hi := 2147483647) (by decide) (R_full _)
  have r0 : Fr [7, 31] h (wI (wI (wI (wI (wI h 7 0 (mI h 2 2)) 7 1 (mI h 2 4)) 7 2 0) 7 3 0) 7 4 0) := Fr_w (Fr_w (Fr_w (Fr_w (Fr_w (Fr_rf h) (by decide)) (by decide)) (by decide)) (by decide)) (by decide)
  have v0 : mI (wI (wI (wI (wI (wI h 7 0 (mI h 2 2)) 7 1 (mI h 2 4)) 7 2 0) 7 3 0) 7 4 0) 7 0 = mI h 2 2 := by
    rw [mI_wI, if_neg (by decide), mI_wI, if_neg (by decide), mI_wI, if_neg (by decide), mI_wI, if_neg (by decide), mI_wI, if_pos ⟨rfl, rfl⟩]
  have v1 : mI (wI (wI (wI (wI (wI h 7 0 (mI h 2 2)) 7 1 (mI h 2 4)) 7 2 0) 7 3 0) 7 4 0) 7 1 = mI h 2 4 := by
    rw [mI_wI, if_neg (by decide), mI_wI, if_neg (by decide), mI_wI, if_neg (by decide), mI_wI, if_pos ⟨rfl, rfl⟩]
  have v2 : mI (wI (wI (wI (wI (wI h 7 0 (mI h 2 2)) 7 1 (mI h 2 4)) 7 2 0) 7 3 0) 7 4 0) 7 2 = 0 := by
    rw [mI_wI, if_neg (by decide), mI_wI, if_neg (by decide), mI_wI, if_pos ⟨rfl, rfl⟩]
  rw [v1, i_of en (by omega)] at ex
  have v3 : mI (wI (wI (wI (wI (wI h 7 0 (mI h 2 2)) 7 1 (mI h 2 4)) 7 2 0) 7 3 0) 7 4 0) 7 3 = 0 := by
    rw [mI_wI, if_neg (by decide), mI_wI, if_pos ⟨rfl, rfl⟩]
  have v4 : mI (wI (wI (wI (wI (wI h 7 0 (mI h 2 2)) 7 1 (mI h 2 4)) 7 2 0) 7 3 0) 7 4 0) 7 4 = 0 := by
    rw [mI_wI, if_pos ⟨rfl, rfl⟩]
  generalize wI (wI (wI (wI (wI h 7 0 (mI h 2 2)) 7 1 (mI h 2 4)) 7 2 0) 7 3 0) 7 4 0 = h0 at g0 r0 v0 v1 v2 v3 v4
  have p8 : ((1 : Int32) <<< (Int32.ofNat n &&& 31)).toInt = (2 : Int) ^ n := shl_n (by omega)
  have n2 : (1 : Int) ≤ 2 ^ n ∧ (2 : Int) ^ n ≤ 256 := by
    rcases (show n = 0 ∨ n = 1 ∨ n = 2 ∨ n = 3 ∨ n = 4 ∨ n = 5 ∨ n = 6 ∨ n = 7 ∨ n = 8 by omega) with q | q | q | q | q | q | q | q | q <;> subst q <;> decide
  have ex1 : x1.toInt = (2 : Int) ^ n - 1 := by rw [ex]; exact i_sub p8 (by decide) (by omega)
  have m2 : ((2 ^ m : Nat) : Int) = (2 : Int) ^ m ∧ 2 ^ m ≤ 512 := by
    rcases (show m = 0 ∨ m = 1 ∨ m = 2 ∨ m = 3 ∨ m = 4 ∨ m = 5 ∨ m = 6 ∨ m = 7 ∨ m = 8 ∨ m = 9 by omega) with q | q | q | q | q | q | q | q | q | q <;> subst q <;> decide
  have pm : ∀ {k : mh_T}, mI k 7 0 = mI h 2 2 → ((1 : Int32) <<< ((mI k 7 0) &&& 31)).toInt = ((2 ^ m : Nat) : Int) := fun e => by
    rw [e, i_of em (by omega), shl_n (by omega), m2.1]
  have B : ∀ (q : Nat) (l3 : Int32) (v : Nat) (k : mh_T), l3.toInt = (v : Int) → v ≤ 2 ^ m → 2 ^ m - v < q → GI k → Fr [7, 31] h k → mI k 7 0 = mI h 2 2 → mI k 7 1 = mI h 2 4 → mI k 7 2 = wyc f n v → (∀ p, p < 9 → (bt (mI k 7 3) p = true ↔ ∃ w, w < v ∧ sv f n w = An n ∧ bt (Int32.ofNat w) p = true)) → (∀ p, p < 9 → (bt (mI k 7 4) p = true ↔ ∃ w, w < v ∧ sv f n w = An n ∧ bt (Int32.ofNat w) p = false)) → (∀ s, s < 2 ^ n → (¬ mI k 31 s = 0 ↔ ∃ w, w < v ∧ sv f n w = Int32.ofNat s)) → ME g uX5_open 62 [.ref 7, .ref 2, .int x1, .int l3, .retAddr 0] [] k (qV P) := by
    intro q
    induction q with
    | zero => intro l3 v k _ _ hq; exact absurd hq (Nat.not_lt_zero _)
    | succ q ih =>
      intro l3 v k e3 hv hq kG kF k0 k1 k2 k3 k4 k5
      refine r_X5_open_62 x1 l3 ⟨fun z => ?_, fun z => ?_⟩
      · rw [i_le, pm k0, e3] at z
        have : v = 2 ^ m := by omega
        subst this
        refine v_spread (n := n) (E := fun s => ∃ w, w < 2 ^ m ∧ sv f n w = Int32.ofNat s) kG (by rw [k1]; exact en) hn k5 (fun h2 o2 u2 => hp h2 o2.1 (Fr_t2 kF o2.2.1 (by decide)) ⟨?_, ?_, ?_, ?_, ?_, fun s hs => ?_⟩)
        · rw [Ok_eq o2 (by decide), k0]; exact em
        · rw [Ok_eq o2 (by decide), k1]; exact en
        · rw [Ok_eq o2 (by decide)]; exact k2
        · rw [Ok_eq o2 (by decide)]; exact k3
        · rw [Ok_eq o2 (by decide)]; exact k4
        · rw [u2 s hs]
          constructor
          · rintro ⟨s', h1, ⟨w, w1, w2⟩, h3⟩
            exact ⟨w, w1, fun t ht hx => by rw [w2]; exact h3 t ht hx⟩
          · rintro ⟨w, w1, w2⟩
            obtain ⟨x, x1, x2, x3⟩ := sv_nat (f := f) (v := Int32.ofNat w) hn
            exact ⟨x, x2, ⟨w, w1, x3⟩, fun t ht hx => by rw [← x3]; exact w2 t ht hx⟩
      · rw [i_le, pm k0, e3] at z
        refine v_soLines (f := f) (n := n) l3 e3 (by omega) (by rw [k1]; exact en) hn (fun l hl' => ?_) ?_
        · rw [show mI k 19 l = mI h 19 l from congrFun (kF 19 (by decide) (by decide)).1 l, show mI k 18 l = mI h 18 l from congrFun (kF 18 (by decide) (by decide)).1 l]
          exact hl l hl'
        · have sr := slb_R (f := f) (v := l3) n hn
          have e3' := i_inc e3 (by omega)
          have ev : l3 = Int32.ofNat v := i_of e3 (by omega)
          have xa : x1 = An n := ex
          have ny : ¬ slb f l3 n = x1 → ¬ slb f l3 n = An n := fun q z => q (z.trans xa.symm)
          have yy : slb f l3 n = x1 → slb f l3 n = An n := fun q => q.trans xa
          refine ⟨vin sr (by decide), fun y => ?_, fun y => ?_⟩
          · refine ih (l3 + 1) (v + 1) _ e3' (by omega) (by omega) (GI_w kG (k := 31) (lo := 0) (hi := 1) rfl ⟨by decide, by decide⟩) (Fr_w kF (by decide)) ?_ ?_ ?_ ?_ ?_ ?_
            · rw [mI_wI, if_neg (fun w => absurd w.1 (by decide))]; exact k0
            · rw [mI_wI, if_neg (fun w => absurd w.1 (by decide))]; exact k1
            · rw [mI_wI, if_neg (fun w => absurd w.1 (by decide)), k2]
              show _ = (if slb f (Int32.ofNat v) n = (1 <<< (Int32.ofNat n &&& 31)) - 1 then _ else _)
              rw [← ev, ← ex, if_neg y]
            · intro p hp'
              rw [mI_wI, if_neg (fun w => absurd w.1 (by decide)), k3 p hp']
              refine ⟨fun ⟨w, w1, w2⟩ => ⟨w, by omega, w2⟩, fun ⟨w, w1, w2, w3⟩ => ⟨w, ?_, w2, w3⟩⟩
              by_cases q : w = v
              · subst q
                exact absurd (by rw [ev]; exact w2) (ny y)
              · omega
            · intro p hp'
              rw [mI_wI, if_neg (fun w => absurd w.1 (by decide)), k4 p hp']
              refine ⟨fun ⟨w, w1, w2⟩ => ⟨w, by omega, w2⟩, fun ⟨w, w1, w2, w3⟩ => ⟨w, ?_, w2, w3⟩⟩
              by_cases q : w = v
              · subst q
                exact absurd (by rw [ev]; exact w2) (ny y)
              · omega
            · intro s hs
              have pn := p2n hn
              obtain ⟨x, x1, x2, x3⟩ := sv_nat (f := f) (v := l3) hn
              rw [i_nat x1]
              have key : (∃ w, w < v + 1 ∧ sv f n w = Int32.ofNat s) ↔ (∃ w, w < v ∧ sv f n w = Int32.ofNat s) ∨ s = x := by
                constructor
                · rintro ⟨w, w1, w2⟩
                  by_cases q : w = v
                  · right
                    subst q
                    have : Int32.ofNat x = Int32.ofNat s := by rw [← x3, ev]; exact w2
                    have := congrArg Int32.toInt this
                    rw [Int32.toInt_ofNat_of_lt (by omega), Int32.toInt_ofNat_of_lt (by omega)] at this
                    omega
                  · exact Or.inl ⟨w, by omega, w2⟩
                · rintro (⟨w, w1, w2⟩ | q)
                  · exact ⟨w, by omega, w2⟩
                  · exact ⟨v, by omega, by rw [q, ← x3, ev]⟩
              rw [key]
              rw [mI_wI]
              by_cases q : s = x
              · rw [if_pos ⟨rfl, q⟩]
                exact ⟨fun _ => Or.inr q, fun _ => by decide⟩
              · rw [if_neg (fun z => q z.2), k5 s hs]
                exact ⟨Or.inl, fun z => z.resolve_right q⟩
          · refine ih (l3 + 1) (v + 1) _ e3' (by omega) (by omega) (GI_w (GI_w (GI_w (GI_w kG (k := 31) (lo := 0) (hi := 1) rfl ⟨by decide, by decide⟩) (k := 7) (j := 2) (lo := -2147483648) (hi := 2147483647) (by decide) (R_full _)) (k := 7) (j := 3) (lo := -2147483648) (hi := 2147483647) (by decide) (R_full _)) (k := 7) (j := 4) (lo := -2147483648) (hi := 2147483647) (by decide) (R_full _)) (Fr_w (Fr_w (Fr_w (Fr_w kF (by decide)) (by decide)) (by decide)) (by decide)) ?_ ?_ ?_ ?_ ?_ ?_
            · rw [mI_wI, if_neg (by decide), mI_wI, if_neg (by decide), mI_wI, if_neg (by decide), mI_wI, if_neg (fun w => absurd w.1 (by decide))]; exact k0
            · rw [mI_wI, if_neg (by decide), mI_wI, if_neg (by decide), mI_wI, if_neg (by decide), mI_wI, if_neg (fun w => absurd w.1 (by decide))]; exact k1
            · rw [mI_wI, if_neg (by decide), mI_wI, if_neg (by decide), mI_wI, if_pos ⟨rfl, rfl⟩, mI_wI, if_neg (fun w => absurd w.1 (by decide)), k2]
              show _ = (if slb f (Int32.ofNat v) n = (1 <<< (Int32.ofNat n &&& 31)) - 1 then _ else _)
              rw [← ev, ← ex, if_pos y]
            · intro p hp'
              rw [mI_wI, if_neg (by decide), mI_wI, if_pos ⟨rfl, rfl⟩, mI_wI, if_neg (by decide), mI_wI, if_neg (fun w => absurd w.1 (by decide)), bt_or2, Bool.or_eq_true, k3 p hp', ev]
              constructor
              · rintro (⟨w, w1, w2⟩ | q)
                · exact ⟨w, by omega, w2⟩
                · exact ⟨v, by omega, by rw [← yy y, ev], q⟩
              · rintro ⟨w, w1, w2, w3⟩
                by_cases q : w = v
                · subst q; exact Or.inr w3
                · exact Or.inl ⟨w, by omega, w2, w3⟩
            · intro p hp'
              rw [mI_wI, if_pos ⟨rfl, rfl⟩, mI_wI, if_neg (by decide), mI_wI, if_neg (by decide), mI_wI, if_neg (fun w => absurd w.1 (by decide)), bt_or2, Bool.or_eq_true, k4 p hp', bt_not (by omega), ev, Bool.not_eq_true']
              constructor
              · rintro (⟨w, w1, w2⟩ | q)
                · exact ⟨w, by omega, w2⟩
                · exact ⟨v, by omega, by rw [← yy y, ev], q⟩
              · rintro ⟨w, w1, w2, w3⟩
                by_cases q : w = v
                · subst q; exact Or.inr w3
                · exact Or.inl ⟨w, by omega, w2, w3⟩
            · intro s hs
              have pn := p2n hn
              obtain ⟨x, x1, x2, x3⟩ := sv_nat (f := f) (v := l3) hn
              rw [i_nat x1]
              have key : (∃ w, w < v + 1 ∧ sv f n w = Int32.ofNat s) ↔ (∃ w, w < v ∧ sv f n w = Int32.ofNat s) ∨ s = x := by
                constructor
                · rintro ⟨w, w1, w2⟩
                  by_cases q : w = v
                  · right
                    subst q
                    have : Int32.ofNat x = Int32.ofNat s := by rw [← x3, ev]; exact w2
                    have := congrArg Int32.toInt this
                    rw [Int32.toInt_ofNat_of_lt (by omega), Int32.toInt_ofNat_of_lt (by omega)] at this
                    omega
                  · exact Or.inl ⟨w, by omega, w2⟩
                · rintro (⟨w, w1, w2⟩ | q)
                  · exact ⟨w, by omega, w2⟩
                  · exact ⟨v, by omega, by rw [q, ← x3, ev]⟩
              rw [key]
              rw [mI_wI, if_neg (fun w => absurd w.1 (by decide)), mI_wI, if_neg (fun w => absurd w.1 (by decide)), mI_wI, if_neg (fun w => absurd w.1 (by decide)), mI_wI]
              by_cases q : s = x
              · rw [if_pos ⟨rfl, q⟩]
                exact ⟨fun _ => Or.inr q, fun _ => by decide⟩
              · rw [if_neg (fun z => q z.2), k5 s hs]
                exact ⟨Or.inl, fun z => z.resolve_right q⟩
  have A : ∀ (q : Nat) (l3 : Int32) (v : Nat) (k : mh_T), l3.toInt = (v : Int) → v ≤ 256 → 256 - v < q → Ok [31] h0 k → (∀ s, s < v → s < 2 ^ n → mI k 31 s = 0) → ME g uX5_open 42 [.ref 7, .ref 2, .int x1, .int l3, .retAddr 0] [] k (qV P) := by
    intro q
    induction q with
    | zero => intro l3 v k _ _ hq; exact absurd hq (Nat.not_lt_zero _)
    | succ q ih =>
      intro l3 v k e3 hv hq ok cl
      refine r_X5_open_42 x1 l3 ⟨fun z => ?_, fun z => ?_⟩
      · refine B (2 ^ m + 1) 0 0 k (by decide) (Nat.zero_le _) (Nat.lt_succ_of_le (Nat.sub_le _ _)) ok.1 (Fr_t2 r0 ok.2.1 (by decide)) ?_ ?_ ?_ ?_ ?_ ?_
        · rw [Ok_eq ok (by decide)]; exact v0
        · rw [Ok_eq ok (by decide)]; exact v1
        · rw [Ok_eq ok (by decide)]; exact v2
        · intro p hp'
          rw [Ok_eq ok (by decide), v3, bt_zr]
          exact ⟨fun z => absurd z (by decide), fun ⟨w, w1, _⟩ => absurd w1 (Nat.not_lt_zero _)⟩
        · intro p hp'
          rw [Ok_eq ok (by decide), v4, bt_zr]
          exact ⟨fun z => absurd z (by decide), fun ⟨w, w1, _⟩ => absurd w1 (Nat.not_lt_zero _)⟩
        · intro s hs
          rw [i_lt, ex1, e3] at z
          have pn := p2n hn
          exact ⟨fun q => absurd (cl s (by omega) hs) q, fun ⟨w, w1, _⟩ => absurd w1 (Nat.not_lt_zero _)⟩
      · rw [i_lt, ex1, e3] at z
        rw [i_nat e3]
        exact ⟨i_vp e3 (by omega), ih (l3 + 1) (v + 1) _ (i_inc e3 (by omega)) (by omega) (by omega) (Ok_w ok (k := 31) (lo := 0) (hi := 1) rfl ⟨by decide, by decide⟩ (by decide) (nt_k (by decide))) (fun s hs hs2 => by
          rw [mI_wI]
          split
          · rfl
          · rename_i q
            exact cl s (by have : ¬ s = v := fun z => q ⟨rfl, z⟩
                           omega) hs2)⟩
  exact A 257 0 0 h0 (by decide) (Nat.zero_le _) (by omega) (Ok_rf g0) (fun s hs => absurd hs (Nat.not_lt_zero _))
/-! LINES: what is asked of them -/
abbrev pcn (s : Nat) : Nat := S9 (fun t => bt (Int32.ofNat s) t)
theorem s9_le (g : Nat → Bool) : S9 g ≤ 9 := by
  have t : ∀ b : Bool, b.toNat ≤ 1 := fun b => by cases b <;> decide
  unfold S9
  have := t (g 0); have := t (g 1); have := t (g 2); have := t (g 3); have := t (g 4); have := t (g 5); have := t (g 6); have := t (g 7); have := t (g 8)
  omega
theorem pcn_i (s : Nat) : (Int32.ofNat (pcn s)).toInt = (pcn s : Int) := Int32.toInt_ofNat_of_lt (by have : pcn s ≤ 9 := s9_le _; omega)
theorem pl {a b : Nat} : Int32.ofNat (pcn a) ≤ Int32.ofNat (pcn b) ↔ pcn a ≤ pcn b := by
  rw [i_le, pcn_i, pcn_i]
  omega
/-! the rays that a text makes: numbers of -3 to 3, not all of them 0 -/
def Ge {α : Type} (o : rx_O α) (Q : α → (Nat → Int32) → Prop) : Prop := ∀ v e f, o = .inr (v, e, f) → Q v f
theorem Ge_no {α : Type} {T : Nat → Int32} {n e : Nat} {w : Int32} {Q : α → (Nat → Int32) → Prop} : Ge (rx_no T n e w : rx_O α) Q := fun _ _ _ h => by cases h
theorem Ge_in {α : Type} {v : α} {e : Nat} {f : Nat → Int32} {Q : α → (Nat → Int32) → Prop} (h : Q v f) : Ge (.inr (v, e, f) : rx_O α) Q := fun _ _ _ q => by cases q; exact h
theorem Ge_bind {α β : Type} {o : rx_O α} {k : α → Nat → (Nat → Int32) → rx_O β} {Q : α → (Nat → Int32) → Prop} {Q' : β → (Nat → Int32) → Prop} (h : Ge o Q) (hk : ∀ v e f, Q v f → Ge (k v e f) Q') : Ge (rx_bind o k) Q' := by
  intro v e f q
  cases a : o with
  | inl z => rw [a] at q; cases q
  | inr z =>
    obtain ⟨v1, e1, f1⟩ := z
    rw [a] at q
    exact hk v1 e1 f1 (h v1 e1 f1 a) v e f q
theorem Ge_ite {α : Type} {c : Prop} [Decidable c] {x y : rx_O α} {Q : α → (Nat → Int32) → Prop} (hx : c → Ge x Q) (hy : ¬ c → Ge y Q) : Ge (if c then x else y) Q := by
  by_cases h : c
  · rw [if_pos h]; exact hx h
  · rw [if_neg h]; exact hy h
theorem Ge_word {T : Nat → Int32} {n i e : Nat} {f : Nat → Int32} : Ge (rx_word T n i e f) (fun _ f' => f' = f) := Ge_ite (fun _ => Ge_in rfl) (fun _ => Ge_no)
theorem Ge_sign {T : Nat → Int32} {n : Nat} {c : Int32} {e : Nat} {f : Nat → Int32} : Ge (rx_sign T n c e f) (fun _ f' => f' = f) := Ge_ite (fun _ => Ge_in rfl) (fun _ => Ge_no)
theorem Ge_num {T : Nat → Int32} {n : Nat} {lo hi : Int32} {e : Nat} {f : Nat → Int32} : Ge (rx_num T n lo hi e f) (fun v f' => f' = f ∧ lo.toInt ≤ v.toInt ∧ v.toInt ≤ hi.toInt) := Ge_ite (fun _ => Ge_no) (fun _ => Ge_ite (fun h => Ge_in ⟨rfl, i_le.mp h.1, i_le.mp h.2⟩) (fun _ => Ge_no))
theorem Ge_name {T : Nat → Int32} {n : Nat} {lk : Bool} {e : Nat} {f : Nat → Int32} : Ge (rx_name T n lk e f) (fun k f' => f' = f ∧ k < 15) := by
  unfold rx_name
  refine Ge_ite (fun _ => ?_) (fun _ => Ge_no)
  cases a : rx_fd T n e f with
  | none => exact Ge_no
  | some j =>
    have j15 : j < 15 := List.mem_range.mp (List.mem_of_find?_eq_some a)
    refine Ge_ite (fun _ => Ge_in ⟨rfl, ?_⟩) (fun _ => Ge_no)
    split <;> omega
theorem Ge_mono {α : Type} {o : rx_O α} {Q Q' : α → (Nat → Int32) → Prop} (h : Ge o Q) (hq : ∀ v f, Q v f → Q' v f) : Ge o Q' := fun v e f q => hq v f (h v e f q)
abbrev LoR (f f' : Nat → Int32) : Prop := (∀ i, 85 ≤ i → i < 158 → f' i = f i) ∧ f' 52 = f 52 ∧ f' 0 = f 0
theorem rx_set_r {f f' : Nat → Int32} {j : Nat} {v : Int32} (hj : (j < 85 ∧ ¬ j = 52 ∧ ¬ j = 0) ∨ 158 ≤ j) (h : LoR f f') : LoR f (rx_set f' j v) := by
  refine ⟨fun i hi hk => ?_, ?_, ?_⟩
  · unfold rx_set
    rw [if_neg (by omega)]
    exact h.1 i hi hk
  · unfold rx_set
    rw [if_neg (by omega)]
    exact h.2.1
  · unfold rx_set
    rw [if_neg (by omega)]
    exact h.2.2
theorem Gr_nn {T : Nat → Int32} {n c fs : Nat} {mo : Int32} (hc : c = 50 ∨ c = 51) : ∀ (k e : Nat) (f0 f : Nat → Int32), LoR f0 f → Ge (rx_nn T n c fs mo k e f) (fun _ f' => LoR f0 f')
  | 0, _, _, _, _ => Ge_no
  | k + 1, e, f0, f, h => by
    unfold rx_nn
    have hp : LoR f0 (rx_set (rx_put T n e f (fs + (f c).toNatClampNeg)) c (f c + 1)) := rx_set_r (by omega) (by
      unfold rx_put
      refine ⟨fun i hi hk => ?_, ?_, ?_⟩
      · dsimp only
        rw [if_neg (by omega), if_neg (by omega)]
        exact h.1 i hi hk
      · dsimp only
        rw [if_neg (by omega), if_neg (by omega)]
        exact h.2.1
      · dsimp only
        rw [if_neg (by omega), if_neg (by omega)]
        exact h.2.2)
    exact Ge_ite (fun _ => Ge_ite (fun _ => Ge_no) (fun _ => Ge_ite (fun _ => Ge_no) (fun _ => Ge_ite (fun _ => Gr_nn hc k _ f0 _ hp) (fun _ => Ge_in hp)))) (fun _ => Ge_no)
theorem Gr_pt {T : Nat → Int32} {n l : Nat} (hl : l < 8) : ∀ (r : Nat) (u : Nat → Bool) (e : Nat) (f0 f : Nat → Int32), LoR f0 f → Ge (rx_pt T n l r u e f) (fun _ f' => LoR f0 f')
  | 0, _, _, _, _, h => Ge_in h
  | r + 1, u, e, f0, f, h => by
    unfold rx_pt
    refine Ge_bind (Q := fun _ f' => f' = f) (Ge_ite (fun _ => Ge_in rfl) (fun _ => Ge_sign)) (fun _ e0 f1 q1 => Ge_bind Ge_name (fun p e2 f2 q2 => Ge_ite (fun _ => Ge_no) (fun _ => Gr_pt hl r _ _ f0 _ (rx_set_r (by omega) ?_))))
    rw [q2.1, q1]
    exact h
theorem Gr_st {T : Nat → Int32} {n l : Nat} : ∀ (r : Nat) (e : Nat) (f0 f : Nat → Int32), LoR f0 f → Ge (rx_st T n l r e f) (fun _ f' => LoR f0 f')
  | 0, e, f0, f, h => by
    unfold rx_st
    exact Ge_bind Ge_name (fun _ _ _ _ => Ge_no)
  | r + 1, e, f0, f, h => by
    unfold rx_st
    refine Ge_bind Ge_name (fun k e1 f1 q1 => Ge_bind Ge_num (fun v e2 f2 q2 => ?_))
    have h2 : LoR f0 f2 := by rw [q2.1, q1.1]; exact h
    exact Ge_ite (fun _ => Gr_st r _ f0 _ (rx_set_r (by omega) (rx_set_r (by omega) h2))) (fun _ => Ge_in (rx_set_r (by omega) (rx_set_r (by omega) (rx_set_r (by omega) (rx_set_r (by omega) h2)))))
/-- as LoR, and a set more -/
def LoS (f f' : Nat → Int32) : Prop := (∀ i, 85 ≤ i → i < 158 → f' i = f i) ∧ f' 52 = f 52 ∧ f' 0 = f 0 + 1
theorem Gr_tm {T : Nat → Int32} {n s many : Nat} (s8 : s < 8) (m4 : many ≤ 4) : ∀ (r : Nat) (sum : Int32) (e : Nat) (f0 f : Nat → Int32), r ≤ many → LoR f0 f → Ge (rx_tm T n s many r sum e f) (fun _ f' => LoS f0 f')
  | 0, _, _, f0, f, _, h => Ge_in (by
      refine ⟨fun i hi hk => ?_, ?_, ?_⟩
      · unfold rx_set
        rw [if_neg (by omega)]
        exact h.1 i hi hk
      · unfold rx_set
        rw [if_neg (by omega)]
        exact h.2.1
      · unfold rx_set
        rw [if_pos rfl, h.2.2])
  | r + 1, sum, e, f0, f, hr, h => by
    unfold rx_tm
    refine Ge_bind (Q := fun _ f' => f' = f) (Ge_ite (fun _ => Ge_in rfl) (fun _ => Ge_sign)) (fun _ e0 f1 q0 => Ge_bind Ge_num (fun v e1 f2 q1 => Ge_ite (fun _ => Ge_no) (fun _ => Gr_tm s8 m4 r _ _ f0 _ (by omega) (rx_set_r (by omega) ?_))))
    rw [q1.1, q0]
    exact h
theorem Gr_tell {T : Nat → Int32} {n one e : Nat} {two : Int32} {f0 f : Nat → Int32} (s8 : (f 0).toNatClampNeg < 8) (h : LoR f0 f) : Ge (rx_tell T n one two e f) (fun _ f' => LoS f0 f') := by
  unfold rx_tell
  refine Ge_bind Ge_word (fun _ e1 f1 q1 => ?_)
  have h1 : LoR f0 f1 := by
    rw [q1]
    exact rx_set_r (by omega) (rx_set_r (by omega) h)
  by_cases w : two = -2
  · rw [if_pos w]
    exact Gr_tm s8 (by decide) 2 0 e1 f0 f1 (Nat.le_refl _) h1
  · rw [if_neg w]
    exact Gr_tm s8 (by decide) 4 0 e1 f0 f1 (Nat.le_refl _) h1
/-- the rays of a draft -/
def RZ (f : Nat → Int32) : Prop := (0 ≤ (f 85).toInt ∧ (f 85).toInt ≤ 18) ∧ ∀ i : Nat, (i : Int) < (f 85).toInt → (∀ q, q < 4 → R (-3) 3 (f (86 + 4 * i + q))) ∧ ∃ q, q < 4 ∧ ¬ f (86 + 4 * i + q) = 0
def RIf (f : Nat → Int32) : Prop := ((0 ≤ (f 52).toInt ∧ (f 52).toInt ≤ 8) ∧ (0 ≤ (f 0).toInt ∧ (f 0).toInt ≤ 8)) ∧ RZ f
theorem RZ_x {f f' : Nat → Int32} (h : ∀ i, 85 ≤ i → i < 158 → f' i = f i) (t : RZ f) : RZ f' := by
  obtain ⟨t1, t2⟩ := t
  unfold RZ
  rw [h 85 (by omega) (by omega)]
  refine ⟨t1, fun i hi => ?_⟩
  obtain ⟨a, q, hq, b⟩ := t2 i hi
  exact ⟨fun q hq => by rw [h _ (by omega) (by omega)]; exact a q hq, q, hq, by rw [h _ (by omega) (by omega)]; exact b⟩
theorem RIf_lo {f f' : Nat → Int32} (h : LoR f f') (t : RIf f) : RIf f' := ⟨by rw [h.2.1, h.2.2]; exact t.1, RZ_x h.1 t.2⟩
theorem Gr_setL {T : Nat → Int32} {n e : Nat} {f : Nat → Int32} (t : RIf f) : Ge (rx_setL T n e f) (fun _ f' => RIf f') := by
  unfold rx_setL
  refine Ge_ite (fun _ => Ge_no) (fun _ => Ge_ite (fun _ => Ge_no) (fun h8 => Ge_bind Ge_name (fun one e1 f1 q1 => ?_)))
  have e1' : f1 = f := q1.1
  subst e1'
  have n8 : ¬ (f1 0).toInt = 8 := fun z => h8 (Int32.toInt_inj.mp (by rw [z]; decide))
  obtain ⟨⟨t1, t2, t3⟩, t4⟩ := t
  have s8 : (f1 0).toNatClampNeg < 8 := by
    show (f1 0).toInt.toNat < 8
    omega
  have rf : LoR f1 f1 := ⟨fun _ _ _ => rfl, rfl, rfl⟩
  have up : ∀ (_ : Unit) (f' : Nat → Int32), LoS f1 f' → RIf f' := fun _ f' q => by
    refine ⟨⟨by rw [q.2.1]; exact t1, ?_⟩, RZ_x q.1 t4⟩
    rw [q.2.2, i_inc (k := (f1 0).toInt.toNat) (by omega) (by omega)]
    omega
  refine Ge_ite (fun _ => Ge_bind Ge_name (fun two e2 f2 q2 => Ge_ite (fun _ => Ge_no) (fun _ => ?_))) (fun _ => Ge_mono (Gr_tell s8 rf) up)
  have e2' : f2 = f1 := q2.1
  subst e2'
  exact Ge_mono (Gr_tell s8 rf) up
/-- a ray that is read: r numbers are to come -/
def PAf (l r : Nat) (an : Bool) (f : Nat → Int32) : Prop := ((0 ≤ (f 52).toInt ∧ (f 52).toInt ≤ 8) ∧ (0 ≤ (f 0).toInt ∧ (f 0).toInt ≤ 8)) ∧ (f 85).toInt = (l : Int) ∧ (∀ i : Nat, i < l → (∀ q, q < 4 → R (-3) 3 (f (86 + 4 * i + q))) ∧ ∃ q, q < 4 ∧ ¬ f (86 + 4 * i + q) = 0) ∧ (∀ q, q < 4 - r → R (-3) 3 (f (86 + 4 * l + q))) ∧ (an = true → ∃ q, q < 4 - r ∧ ¬ f (86 + 4 * l + q) = 0) ∧ (r = 0 → an = true)
theorem neg_R {v : Int32} (h : 0 ≤ v.toInt ∧ v.toInt ≤ 3) : R (-3) 3 (-v) := by
  have : v = 0 ∨ v = 1 ∨ v = 2 ∨ v = 3 := by
    have k : ∀ w : Int32, v.toInt = w.toInt → v = w := fun w e => Int32.toInt_inj.mp e
    have e : v.toInt = 0 ∨ v.toInt = 1 ∨ v.toInt = 2 ∨ v.toInt = 3 := by omega
    rcases e with e | e | e | e
    · exact Or.inl (k 0 e)
    · exact Or.inr (Or.inl (k 1 e))
    · exact Or.inr (Or.inr (Or.inl (k 2 e)))
    · exact Or.inr (Or.inr (Or.inr (k 3 e)))
  rcases this with e | e | e | e <;> rw [e] <;> exact ⟨by decide, by decide⟩
theorem neg_0 {v : Int32} (h : ¬ v = 0) : ¬ -v = 0 := fun z => h (by rw [← Int32.neg_neg (a := v), z]; rfl)
theorem Gr_pa {T : Nat → Int32} {n l : Nat} (hl : l < 18) : ∀ (r : Nat) (an : Bool) (e : Nat) (f : Nat → Int32), r ≤ 4 → PAf l r an f → Ge (rx_pa T n l r an e f) (fun _ f' => RIf f')
  | 0, an, e, f, _, t => by
    unfold rx_pa
    obtain ⟨t1, t2, t3, t4, t5, t6⟩ := t
    have o : ∀ i, ¬ i = 85 → rx_set f 85 (f 85 + 1) i = f i := fun i hi => by unfold rx_set; rw [if_neg hi]
    have o85 : (rx_set f 85 (f 85 + 1) 85).toInt = ((l + 1 : Nat) : Int) := by
      unfold rx_set
      rw [if_pos rfl]
      exact i_inc t2 (by omega)
    refine Ge_in ⟨by rw [o 52 (by omega), o 0 (by omega)]; exact t1, ⟨by rw [o85]; omega, fun i hi => ?_⟩⟩
    rw [o85] at hi
    have g : (∀ q, q < 4 → R (-3) 3 (f (86 + 4 * i + q))) ∧ ∃ q, q < 4 ∧ ¬ f (86 + 4 * i + q) = 0 := by
      by_cases y : i = l
      · rw [y]
        exact ⟨t4, t5 (t6 rfl)⟩
      · exact t3 i (by omega)
    obtain ⟨a, q, hq, b⟩ := g
    exact ⟨fun q hq => by rw [o _ (by omega)]; exact a q hq, q, hq, by rw [o _ (by omega)]; exact b⟩
  | r + 1, an, e, f, hr, t => by
    unfold rx_pa
    refine Ge_bind (Q := fun _ f' => f' = f) (Ge_ite (fun _ => Ge_in rfl) (fun _ => Ge_sign)) (fun _ e0 f0 q0 => Ge_bind Ge_num (fun v e1 f1 q1 => Ge_ite (fun _ => Ge_no) (fun hz => Gr_pa hl r _ _ _ (by omega) ?_)))
    have ef : f1 = f := q1.1.trans q0
    rw [ef]
    obtain ⟨t1, t2, t3, t4, t5, t6⟩ := t
    have v0 := q1.2.1
    have v3 := q1.2.2
    rw [show (0 : Int32).toInt = 0 from by decide] at v0
    rw [show (3 : Int32).toInt = 3 from by decide] at v3
    generalize hw : (if rx_k T n e0 = 45 then -v else v) = w
    have wr : R (-3) 3 w := by
      rw [← hw]
      split
      · exact neg_R ⟨v0, v3⟩
      · exact ⟨by omega, by omega⟩
    have w0 : ¬ v = 0 → ¬ w = 0 := fun z => by
      rw [← hw]
      split
      · exact neg_0 z
      · exact z
    have o : ∀ i, ¬ i = 86 + 4 * l + (3 - r) → rx_set f (86 + 4 * l + (3 - r)) w i = f i := fun i hi => by unfold rx_set; rw [if_neg hi]
    have oi : rx_set f (86 + 4 * l + (3 - r)) w (86 + 4 * l + (3 - r)) = w := by unfold rx_set; rw [if_pos rfl]
    refine ⟨by rw [o 52 (by omega), o 0 (by omega)]; exact t1, by rw [o 85 (by omega)]; exact t2, fun i hi => ?_, fun q hq => ?_, fun ha => ?_, fun h0 => ?_⟩
    · obtain ⟨a, q, hq, b⟩ := t3 i hi
      exact ⟨fun q hq => by rw [o _ (by omega)]; exact a q hq, q, hq, by rw [o _ (by omega)]; exact b⟩
    · by_cases y : q = 3 - r
      · rw [y, oi]; exact wr
      · rw [o _ (by omega)]; exact t4 q (by omega)
    · by_cases y : an = true
      · obtain ⟨q, hq, b⟩ := t5 y
        exact ⟨q, by omega, by rw [o _ (by omega)]; exact b⟩
      · have vz : ¬ v = 0 := by
          rw [Bool.not_eq_true] at y
          rw [y, Bool.false_or] at ha
          exact of_decide_eq_true ha
        exact ⟨3 - r, by omega, by rw [oi]; exact w0 vz⟩
    · by_cases y : an = true
      · rw [y]; rfl
      · rw [Bool.not_eq_true] at y
        rw [y, Bool.false_or]
        refine decide_eq_true (fun z => hz ⟨h0, y, z⟩)
theorem Gr_line {T : Nat → Int32} {n e : Nat} {f : Nat → Int32} (t : RIf f) : Ge (rx_line T n e f) (fun _ f' => RIf f') := by
  have lo : ∀ {o : rx_O Unit}, Ge o (fun _ f' => LoR f f') → Ge o (fun _ f' => RIf f') := fun h => Ge_mono h (fun _ f' q => RIf_lo q t)
  have rf : LoR f f := ⟨fun _ _ _ => rfl, rfl, rfl⟩
  unfold rx_line
  refine Ge_ite (fun _ => lo ?_) (fun _ => Ge_ite (fun _ => lo (Gr_nn (Or.inl rfl) _ _ f f rf)) (fun _ => Ge_ite (fun _ => lo (Gr_nn (Or.inr rfl) _ _ f f rf)) (fun _ => Ge_ite (fun _ => Gr_setL t) (fun _ => Ge_ite (fun _ => ?_) (fun _ => Ge_ite (fun _ => ?_) (fun _ => Ge_ite (fun _ => lo ?_) (fun _ => Ge_no)))))))
  · unfold rx_lawL
    refine Ge_ite (fun _ => Ge_bind Ge_word (fun _ e1 f1 q1 => Ge_bind Ge_num (fun v e2 f2 q2 => Ge_in (rx_set_r (by omega) ?_)))) (fun _ => Ge_no)
    rw [q2.1, q1]
    exact rf
  · unfold rx_lineL
    obtain ⟨⟨⟨b1, b2⟩, b0⟩, -⟩ := id t
    obtain ⟨l, el⟩ : ∃ l : Nat, (f 52).toInt = (l : Int) := ⟨(f 52).toInt.toNat, by omega⟩
    refine Ge_ite (fun _ => Ge_no) (fun h8 => ?_)
    have l8 : l < 8 := by
      have : ¬ (f 52).toInt = 8 := fun z => h8 (Int32.toInt_inj.mp (by rw [z]; decide))
      omega
    rw [i_nat el]
    refine Ge_bind (Gr_pt l8 3 _ _ f f rf) (fun _ e1 f1 q1 => Ge_bind Ge_word (fun _ e2 f2 q2 => ?_))
    have h2 : LoR f f2 := by rw [q2]; exact q1
    have up : ∀ f3 : Nat → Int32, LoR f f3 → RIf (rx_set f3 52 (f 52 + 1)) := fun f3 h3 => by
      refine ⟨⟨?_, by unfold rx_set; rw [if_neg (by decide), h3.2.2]; exact b0⟩, RZ_x (f := f3) (fun i h1 h2 => by unfold rx_set; rw [if_neg (by omega)]) (RIf_lo h3 t).2⟩
      unfold rx_set
      rw [if_pos rfl, i_inc el (by omega)]
      omega
    exact Ge_ite (fun _ => Ge_in (up _ (rx_set_r (by omega) h2))) (fun _ => Ge_ite (fun _ => Ge_in (up _ h2)) (fun _ => Ge_no))
  · unfold rx_rayL
    obtain ⟨b1, ⟨b2, b3⟩, b4⟩ := t
    obtain ⟨l, el⟩ : ∃ l : Nat, (f 85).toInt = (l : Int) := ⟨(f 85).toInt.toNat, by omega⟩
    refine Ge_ite (fun _ => Ge_no) (fun h18 => ?_)
    have l18 : l < 18 := by
      have : ¬ (f 85).toInt = 18 := fun z => h18 (Int32.toInt_inj.mp (by rw [z]; decide))
      omega
    rw [i_nat el]
    exact Gr_pa l18 4 false _ f (Nat.le_refl _) ⟨b1, el, fun i hi => b4 i (by omega), fun q hq => absurd hq (by omega), fun z => absurd z (by decide), fun z => absurd z (by decide)⟩
  · unfold rx_runL
    exact Ge_ite (fun _ => Ge_no) (fun _ => Gr_st 6 _ f f rf)
theorem Gr_text {T : Nat → Int32} {n : Nat} : ∀ (k e : Nat) (f : Nat → Int32), RIf f → Ge (rx_text T n k e f) (fun _ f' => RIf f')
  | 0, _, _, _ => Ge_no
  | k + 1, e, f, t => by
    unfold rx_text
    exact Ge_bind (Gr_line t) (fun _ e1 f1 q1 => Ge_ite (fun _ => Ge_ite (fun _ => Ge_no) (fun _ => Ge_in q1)) (fun _ => Ge_ite (fun _ => Gr_text k _ _ q1) (fun _ => Ge_no)))
theorem book_RZ {T : Nat → Int32} {n e : Nat} {f : Nat → Int32} (h : rx_book T n = .inr ((), e, f)) : RZ f :=
  (Gr_text (n + 1) 0 (fun _ => 0) ⟨⟨⟨by decide, by decide⟩, ⟨by decide, by decide⟩⟩, ⟨by decide, by decide⟩, fun i hi => absurd hi (by show ¬ (i : Int) < (0 : Int32).toInt; rw [show (0 : Int32).toInt = 0 from by decide]; omega)⟩ () e f h).2
/-! no more than 400 corners: cliques of a graph, Turan's number -/
def kgo (A : Nat → Nat → Bool) (f : List Nat → Nat) : List Nat → Nat
  | [] => 0
  | v :: L => kgo A f L + f (L.filter (A v))
/-- how many cliques of r -/
def kq (A : Nat → Nat → Bool) : Nat → List Nat → Nat
  | 0, _ => 1
  | r + 1, L => kgo A (kq A r) L
theorem kq_c (A : Nat → Nat → Bool) (r v : Nat) (L : List Nat) : kq A (r + 1) (v :: L) = kq A (r + 1) L + kq A r (L.filter (A v)) := rfl
theorem kq_perm (A : Nat → Nat → Bool) (hs : ∀ u v, A u v = A v u) : ∀ (r : Nat) {L M : List Nat}, L.Perm M → kq A r L = kq A r M
  | 0, _, _, _ => rfl
  | r + 1, L, M, h => by
    have fp := fun (x : Nat) {l l' : List Nat} (q : l.Perm l') => kq_perm A hs r (q.filter (A x))
    induction h with
    | nil => rfl
    | cons x h ih => rw [kq_c, kq_c, ih, fp x h]
    | swap x y l =>
      rw [kq_c, kq_c, kq_c, kq_c]
      by_cases a : A y x = true
      · rw [List.filter_cons_of_pos a, List.filter_cons_of_pos (by rw [hs]; exact a)]
        cases r with
        | zero => rfl
        | succ r =>
          rw [kq_c, kq_c, List.filter_filter, List.filter_filter, show (fun a => A x a && A y a) = fun a => A y a && A x a from funext fun a => Bool.and_comm _ _]
          omega
      · rw [List.filter_cons_of_neg a, List.filter_cons_of_neg (by rw [hs]; exact a)]
        omega
    | trans _ _ ih1 ih2 => exact ih1.trans ih2
/-- a vertex taken out -/
theorem kq_out (A : Nat → Nat → Bool) (hs : ∀ u v, A u v = A v u) (r : Nat) {L : List Nat} {v : Nat} (h : v ∈ L) : kq A (r + 1) L = kq A (r + 1) (L.erase v) + kq A r ((L.erase v).filter (A v)) := by
  rw [kq_perm A hs (r + 1) (List.perm_cons_erase h), kq_c]
def tgo (f : Nat → Nat) (q : Nat) : Nat → Nat
  | 0 => 0
  | n + 1 => tgo f q n + f ((n + 1) - (n + 1 + q - 1) / q)
/-- Turan's number: the most cliques of k + 1 of n vertices without one of k + 2 -/
def tb : Nat → Nat → Nat
  | 0, n => n
  | k + 1, n => tgo (tb k) (k + 2) n
theorem tb_18 : tb 3 18 = 400 := by decide +kernel
theorem tb_s : ∀ k n, tb k n ≤ tb k (n + 1)
  | 0, n => Nat.le_succ n
  | k + 1, n => Nat.le_add_right _ _
theorem tb_mono (k : Nat) {m : Nat} : ∀ {n}, m ≤ n → tb k m ≤ tb k n
  | 0, h => by rw [Nat.le_zero.mp h]; exact Nat.le_refl _
  | n + 1, h => by
    by_cases e : m = n + 1
    · rw [e]; exact Nat.le_refl _
    · exact Nat.le_trans (tb_mono k (by omega)) (tb_s k n)
theorem ln_two (p : Nat → Bool) : ∀ L : List Nat, (L.filter p).length + (L.filter (fun u => !p u)).length = L.length
  | [] => rfl
  | v :: L => by
    have ih := ln_two p L
    by_cases h : p v = true
    · rw [List.filter_cons_of_pos h, List.filter_cons_of_neg (by rw [h]; exact Bool.false_ne_true), List.length_cons, List.length_cons]
      omega
    · rw [List.filter_cons_of_neg h, List.filter_cons_of_pos (by rw [Bool.not_eq_true] at h; rw [h]; rfl), List.length_cons, List.length_cons]
      omega
/-- where each vertex misses few, there is a clique -/
theorem kq_pos (A : Nat → Nat → Bool) (hi : ∀ v, A v v = false) {L : List Nat} {c : Nat} (hc : ∀ v, v ∈ L → (L.filter (fun u => !A v u)).length < c) : ∀ (s : Nat) (M : List Nat), M.Sublist L → 1 + (s - 1) * (c - 1) ≤ M.length → 0 < kq A s M
  | 0, _, _, _ => Nat.one_pos
  | s + 1, M, hM, hl => by
    cases M with
    | nil => simp at hl
    | cons v M =>
      rw [kq_c]
      have hv : v ∈ L := hM.subset List.mem_cons_self
      have n1 := hc v hv
      have n2 : ((v :: M).filter (fun u => !A v u)).length ≤ (L.filter (fun u => !A v u)).length := (hM.filter _).length_le
      have n3 := ln_two (A v) (v :: M)
      have n4 : (v :: M).filter (A v) = M.filter (A v) := List.filter_cons_of_neg (by rw [hi]; exact Bool.false_ne_true)
      rw [n4] at n3
      cases s with
      | zero => exact Nat.succ_pos _
      | succ s =>
        have k := kq_pos A hi hc (s + 1) (M.filter (A v)) (List.Sublist.trans List.filter_sublist (List.Sublist.trans (List.sublist_cons_self v M) hM)) (by
          have : (s + 1 + 1 - 1) * (c - 1) = (s + 1 - 1) * (c - 1) + (c - 1) := by
            rw [show s + 1 + 1 - 1 = (s + 1 - 1) + 1 by omega, Nat.add_mul, Nat.one_mul]
          omega)
        omega
theorem kq_tb (A : Nat → Nat → Bool) (hs : ∀ u v, A u v = A v u) (hi : ∀ v, A v v = false) : ∀ (k n : Nat) (L : List Nat), L.length = n → kq A (k + 2) L = 0 → kq A (k + 1) L ≤ tb k n
  | 0, n, L, hl, _ => by
    have : ∀ M : List Nat, kq A 1 M = M.length := by
      intro M
      induction M with
      | nil => rfl
      | cons v M ih => rw [kq_c, ih]; rfl
    rw [this L, hl]
    exact Nat.le_refl _
  | k + 1, 0, L, hl, _ => by
    cases L with
    | nil => exact Nat.zero_le _
    | cons v L => cases hl
  | k + 1, n + 1, L, hl, h0 => by
    by_cases hv : ∃ v, v ∈ L ∧ (n + 1 + (k + 2) - 1) / (k + 2) ≤ (L.filter (fun u => !A v u)).length
    · obtain ⟨v, hm, hd⟩ := hv
      have p := List.perm_cons_erase hm
      have e1 := kq_out A hs (k + 1) hm
      have e2 := kq_out A hs (k + 2) hm
      have h0 : kq A (k + 2 + 1) L = 0 := h0
      have l1 : (L.erase v).length = n := by rw [List.length_erase_of_mem hm, hl]; rfl
      have i1 := kq_tb A hs hi (k + 1) n (L.erase v) l1 (show kq A (k + 2 + 1) (L.erase v) = 0 by omega)
      have i2 := kq_tb A hs hi k _ ((L.erase v).filter (A v)) rfl (by omega)
      have d1 : ((L.erase v).filter (A v)).length + (L.filter (fun u => !A v u)).length = n + 1 := by
        have q1 := (p.filter (A v)).length_eq
        rw [List.filter_cons_of_neg (by rw [hi]; exact Bool.false_ne_true)] at q1
        have q2 := ln_two (A v) L
        omega
      have m := tb_mono k (m := ((L.erase v).filter (A v)).length) (n := (n + 1) - (n + 1 + (k + 2) - 1) / (k + 2)) (by omega)
      show _ ≤ tb (k + 1) n + tb k ((n + 1) - (n + 1 + (k + 2) - 1) / (k + 2))
      omega
    · have hc : ∀ v, v ∈ L → (L.filter (fun u => !A v u)).length < (n + 1 + (k + 2) - 1) / (k + 2) := fun v hm => by
        refine Decidable.byContradiction fun q => hv ⟨v, hm, by omega⟩
      have := kq_pos A hi hc (k + 3) L (List.Sublist.refl L) (by
        rw [hl]
        have h1 : (k + 2) * ((n + 1 + (k + 2) - 1) / (k + 2)) ≤ n + 1 + (k + 2) - 1 := Nat.mul_div_le _ _
        have h2 : (k + 2) * ((n + 1 + (k + 2) - 1) / (k + 2) - 1) = (k + 2) * ((n + 1 + (k + 2) - 1) / (k + 2)) - (k + 2) * 1 := Nat.mul_sub _ _ _
        rw [show k + 3 - 1 = k + 2 from rfl, h2]
        omega)
      have h0 : kq A (k + 3) L = 0 := h0
      omega
/-- five vectors of four numbers, none 0, are not each square to each -/
theorem la_perp {v : Nat → Int} {V : Nat → Nat → Int} {m : Nat} : ∀ (k : Nat), (∀ i, i < k → la_d v (V i) m = 0) → ∀ s : List Bool, s.length = m → la_i v (la_e V k) s = 0
  | 0, _, s, _ => la_i_u v s
  | k + 1, h, s, hs => by
    have e := la_iw v (V k) s (la_e V k)
    rw [hs, h k (Nat.lt_succ_self k), Int.zero_mul, la_w_0 (fun t ht => la_perp k (fun i hi => h i (by omega)) t (by omega))] at e
    rw [la_e_s]
    omega
theorem la_u_n : ∀ m : Nat, la_u (List.replicate m false) ≠ 0
  | 0 => by show la_u [] ≠ 0; decide
  | m + 1 => la_u_n m
theorem la_orth {V : Nat → Nat → Int} {m : Nat} : ∀ (k : Nat), (∀ i j, i < k → j < i → la_d (V i) (V j) m = 0) → (∀ i, i < k → la_d (V i) (V i) m ≠ 0) → ∃ s : List Bool, s.length = m ∧ la_e V k s ≠ 0
  | 0, _, _ => ⟨List.replicate m false, List.length_replicate, la_u_n m⟩
  | k + 1, ho, hn => by
    obtain ⟨s, hs, he⟩ := la_orth k (fun i j hi hj => ho i j (by omega) hj) (fun i hi => hn i (by omega))
    refine Classical.byContradiction fun q => ?_
    have z : ∀ t : List Bool, t.length = m → la_e V (k + 1) t = 0 := fun t ht => Classical.byContradiction fun y => q ⟨t, ht, y⟩
    have e := la_iw (V k) (V k) s (la_e V k)
    rw [la_perp k (fun i hi => ho k i (Nat.lt_succ_self k) hi) |> fun f => la_w_0 (v := V k) (fun t ht => f t (by omega)), ← la_e_s, la_i_0 (fun t ht => z t (by omega)), hs] at e
    rcases Int.mul_eq_zero.mp (by omega : la_d (V k) (V k) m * la_e V k s = 0) with y | y
    · exact hn k (Nat.lt_succ_self k) y
    · exact he y
theorem la_five {V : Nat → Nat → Int} (ho : ∀ i j, i < 5 → j < i → la_d (V i) (V j) 4 = 0) (hn : ∀ i, i < 5 → la_d (V i) (V i) 4 ≠ 0) : False := by
  obtain ⟨s, hs, he⟩ := la_orth 5 ho hn
  exact he (la_ge V 5 s (by have := la_c_le s; omega))
/-- a clique is there where its number isn't 0 -/
theorem kq_ex (A : Nat → Nat → Bool) : ∀ (r : Nat) (L : List Nat), 0 < kq A r L → ∃ V : Nat → Nat, (∀ i, i < r → V i ∈ L) ∧ ∀ i j, i < r → j < i → A (V i) (V j) = true
  | 0, _, _ => ⟨fun _ => 0, fun i hi => absurd hi (Nat.not_lt_zero i), fun i j hi => absurd hi (Nat.not_lt_zero i)⟩
  | r + 1, L, h => by
    induction L with
    | nil => exact absurd h (Nat.lt_irrefl 0)
    | cons v L ih =>
      rw [kq_c] at h
      by_cases q : 0 < kq A (r + 1) L
      · obtain ⟨V, h1, h2⟩ := ih q
        exact ⟨V, fun i hi => List.mem_cons_of_mem v (h1 i hi), h2⟩
      · obtain ⟨V, h1, h2⟩ := kq_ex A r (L.filter (A v)) (by omega)
        have m : ∀ i, i < r → V i ∈ L ∧ A v (V i) = true := fun i hi => List.mem_filter.mp (h1 i hi)
        refine ⟨fun i => if i = r then v else V i, fun i hi => ?_, fun i j hi hj => ?_⟩
        · show (if i = r then v else V i) ∈ v :: L
          by_cases e : i = r
          · rw [if_pos e]; exact List.mem_cons_self
          · rw [if_neg e]; exact List.mem_cons_of_mem v (m i (by omega)).1
        · show A (if i = r then v else V i) (if j = r then v else V j) = true
          rw [if_neg (show ¬ j = r by omega)]
          by_cases e : i = r
          · rw [if_pos e]; exact (m j (by omega)).2
          · rw [if_neg e]; exact h2 i j (by omega) hj
/-- so 18 at most have no more than 400 of four -/
theorem kq_400 (A : Nat → Nat → Bool) (hs : ∀ u v, A u v = A v u) (hi : ∀ v, A v v = false) {V : Nat → Nat → Int} {n : Nat} (hn : n ≤ 18) (L : List Nat) (hl : L.length ≤ n) (hA : ∀ u v, u ∈ L → v ∈ L → A u v = true → la_d (V u) (V v) 4 = 0) (hz : ∀ v, v ∈ L → la_d (V v) (V v) 4 ≠ 0) : kq A 4 L ≤ 400 := by
  have h5 : kq A 5 L = 0 := by
    refine Decidable.byContradiction fun q => ?_
    obtain ⟨W, w1, w2⟩ := kq_ex A 5 L (by omega)
    exact la_five (V := fun i => V (W i)) (fun i j hi hj => hA _ _ (w1 i hi) (w1 j (by omega)) (w2 i j hi hj)) (fun i hi => hz _ (w1 i hi))
  have := kq_tb A hs hi 3 L.length L rfl h5
  have m := tb_mono 3 (m := L.length) (n := 18) (by omega)
  rw [tb_18] at m
  exact Nat.le_trans this m
/-! the corners, in order, as bits -/
def rlk : Nat → Nat → List Nat
  | _, 0 => []
  | i, k + 1 => i :: rlk (i + 1) k
/-- the numbers from i on, below n -/
def rl (i n : Nat) : List Nat := rlk i (n - i)
theorem rl_c {i n : Nat} (h : i < n) : rl i n = i :: rl (i + 1) n := by
  unfold rl
  rw [show n - i = (n - (i + 1)) + 1 by omega]
  rfl
theorem rl_n {i n : Nat} (h : n ≤ i) : rl i n = [] := by
  unfold rl
  rw [show n - i = 0 by omega]
  rfl
theorem rlk_m {x : Nat} : ∀ (k i : Nat), x ∈ rlk i k → i ≤ x ∧ x < i + k
  | 0, _, h => by cases h
  | k + 1, i, h => by
    rcases List.mem_cons.mp h with e | q
    · omega
    · have := rlk_m k (i + 1) q
      omega
theorem rl_m {x i n : Nat} (h : x ∈ rl i n) : i ≤ x ∧ x < n := by
  have := rlk_m _ _ h
  omega
theorem rlk_len : ∀ (k i : Nat), (rlk i k).length = k
  | 0, _ => rfl
  | k + 1, i => by
    show (rlk (i + 1) k).length + 1 = k + 1
    rw [rlk_len k]
def bs (acc : Int32) (v : Nat) : Int32 := acc ||| (1 <<< (Int32.ofNat v &&& 31))
def kgb (A : Nat → Nat → Bool) (f : Int32 → List Nat → List Int32) (acc : Int32) : List Nat → List Int32
  | [] => []
  | v :: L => f (bs acc v) (L.filter (A v)) ++ kgb A f acc L
/-- the cliques of r, in order, with what is told ahead -/
def kb (A : Nat → Nat → Bool) : Nat → Int32 → List Nat → List Int32
  | 0, acc, _ => [acc]
  | r + 1, acc, L => kgb A (kb A r) acc L
theorem kb_c (A : Nat → Nat → Bool) (r v : Nat) (acc : Int32) (L : List Nat) : kb A (r + 1) acc (v :: L) = kb A r (bs acc v) (L.filter (A v)) ++ kb A (r + 1) acc L := rfl
theorem kb_n (A : Nat → Nat → Bool) (r : Nat) (acc : Int32) : kb A (r + 1) acc [] = [] := rfl
theorem kb_len (A : Nat → Nat → Bool) : ∀ (r : Nat) (acc : Int32) (L : List Nat), (kb A r acc L).length = kq A r L
  | 0, _, _ => rfl
  | r + 1, acc, L => by
    induction L with
    | nil => rfl
    | cons v L ih =>
      rw [kb_c, kq_c, List.length_append, ih, kb_len A r]
      omega
theorem kb_x {A B : Nat → Nat → Bool} : ∀ (r : Nat) (acc : Int32) (L : List Nat), (∀ u v, u ∈ L → v ∈ L → A u v = B u v) → kb A r acc L = kb B r acc L
  | 0, _, _, _ => rfl
  | r + 1, acc, L, h => by
    induction L with
    | nil => rfl
    | cons v L ih =>
      have e : L.filter (A v) = L.filter (B v) := List.filter_congr (fun u hu => h v u List.mem_cons_self (List.mem_cons_of_mem v hu))
      rw [kb_c, kb_c, ih (fun u w hu hw => h u w (List.mem_cons_of_mem v hu) (List.mem_cons_of_mem v hw)), e, kb_x r (bs acc v) (L.filter (B v)) (fun u w hu hw => h u w (List.mem_cons_of_mem v (List.mem_filter.mp hu).1) (List.mem_cons_of_mem v (List.mem_filter.mp hw).1))]
def nth : List Int32 → Nat → Int32
  | [], _ => 0
  | x :: _, 0 => x
  | _ :: l, i + 1 => nth l i
theorem nth_l : ∀ (l m : List Int32) (i : Nat), i < l.length → nth (l ++ m) i = nth l i
  | [], _, _, h => absurd h (Nat.not_lt_zero _)
  | _ :: _, _, 0, _ => rfl
  | _ :: l, m, i + 1, h => nth_l l m i (Nat.lt_of_succ_lt_succ h)
theorem nth_r (v : Int32) : ∀ l : List Int32, nth (l ++ [v]) l.length = v
  | [] => rfl
  | _ :: l => nth_r v l
/-- a list of corners stands in a cell, its length in a slot -/
def Cn (kc : Nat) (ko jo : Nat) (h : mh_T) (c : List Int32) : Prop := (mI h ko jo).toInt = (c.length : Int) ∧ ∀ i, i < c.length → mI h kc i = nth c i
theorem Cn_0 {kc ko jo : Nat} {h : mh_T} (e : mI h ko jo = 0) : Cn kc ko jo h [] := ⟨by rw [e]; rfl, fun i hi => absurd hi (Nat.not_lt_zero i)⟩
theorem Cn_add {kc ko jo : Nat} {h : mh_T} {c : List Int32} {v : Int32} (hk : ¬ kc = ko) (q : Cn kc ko jo h c) (hl : c.length < 4000) : Cn kc ko jo (wI (wI h kc (mI h ko jo).toNatClampNeg v) ko jo ((mI (wI h kc (mI h ko jo).toNatClampNeg v) ko jo) + 1)) (c ++ [v]) := by
  have e1 : mI (wI h kc (mI h ko jo).toNatClampNeg v) ko jo = mI h ko jo := by rw [mI_wI, if_neg (fun z => hk z.1.symm)]
  rw [e1, i_nat q.1]
  refine ⟨?_, fun i hi => ?_⟩
  · rw [mI_wI, if_pos ⟨rfl, rfl⟩, List.length_append]
    exact i_inc q.1 (by omega)
  · rw [mI_wI, if_neg (fun z => hk z.1), mI_wI]
    rw [List.length_append] at hi
    have hi : i < c.length + 1 := hi
    by_cases e : i = c.length
    · rw [if_pos ⟨rfl, e⟩, e, nth_r]
    · rw [if_neg (fun z => e z.2), nth_l _ _ _ (by omega)]
      exact q.2 i (by omega)
theorem or_z (x : Int32) : 0 ||| x = x := bt_ex (fun t _ => by rw [bt_or2, bt_zr, Bool.false_or])
theorem bs_e {acc l : Int32} {v : Nat} (e : l.toInt = (v : Int)) (hv : v < 2147483648) : acc ||| (1 <<< (l &&& 31)) = bs acc v := by rw [i_of e hv]; rfl
theorem bs_R {acc : Int32} {v : Nat} (f : R 0 262143 acc) (hv : v < 18) : R 0 262143 (bs acc v) := by
  have e : (Int32.ofNat v).toInt = (v : Int) := Int32.toInt_ofNat_of_lt (by omega)
  have fv : R 0 17 (Int32.ofNat v) := ⟨by omega, by omega⟩
  exact R_or f (R_shl fv 1 131072 0 17 (by decide)) 18 262143 (by decide)
theorem bs_0 {l : Int32} {v : Nat} (e : l.toInt = (v : Int)) (hv : v < 2147483648) : (1 <<< (l &&& 31) : Int32) = bs 0 v := by rw [← bs_e e hv, or_z]
/-- what finding the corners leaves -/
def Ofc (h0 k : mh_T) : Prop := GI k ∧ Fr [8, 33] h0 k ∧ mI k 8 0 = mI h0 8 0 ∧ mI k 8 8 = mI h0 8 8
theorem Ofc_rf {h : mh_T} (hG : GI h) : Ofc h h := ⟨hG, Fr_rf h, rfl, rfl⟩
theorem Ofc_tr {h k l : mh_T} (a : Ofc h k) (b : Ofc k l) : Ofc h l := ⟨b.1, Fr_tr a.2.1 b.2.1, b.2.2.1.trans a.2.2.1, b.2.2.2.trans a.2.2.2⟩
theorem Ofc_w8 {h0 k : mh_T} {v : Int32} (a : Ofc h0 k) (f : R 0 400 v) : Ofc h0 (wI k 8 1 v) := ⟨GI_w a.1 (k := 8) (j := 1) (lo := 0) (hi := 400) (by decide) f, Fr_w a.2.1 (by decide), by rw [mI_wI, if_neg (by decide)]; exact a.2.2.1, by rw [mI_wI, if_neg (by decide)]; exact a.2.2.2⟩
theorem Ofc_w33 {h0 k : mh_T} {j : Nat} {v : Int32} (a : Ofc h0 k) (f : R 0 262143 v) : Ofc h0 (wI k 33 j v) := ⟨GI_w a.1 (k := 33) (j := j) (lo := 0) (hi := 262143) rfl f, Fr_w a.2.1 (by decide), by rw [mI_wI, if_neg (fun z => absurd z.1 (by decide))]; exact a.2.2.1, by rw [mI_wI, if_neg (fun z => absurd z.1 (by decide))]; exact a.2.2.2⟩
/-- the class's corners of two rays -/
theorem v_cornersOf {g : gT} {h0 : mh_T} {P : mh_T → Prop} {A : Nat → Nat → Bool} {n a b : Nat} (hn : n ≤ 18) (ha : a < n) (hb : b < n) (hab : a < b) (l1 l2 : Int32) (e1 : l1.toInt = (a : Int)) (e2 : l2.toInt = (b : Int)) (hG : GI h0) (en : (mI h0 8 0).toInt = (n : Int)) (hm : ∀ i j, i < n → j < n → ¬ j = i → bt (mI h0 32 i) j = A i j) (c0 tot : List Int32) (q0 : Cn 33 8 1 h0 c0) (et : c0 ++ kb A 2 (bs (bs 0 a) b) (((rl (b + 1) n).filter (A a)).filter (A b)) = tot) (ht : tot.length ≤ 400) (hp : ∀ h', Ofc h0 h' → Cn 33 8 1 h' tot → P h') : MCv g yX3_findCornersOf uX3_findCornersOf [.ref 8, .int l1, .int l2] h0 P := by
  have k80 : ∀ {k : mh_T}, Ofc h0 k → (mI k 8 0).toInt = (n : Int) := fun o => by rw [o.2.2.1]; exact en
  have k32 : ∀ {k : mh_T}, Ofc h0 k → ∀ j, mI k 32 j = mI h0 32 j := fun o j => congrFun (o.2.1 32 (by decide) (by decide)).1 j
  have z400 : (400 : Int32).toInt = 400 := by decide
  refine e_X3_findCornersOf l1 l2 ?_
  rw [i_nat e1, i_nat e2]
  refine ⟨i_vp e1 (by omega), i_vp e2 (by omega), fun x3 ex3 x4 ex4 => ?_⟩
  have b3 : ∀ c, b < c → c < n → bt x3 c = (A a c && A b c) := fun c h1 h2 => by rw [ex3, bt_and, hm a c ha h2 (by omega), hm b c hb h2 (by omega)]
  have L : ∀ (m : Nat), (∀ (l4 : Int32) (c : Nat) (k : mh_T) (cur : List Int32), l4.toInt = (c : Int) → b < c → c ≤ n → 20 * (18 - c) + 19 < m → Ofc h0 k → Cn 33 8 1 k cur → cur ++ kb A 2 (bs (bs 0 a) b) (((rl c n).filter (A a)).filter (A b)) = tot → ME g uX3_findCornersOf 19 [.ref 8, .int l1, .int l2, .int x3, .int l4, .retAddr 0, .retAddr 0] [] k (qV P)) ∧ (∀ (l4 l5 l6 : Int32) (c d : Nat) (k : mh_T) (cur : List Int32), l4.toInt = (c : Int) → b < c → c < n → l6.toInt = (d : Int) → d ≤ n → 20 * (18 - c) + (18 - d) < m → Ofc h0 k → Cn 33 8 1 k cur → cur ++ kb A 1 (bs (bs (bs 0 a) b) c) ((rl d n).filter (fun x => bt l5 x)) ++ kb A 2 (bs (bs 0 a) b) (((rl (c + 1) n).filter (A a)).filter (A b)) = tot → ME g uX3_findCornersOf 58 [.ref 8, .int l1, .int l2, .int x3, .int l4, .int l5, .int l6] [] k (qV P)) := by
    intro m
    induction m with
    | zero => exact ⟨fun _ _ _ _ _ _ _ hm => absurd hm (Nat.not_lt_zero _), fun _ _ _ _ _ _ _ _ _ _ _ _ hm => absurd hm (Nat.not_lt_zero _)⟩
    | succ m ih =>
      refine ⟨fun l4 c k cur e4 hbc hc hmm ok q et => ?_, fun l4 l5 l6 c d k cur e4 hbc hc e6 hd hmm ok q et => ?_⟩
      · refine r_X3_findCornersOf_19 l1 l2 x3 l4 ⟨fun z => ?_, fun z => ?_⟩
        · rw [i_le, k80 ok, e4] at z
          rw [rl_n (by omega), List.filter_nil, List.filter_nil, kb_n, List.append_nil] at et
          exact hp k ok (by rw [← et]; exact q)
        · rw [i_le, k80 ok, e4] at z
          have e4' := i_inc e4 (by omega)
          rw [bt_s18 e4 (by omega), b3 c hbc (by omega)]
          rw [rl_c (by omega)] at et
          by_cases y : (A a c && A b c) = true
          · rw [if_pos y]
            refine ⟨fun w => absurd w (by decide), fun _ => ?_⟩
            rw [i_nat e4, k32 ok]
            obtain ⟨y1, y2⟩ := Bool.and_eq_true_iff.mp y
            refine ⟨i_vp e4 (by omega), fun x5 e5 x6 e6 => ih.2 l4 x5 x6 c (c + 1) k cur e4 hbc (by omega) (by rw [e6]; exact e4') (by omega) (by omega) ok q ?_⟩
            rw [List.filter_cons_of_pos y1, List.filter_cons_of_pos y2, kb_c] at et
            have ef : (rl (c + 1) n).filter (fun x => bt x5 x) = (((rl (c + 1) n).filter (A a)).filter (A b)).filter (A c) := by
              rw [List.filter_filter, List.filter_filter]
              refine List.filter_congr (fun x hx => ?_)
              have := rl_m hx
              rw [e5, bt_and, b3 x (by omega) (by omega), hm c x (by omega) (by omega) (by omega)]
              cases A a x <;> cases A b x <;> cases A c x <;> rfl
            rw [ef, List.append_assoc]
            exact et
          · rw [if_neg y]
            refine ⟨fun _ x3' e3' => ih.2 l4 0 x3' c (c + 1) k cur e4 hbc (by omega) (by rw [e3']; exact e4') (by omega) (by omega) ok q ?_, fun w => absurd rfl w⟩
            have ef : (rl (c + 1) n).filter (fun x => bt 0 x) = [] := List.filter_eq_nil_iff.mpr (fun x _ => by rw [bt_zr]; exact Bool.false_ne_true)
            have eg : ((c :: rl (c + 1) n).filter (A a)).filter (A b) = ((rl (c + 1) n).filter (A a)).filter (A b) := by
              by_cases y1 : A a c = true
              · rw [List.filter_cons_of_pos y1, List.filter_cons_of_neg (fun y2 => y (by rw [y1, y2]; rfl))]
              · rw [List.filter_cons_of_neg y1]
            rw [ef, kb_n, List.append_nil, ← eg]
            exact et
      · refine r_X3_findCornersOf_58 l1 l2 x3 l4 l5 l6 ⟨fun z => ?_, fun z => ?_⟩
        · rw [i_le, k80 ok, e6] at z
          rw [rl_n (by omega), List.filter_nil, kb_n, List.append_nil] at et
          exact ih.1 (l4 + 1) (c + 1) k cur (i_inc e4 (by omega)) (by omega) (by omega) (by omega) ok q et
        · rw [i_le, k80 ok, e6] at z
          have e6' := i_inc e6 (by omega)
          rw [bt_s18 e6 (by omega)]
          rw [rl_c (by omega)] at et
          by_cases y : bt l5 d = true
          · rw [if_pos y]
            rw [List.filter_cons_of_pos (p := fun x => bt l5 x) y, kb_c] at et
            have et : cur ++ ([bs (bs (bs (bs 0 a) b) c) d] ++ kb A 1 (bs (bs (bs 0 a) b) c) ((rl (d + 1) n).filter (fun x => bt l5 x))) ++ kb A 2 (bs (bs 0 a) b) (((rl (c + 1) n).filter (A a)).filter (A b)) = tot := et
            have hl : cur.length < tot.length := by
              rw [← et, List.length_append, List.length_append, List.length_append]
              have : ([bs (bs (bs (bs 0 a) b) c) d] : List Int32).length = 1 := rfl
              omega
            refine ⟨fun w => absurd w (by decide), fun _ => ⟨fun w => ?_, fun w => ⟨i_vp q.1 (by omega), ?_⟩⟩⟩
            · have w := i_le.mp w
              rw [q.1, z400] at w
              omega
            · rw [bs_0 e1 (by omega), bs_e e2 (by omega), bs_e e4 (by omega), bs_e e6 (by omega)]
              have o1 := Ofc_w33 ok (j := (mI k 8 1).toNatClampNeg) (v := bs (bs (bs (bs 0 a) b) c) d) (bs_R (bs_R (bs_R (bs_R ⟨by decide, by decide⟩ (by omega)) (by omega)) (by omega)) (by omega))
              have e81 : mI (wI k 33 (mI k 8 1).toNatClampNeg (bs (bs (bs (bs 0 a) b) c) d)) 8 1 = mI k 8 1 := by rw [mI_wI, if_neg (fun z => absurd z.1 (by decide))]
              have f81 : (mI k 8 1 + 1).toInt = ((cur.length + 1 : Nat) : Int) := i_inc q.1 (by omega)
              have o2 := Ofc_w8 o1 (v := mI (wI k 33 (mI k 8 1).toNatClampNeg (bs (bs (bs (bs 0 a) b) c) d)) 8 1 + 1) (by rw [e81]; exact ⟨by omega, by omega⟩)
              exact ih.2 l4 l5 (l6 + 1) c (d + 1) _ _ e4 hbc hc e6' (by omega) (by omega) o2 (Cn_add (by decide) q (by omega)) (by rw [List.append_assoc cur]; exact et)
          · rw [if_neg y]
            rw [List.filter_cons_of_neg (p := fun x => bt l5 x) y] at et
            exact ⟨fun _ => ih.2 l4 l5 (l6 + 1) c (d + 1) k cur e4 hbc hc e6' (by omega) (by omega) ok q et, fun w => absurd rfl w⟩
  exact (L 400).1 x4 (b + 1) h0 c0 (by rw [ex4]; exact i_inc e2 (by omega)) (by omega) (by omega) (by omega) (Ofc_rf hG) q0 et
/-- the class's corners -/
theorem v_findCorners {g : gT} {h : mh_T} {P : mh_T → Prop} {A : Nat → Nat → Bool} {n : Nat} (hn : n ≤ 18) (hG : GI h) (en : (mI h 8 0).toInt = (n : Int)) (hm : ∀ i j, i < n → j < n → ¬ j = i → bt (mI h 32 i) j = A i j) (ht : (kb A 4 0 (rl 0 n)).length ≤ 400) (hp : ∀ h', Ofc h h' → Cn 33 8 1 h' (kb A 4 0 (rl 0 n)) → P h') : MCv g yX3_findCorners uX3_findCorners [.ref 8] h P := by
  have k80 : ∀ {k : mh_T}, Ofc h k → (mI k 8 0).toInt = (n : Int) := fun o => by rw [o.2.2.1]; exact en
  have k32 : ∀ {k : mh_T}, Ofc h k → ∀ j, mI k 32 j = mI h 32 j := fun o j => congrFun (o.2.1 32 (by decide) (by decide)).1 j
  have L : ∀ (m : Nat), (∀ (l1 : Int32) (a : Nat) (k : mh_T) (cur : List Int32), l1.toInt = (a : Int) → a ≤ n → 20 * (18 - a) + 19 < m → Ofc h k → Cn 33 8 1 k cur → cur ++ kb A 4 0 (rl a n) = kb A 4 0 (rl 0 n) → ME g uX3_findCorners 7 [.ref 8, .int l1, .retAddr 0] [] k (qV P)) ∧ (∀ (l1 l2 : Int32) (a b : Nat) (k : mh_T) (cur : List Int32), l1.toInt = (a : Int) → a < n → l2.toInt = (b : Int) → a < b → b ≤ n → 20 * (18 - a) + (18 - b) < m → Ofc h k → Cn 33 8 1 k cur → cur ++ kb A 3 (bs 0 a) ((rl b n).filter (A a)) ++ kb A 4 0 (rl (a + 1) n) = kb A 4 0 (rl 0 n) → ME g uX3_findCorners 19 [.ref 8, .int l1, .int l2] [] k (qV P)) := by
    intro m
    induction m with
    | zero => exact ⟨fun _ _ _ _ _ _ hm => absurd hm (Nat.not_lt_zero _), fun _ _ _ _ _ _ _ _ _ _ _ hm => absurd hm (Nat.not_lt_zero _)⟩
    | succ m ih =>
      refine ⟨fun l1 a k cur e1 ha hmm ok q et => ?_, fun l1 l2 a b k cur e1 ha e2 hab hb hmm ok q et => ?_⟩
      · refine r_X3_findCorners_7 l1 ⟨fun z => ?_, fun z x2 ex2 => ?_⟩
        · rw [i_le, k80 ok, e1] at z
          rw [rl_n (by omega), kb_n, List.append_nil] at et
          exact hp k ok (by rw [← et]; exact q)
        · rw [i_le, k80 ok, e1] at z
          rw [rl_c (by omega), kb_c, ← List.append_assoc] at et
          exact ih.2 l1 x2 a (a + 1) k cur e1 (by omega) (by rw [ex2]; exact i_inc e1 (by omega)) (by omega) (by omega) (by omega) ok q et
      · refine r_X3_findCorners_19 l1 l2 ⟨fun z => ?_, fun z => ?_⟩
        · rw [i_le, k80 ok, e2] at z
          rw [rl_n (by omega), List.filter_nil, kb_n, List.append_nil] at et
          exact ih.1 (l1 + 1) (a + 1) k cur (i_inc e1 (by omega)) (by omega) (by omega) ok q et
        · rw [i_le, k80 ok, e2] at z
          have e2' := i_inc e2 (by omega)
          rw [i_nat e1, k32 ok, bt_s18 e2 (by omega), hm a b ha (by omega) (by omega)]
          rw [rl_c (by omega)] at et
          refine ⟨i_vp e1 (by omega), ?_⟩
          by_cases y : A a b = true
          · rw [if_pos y]
            rw [List.filter_cons_of_pos y, kb_c, List.append_assoc, List.append_assoc] at et
            refine ⟨fun w => absurd w (by decide), fun _ => v_cornersOf (A := A) hn ha (by omega) hab l1 l2 e1 e2 ok.1 (k80 ok) (fun i j hi hj hij => by rw [k32 ok]; exact hm i j hi hj hij) cur _ q rfl ?_ (fun h' ok' q' => ih.2 l1 (l2 + 1) a (b + 1) h' _ e1 ha e2' (by omega) (by omega) (by omega) (Ofc_tr ok ok') q' ?_)⟩
            · have := congrArg List.length et
              rw [List.length_append, List.length_append] at this
              rw [List.length_append]
              omega
            · rw [List.append_assoc, List.append_assoc]
              exact et
          · rw [if_neg y]
            rw [List.filter_cons_of_neg y] at et
            exact ⟨fun _ => ih.2 l1 (l2 + 1) a (b + 1) k cur e1 ha e2' (by omega) (by omega) (by omega) ok q et, fun w => absurd rfl w⟩
  have o1 := Ofc_w8 (Ofc_rf hG) (v := 0) ⟨by decide, by decide⟩
  exact e_X3_findCorners ((L 400).1 0 0 _ [] (by decide) (Nat.zero_le _) (by omega) o1 (Cn_0 (by rw [mI_wI, if_pos ⟨rfl, rfl⟩])) rfl)
/-- two rays are square -/
def sqA (f : Nat → Int32) (i j : Nat) : Bool := decide (¬ j = i) && decide (dtk f i j 4 = 0)
theorem sqA_i (f : Nat → Int32) (v : Nat) : sqA f v v = false := by
  unfold sqA
  rw [decide_eq_false (fun z => z rfl)]
  rfl
theorem dtk_s (f : Nat → Int32) (i j : Nat) : ∀ k, dtk f i j k = dtk f j i k
  | 0 => rfl
  | k + 1 => by
    show dtk f i j k + f (4 * i + k) * f (4 * j + k) = dtk f j i k + f (4 * j + k) * f (4 * i + k)
    rw [dtk_s f i j k, Int32.mul_comm]
theorem sqA_s (f : Nat → Int32) (u v : Nat) : sqA f u v = sqA f v u := by
  unfold sqA
  rw [dtk_s f u v 4]
  by_cases e : u = v
  · rw [e]
  · rw [decide_eq_true (show ¬ v = u from fun z => e z.symm), decide_eq_true e]
theorem sqA_t {f : Nat → Int32} {i j : Nat} (h : ¬ j = i) : sqA f i j = decide (dtk f i j 4 = 0) := by
  unfold sqA
  rw [decide_eq_true h, Bool.true_and]
theorem m33 {a b : Int} (a1 : -3 ≤ a) (a2 : a ≤ 3) (b1 : -3 ≤ b) (b2 : b ≤ 3) : -9 ≤ a * b ∧ a * b ≤ 9 := by
  rcases (show a = -3 ∨ a = -2 ∨ a = -1 ∨ a = 0 ∨ a = 1 ∨ a = 2 ∨ a = 3 by omega) with e | e | e | e | e | e | e <;> rw [e] <;> omega
theorem s33 {a : Int} (a1 : -3 ≤ a) (a2 : a ≤ 3) : 0 ≤ a * a ∧ (a * a = 0 → a = 0) := by
  rcases (show a = -3 ∨ a = -2 ∨ a = -1 ∨ a = 0 ∨ a = 1 ∨ a = 2 ∨ a = 3 by omega) with e | e | e | e | e | e | e <;> rw [e] <;> decide
theorem dtk_la {g : Nat → Int32} {i j : Nat} (hi : ∀ q, q < 4 → R (-3) 3 (g (4 * i + q))) (hj : ∀ q, q < 4 → R (-3) 3 (g (4 * j + q))) : ∀ k, k ≤ 4 → (dtk g i j k).toInt = la_d (fun q => (g (4 * i + q)).toInt) (fun q => (g (4 * j + q)).toInt) k ∧ -9 * (k : Int) ≤ (dtk g i j k).toInt ∧ (dtk g i j k).toInt ≤ 9 * (k : Int)
  | 0, _ => ⟨rfl, by show -9 * ((0 : Nat) : Int) ≤ (0 : Int32).toInt; decide, by show (0 : Int32).toInt ≤ 9 * ((0 : Nat) : Int); decide⟩
  | k + 1, h => by
    obtain ⟨e, b1, b2⟩ := dtk_la hi hj k (by omega)
    have x := hi k (by omega)
    have y := hj k (by omega)
    have m := m33 x.1 x.2 y.1 y.2
    have em : (g (4 * i + k) * g (4 * j + k)).toInt = (g (4 * i + k)).toInt * (g (4 * j + k)).toInt := by rw [Int32.toInt_mul, bm (by omega) (by omega)]
    have es : (dtk g i j (k + 1)).toInt = (dtk g i j k).toInt + (g (4 * i + k)).toInt * (g (4 * j + k)).toInt := i_add rfl em (by omega)
    refine ⟨by rw [es, e]; rfl, ?_, ?_⟩
    · rw [es]
      generalize (g (4 * i + k)).toInt * (g (4 * j + k)).toInt = p at m
      omega
    · rw [es]
      generalize (g (4 * i + k)).toInt * (g (4 * j + k)).toInt = p at m
      omega
theorem corners_400 {f : Nat → Int32} {n : Nat} (rz : RZ f) (en : (f 85).toInt = (n : Int)) (acc : Int32) : (kb (sqA (fun q => f (86 + q))) 4 acc (rl 0 n)).length ≤ 400 := by
  have n18 : n ≤ 18 := by have := rz.1; omega
  have ent : ∀ i, i < n → ∀ q, q < 4 → R (-3) 3 ((fun q => f (86 + q)) (4 * i + q)) := fun i hi q hq => by
    show R (-3) 3 (f (86 + (4 * i + q)))
    rw [← Nat.add_assoc]
    exact (rz.2 i (by omega)).1 q hq
  rw [kb_len]
  refine kq_400 (sqA _) (sqA_s _) (sqA_i _) (V := fun i q => (f (86 + (4 * i + q))).toInt) n18 (rl 0 n) (by unfold rl; rw [rlk_len]; omega) (fun u v hu hv ha => ?_) (fun v hv z => ?_)
  · have e := (dtk_la (g := fun q => f (86 + q)) (i := u) (j := v) (ent u (rl_m hu).2) (ent v (rl_m hv).2) 4 (Nat.le_refl 4)).1
    unfold sqA at ha
    obtain ⟨-, d⟩ := Bool.and_eq_true_iff.mp ha
    rw [of_decide_eq_true d] at e
    exact e.symm.trans (by decide)
  · have lt := (rl_m hv).2
    obtain ⟨q, hq, hn⟩ := (rz.2 v (by omega)).2
    have s : ∀ q, q < 4 → 0 ≤ (f (86 + (4 * v + q))).toInt * (f (86 + (4 * v + q))).toInt ∧ ((f (86 + (4 * v + q))).toInt * (f (86 + (4 * v + q))).toInt = 0 → (f (86 + (4 * v + q))).toInt = 0) := fun q hq => s33 (ent v lt q hq).1 (ent v lt q hq).2
    have s0 := s 0 (by decide)
    have s1 := s 1 (by decide)
    have s2 := s 2 (by decide)
    have s3 := s 3 (by decide)
    have z4 : (0 : Int) + (f (86 + (4 * v + 0))).toInt * (f (86 + (4 * v + 0))).toInt + (f (86 + (4 * v + 1))).toInt * (f (86 + (4 * v + 1))).toInt + (f (86 + (4 * v + 2))).toInt * (f (86 + (4 * v + 2))).toInt + (f (86 + (4 * v + 3))).toInt * (f (86 + (4 * v + 3))).toInt = 0 := z
    have t : (f (86 + (4 * v + q))).toInt = 0 := by
      rcases (show q = 0 ∨ q = 1 ∨ q = 2 ∨ q = 3 by omega) with e | e | e | e
      · rw [e]; exact s0.2 (by omega)
      · rw [e]; exact s1.2 (by omega)
      · rw [e]; exact s2.2 (by omega)
      · rw [e]; exact s3.2 (by omega)
    exact hn (Int32.toInt_inj.mp (by rw [Nat.add_assoc, t]; rfl))
theorem v_X3_open {g : gT} {h : mh_T} {P : mh_T → Prop} {c : Nat} (hG : GI h) (ec : (mI h 2 5).toInt = (c : Int)) (hc : c ≤ 18) (ht : (kb (sqA (fun q => mI h 20 q)) 4 0 (rl 0 c)).length ≤ 400) (hp : ∀ h', GI h' → Fr [8, 32, 33] h h' → mI h' 8 0 = mI h 2 5 → (∀ i j, i < c → j < c → ¬ j = i → (bt (mI h' 32 i) j = true ↔ dtk (fun q => mI h 20 q) i j 4 = 0)) → Cn 33 8 1 h' (kb (sqA (fun q => mI h 20 q)) 4 0 (rl 0 c)) → mI h' 8 8 = 0 → P h') : MCv g yX3_open uX3_open [.ref 8, .ref 2] h P := by
  refine e_X3_open ?_
  have g0 : GI (wI (wI h 8 0 (mI h 2 5)) 8 8 0) := GI_w (GI_w hG (k := 8) (j := 0) (lo := 0) (hi := 18) (by decide) (GI_rd hG 2 5 (by decide))) (k := 8) (j := 8) (lo := 0) (hi := 1) (by decide) ⟨by decide, by decide⟩
  have r0 : Fr [8, 32, 33] h (wI (wI h 8 0 (mI h 2 5)) 8 8 0) := Fr_w (Fr_w (Fr_rf h) (by decide)) (by decide)
  have v0 : mI (wI (wI h 8 0 (mI h 2 5)) 8 8 0) 8 0 = mI h 2 5 := by rw [mI_wI, if_neg (by decide), mI_wI, if_pos ⟨rfl, rfl⟩]
  have v8 : mI (wI (wI h 8 0 (mI h 2 5)) 8 8 0) 8 8 = 0 := by rw [mI_wI, if_pos ⟨rfl, rfl⟩]
  have w20 : (fun q => mI (wI (wI h 8 0 (mI h 2 5)) 8 8 0) 20 q) = fun q => mI h 20 q := by
    funext q
    rw [mI_wI, if_neg (fun z => absurd z.1 (by decide)), mI_wI, if_neg (fun z => absurd z.1 (by decide))]
  rw [← w20] at hp ht
  generalize wI (wI h 8 0 (mI h 2 5)) 8 8 0 = h0 at g0 r0 v0 v8 hp ht
  have k80 : ∀ {k : mh_T}, Ok [32] h0 k → mI k 8 0 = mI h 2 5 := fun o => by rw [Ok_eq o (by decide)]; exact v0
  have k20 : ∀ {k : mh_T}, Ok [32] h0 k → (fun q => mI k 20 q) = fun q => mI h0 20 q := fun o => by
    funext q
    exact Ok_eq o (by decide)
  have L : ∀ (m : Nat), (∀ (l2 : Int32) (i : Nat) (k : mh_T), l2.toInt = (i : Int) → i ≤ c → 400 - 20 * i < m → Ok [32] h0 k → (∀ a b, a < i → b < c → ¬ b = a → (bt (mI k 32 a) b = true ↔ dtk (fun q => mI h0 20 q) a b 4 = 0)) → ME g uX3_open 15 [.ref 8, .ref 2, .int l2, .retAddr 0] [] k (qV P)) ∧ (∀ (l2 l3 : Int32) (i j : Nat) (k : mh_T), l2.toInt = (i : Int) → i < c → l3.toInt = (j : Int) → j ≤ c → 400 - 20 * i - 1 - j < m → Ok [32] h0 k → (∀ a b, a < i → b < c → ¬ b = a → (bt (mI k 32 a) b = true ↔ dtk (fun q => mI h0 20 q) a b 4 = 0)) → (∀ b, b < j → ¬ b = i → (bt (mI k 32 i) b = true ↔ dtk (fun q => mI h0 20 q) i b 4 = 0)) → (∀ b, j ≤ b → b < 18 → bt (mI k 32 i) b = false) → ME g uX3_open 32 [.ref 8, .ref 2, .int l2, .int l3] [] k (qV P)) := by
    intro m
    induction m with
    | zero => exact ⟨fun _ _ _ _ _ hm => absurd hm (Nat.not_lt_zero _), fun _ _ _ _ _ _ _ _ _ hm => absurd hm (Nat.not_lt_zero _)⟩
    | succ m ih =>
      refine ⟨fun l2 i k e2 hi hm ok d => ?_, fun l2 l3 i j k e2 hi e3 hj hm ok d d1 d0 => ?_⟩
      · refine r_X3_open_15 l2 ⟨fun z => ?_, fun z => ?_⟩
        · rw [k80 ok, i_le, ec, e2] at z
          have : i = c := by omega
          subst this
          refine v_findCorners (A := sqA (fun q => mI h0 20 q)) hc ok.1 (by rw [k80 ok]; exact ec) (fun a b ha hb hab => ?_) ht (fun h2 k2 cn => hp h2 k2.1 (Fr_t2 (Fr_t2 r0 ok.2.1 (by decide)) k2.2.1 (by decide)) ?_ (fun a b ha hb hab => ?_) cn ((k2.2.2.2.trans (Ok_eq ok (by decide))).trans v8))
          · rw [sqA_t hab]
            exact Bool.eq_iff_iff.mpr ((d a b ha hb hab).trans decide_eq_true_iff.symm)
          · rw [k2.2.2.1]
            exact k80 ok
          · rw [show mI h2 32 a = mI k 32 a from congrFun (k2.2.1 32 (by decide) (by decide)).1 a]
            exact d a b ha hb hab
        · rw [k80 ok, i_le, ec, e2] at z
          rw [i_nat e2]
          refine ⟨i_vp e2 (by omega), ih.2 l2 0 i 0 _ e2 (by omega) (by decide) (Nat.zero_le _) (by omega) (Ok_w ok (k := 32) (rgc_32 _) (R_full _) (by decide) (nt_k (by decide))) (fun a b ha hb hab => ?_) (fun b hb => absurd hb (Nat.not_lt_zero b)) (fun b _ hb => ?_)⟩
          · rw [mI_wI, if_neg (by omega)]
            exact d a b ha hb hab
          · rw [mI_wI, if_pos ⟨rfl, rfl⟩]
            exact bt_00 b hb
      · have e3' := i_inc e3 (by omega)
        refine r_X3_open_32 l2 l3 ⟨fun z => ?_, fun z => ⟨fun y => ?_, fun y => ?_⟩⟩
        · rw [k80 ok, i_le, ec, e3] at z
          have : j = c := by omega
          subst this
          refine ih.1 (l2 + 1) (i + 1) k (i_inc e2 (by omega)) (by omega) (by omega) ok (fun a b ha hb hab => ?_)
          by_cases q : a = i
          · subst q
            exact d1 b hb hab
          · exact d a b (by omega) hb hab
        · rw [k80 ok, i_le, ec, e3] at z
          have yij : j = i := by
            have := congrArg Int32.toInt y
            rw [e3, e2] at this
            omega
          exact ih.2 l2 (l3 + 1) i (j + 1) k e2 hi e3' (by omega) (by omega) ok d (fun b hb hbi => d1 b (by omega) hbi) (fun b hb h18 => d0 b (by omega) h18)
        · rw [k80 ok, i_le, ec, e3] at z
          have yij : ¬ j = i := fun q => y (Int32.toInt_inj.mp (by rw [e3, e2, q]))
          refine v_product l2 l3 e2 e3 (by omega) (by omega) ?_
          rw [k20 ok]
          refine ⟨fun w => ?_, fun w => ?_⟩
          · refine ih.2 l2 (l3 + 1) i (j + 1) k e2 hi e3' (by omega) (by omega) ok d (fun b hb hbi => ?_) (fun b hb h18 => d0 b (by omega) h18)
            by_cases q : b = j
            · subst q
              rw [d0 b (Nat.le_refl _) (by omega)]
              exact ⟨fun x => (by cases x), fun x => absurd x w⟩
            · exact d1 b (by omega) hbi
          · rw [i_nat e2]
            refine ⟨i_vp e2 (by omega), i_vp e2 (by omega), ih.2 l2 (l3 + 1) i (j + 1) _ e2 hi e3' (by omega) (by omega) (Ok_w ok (k := 32) (rgc_32 _) (R_full _) (by decide) (nt_k (by decide))) (fun a b ha hb hab => ?_) (fun b hb hbi => ?_) (fun b hb h18 => ?_)⟩
            · rw [mI_wI, if_neg (by omega)]
              exact d a b ha hb hab
            · rw [mI_wI, if_pos ⟨rfl, rfl⟩, bt_or18 e3 (by omega) (by omega)]
              by_cases q : b = j
              · subst q
                simp [w]
              · rw [beq_false_of_ne q, Bool.false_or]
                exact d1 b (by omega) hbi
            · rw [mI_wI, if_pos ⟨rfl, rfl⟩, bt_or18 e3 (by omega) h18, beq_false_of_ne (by omega), Bool.false_or]
              exact d0 b (by omega) h18
  exact (L 500).1 0 0 h0 (by decide) (Nat.zero_le _) (by omega) (Ok_rf g0) (fun a b ha => absurd ha (Nat.not_lt_zero a))
/-- the class's table just after a book, and its history -/
def Tb (f : Nat → Int32) (h : mh_T) : Prop := mI h 3 2 = f 0 ∧ (∀ s : Nat, s < 8 → (s : Int) < (f 0).toInt → h.1 24 s = f (1 + s) ∧ h.1 25 s = f (9 + s)) ∧ (∀ i, i < 32 → h.1 26 i = f (17 + i)) ∧ (∀ i, i < 32 → h.1 27 i = 0) ∧ mI h 10 0 = 0 ∧ mI h 10 1 = 0 ∧ mI h 10 2 = 0
theorem Ok_62 {ms : List Nat} {h h' : mh_T} (ok : Ok ms h h') (hm : 302 ∉ ms) : H62 h h' := by
  rcases ok.2.2.2.2.2.2.2.1 with z | z
  · exact absurd z hm
  · exact z
theorem Ok_24 {ms : List Nat} {h h' : mh_T} (ok : Ok ms h h') (hm : 301 ∉ ms) : ∀ j, 24 ≤ j → j ≤ 26 → mI h' 11 j = mI h 11 j := by
  rcases ok.2.2.2.2.2.2.2.2 with z | z
  · exact absurd z hm
  · exact z
abbrev msD : List Nat := [0, 1, 2, 3, 4, 5, 6, 7, 8, 9, 10, 13, 14, 15, 16, 17, 18, 19, 20, 21, 22, 23, 24, 25, 26, 27, 28, 29, 30, 31, 32, 33, 34, 35, 36, 37, 38, 39, 302]
/-- the class's book: what it answers, what stays -/
theorem s_X4_open' {g : gT} {h : mh_T} {P : mh_T → Prop} (hG : GI h) (hp : ∀ h', Ok [10] h h' → (mI h' 10 0 = 0 ∧ mI h' 10 1 = 0 ∧ mI h' 10 2 = 0) → P h') : MCv g yX4_open uX4_open [.ref 10] h P :=
  e_X4_open (hp _ (Ok_w (Ok_w (Ok_w (Ok_rf hG) (k := 10) (j := 0) (v := 0) (lo := 0) (hi := 20) rfl ⟨by decide, by decide⟩ (by decide) (by decide)) (k := 10) (j := 1) (v := 0) (lo := 0) (hi := 20) rfl ⟨by decide, by decide⟩ (by decide) (by decide)) (k := 10) (j := 2) (v := 0) (lo := 0) (hi := 4) rfl ⟨by decide, by decide⟩ (by decide) (by decide)) ⟨by rw [mI_wI, if_neg (by decide), mI_wI, if_neg (by decide), mI_wI, if_pos ⟨rfl, rfl⟩], by rw [mI_wI, if_neg (by decide), mI_wI, if_pos ⟨rfl, rfl⟩], by rw [mI_wI, if_pos ⟨rfl, rfl⟩]⟩)
theorem c_book {g : gT} {h : mh_T} {P : Int32 → mh_T → Prop} {T : Nat → Int32} (l1 : Int32) (hG : GI h) (hT : ∀ j : Nat, (j : Int) < (mI h 0 10).toInt → mI h 12 j = T j) (hn : ¬ (0 ≤ l1.toInt ∧ l1.toInt ≤ (mI h 0 10).toInt) → P (-1) (wI h 0 11 2)) (hs : ∀ (n e : Nat) (f : Nat → Int32) (h' : mh_T), l1.toInt = (n : Int) → (n : Int) ≤ (mI h 0 10).toInt → rx_book T n = .inr ((), e, f) → GI h' → Fr msD h h' → mI h' 0 10 = 0 ∧ mI h' 0 11 = 0 ∧ mI h' 0 12 = 0 → (mI h' 3 0 = f 49 ∧ mI h' 3 1 = f 50 ∧ mI h' 8 0 = f 85 ∧ ∀ i j : Nat, (i : Int) < (f 85).toInt → (j : Int) < (f 85).toInt → ¬ j = i → (bt (mI h' 32 i) j = true ↔ dtk (fun q => f (86 + q)) i j 4 = 0)) → LF f (f 52).toInt.toNat (f 51).toInt.toNat h' → Tb f h' → Cn 33 8 1 h' (kb (sqA (fun q => f (86 + q))) 4 0 (rl 0 (f 85).toInt.toNat)) → mI h' 8 8 = 0 → P (f 50) h') (hx : ∀ (n : Nat) (w : Int32) (p : Nat) (h' : mh_T), l1.toInt = (n : Int) → (n : Int) ≤ (mI h 0 10).toInt → rx_book T n = .inl (w, p) → GI h' → Fr msD h h' → mI h' 0 10 = 0 ∧ mI h' 0 11 = 4 ∧ mI h' 0 12 = w → (mI h' 0 13).toInt = (p : Int) → (h'.1 3 = h.1 3 ∧ h'.1 8 = h.1 8 ∧ h'.1 32 = h.1 32 ∧ h'.1 7 = h.1 7 ∧ h'.1 31 = h.1 31) → (Fr (0 :: cms) h h' ∧ H62 h h') → P (-1) h') : MCi g yX10_book uX10_book [.ref 0, .int l1] h P := by
  have z0 : (0 : Int32).toInt = 0 := by decide
  have f0 : R 0 900 (mI h 0 10) := GI_rd hG 0 10 (by decide)
  refine e_X10_book l1 ⟨fun c => e_X10_refused 2 (hn (fun z => by have := lt_ti c; omega)), fun c => ⟨fun c2 => ?_, fun c2 => e_X10_refused 2 (hn (fun z => by have := lt_ti (nle c2); omega))⟩⟩
  have a1 := le_ti (nlt c)
  have a2 := le_ti c2
  obtain ⟨n, en⟩ : ∃ n : Nat, l1.toInt = (n : Int) := ⟨l1.toInt.toNat, by omega⟩
  have n9 : n ≤ 900 := by have := f0.2; omega
  have g0 : GI (wI h 0 10 0) := GI_w hG (k := 0) (j := 10) (lo := 0) (hi := 900) (by decide) ⟨by decide, by decide⟩
  have fr1 : Fr msD h (wI h 0 10 0) := Fr_w (Fr_rf h) (by decide)
  have fr1x : Fr (0 :: cms) h (wI h 0 10 0) := Fr_w (Fr_rf h) (by decide)
  have e0 : mI (wI h 0 10 0) 0 10 = 0 := by rw [mI_wI, if_pos ⟨rfl, rfl⟩]
  have t12 : ∀ j, j < n → mI (wI h 0 10 0) 12 j = T j := fun j hj => by
    rw [mI_wI, if_neg (fun z => absurd z.1 (by decide))]
    exact hT j (by omega)
  have h62 : H62 h (wI h 0 10 0) := H62_w (fun _ _ => rfl) (by decide)
  generalize wI h 0 10 0 = h1 at g0 fr1 fr1x e0 t12 h62
  refine c_read l1 g0 en n9 t12 (fun h5 cz => ?_)
  have e12 : mI (wI h5 0 12 (mI h5 1 1)) 0 12 = mI h5 1 1 := by rw [mI_wI, if_pos ⟨rfl, rfl⟩]
  have e10 : mI (wI h5 0 12 (mI h5 1 1)) 0 10 = mI h5 0 10 := by rw [mI_wI, if_neg (by decide)]
  rw [e12]
  rcases cz with ⟨e, f, eo, cs⟩ | ⟨w, p, eo, cx⟩
  · have c11 : mI h5 1 1 = 0 := cs.2.2.2.2.2.2.1
    have c21 : mI h5 2 1 = f 50 := cs.2.2.2.2.1.1.2.1
    have ok5 : Ok msD h1 h5 := Ok_mono cs.1 (by decide)
    refine ⟨fun _ => ?_, fun z => absurd c11 z⟩
    have g6 : GI (wI h5 0 12 (mI h5 1 1)) := GI_w ok5.1 (k := 0) (j := 12) (lo := -2147483648) (hi := 2147483647) (by decide) (R_full _)
    have fr6 : Fr msD h (wI h5 0 12 (mI h5 1 1)) := Fr_w (Fr_tr fr1 ok5.2.1) (by decide)
    have v10 : mI (wI h5 0 12 (mI h5 1 1)) 0 10 = 0 := e10.trans (ok5.2.2.1.trans e0)
    have v12 : mI (wI h5 0 12 (mI h5 1 1)) 0 12 = 0 := e12.trans c11
    have v21 : mI (wI h5 0 12 (mI h5 1 1)) 2 1 = f 50 := by rw [mI_wI, if_neg (by decide)]; exact c21
    have v20 : mI (wI h5 0 12 (mI h5 1 1)) 2 0 = f 49 := by rw [mI_wI, if_neg (by decide)]; exact cs.2.2.2.2.1.1.1
    have w25 : mI (wI h5 0 12 (mI h5 1 1)) 2 5 = f 85 := by rw [mI_wI, if_neg (by decide)]; exact cs.2.2.2.2.1.1.2.2.2.2.2.1
    have w24 : mI (wI h5 0 12 (mI h5 1 1)) 2 4 = f 52 := by rw [mI_wI, if_neg (by decide)]; exact cs.2.2.2.2.1.1.2.2.2.2.1
    have w22 : mI (wI h5 0 12 (mI h5 1 1)) 2 2 = f 51 := by rw [mI_wI, if_neg (by decide)]; exact cs.2.2.2.2.1.1.2.2.1
    have wal : ∀ l : Nat, (l : Int) < (f 52).toInt → mI (wI h5 0 12 (mI h5 1 1)) 19 l = f (77 + l) ∧ Lp (mI (wI h5 0 12 (mI h5 1 1)) 18 l) (f (53 + 3 * l)) (f (54 + 3 * l)) (f (55 + 3 * l)) := fun l hl => by rw [mI_wI, if_neg (fun z => absurd z.1 (by decide)), mI_wI, if_neg (fun z => absurd z.1 (by decide))]; exact cs.2.2.2.2.2.2.2.2.2.2.1 l hl
    have w20 : ∀ i : Nat, (i : Int) < 4 * (f 85).toInt → mI (wI h5 0 12 (mI h5 1 1)) 20 i = f (86 + i) := fun i hi => by rw [mI_wI, if_neg (fun z => absurd z.1 (by decide))]; exact cs.2.2.2.2.2.2.2.2.2.1 i hi
    have w23 : mI (wI h5 0 12 (mI h5 1 1)) 2 3 = f 0 := by rw [mI_wI, if_neg (by decide)]; exact cs.2.2.2.2.1.1.2.2.2.1
    have w15 : ∀ s : Nat, (s : Int) < (f 0).toInt → mI (wI h5 0 12 (mI h5 1 1)) 15 s = f (1 + s) ∧ mI (wI h5 0 12 (mI h5 1 1)) 16 s = f (9 + s) := fun s hs => by rw [mI_wI, if_neg (fun z => absurd z.1 (by decide)), mI_wI, if_neg (fun z => absurd z.1 (by decide))]; exact cs.2.2.2.2.2.2.2.1 s hs
    have w17 : ∀ i, i < 32 → mI (wI h5 0 12 (mI h5 1 1)) 17 i = f (17 + i) := fun i hi => by rw [mI_wI, if_neg (fun z => absurd z.1 (by decide))]; exact cs.2.2.2.2.2.2.2.2.1 i hi
    generalize wI h5 0 12 (mI h5 1 1) = h6 at g6 fr6 v10 v12 v21 v20 w25 w20 w24 w22 wal w23 w15 w17
    refine v_X8_open g6 (fun h7 g7 fr7 v7 => ?_)
    have f7 : ∀ k j, k < 62 → k ∉ [3, 24, 25, 26, 27] → mI h7 k j = mI h6 k j := fun k j hk hm => congrFun (fr7 k hk hm).1 j
    have c52 : mI h7 2 4 = f 52 := by rw [f7 2 4 (by decide) (by decide), w24]
    have c51 : mI h7 2 2 = f 51 := by rw [f7 2 2 (by decide) (by decide), w22]
    obtain ⟨n5, en5, n50, n58⟩ := i_R (show R 0 8 (f 52) by rw [← c52]; exact GI_rd g7 2 4 (by decide)) (by decide)
    obtain ⟨m5, em5, m50, m59⟩ := i_R (show R 0 9 (f 51) by rw [← c51]; exact GI_rd g7 2 2 (by decide)) (by decide)
    refine v_X5_openL (f := f) (n := n5) (m := m5) g7 (by rw [c51]; exact em5) (by omega) (by rw [c52]; exact en5) (by omega) (fun l hl => ?_) (fun h8 g8 fr8' lf => ?_)
    · rw [f7 19 l (by decide) (by decide), f7 18 l (by decide) (by decide)]
      exact wal l (by omega)
    have c85 : mI h8 2 5 = f 85 := by
      rw [show mI h8 2 5 = mI h7 2 5 from congrFun (fr8' 2 (by decide) (by decide)).1 5, f7 2 5 (by decide) (by decide), w25]
    have r85 : R 0 18 (f 85) := by rw [← c85]; exact GI_rd g8 2 5 (by decide)
    obtain ⟨c, ec, c0, c18⟩ := i_R r85 (by decide)
    have y20 : ∀ j, mI h8 20 j = mI h6 20 j := fun j => by rw [show mI h8 20 j = mI h7 20 j from congrFun (fr8' 20 (by decide) (by decide)).1 j, show mI h7 20 j = mI h6 20 j from congrFun (fr7 20 (by decide) (by decide)).1 j]
    have eA : kb (sqA (fun q => mI h8 20 q)) 4 0 (rl 0 c) = kb (sqA (fun q => f (86 + q))) 4 0 (rl 0 c) := kb_x 4 0 _ (fun u v hu hv => by
      have u1 := rl_m hu
      have v1 := rl_m hv
      unfold sqA
      rw [dtk_cg (y := fun q => f (86 + q)) 4 (Nat.le_refl _) (fun q hq => ⟨?_, ?_⟩)]
      · show mI h8 20 (4 * u + q) = f (86 + (4 * u + q))
        rw [y20]
        exact w20 _ (by omega)
      · show mI h8 20 (4 * v + q) = f (86 + (4 * v + q))
        rw [y20]
        exact w20 _ (by omega))
    refine v_X3_open (c := c) g8 (by rw [c85]; exact ec) (by omega) (by rw [eA]; exact corners_400 (book_RZ eo) ec 0) (fun h9 g9 fr9 v80 v32 cn v88 => ?_)
    refine s_X9_open g9 (fun h10 k10 => ?_)
    refine s_X4_open' k10.1 (fun h11 k11 k110 => ?_)
    have fr8 : Fr msD h h8 := Fr_t2 (Fr_t2 fr6 fr7 (by decide)) fr8' (by decide)
    have g78 : ∀ k j, k < 62 → k ∉ [7, 31] → mI h8 k j = mI h7 k j := fun k j hk hm => congrFun (fr8' k hk hm).1 j
    have fr11 : Fr msD h h11 := Fr_t2 (Fr_t2 (Fr_t2 fr8 fr9 (by decide)) k10.2.1 (by decide)) k11.2.1 (by decide)
    have z0 : ∀ j, mI h11 0 j = mI h6 0 j := fun j => by
      rw [Ok_eq k11 (by decide), Ok_eq k10 (by decide), show mI h9 0 j = mI h8 0 j from congrFun (fr9 0 (by decide) (by decide)).1 j, g78 0 j (by decide) (by decide), show mI h7 0 j = mI h6 0 j from congrFun (fr7 0 (by decide) (by decide)).1 j]
    have z3 : ∀ j, mI h11 3 j = mI h7 3 j := fun j => by
      rw [Ok_eq k11 (by decide), Ok_eq k10 (by decide), show mI h9 3 j = mI h8 3 j from congrFun (fr9 3 (by decide) (by decide)).1 j, g78 3 j (by decide) (by decide)]
    have z8 : ∀ j, mI h11 8 j = mI h9 8 j := fun j => by rw [Ok_eq k11 (by decide), Ok_eq k10 (by decide)]
    have z7 : ∀ j, mI h11 7 j = mI h8 7 j := fun j => by rw [Ok_eq k11 (by decide), Ok_eq k10 (by decide), show mI h9 7 j = mI h8 7 j from congrFun (fr9 7 (by decide) (by decide)).1 j]
    have n58' : n5 ≤ 8 := by omega
    have z33 : ∀ j, mI h11 33 j = mI h9 33 j := fun j => by rw [Ok_eq k11 (by decide), Ok_eq k10 (by decide)]
    have cn' : Cn 33 8 1 h9 (kb (sqA (fun q => f (86 + q))) 4 0 (rl 0 (f 85).toInt.toNat)) := by rw [ec, Int.toNat_natCast, ← eA]; exact cn
    have zt : ∀ k, (k = 24 ∨ k = 25 ∨ k = 26 ∨ k = 27) → ∀ j, mI h11 k j = mI h7 k j := fun k hk j => by
      have k62 : k < 62 := by omega
      have e1 := congrFun (k11.2.1 k k62 (by rcases hk with z | z | z | z <;> subst z <;> decide)).1 j
      have e2 := congrFun (k10.2.1 k k62 (by rcases hk with z | z | z | z <;> subst z <;> decide)).1 j
      have e3 := congrFun (fr9 k k62 (by rcases hk with z | z | z | z <;> subst z <;> decide)).1 j
      have e4 := congrFun (fr8' k k62 (by rcases hk with z | z | z | z <;> subst z <;> decide)).1 j
      exact e1.trans (e2.trans (e3.trans e4))
    have z31 : ∀ j, mI h11 31 j = mI h8 31 j := fun j => by rw [Ok_eq k11 (by decide), Ok_eq k10 (by decide), show mI h9 31 j = mI h8 31 j from congrFun (fr9 31 (by decide) (by decide)).1 j]
    have z32 : ∀ j, mI h11 32 j = mI h9 32 j := fun j => by rw [Ok_eq k11 (by decide), Ok_eq k10 (by decide)]
    have z20 : ∀ j, mI h8 20 j = mI h6 20 j := fun j => by rw [g78 20 j (by decide) (by decide), show mI h7 20 j = mI h6 20 j from congrFun (fr7 20 (by decide) (by decide)).1 j]
    rw [show mI h11 3 1 = f 50 from by rw [z3, v7.2.1, v21]]
    have o : ∀ k j, ¬ (k = 0 ∧ j = 11) → mI (wI h11 0 11 0) k j = mI h11 k j := fun k j hk => by rw [mI_wI, if_neg hk]
    refine e_X10_told _ (hs n e f _ en (by omega) eo (GI_w k11.1 (k := 0) (j := 11) (lo := -2147483648) (hi := 2147483647) (by decide) (R_full _)) (Fr_w fr11 (by decide)) ⟨?_, ?_, ?_⟩ ⟨?_, ?_, ?_, fun a b ha hb hab => ?_⟩ ?_ ⟨?_, fun s h8' hs' => ⟨?_, ?_⟩, fun i hi => ?_, fun i hi => ?_, ?_, ?_, ?_⟩ ⟨?_, fun i hi => ?_⟩ ?_)
    · rw [o 0 10 (by decide), z0]; exact v10
    · rw [mI_wI, if_pos ⟨rfl, rfl⟩]
    · rw [o 0 12 (by decide), z0]; exact v12
    · rw [o 3 0 (by decide), z3, v7.1]; exact v20
    · rw [o 3 1 (by decide), z3, v7.2.1]; exact v21
    · rw [o 8 0 (by decide), z8, v80]; exact c85
    · rw [o 32 a (fun z => absurd z.1 (by decide)), z32, v32 a b (by omega) (by omega) hab, dtk_cg (y := fun q => f (86 + q)) 4 (Nat.le_refl _) (fun q hq => ⟨?_, ?_⟩)]
      · show mI h8 20 (4 * a + q) = f (86 + (4 * a + q))
        rw [z20]
        exact w20 _ (by omega)
      · show mI h8 20 (4 * b + q) = f (86 + (4 * b + q))
        rw [z20]
        exact w20 _ (by omega)
    · rw [en5, em5, Int.toNat_natCast, Int.toNat_natCast]
      refine LF_cg n58' (fun _ _ _ => rfl) ?_ ?_ lf
      · funext j
        exact (o 7 j (fun z => absurd z.1 (by decide))).trans (z7 j)
      · funext j
        exact (o 31 j (fun z => absurd z.1 (by decide))).trans (z31 j)
    · rw [o 3 2 (by decide), z3, v7.2.2.1]; exact w23
    · exact (o 24 s (fun z => absurd z.1 (by decide))).trans ((zt 24 (by decide) s).trans ((v7.2.2.2.1 s h8').trans (w15 s hs').1))
    · exact (o 25 s (fun z => absurd z.1 (by decide))).trans ((zt 25 (by decide) s).trans ((v7.2.2.2.2.1 s h8').trans (w15 s hs').2))
    · exact (o 26 i (fun z => absurd z.1 (by decide))).trans ((zt 26 (by decide) i).trans ((v7.2.2.2.2.2.1 i hi).trans (w17 i hi)))
    · exact (o 27 i (fun z => absurd z.1 (by decide))).trans ((zt 27 (by decide) i).trans (v7.2.2.2.2.2.2 i hi))
    · rw [o 10 0 (by decide)]; exact k110.1
    · rw [o 10 1 (by decide)]; exact k110.2.1
    · rw [o 10 2 (by decide)]; exact k110.2.2
    · rw [o 8 1 (by decide), z8]; exact cn'.1
    · rw [o 33 i (fun z => absurd z.1 (by decide)), z33]; exact cn'.2 i hi
    · rw [o 8 8 (by decide), z8]; exact v88
  · have c11 : mI h5 1 1 = w := cx.2.1
    have ok5 : Ok msD h1 h5 := Ok_mono cx.1 (by decide)
    refine ⟨fun z => absurd (c11.symm.trans z) cx.2.2.2, fun _ => ?_⟩
    have g6 : GI (wI h5 0 12 (mI h5 1 1)) := GI_w ok5.1 (k := 0) (j := 12) (lo := -2147483648) (hi := 2147483647) (by decide) (R_full _)
    have fr6 : Fr msD h (wI h5 0 12 (mI h5 1 1)) := Fr_w (Fr_tr fr1 ok5.2.1) (by decide)
    have v10 : mI (wI h5 0 12 (mI h5 1 1)) 0 10 = 0 := e10.trans (ok5.2.2.1.trans e0)
    have v12 : mI (wI h5 0 12 (mI h5 1 1)) 0 12 = w := e12.trans c11
    have v2 : (mI (wI h5 0 12 (mI h5 1 1)) 1 2).toInt = (p : Int) := by rw [mI_wI, if_neg (by decide)]; exact cx.2.2.1
    have fx : Fr (0 :: cms) h (wI h5 0 12 (mI h5 1 1)) := Fr_w (Fr_t2 fr1x cx.1.2.1 (by decide)) (by decide)
    have h62x : H62 h (wI h5 0 12 (mI h5 1 1)) := H62_w (H62_tr h62 (Ok_62 cx.1 (by decide))) (by decide)
    generalize wI h5 0 12 (mI h5 1 1) = h6 at g6 fr6 v10 v12 v2 fx h62x
    have fy : Fr (0 :: cms) h (wI (wI h6 0 13 (mI h6 1 2)) 0 11 4) := Fr_w (Fr_w fx (by decide)) (by decide)
    have fc : ∀ k, k < 62 → k ∉ (0 :: cms) → True → (wI (wI h6 0 13 (mI h6 1 2)) 0 11 4).1 k = h.1 k := fun k hk hm _ => (fy k hk hm).1
    have g8 : GI (wI (wI h6 0 13 (mI h6 1 2)) 0 11 4) := GI_w (GI_w g6 (k := 0) (j := 13) (lo := -2147483648) (hi := 2147483647) (by decide) (R_full _)) (k := 0) (j := 11) (lo := -2147483648) (hi := 2147483647) (by decide) (R_full _)
    refine e_X10_refused 4 (hx n w p _ en (by omega) eo g8 (Fr_w (Fr_w fr6 (by decide)) (by decide)) ⟨?_, ?_, ?_⟩ ?_ ⟨fc 3 (by decide) (by decide) trivial, fc 8 (by decide) (by decide) trivial, fc 32 (by decide) (by decide) trivial, fc 7 (by decide) (by decide) trivial, fc 31 (by decide) (by decide) trivial⟩ ⟨fy, H62_w (H62_w h62x (by decide)) (by decide)⟩)
    · rw [mI_wI, if_neg (by decide), mI_wI, if_neg (by decide)]; exact v10
    · rw [mI_wI, if_pos ⟨rfl, rfl⟩]
    · rw [mI_wI, if_neg (by decide), mI_wI, if_neg (by decide)]; exact v12
    · rw [mI_wI, if_neg (by decide), mI_wI, if_pos ⟨rfl, rfl⟩]; exact v2
