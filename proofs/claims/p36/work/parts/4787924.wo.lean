def CL (f : Nat → Int32) (n m s : Nat) : Prop := ∃ v, v < 2 ^ m ∧ ∀ t, t < 8 → bt (Int32.ofNat s) t = true → bt (sv f n v) t = true
/-- what the class knows of the lines -/
def LF (f : Nat → Int32) (n m : Nat) (h : mh_T) : Prop := (mI h 7 0).toInt = (m : Int) ∧ (mI h 7 1).toInt = (n : Int) ∧ mI h 7 2 = wyc f n (2 ^ m) ∧ (∀ p, p < 9 → (bt (mI h 7 3) p = true ↔ ∃ w, w < 2 ^ m ∧ sv f n w = An n ∧ bt (Int32.ofNat w) p = true)) ∧ (∀ p, p < 9 → (bt (mI h 7 4) p = true ↔ ∃ w, w < 2 ^ m ∧ sv f n w = An n ∧ bt (Int32.ofNat w) p = false)) ∧ ∀ s, s < 2 ^ n → (¬ mI h 31 s = 0 ↔ CL f n m s)
theorem LF_cg {f f' : Nat → Int32} {n m : Nat} {h h' : mh_T} (hn : n ≤ 8) (e : ∀ i, 53 ≤ i → i < 85 → f i = f' i) (e7 : h'.1 7 = h.1 7) (e31 : h'.1 31 = h.1 31) (l : LF f n m h) : LF f' n m h' := by
  have g7 : ∀ j, mI h' 7 j = mI h 7 j := fun j => congrFun e7 j
  have g31 : ∀ j, mI h' 31 j = mI h 31 j := fun j => congrFun e31 j
  have es : ∀ w, sv f' n w = sv f n w := fun w => (slb_cg n hn e).symm
  unfold LF CL
  simp only [g7, g31, es, ← wyc_cg hn e]
  exact l
theorem v_X5_openL {g : gT} {h : mh_T} {P : mh_T → Prop} {f : Nat → Int32} {n m : Nat} (hG : GI h) (em : (mI h 2 2).toInt = (m : Int)) (hm9 : m ≤ 9) (en : (mI h 2 4).toInt = (n : Int)) (hn : n ≤ 8) (hl : ∀ l : Nat, l < n → mI h 19 l = f (77 + l) ∧ Lp (mI h 18 l) (f (53 + 3 * l)) (f (54 + 3 * l)) (f (55 + 3 * l))) (hp : ∀ h', GI h' → Fr [7, 31] h h' → LF f n m h' → P h') : MCv g yX5_open uX5_open [.ref 7, .ref 2] h P := by
  refine e_X5_open (fun x1 ex => ?_)
  have q1 : mI (wI h 7 0 (mI h 2 2)) 2 4 = mI h 2 4 := by rw [mI_wI, if_neg (by decide)]
  rw [q1] at ex ⊢
  have g0 : GI (wI (wI (wI (wI (wI h 7 0 (mI h 2 2)) 7 1 (mI h 2 4)) 7 2 0) 7 3 0) 7 4 0) := GI_w (GI_w (GI_w (GI_w (GI_w hG (k := 7) (j := 0) (lo := 0) (hi := 9) (by decide) (GI_rd hG 2 2 (by decide))) (k := 7) (j := 1) (lo := 0) (hi := 8) (by decide) (GI_rd hG 2 4 (by decide))) (k := 7) (j := 2) (lo := -2147483648) (hi := 2147483647) (by decide) (R_full _)) (k := 7) (j := 3) (lo := -2147483648) (hi := 2147483647) (by decide) (R_full _)) (k := 7) (j := 4) (lo := -2147483648) (hi := 2147483647) (by decide) (R_full _)
  have r0 : Fr [7, 31] h (wI (wI (wI (wI (wI h 7 0 (mI h 2 2)) 7 1 (mI h 2 4)) 7 2 0) 7 3 0) 7 4 0) := Fr_w (Fr_w (Fr_w (Fr_w (Fr_w (Fr_rf h) (by decide)) (by decide)) (by decide)) (by decide)) (by decide)
  have v0 : mI (wI (wI (wI (wI (wI h 7 0 (mI h 2 2)) 7 1 (mI h 2 4)) 7 2 0) 7 3 0) 7 4 0) 7 0 = mI h 2 2 := by
    rw [mI_wI, if_neg (by decide), mI_wI, if_neg (by decide), mI_wI, if_neg (by decide), mI_wI, if_neg (by decide), mI_wI, if_pos ⟨rfl, rfl⟩]
  have v1 : mI (wI (wI (wI (wI (wI h 7 0 (mI h 2 2)) 7 1 (mI h 2 4)) 7 2 0) 7 3 0) 7 4 0) 7 1 = mI h 2 4 := by
    rw [mI_wI, if_neg (by decide), mI_wI, if_neg (by decide), mI_wI, if_neg (by decide), mI_wI, if_pos ⟨rfl, rfl⟩]
  have v2 : mI (wI (wI (wI (wI (wI h 7 0 (mI h 2 2)) 7 1 (mI h 2 4)) 7 2 0) 7 3 0) 7 4 0) 7 2 = 0 := by
    rw [mI_wI, if_neg (by decide), mI_wI, if_neg (by decide), mI_wI, if_pos ⟨rfl, rfl⟩]
  rw [v1, i_of en (by omega)] at ex
  have v3 : mI (wI (wI (wI (wI (wI h 7 0 (mI h 2 2)) 7 1 (mI h 2 4)) 7 2 0) 7 3 0) 7 4 0) 7 3 = 0 := by
    rw [mI_wI, if_neg (by decide), mI_wI, if_pos ⟨rfl, rfl⟩]
  have v4 : mI (wI (wI (wI (wI (wI h 7 0 (mI h 2 2)) 7 1 (mI h 2 4)) 7 2 0) 7 3 0) 7 4 0) 7 4 = 0 := by
    rw [mI_wI, if_pos ⟨rfl, rfl⟩]
  generalize wI (wI (wI (wI (wI h 7 0 (mI h 2 2)) 7 1 (mI h 2 4)) 7 2 0) 7 3 0) 7 4 0 = h0 at g0 r0 v0 v1 v2 v3 v4
  have p8 : ((1 : Int32) <<< (Int32.ofNat n &&& 31)).toInt = (2 : Int) ^ n := shl_n (by omega)
  have n2 : (1 : Int) ≤ 2 ^ n ∧ (2 : Int) ^ n ≤ 256 := by
    rcases (show n = 0 ∨ n = 1 ∨ n = 2 ∨ n = 3 ∨ n = 4 ∨ n = 5 ∨ n = 6 ∨ n = 7 ∨ n = 8 by omega) with q | q | q | q | q | q | q | q | q <;> subst q <;> decide
  have ex1 : x1.toInt = (2 : Int) ^ n - 1 := by rw [ex]; exact i_sub p8 (by decide) (by omega)
  have m2 : ((2 ^ m : Nat) : Int) = (2 : Int) ^ m ∧ 2 ^ m ≤ 512 := by
    rcases (show m = 0 ∨ m = 1 ∨ m = 2 ∨ m = 3 ∨ m = 4 ∨ m = 5 ∨ m = 6 ∨ m = 7 ∨ m = 8 ∨ m = 9 by omega) with q | q | q | q | q | q | q | q | q | q <;> subst q <;> decide
  have pm : ∀ {k : mh_T}, mI k 7 0 = mI h 2 2 → ((1 : Int32) <<< ((mI k 7 0) &&& 31)).toInt = ((2 ^ m : Nat) : Int) := fun e => by
    rw [e, i_of em (by omega), shl_n (by omega), m2.1]
  have B : ∀ (q : Nat) (l3 : Int32) (v : Nat) (k : mh_T), l3.toInt = (v : Int) → v ≤ 2 ^ m → 2 ^ m - v < q → GI k → Fr [7, 31] h k → mI k 7 0 = mI h 2 2 → mI k 7 1 = mI h 2 4 → mI k 7 2 = wyc f n v → (∀ p, p < 9 → (bt (mI k 7 3) p = true ↔ ∃ w, w < v ∧ sv f n w = An n ∧ bt (Int32.ofNat w) p = true)) → (∀ p, p < 9 → (bt (mI k 7 4) p = true ↔ ∃ w, w < v ∧ sv f n w = An n ∧ bt (Int32.ofNat w) p = false)) → (∀ s, s < 2 ^ n → (¬ mI k 31 s = 0 ↔ ∃ w, w < v ∧ sv f n w = Int32.ofNat s)) → ME g uX5_open 62 [.ref 7, .ref 2, .int x1, .int l3, .retAddr 0] [] k (qV P) := by
    intro q
    induction q with
    | zero => intro l3 v k _ _ hq; exact absurd hq (Nat.not_lt_zero _)
    | succ q ih =>
      intro l3 v k e3 hv hq kG kF k0 k1 k2 k3 k4 k5
      refine r_X5_open_62 x1 l3 ⟨fun z => ?_, fun z => ?_⟩
      · rw [i_le, pm k0, e3] at z
        have : v = 2 ^ m := by omega
        subst this
        refine v_spread (n := n) (E := fun s => ∃ w, w < 2 ^ m ∧ sv f n w = Int32.ofNat s) kG (by rw [k1]; exact en) hn k5 (fun h2 o2 u2 => hp h2 o2.1 (Fr_t2 kF o2.2.1 (by decide)) ⟨?_, ?_, ?_, ?_, ?_, fun s hs => ?_⟩)
        · rw [Ok_eq o2 (by decide), k0]; exact em
        · rw [Ok_eq o2 (by decide), k1]; exact en
        · rw [Ok_eq o2 (by decide)]; exact k2
        · rw [Ok_eq o2 (by decide)]; exact k3
        · rw [Ok_eq o2 (by decide)]; exact k4
        · rw [u2 s hs]
          constructor
          · rintro ⟨s', h1, ⟨w, w1, w2⟩, h3⟩
            exact ⟨w, w1, fun t ht hx => by rw [w2]; exact h3 t ht hx⟩
          · rintro ⟨w, w1, w2⟩
            obtain ⟨x, x1, x2, x3⟩ := sv_nat (f := f) (v := Int32.ofNat w) hn
            exact ⟨x, x2, ⟨w, w1, x3⟩, fun t ht hx => by rw [← x3]; exact w2 t ht hx⟩
      · rw [i_le, pm k0, e3] at z
        refine v_soLines (f := f) (n := n) l3 e3 (by omega) (by rw [k1]; exact en) hn (fun l hl' => ?_) ?_
        · rw [show mI k 19 l = mI h 19 l from congrFun (kF 19 (by decide) (by decide)).1 l, show mI k 18 l = mI h 18 l from congrFun (kF 18 (by decide) (by decide)).1 l]
          exact hl l hl'
        · have sr := slb_R (f := f) (v := l3) n hn
          have e3' := i_inc e3 (by omega)
          have ev : l3 = Int32.ofNat v := i_of e3 (by omega)
          have xa : x1 = An n := ex
          have ny : ¬ slb f l3 n = x1 → ¬ slb f l3 n = An n := fun q z => q (z.trans xa.symm)
          have yy : slb f l3 n = x1 → slb f l3 n = An n := fun q => q.trans xa
          refine ⟨vin sr (by decide), fun y => ?_, fun y => ?_⟩
          · refine ih (l3 + 1) (v + 1) _ e3' (by omega) (by omega) (GI_w kG (k := 31) (lo := 0) (hi := 1) rfl ⟨by decide, by decide⟩) (Fr_w kF (by decide)) ?_ ?_ ?_ ?_ ?_ ?_
            · rw [mI_wI, if_neg (fun w => absurd w.1 (by decide))]; exact k0
            · rw [mI_wI, if_neg (fun w => absurd w.1 (by decide))]; exact k1
            · rw [mI_wI, if_neg (fun w => absurd w.1 (by decide)), k2]
              show _ = (if slb f (Int32.ofNat v) n = (1 <<< (Int32.ofNat n &&& 31)) - 1 then _ else _)
              rw [← ev, ← ex, if_neg y]
            · intro p hp'
              rw [mI_wI, if_neg (fun w => absurd w.1 (by decide)), k3 p hp']
              refine ⟨fun ⟨w, w1, w2⟩ => ⟨w, by omega, w2⟩, fun ⟨w, w1, w2, w3⟩ => ⟨w, ?_, w2, w3⟩⟩
              by_cases q : w = v
              · subst q
                exact absurd (by rw [ev]; exact w2) (ny y)
              · omega
            · intro p hp'
              rw [mI_wI, if_neg (fun w => absurd w.1 (by decide)), k4 p hp']
              refine ⟨fun ⟨w, w1, w2⟩ => ⟨w, by omega, w2⟩, fun ⟨w, w1, w2, w3⟩ => ⟨w, ?_, w2, w3⟩⟩
              by_cases q : w = v
              · subst q
                exact absurd (by rw [ev]; exact w2) (ny y)
              · omega
            · intro s hs
              have pn := p2n hn
              obtain ⟨x, x1, x2, x3⟩ := sv_nat (f := f) (v := l3) hn
              rw [i_nat x1]
              have key : (∃ w, w < v + 1 ∧ sv f n w = Int32.ofNat s) ↔ (∃ w, w < v ∧ sv f n w = Int32.ofNat s) ∨ s = x := by
                constructor
                · rintro ⟨w, w1, w2⟩
                  by_cases q : w = v
                  · right
                    subst q
                    have : Int32.ofNat x = Int32.ofNat s := by rw [← x3, ev]; exact w2
                    have := congrArg Int32.toInt this
                    rw [Int32.toInt_ofNat_of_lt (by omega), Int32.toInt_ofNat_of_lt (by omega)] at this
                    omega
                  · exact Or.inl ⟨w, by omega, w2⟩
                · rintro (⟨w, w1, w2⟩ | q)
                  · exact ⟨w, by omega, w2⟩
                  · exact ⟨v, by omega, by rw [q, ← x3, ev]⟩
              rw [key]
              rw [mI_wI]
              by_cases q : s = x
              · rw [if_pos ⟨rfl, q⟩]
                exact ⟨fun _ => Or.inr q, fun _ => by decide⟩
              · rw [if_neg (fun z => q z.2), k5 s hs]
                exact ⟨Or.inl, fun z => z.resolve_right q⟩
          · refine ih (l3 + 1) (v + 1) _ e3' (by omega) (by omega) (GI_w (GI_w (GI_w (GI_w kG (k := 31) (lo := 0) (hi := 1) rfl ⟨by decide, by decide⟩) (k := 7) (j := 2) (lo := -2147483648) (hi := 2147483647) (by decide) (R_full _)) (k := 7) (j := 3) (lo := -2147483648) (hi := 2147483647) (by decide) (R_full _)) (k := 7) (j := 4) (lo := -2147483648) (hi := 2147483647) (by decide) (R_full _)) (Fr_w (Fr_w (Fr_w (Fr_w kF (by decide)) (by decide)) (by decide)) (by decide)) ?_ ?_ ?_ ?_ ?_ ?_
            · rw [mI_wI, if_neg (by decide), mI_wI, if_neg (by decide), mI_wI, if_neg (by decide), mI_wI, if_neg (fun w => absurd w.1 (by decide))]; exact k0
            · rw [mI_wI, if_neg (by decide), mI_wI, if_neg (by decide), mI_wI, if_neg (by decide), mI_wI, if_neg (fun w => absurd w.1 (by decide))]; exact k1
            · rw [mI_wI, if_neg (by decide), mI_wI, if_neg (by decide), mI_wI, if_pos ⟨rfl, rfl⟩, mI_wI, if_neg (fun w => absurd w.1 (by decide)), k2]
              show _ = (if slb f (Int32.ofNat v) n = (1 <<< (Int32.ofNat n &&& 31)) - 1 then _ else _)
              rw [← ev, ← ex, if_pos y]
            · intro p hp'
              rw [mI_wI, if_neg (by decide), mI_wI, if_pos ⟨rfl, rfl⟩, mI_wI, if_neg (by decide), mI_wI, if_neg (fun w => absurd w.1 (by decide)), bt_or2, Bool.or_eq_true, k3 p hp', ev]
              constructor
              · rintro (⟨w, w1, w2⟩ | q)
                · exact ⟨w, by omega, w2⟩
                · exact ⟨v, by omega, by rw [← yy y, ev], q⟩
              · rintro ⟨w, w1, w2, w3⟩
                by_cases q : w = v
                · subst q; exact Or.inr w3
                · exact Or.inl ⟨w, by omega, w2, w3⟩
            · intro p hp'
              rw [mI_wI, if_pos ⟨rfl, rfl⟩, mI_wI, if_neg (by decide), mI_wI, if_neg (by decide), mI_wI, if_neg (fun w => absurd w.1 (by decide)), bt_or2, Bool.or_eq_true, k4 p hp', bt_not (by omega), ev, Bool.not_eq_true']
              constructor
              · rintro (⟨w, w1, w2⟩ | q)
                · exact ⟨w, by omega, w2⟩
                · exact ⟨v, by omega, by rw [← yy y, ev], q⟩
              · rintro ⟨w, w1, w2, w3⟩
                by_cases q : w = v
                · subst q; exact Or.inr w3
                · exact Or.inl ⟨w, by omega, w2, w3⟩
            · intro s hs
              have pn := p2n hn
              obtain ⟨x, x1, x2, x3⟩ := sv_nat (f := f) (v := l3) hn
              rw [i_nat x1]
              have key : (∃ w, w < v + 1 ∧ sv f n w = Int32.ofNat s) ↔ (∃ w, w < v ∧ sv f n w = Int32.ofNat s) ∨ s = x := by
                constructor
                · rintro ⟨w, w1, w2⟩
                  by_cases q : w = v
                  · right
                    subst q
                    have : Int32.ofNat x = Int32.ofNat s := by rw [← x3, ev]; exact w2
                    have := congrArg Int32.toInt this
                    rw [Int32.toInt_ofNat_of_lt (by omega), Int32.toInt_ofNat_of_lt (by omega)] at this
                    omega
                  · exact Or.inl ⟨w, by omega, w2⟩
                · rintro (⟨w, w1, w2⟩ | q)
                  · exact ⟨w, by omega, w2⟩
                  · exact ⟨v, by omega, by rw [q, ← x3, ev]⟩
              rw [key]
              rw [mI_wI, if_neg (fun w => absurd w.1 (by decide)), mI_wI, if_neg (fun w => absurd w.1 (by decide)), mI_wI, if_neg (fun w => absurd w.1 (by decide)), mI_wI]
              by_cases q : s = x
              · rw [if_pos ⟨rfl, q⟩]
                exact ⟨fun _ => Or.inr q, fun _ => by decide⟩
              · rw [if_neg (fun z => q z.2), k5 s hs]
                exact ⟨Or.inl, fun z => z.resolve_right q⟩
  have A : ∀ (q : Nat) (l3 : Int32) (v : Nat) (k : mh_T), l3.toInt = (v : Int) → v ≤ 256 → 256 - v < q → Ok [31] h0 k → (∀ s, s < v → s < 2 ^ n → mI k 31 s = 0) → ME g uX5_open 42 [.ref 7, .ref 2, .int x1, .int l3, .retAddr 0] [] k (qV P) := by
    intro q
    induction q with
    | zero => intro l3 v k _ _ hq; exact absurd hq (Nat.not_lt_zero _)
    | succ q ih =>
      intro l3 v k e3 hv hq ok cl
      refine r_X5_open_42 x1 l3 ⟨fun z => ?_, fun z => ?_⟩
      · refine B (2 ^ m + 1) 0 0 k (by decide) (Nat.zero_le _) (Nat.lt_succ_of_le (Nat.sub_le _ _)) ok.1 (Fr_t2 r0 ok.2.1 (by decide)) ?_ ?_ ?_ ?_ ?_ ?_
        · rw [Ok_eq ok (by decide)]; exact v0
        · rw [Ok_eq ok (by decide)]; exact v1
        · rw [Ok_eq ok (by decide)]; exact v2
        · intro p hp'
          rw [Ok_eq ok (by decide), v3, bt_zr]
          exact ⟨fun z => absurd z (by decide), fun ⟨w, w1, _⟩ => absurd w1 (Nat.not_lt_zero _)⟩
        · intro p hp'
          rw [Ok_eq ok (by decide), v4, bt_zr]
          exact ⟨fun z => absurd z (by decide), fun ⟨w, w1, _⟩ => absurd w1 (Nat.not_lt_zero _)⟩
        · intro s hs
          rw [i_lt, ex1, e3] at z
          have pn := p2n hn
          exact ⟨fun q => absurd (cl s (by omega) hs) q, fun ⟨w, w1, _⟩ => absurd w1 (Nat.not_lt_zero _)⟩
      · rw [i_lt, ex1, e3] at z
        rw [i_nat e3]
        exact ⟨i_vp e3 (by omega), ih (l3 + 1) (v + 1) _ (i_inc e3 (by omega)) (by omega) (by omega) (Ok_w ok (k := 31) (lo := 0) (hi := 1) rfl ⟨by decide, by decide⟩ (by decide) (nt_k (by decide))) (fun s hs hs2 => by
          rw [mI_wI]
          split
          · rfl
          · rename_i q
            exact cl s (by have : ¬ s = v := fun z => q ⟨rfl, z⟩
                           omega) hs2)⟩
  exact A 257 0 0 h0 (by decide) (Nat.zero_le _) (by omega) (Ok_rf g0) (fun s hs => absurd hs (Nat.not_lt_zero _))
/-! LINES: what is asked of them -/
abbrev pcn (s : Nat) : Nat := S9 (fun t => bt (Int32.ofNat s) t)
theorem s9_le (g : Nat → Bool) : S9 g ≤ 9 := by
  have t : ∀ b : Bool, b.toNat ≤ 1 := fun b => by cases b <;> decide
  unfold S9
  have := t (g 0); have := t (g 1); have := t (g 2); have := t (g 3); have := t (g 4); have := t (g 5); have := t (g 6); have := t (g 7); have := t (g 8)
  omega
theorem pcn_i (s : Nat) : (Int32.ofNat (pcn s)).toInt = (pcn s : Int) := Int32.toInt_ofNat_of_lt (by have : pcn s ≤ 9 := s9_le _; omega)
theorem pl {a b : Nat} : Int32.ofNat (pcn a) ≤ Int32.ofNat (pcn b) ↔ pcn a ≤ pcn b := by
  rw [i_le, pcn_i, pcn_i]
  omega
/-! the rays that a text makes: numbers of -3 to 3, not all of them 0 -/
def Ge {α : Type} (o : rx_O α) (Q : α → (Nat → Int32) → Prop) : Prop := ∀ v e f, o = .inr (v, e, f) → Q v f
theorem Ge_no {α : Type} {T : Nat → Int32} {n e : Nat} {w : Int32} {Q : α → (Nat → Int32) → Prop} : Ge (rx_no T n e w : rx_O α) Q := fun _ _ _ h => by cases h
theorem Ge_in {α : Type} {v : α} {e : Nat} {f : Nat → Int32} {Q : α → (Nat → Int32) → Prop} (h : Q v f) : Ge (.inr (v, e, f) : rx_O α) Q := fun _ _ _ q => by cases q; exact h
theorem Ge_bind {α β : Type} {o : rx_O α} {k : α → Nat → (Nat → Int32) → rx_O β} {Q : α → (Nat → Int32) → Prop} {Q' : β → (Nat → Int32) → Prop} (h : Ge o Q) (hk : ∀ v e f, Q v f → Ge (k v e f) Q') : Ge (rx_bind o k) Q' := by
  intro v e f q
  cases a : o with
  | inl z => rw [a] at q; cases q
  | inr z =>
    obtain ⟨v1, e1, f1⟩ := z
    rw [a] at q
    exact hk v1 e1 f1 (h v1 e1 f1 a) v e f q
theorem Ge_ite {α : Type} {c : Prop} [Decidable c] {x y : rx_O α} {Q : α → (Nat → Int32) → Prop} (hx : c → Ge x Q) (hy : ¬ c → Ge y Q) : Ge (if c then x else y) Q := by
  by_cases h : c
  · rw [if_pos h]; exact hx h
  · rw [if_neg h]; exact hy h
theorem Ge_word {T : Nat → Int32} {n i e : Nat} {f : Nat → Int32} : Ge (rx_word T n i e f) (fun _ f' => f' = f) := Ge_ite (fun _ => Ge_in rfl) (fun _ => Ge_no)
theorem Ge_sign {T : Nat → Int32} {n : Nat} {c : Int32} {e : Nat} {f : Nat → Int32} : Ge (rx_sign T n c e f) (fun _ f' => f' = f) := Ge_ite (fun _ => Ge_in rfl) (fun _ => Ge_no)
theorem Ge_num {T : Nat → Int32} {n : Nat} {lo hi : Int32} {e : Nat} {f : Nat → Int32} : Ge (rx_num T n lo hi e f) (fun v f' => f' = f ∧ lo.toInt ≤ v.toInt ∧ v.toInt ≤ hi.toInt) := Ge_ite (fun _ => Ge_no) (fun _ => Ge_ite (fun h => Ge_in ⟨rfl, i_le.mp h.1, i_le.mp h.2⟩) (fun _ => Ge_no))
theorem Ge_name {T : Nat → Int32} {n : Nat} {lk : Bool} {e : Nat} {f : Nat → Int32} : Ge (rx_name T n lk e f) (fun k f' => f' = f ∧ k < 15) := by
  unfold rx_name
  refine Ge_ite (fun _ => ?_) (fun _ => Ge_no)
  cases a : rx_fd T n e f with
  | none => exact Ge_no
  | some j =>
    have j15 : j < 15 := List.mem_range.mp (List.mem_of_find?_eq_some a)
    refine Ge_ite (fun _ => Ge_in ⟨rfl, ?_⟩) (fun _ => Ge_no)
    split <;> omega
theorem Ge_mono {α : Type} {o : rx_O α} {Q Q' : α → (Nat → Int32) → Prop} (h : Ge o Q) (hq : ∀ v f, Q v f → Q' v f) : Ge o Q' := fun v e f q => hq v f (h v e f q)
abbrev LoR (f f' : Nat → Int32) : Prop := (∀ i, 85 ≤ i → i < 158 → f' i = f i) ∧ f' 52 = f 52 ∧ f' 0 = f 0
theorem rx_set_r {f f' : Nat → Int32} {j : Nat} {v : Int32} (hj : (j < 85 ∧ ¬ j = 52 ∧ ¬ j = 0) ∨ 158 ≤ j) (h : LoR f f') : LoR f (rx_set f' j v) := by
  refine ⟨fun i hi hk => ?_, ?_, ?_⟩
  · unfold rx_set
    rw [if_neg (by omega)]
    exact h.1 i hi hk
  · unfold rx_set
    rw [if_neg (by omega)]
    exact h.2.1
  · unfold rx_set
    rw [if_neg (by omega)]
    exact h.2.2
theorem Gr_nn {T : Nat → Int32} {n c fs : Nat} {mo : Int32} (hc : c = 50 ∨ c = 51) : ∀ (k e : Nat) (f0 f : Nat → Int32), LoR f0 f → Ge (rx_nn T n c fs mo k e f) (fun _ f' => LoR f0 f')
  | 0, _, _, _, _ => Ge_no
  | k + 1, e, f0, f, h => by
    unfold rx_nn
    have hp : LoR f0 (rx_set (rx_put T n e f (fs + (f c).toNatClampNeg)) c (f c + 1)) := rx_set_r (by omega) (by
      unfold rx_put
      refine ⟨fun i hi hk => ?_, ?_, ?_⟩
      · dsimp only
        rw [if_neg (by omega), if_neg (by omega)]
        exact h.1 i hi hk
      · dsimp only
        rw [if_neg (by omega), if_neg (by omega)]
        exact h.2.1
      · dsimp only
        rw [if_neg (by omega), if_neg (by omega)]
        exact h.2.2)
    exact Ge_ite (fun _ => Ge_ite (fun _ => Ge_no) (fun _ => Ge_ite (fun _ => Ge_no) (fun _ => Ge_ite (fun _ => Gr_nn hc k _ f0 _ hp) (fun _ => Ge_in hp)))) (fun _ => Ge_no)
theorem Gr_pt {T : Nat → Int32} {n l : Nat} (hl : l < 8) : ∀ (r : Nat) (u : Nat → Bool) (e : Nat) (f0 f : Nat → Int32), LoR f0 f → Ge (rx_pt T n l r u e f) (fun _ f' => LoR f0 f')
  | 0, _, _, _, _, h => Ge_in h
  | r + 1, u, e, f0, f, h => by
    unfold rx_pt
    refine Ge_bind (Q := fun _ f' => f' = f) (Ge_ite (fun _ => Ge_in rfl) (fun _ => Ge_sign)) (fun _ e0 f1 q1 => Ge_bind Ge_name (fun p e2 f2 q2 => Ge_ite (fun _ => Ge_no) (fun _ => Gr_pt hl r _ _ f0 _ (rx_set_r (by omega) ?_))))
    rw [q2.1, q1]
    exact h
theorem Gr_st {T : Nat → Int32} {n l : Nat} : ∀ (r : Nat) (e : Nat) (f0 f : Nat → Int32), LoR f0 f → Ge (rx_st T n l r e f) (fun _ f' => LoR f0 f')
  | 0, e, f0, f, h => by
    unfold rx_st
    exact Ge_bind Ge_name (fun _ _ _ _ => Ge_no)
  | r + 1, e, f0, f, h => by
    unfold rx_st
    refine Ge_bind Ge_name (fun k e1 f1 q1 => Ge_bind Ge_num (fun v e2 f2 q2 => ?_))
    have h2 : LoR f0 f2 := by rw [q2.1, q1.1]; exact h
    exact Ge_ite (fun _ => Gr_st r _ f0 _ (rx_set_r (by omega) (rx_set_r (by omega) h2))) (fun _ => Ge_in (rx_set_r (by omega) (rx_set_r (by omega) (rx_set_r (by omega) (rx_set_r (by omega) h2)))))
/-- as LoR, and a set more -/
def LoS (f f' : Nat → Int32) : Prop := (∀ i, 85 ≤ i → i < 158 → f' i = f i) ∧ f' 52 = f 52 ∧ f' 0 = f 0 + 1
theorem Gr_tm {T : Nat → Int32} {n s many : Nat} (s8 : s < 8) (m4 : many ≤ 4) : ∀ (r : Nat) (sum : Int32) (e : Nat) (f0 f : Nat → Int32), r ≤ many → LoR f0 f → Ge (rx_tm T n s many r sum e f) (fun _ f' => LoS f0 f')
  | 0, _, _, f0, f, _, h => Ge_in (by
      refine ⟨fun i hi hk => ?_, ?_, ?_⟩
      · unfold rx_set
        rw [if_neg (by omega)]
        exact h.1 i hi hk
      · unfold rx_set
        rw [if_neg (by omega)]
        exact h.2.1
      · unfold rx_set
        rw [if_pos rfl, h.2.2])
  | r + 1, sum, e, f0, f, hr, h => by
    unfold rx_tm
    refine Ge_bind (Q := fun _ f' => f' = f) (Ge_ite (fun _ => Ge_in rfl) (fun _ => Ge_sign)) (fun _ e0 f1 q0 => Ge_bind Ge_num (fun v e1 f2 q1 => Ge_ite (fun _ => Ge_no) (fun _ => Gr_tm s8 m4 r _ _ f0 _ (by omega) (rx_set_r (by omega) ?_))))
    rw [q1.1, q0]
    exact h
theorem Gr_tell {T : Nat → Int32} {n one e : Nat} {two : Int32} {f0 f : Nat → Int32} (s8 : (f 0).toNatClampNeg < 8) (h : LoR f0 f) : Ge (rx_tell T n one two e f) (fun _ f' => LoS f0 f') := by
  unfold rx_tell
  refine Ge_bind Ge_word (fun _ e1 f1 q1 => ?_)
  have h1 : LoR f0 f1 := by
    rw [q1]
    exact rx_set_r (by omega) (rx_set_r (by omega) h)
  by_cases w : two = -2
  · rw [if_pos w]
    exact Gr_tm s8 (by decide) 2 0 e1 f0 f1 (Nat.le_refl _) h1
  · rw [if_neg w]
    exact Gr_tm s8 (by decide) 4 0 e1 f0 f1 (Nat.le_refl _) h1
/-- the rays of a draft -/
def RZ (f : Nat → Int32) : Prop := (0 ≤ (f 85).toInt ∧ (f 85).toInt ≤ 18) ∧ ∀ i : Nat, (i : Int) < (f 85).toInt → (∀ q, q < 4 → R (-3) 3 (f (86 + 4 * i + q))) ∧ ∃ q, q < 4 ∧ ¬ f (86 + 4 * i + q) = 0
def RIf (f : Nat → Int32) : Prop := ((0 ≤ (f 52).toInt ∧ (f 52).toInt ≤ 8) ∧ (0 ≤ (f 0).toInt ∧ (f 0).toInt ≤ 8)) ∧ RZ f
theorem RZ_x {f f' : Nat → Int32} (h : ∀ i, 85 ≤ i → i < 158 → f' i = f i) (t : RZ f) : RZ f' := by
  obtain ⟨t1, t2⟩ := t
  unfold RZ
  rw [h 85 (by omega) (by omega)]
  refine ⟨t1, fun i hi => ?_⟩
  obtain ⟨a, q, hq, b⟩ := t2 i hi
  exact ⟨fun q hq => by rw [h _ (by omega) (by omega)]; exact a q hq, q, hq, by rw [h _ (by omega) (by omega)]; exact b⟩
theorem RIf_lo {f f' : Nat → Int32} (h : LoR f f') (t : RIf f) : RIf f' := ⟨by rw [h.2.1, h.2.2]; exact t.1, RZ_x h.1 t.2⟩
theorem Gr_setL {T : Nat → Int32} {n e : Nat} {f : Nat → Int32} (t : RIf f) : Ge (rx_setL T n e f) (fun _ f' => RIf f') := by
  unfold rx_setL
  refine Ge_ite (fun _ => Ge_no) (fun _ => Ge_ite (fun _ => Ge_no) (fun h8 => Ge_bind Ge_name (fun one e1 f1 q1 => ?_)))
  have e1' : f1 = f := q1.1
  subst e1'
  have n8 : ¬ (f1 0).toInt = 8 := fun z => h8 (Int32.toInt_inj.mp (by rw [z]; decide))
  obtain ⟨⟨t1, t2, t3⟩, t4⟩ := t
  have s8 : (f1 0).toNatClampNeg < 8 := by
    show (f1 0).toInt.toNat < 8
    omega
  have rf : LoR f1 f1 := ⟨fun _ _ _ => rfl, rfl, rfl⟩
  have up : ∀ (_ : Unit) (f' : Nat → Int32), LoS f1 f' → RIf f' := fun _ f' q => by
    refine ⟨⟨by rw [q.2.1]; exact t1, ?_⟩, RZ_x q.1 t4⟩
    rw [q.2.2, i_inc (k := (f1 0).toInt.toNat) (by omega) (by omega)]
    omega
  refine Ge_ite (fun _ => Ge_bind Ge_name (fun two e2 f2 q2 => Ge_ite (fun _ => Ge_no) (fun _ => ?_))) (fun _ => Ge_mono (Gr_tell s8 rf) up)
  have e2' : f2 = f1 := q2.1
  subst e2'
  exact Ge_mono (Gr_tell s8 rf) up
/-- a ray that is read: r numbers are to come -/
def PAf (l r : Nat) (an : Bool) (f : Nat → Int32) : Prop := ((0 ≤ (f 52).toInt ∧ (f 52).toInt ≤ 8) ∧ (0 ≤ (f 0).toInt ∧ (f 0).toInt ≤ 8)) ∧ (f 85).toInt = (l : Int) ∧ (∀ i : Nat, i < l → (∀ q, q < 4 → R (-3) 3 (f (86 + 4 * i + q))) ∧ ∃ q, q < 4 ∧ ¬ f (86 + 4 * i + q) = 0) ∧ (∀ q, q < 4 - r → R (-3) 3 (f (86 + 4 * l + q))) ∧ (an = true → ∃ q, q < 4 - r ∧ ¬ f (86 + 4 * l + q) = 0) ∧ (r = 0 → an = true)
theorem neg_R {v : Int32} (h : 0 ≤ v.toInt ∧ v.toInt ≤ 3) : R (-3) 3 (-v) := by
  have : v = 0 ∨ v = 1 ∨ v = 2 ∨ v = 3 := by
    have k : ∀ w : Int32, v.toInt = w.toInt → v = w := fun w e => Int32.toInt_inj.mp e
    have e : v.toInt = 0 ∨ v.toInt = 1 ∨ v.toInt = 2 ∨ v.toInt = 3 := by omega
    rcases e with e | e | e | e
    · exact Or.inl (k 0 e)
    · exact Or.inr (Or.inl (k 1 e))
    · exact Or.inr (Or.inr (Or.inl (k 2 e)))
    · exact Or.inr (Or.inr (Or.inr (k 3 e)))
  rcases this with e | e | e | e <;> rw [e] <;> exact ⟨by decide, by decide⟩
theorem neg_0 {v : Int32} (h : ¬ v = 0) : ¬ -v = 0 := fun z => h (by rw [← Int32.neg_neg (a := v), z]; rfl)
theorem Gr_pa {T : Nat → Int32} {n l : Nat} (hl : l < 18) : ∀ (r : Nat) (an : Bool) (e : Nat) (f : Nat → Int32), r ≤ 4 → PAf l r an f → Ge (rx_pa T n l r an e f) (fun _ f' => RIf f')
  | 0, an, e, f, _, t => by
    unfold rx_pa
    obtain ⟨t1, t2, t3, t4, t5, t6⟩ := t
    have o : ∀ i, ¬ i = 85 → rx_set f 85 (f 85 + 1) i = f i := fun i hi => by unfold rx_set; rw [if_neg hi]
    have o85 : (rx_set f 85 (f 85 + 1) 85).toInt = ((l + 1 : Nat) : Int) := by
      unfold rx_set
      rw [if_pos rfl]
      exact i_inc t2 (by omega)
    refine Ge_in ⟨by rw [o 52 (by omega), o 0 (by omega)]; exact t1, ⟨by rw [o85]; omega, fun i hi => ?_⟩⟩
    rw [o85] at hi
    have g : (∀ q, q < 4 → R (-3) 3 (f (86 + 4 * i + q))) ∧ ∃ q, q < 4 ∧ ¬ f (86 + 4 * i + q) = 0 := by
      by_cases y : i = l
      · rw [y]
        exact ⟨t4, t5 (t6 rfl)⟩
      · exact t3 i (by omega)
    obtain ⟨a, q, hq, b⟩ := g
    exact ⟨fun q hq => by rw [o _ (by omega)]; exact a q hq, q, hq, by rw [o _ (by omega)]; exact b⟩
  | r + 1, an, e, f, hr, t => by
    unfold rx_pa
    refine Ge_bind (Q := fun _ f' => f' = f) (Ge_ite (fun _ => Ge_in rfl) (fun _ => Ge_sign)) (fun _ e0 f0 q0 => Ge_bind Ge_num (fun v e1 f1 q1 => Ge_ite (fun _ => Ge_no) (fun hz => Gr_pa hl r _ _ _ (by omega) ?_)))
    have ef : f1 = f := q1.1.trans q0
    rw [ef]
    obtain ⟨t1, t2, t3, t4, t5, t6⟩ := t
    have v0 := q1.2.1
    have v3 := q1.2.2
    rw [show (0 : Int32).toInt = 0 from by decide] at v0
    rw [show (3 : Int32).toInt = 3 from by decide] at v3
    generalize hw : (if rx_k T n e0 = 45 then -v else v) = w
    have wr : R (-3) 3 w := by
      rw [← hw]
      split
      · exact neg_R ⟨v0, v3⟩
      · exact ⟨by omega, by omega⟩
    have w0 : ¬ v = 0 → ¬ w = 0 := fun z => by
      rw [← hw]
      split
      · exact neg_0 z
      · exact z
    have o : ∀ i, ¬ i = 86 + 4 * l + (3 - r) → rx_set f (86 + 4 * l + (3 - r)) w i = f i := fun i hi => by unfold rx_set; rw [if_neg hi]
    have oi : rx_set f (86 + 4 * l + (3 - r)) w (86 + 4 * l + (3 - r)) = w := by unfold rx_set; rw [if_pos rfl]
    refine ⟨by rw [o 52 (by omega), o 0 (by omega)]; exact t1, by rw [o 85 (by omega)]; exact t2, fun i hi => ?_, fun q hq => ?_, fun ha => ?_, fun h0 => ?_⟩
    · obtain ⟨a, q, hq, b⟩ := t3 i hi
      exact ⟨fun q hq => by rw [o _ (by omega)]; exact a q hq, q, hq, by rw [o _ (by omega)]; exact b⟩
    · by_cases y : q = 3 - r
      · rw [y, oi]; exact wr
      · rw [o _ (by omega)]; exact t4 q (by omega)
    · by_cases y : an = true
      · obtain ⟨q, hq, b⟩ := t5 y
        exact ⟨q, by omega, by rw [o _ (by omega)]; exact b⟩
      · have vz : ¬ v = 0 := by
          rw [Bool.not_eq_true] at y
          rw [y, Bool.false_or] at ha
          exact of_decide_eq_true ha
        exact ⟨3 - r, by omega, by rw [oi]; exact w0 vz⟩
    · by_cases y : an = true
      · rw [y]; rfl
      · rw [Bool.not_eq_true] at y
        rw [y, Bool.false_or]
        refine decide_eq_true (fun z => hz ⟨h0, y, z⟩)
theorem Gr_line {T : Nat → Int32} {n e : Nat} {f : Nat → Int32} (t : RIf f) : Ge (rx_line T n e f) (fun _ f' => RIf f') := by
  have lo : ∀ {o : rx_O Unit}, Ge o (fun _ f' => LoR f f') → Ge o (fun _ f' => RIf f') := fun h => Ge_mono h (fun _ f' q => RIf_lo q t)
  have rf : LoR f f := ⟨fun _ _ _ => rfl, rfl, rfl⟩
  unfold rx_line
  refine Ge_ite (fun _ => lo ?_) (fun _ => Ge_ite (fun _ => lo (Gr_nn (Or.inl rfl) _ _ f f rf)) (fun _ => Ge_ite (fun _ => lo (Gr_nn (Or.inr rfl) _ _ f f rf)) (fun _ => Ge_ite (fun _ => Gr_setL t) (fun _ => Ge_ite (fun _ => ?_) (fun _ => Ge_ite (fun _ => ?_) (fun _ => Ge_ite (fun _ => lo ?_) (fun _ => Ge_no)))))))
  · unfold rx_lawL
    refine Ge_ite (fun _ => Ge_bind Ge_word (fun _ e1 f1 q1 => Ge_bind Ge_num (fun v e2 f2 q2 => Ge_in (rx_set_r (by omega) ?_)))) (fun _ => Ge_no)
    rw [q2.1, q1]
    exact rf
  · unfold rx_lineL
    obtain ⟨⟨⟨b1, b2⟩, b0⟩, -⟩ := id t
    obtain ⟨l, el⟩ : ∃ l : Nat, (f 52).toInt = (l : Int) := ⟨(f 52).toInt.toNat, by omega⟩
    refine Ge_ite (fun _ => Ge_no) (fun h8 => ?_)
    have l8 : l < 8 := by
      have : ¬ (f 52).toInt = 8 := fun z => h8 (Int32.toInt_inj.mp (by rw [z]; decide))
      omega
    rw [i_nat el]
    refine Ge_bind (Gr_pt l8 3 _ _ f f rf) (fun _ e1 f1 q1 => Ge_bind Ge_word (fun _ e2 f2 q2 => ?_))
    have h2 : LoR f f2 := by rw [q2]; exact q1
    have up : ∀ f3 : Nat → Int32, LoR f f3 → RIf (rx_set f3 52 (f 52 + 1)) := fun f3 h3 => by
      refine ⟨⟨?_, by unfold rx_set; rw [if_neg (by decide), h3.2.2]; exact b0⟩, RZ_x (f := f3) (fun i h1 h2 => by unfold rx_set; rw [if_neg (by omega)]) (RIf_lo h3 t).2⟩
      unfold rx_set
      rw [if_pos rfl, i_inc el (by omega)]
      omega
    exact Ge_ite (fun _ => Ge_in (up _ (rx_set_r (by omega) h2))) (fun _ => Ge_ite (fun _ => Ge_in (up _ h2)) (fun _ => Ge_no))
  · unfold rx_rayL
    obtain ⟨b1, ⟨b2, b3⟩, b4⟩ := t
    obtain ⟨l, el⟩ : ∃ l : Nat, (f 85).toInt = (l : Int) := ⟨(f 85).toInt.toNat, by omega⟩
    refine Ge_ite (fun _ => Ge_no) (fun h18 => ?_)
    have l18 : l < 18 := by
      have : ¬ (f 85).toInt = 18 := fun z => h18 (Int32.toInt_inj.mp (by rw [z]; decide))
      omega
    rw [i_nat el]
    exact Gr_pa l18 4 false _ f (Nat.le_refl _) ⟨b1, el, fun i hi => b4 i (by omega), fun q hq => absurd hq (by omega), fun z => absurd z (by decide), fun z => absurd z (by decide)⟩
  · unfold rx_runL
    exact Ge_ite (fun _ => Ge_no) (fun _ => Gr_st 6 _ f f rf)
/-! the runs that a text makes: four at most, of 1 to 6 steps -/
theorem Ge_and {α : Type} {o : rx_O α} {Q Q' : α → (Nat → Int32) → Prop} (a : Ge o Q) (b : Ge o Q') : Ge o (fun v f => Q v f ∧ Q' v f) := fun v e f q => ⟨a v e f q, b v e f q⟩
abbrev LoU (f f' : Nat → Int32) : Prop := ∀ i, 158 ≤ i → i < 163 → f' i = f i
theorem rx_set_u {f f' : Nat → Int32} {j : Nat} {v : Int32} (hj : j < 158 ∨ 163 ≤ j) (h : LoU f f') : LoU f (rx_set f' j v) := fun i h1 h2 => by
  unfold rx_set
  rw [if_neg (by omega)]
  exact h i h1 h2
theorem Gu_nn {T : Nat → Int32} {n c fs : Nat} {mo : Int32} (hc : c = 50 ∨ c = 51) : ∀ (k e : Nat) (f0 f : Nat → Int32), LoU f0 f → Ge (rx_nn T n c fs mo k e f) (fun _ f' => LoU f0 f')
  | 0, _, _, _, _ => Ge_no
  | k + 1, e, f0, f, h => by
    unfold rx_nn
    have hp : LoU f0 (rx_set (rx_put T n e f (fs + (f c).toNatClampNeg)) c (f c + 1)) := rx_set_u (by omega) (fun i h1 h2 => by
      unfold rx_put
      rw [if_neg (by omega), if_neg (by omega)]
      exact h i h1 h2)
    exact Ge_ite (fun _ => Ge_ite (fun _ => Ge_no) (fun _ => Ge_ite (fun _ => Ge_no) (fun _ => Ge_ite (fun _ => Gu_nn hc k _ f0 _ hp) (fun _ => Ge_in hp)))) (fun _ => Ge_no)
theorem Gu_pt {T : Nat → Int32} {n l : Nat} (hl : l < 8) : ∀ (r : Nat) (u : Nat → Bool) (e : Nat) (f0 f : Nat → Int32), LoU f0 f → Ge (rx_pt T n l r u e f) (fun _ f' => LoU f0 f')
  | 0, _, _, _, _, h => Ge_in h
  | r + 1, u, e, f0, f, h => by
    unfold rx_pt
    refine Ge_bind (Q := fun _ f' => f' = f) (Ge_ite (fun _ => Ge_in rfl) (fun _ => Ge_sign)) (fun _ e0 f1 q1 => Ge_bind Ge_name (fun p e2 f2 q2 => Ge_ite (fun _ => Ge_no) (fun _ => Gu_pt hl r _ _ f0 _ (rx_set_u (by omega) ?_))))
    rw [q2.1, q1]
    exact h
theorem Gu_tm {T : Nat → Int32} {n s many : Nat} (s8 : s < 8) (m4 : many ≤ 4) : ∀ (r : Nat) (sum : Int32) (e : Nat) (f0 f : Nat → Int32), r ≤ many → LoU f0 f → Ge (rx_tm T n s many r sum e f) (fun _ f' => LoU f0 f')
  | 0, _, _, f0, f, _, h => Ge_in (rx_set_u (by omega) h)
  | r + 1, sum, e, f0, f, hr, h => by
    unfold rx_tm
    refine Ge_bind (Q := fun _ f' => f' = f) (Ge_ite (fun _ => Ge_in rfl) (fun _ => Ge_sign)) (fun _ e0 f1 q0 => Ge_bind Ge_num (fun v e1 f2 q1 => Ge_ite (fun _ => Ge_no) (fun _ => Gu_tm s8 m4 r _ _ f0 _ (by omega) (rx_set_u (by omega) ?_))))
    rw [q1.1, q0]
    exact h
theorem Gu_tell {T : Nat → Int32} {n one e : Nat} {two : Int32} {f0 f : Nat → Int32} (s8 : (f 0).toNatClampNeg < 8) (h : LoU f0 f) : Ge (rx_tell T n one two e f) (fun _ f' => LoU f0 f') := by
  unfold rx_tell
  refine Ge_bind Ge_word (fun _ e1 f1 q1 => ?_)
  have h1 : LoU f0 f1 := by
    rw [q1]
    exact rx_set_u (by omega) (rx_set_u (by omega) h)
  by_cases w : two = -2
  · rw [if_pos w]
    exact Gu_tm s8 (by decide) 2 0 e1 f0 f1 (Nat.le_refl _) h1
  · rw [if_neg w]
    exact Gu_tm s8 (by decide) 4 0 e1 f0 f1 (Nat.le_refl _) h1
theorem Gu_pa {T : Nat → Int32} {n l : Nat} (hl : l < 18) : ∀ (r : Nat) (an : Bool) (e : Nat) (f0 f : Nat → Int32), r ≤ 4 → LoU f0 f → Ge (rx_pa T n l r an e f) (fun _ f' => LoU f0 f')
  | 0, an, e, f0, f, _, h => by
    unfold rx_pa
    exact Ge_in (rx_set_u (by omega) h)
  | r + 1, an, e, f0, f, hr, h => by
    unfold rx_pa
    refine Ge_bind (Q := fun _ f' => f' = f) (Ge_ite (fun _ => Ge_in rfl) (fun _ => Ge_sign)) (fun _ e0 f1 q0 => Ge_bind Ge_num (fun v e1 f2 q1 => Ge_ite (fun _ => Ge_no) (fun hz => Gu_pa hl r _ _ f0 _ (by omega) (rx_set_u (by omega) ?_))))
    rw [q1.1, q0]
    exact h
def UZ (f : Nat → Int32) : Prop := (0 ≤ (f 158).toInt ∧ (f 158).toInt ≤ 4) ∧ ∀ r : Nat, (r : Int) < (f 158).toInt → 1 ≤ (f (159 + r)).toInt ∧ (f (159 + r)).toInt ≤ 6
theorem UZ_x {f f' : Nat → Int32} (h : LoU f f') (t : UZ f) : UZ f' := by
  obtain ⟨t1, t2⟩ := t
  unfold UZ
  rw [h 158 (by omega) (by omega)]
  exact ⟨t1, fun r hr => by rw [h (159 + r) (by omega) (by omega)]; exact t2 r hr⟩
theorem Gu_st {T : Nat → Int32} {n l : Nat} (hl : l < 4) : ∀ (r : Nat) (e : Nat) (f0 f : Nat → Int32), r ≤ 6 → (f0 158).toInt = (l : Int) → UZ f0 → LoU f0 f → Ge (rx_st T n l r e f) (fun _ f' => UZ f')
  | 0, e, f0, f, _, _, _, h => by
    unfold rx_st
    exact Ge_bind Ge_name (fun _ _ _ _ => Ge_no)
  | r + 1, e, f0, f, hr, e0, t, h => by
    unfold rx_st
    refine Ge_bind Ge_name (fun k e1 f1 q1 => Ge_bind Ge_num (fun v e2 f2 q2 => ?_))
    have h2 : LoU f0 f2 := by rw [q2.1, q1.1]; exact h
    refine Ge_ite (fun _ => Gu_st hl r _ f0 _ (by omega) e0 t (rx_set_u (by omega) (rx_set_u (by omega) h2))) (fun _ => Ge_in ?_)
    have h3 : LoU f0 (rx_set (rx_set f2 (163 + 6 * l + (5 - r)) (Int32.ofNat k)) (187 + 6 * l + (5 - r)) v) := rx_set_u (by omega) (rx_set_u (by omega) h2)
    have ef : f 158 = f0 158 := h 158 (by omega) (by omega)
    generalize rx_set (rx_set f2 (163 + 6 * l + (5 - r)) (Int32.ofNat k)) (187 + 6 * l + (5 - r)) v = f3 at h3 ⊢
    have ev : ∀ x : Nat → Int32, x 158 = f0 158 → (x 158 + 1).toInt = ((l + 1 : Nat) : Int) := fun x hx => by
      rw [hx]
      exact i_inc e0 (by omega)
    have n6 : (Int32.ofNat (6 - r)).toInt = ((6 - r : Nat) : Int) := Int32.toInt_ofNat_of_lt (by omega)
    have a158 : ∀ w : Int32, rx_set (rx_set f3 (159 + l) (Int32.ofNat (6 - r))) 158 w 158 = w := fun w => by
      unfold rx_set
      rw [if_pos rfl]
    have aq : ∀ (w : Int32) (i : Nat), ¬ 159 + i = 158 → rx_set (rx_set f3 (159 + l) (Int32.ofNat (6 - r))) 158 w (159 + i) = if i = l then Int32.ofNat (6 - r) else f3 (159 + i) := fun w i hi => by
      unfold rx_set
      rw [if_neg hi]
      by_cases y : i = l
      · rw [if_pos y, if_pos (by omega)]
      · rw [if_neg y, if_neg (by omega)]
    unfold UZ
    rw [a158]
    have e158 : (f2 158 + 1).toInt = ((l + 1 : Nat) : Int) := ev f2 (h2 158 (by omega) (by omega))
    first
      | rw [e158]
      | rw [ev f ef]
    refine ⟨⟨by omega, by omega⟩, fun i hi => ?_⟩
    rw [aq _ i (by omega)]
    by_cases y : i = l
    · rw [if_pos y, n6]
      exact ⟨by omega, by omega⟩
    · rw [if_neg y, h3 (159 + i) (by omega) (by omega)]
      exact t.2 i (by rw [e0]; omega)
theorem Gu_line {T : Nat → Int32} {n e : Nat} {f : Nat → Int32} (t : RIf f) (u : UZ f) : Ge (rx_line T n e f) (fun _ f' => UZ f') := by
  have lo : ∀ {o : rx_O Unit}, Ge o (fun _ f' => LoU f f') → Ge o (fun _ f' => UZ f') := fun h => Ge_mono h (fun _ f' q => UZ_x q u)
  have rf : LoU f f := fun _ _ _ => rfl
  obtain ⟨⟨⟨b1, b2⟩, ⟨c1, c2⟩⟩, ⟨d1, d2⟩, -⟩ := id t
  unfold rx_line
  refine Ge_ite (fun _ => lo ?_) (fun _ => Ge_ite (fun _ => lo (Gu_nn (Or.inl rfl) _ _ f f rf)) (fun _ => Ge_ite (fun _ => lo (Gu_nn (Or.inr rfl) _ _ f f rf)) (fun _ => Ge_ite (fun _ => lo ?_) (fun _ => Ge_ite (fun _ => lo ?_) (fun _ => Ge_ite (fun _ => lo ?_) (fun _ => Ge_ite (fun _ => ?_) (fun _ => Ge_no)))))))
  · unfold rx_lawL
    refine Ge_ite (fun _ => Ge_bind Ge_word (fun _ e1 f1 q1 => Ge_bind Ge_num (fun v e2 f2 q2 => Ge_in (rx_set_u (by omega) ?_)))) (fun _ => Ge_no)
    rw [q2.1, q1]
    exact rf
  · unfold rx_setL
    refine Ge_ite (fun _ => Ge_no) (fun _ => Ge_ite (fun _ => Ge_no) (fun h8 => Ge_bind Ge_name (fun one e1 f1 q1 => ?_)))
    have e1' : f1 = f := q1.1
    subst e1'
    have n8 : ¬ (f1 0).toInt = 8 := fun z => h8 (Int32.toInt_inj.mp (by rw [z]; decide))
    have s8 : (f1 0).toNatClampNeg < 8 := by
      show (f1 0).toInt.toNat < 8
      omega
    refine Ge_ite (fun _ => Ge_bind Ge_name (fun two e2 f2 q2 => Ge_ite (fun _ => Ge_no) (fun _ => ?_))) (fun _ => Gu_tell s8 rf)
    have e2' : f2 = f1 := q2.1
    subst e2'
    exact Gu_tell s8 rf
  · unfold rx_lineL
    obtain ⟨l, el⟩ : ∃ l : Nat, (f 52).toInt = (l : Int) := ⟨(f 52).toInt.toNat, by omega⟩
    refine Ge_ite (fun _ => Ge_no) (fun h8 => ?_)
    have l8 : l < 8 := by
      have : ¬ (f 52).toInt = 8 := fun z => h8 (Int32.toInt_inj.mp (by rw [z]; decide))
      omega
    rw [i_nat el]
    refine Ge_bind (Gu_pt l8 3 _ _ f f rf) (fun _ e1 f1 q1 => Ge_bind Ge_word (fun _ e2 f2 q2 => ?_))
    have h2 : LoU f f2 := by rw [q2]; exact q1
    exact Ge_ite (fun _ => Ge_in (rx_set_u (by omega) (rx_set_u (by omega) h2))) (fun _ => Ge_ite (fun _ => Ge_in (rx_set_u (by omega) h2)) (fun _ => Ge_no))
  · unfold rx_rayL
    obtain ⟨l, el⟩ : ∃ l : Nat, (f 85).toInt = (l : Int) := ⟨(f 85).toInt.toNat, by omega⟩
    refine Ge_ite (fun _ => Ge_no) (fun h18 => ?_)
    have l18 : l < 18 := by
      have : ¬ (f 85).toInt = 18 := fun z => h18 (Int32.toInt_inj.mp (by rw [z]; decide))
      omega
    rw [i_nat el]
    exact Gu_pa l18 4 false _ f f (Nat.le_refl _) rf
  · unfold rx_runL
    obtain ⟨l, el⟩ : ∃ l : Nat, (f 158).toInt = (l : Int) := ⟨(f 158).toInt.toNat, by have := u.1.1; omega⟩
    refine Ge_ite (fun _ => Ge_no) (fun h4 => ?_)
    have l4 : l < 4 := by
      have : ¬ (f 158).toInt = 4 := fun z => h4 (Int32.toInt_inj.mp (by rw [z]; decide))
      have := u.1.2
      omega
    rw [i_nat el]
    exact Gu_st l4 6 _ f f (Nat.le_refl _) el u rf
theorem Gu_text {T : Nat → Int32} {n : Nat} : ∀ (k e : Nat) (f : Nat → Int32), RIf f → UZ f → Ge (rx_text T n k e f) (fun _ f' => UZ f')
  | 0, _, _, _, _ => Ge_no
  | k + 1, e, f, t, u => by
    unfold rx_text
    exact Ge_bind (Ge_and (Gr_line t) (Gu_line t u)) (fun _ e1 f1 q1 => Ge_ite (fun _ => Ge_ite (fun _ => Ge_no) (fun _ => Ge_in q1.2)) (fun _ => Ge_ite (fun _ => Gu_text k _ _ q1.1 q1.2) (fun _ => Ge_no)))
theorem book_UZ {T : Nat → Int32} {n e : Nat} {f : Nat → Int32} (h : rx_book T n = .inr ((), e, f)) : UZ f :=
  Gu_text (n + 1) 0 (fun _ => 0) ⟨⟨⟨by decide, by decide⟩, ⟨by decide, by decide⟩⟩, ⟨by decide, by decide⟩, fun i hi => absurd hi (by show ¬ (i : Int) < (0 : Int32).toInt; rw [show (0 : Int32).toInt = 0 from by decide]; omega)⟩ ⟨⟨by decide, by decide⟩, fun i hi => absurd hi (by show ¬ (i : Int) < (0 : Int32).toInt; rw [show (0 : Int32).toInt = 0 from by decide]; omega)⟩ () e f h
/-! the class's runs as one list of steps -/
def ofL (ln : Nat → Nat) : Nat → Nat
  | 0 => 0
  | r + 1 => ofL ln r + ln r
theorem ofL_m {ln : Nat → Nat} {r r' j : Nat} (h : r' < r) (hj : j < ln r') : ofL ln r' + j < ofL ln r := by
  have a : ∀ d, ofL ln (r' + 1) ≤ ofL ln (r' + 1 + d) := fun d => by
    induction d with
    | zero => exact Nat.le_refl _
    | succ d ih => exact Nat.le_trans ih (Nat.le_add_right _ _)
  have b := a (r - (r' + 1))
  rw [show r' + 1 + (r - (r' + 1)) = r by omega] at b
  have c : ofL ln (r' + 1) = ofL ln r' + ln r' := rfl
  omega
theorem ofL_24 {ln : Nat → Nat} {n : Nat} (h : ∀ r, r < n → ln r ≤ 6) : ∀ r, r ≤ n → ofL ln r ≤ 6 * r
  | 0, _ => Nat.le_refl 0
  | r + 1, hr => by
    have a := ofL_24 h r (by omega)
    have b := h r (by omega)
    show ofL ln r + ln r ≤ 6 * (r + 1)
    omega
/-- the steps of the runs ahead of r, and j of run r, are written -/
def DL (ln : Nat → Nat) (r j : Nat) (h0 h : mh_T) : Prop := ∀ r' j', ((r' < r ∧ j' < ln r') ∨ (r' = r ∧ j' < j)) → mI h 34 (ofL ln r' + j') = mI h0 22 (6 * r' + j') ∧ mI h 35 (ofL ln r' + j') = mI h0 23 (6 * r' + j') ∧ (¬ mI h 36 (ofL ln r' + j') = 0 ↔ j' + 1 = ln r')
set_option maxHeartbeats 4000000 in
theorem v_X9_openL {g : gT} {h0 : mh_T} {P : mh_T → Prop} {n : Nat} {ln : Nat → Nat} {v0 : Int32} (e0 : v0.toInt = (n : Int)) (n4 : n ≤ 4) (hl : ∀ r, r < n → (mI h0 21 r).toInt = (ln r : Int) ∧ 1 ≤ ln r ∧ ln r ≤ 6) (hp : ∀ h', Ok [9, 34, 35, 36] h0 h' → mI h' 9 0 = v0 → mI h' 9 3 = 0 → (mI h' 9 2).toInt = (ofL ln n : Int) → DL ln n 0 h0 h' → P h') : ∀ M : Nat, (∀ (l2 : Int32) (r : Nat) (h : mh_T), l2.toInt = (r : Int) → r ≤ n → 8 * (4 - r) + 7 < M → Ok [9, 34, 35, 36] h0 h → mI h 9 0 = v0 → mI h 9 3 = 0 → (mI h 9 2).toInt = (ofL ln r : Int) → DL ln r 0 h0 h → ME g uX9_open 20 [.ref 9, .ref 2, .int l2, .retAddr 0, .retAddr 0] [] h (qV P)) ∧ (∀ (l2 l3 l4 : Int32) (r j : Nat) (h : mh_T), l2.toInt = (r : Int) → r < n → l3.toInt = (ln r : Int) → l4.toInt = (j : Int) → j ≤ ln r → 8 * (4 - r) + (6 - j) < M → Ok [9, 34, 35, 36] h0 h → mI h 9 0 = v0 → mI h 9 3 = 0 → (mI h 9 2).toInt = ((ofL ln r + j : Nat) : Int) → DL ln r j h0 h → ME g uX9_open 38 [.ref 9, .ref 2, .int l2, .int l3, .int l4] [] h (qV P)) := by
  intro M
  induction M with
  | zero => exact ⟨fun _ _ _ _ _ hm => absurd hm (Nat.not_lt_zero _), fun _ _ _ _ _ _ _ _ _ _ _ hm => absurd hm (Nat.not_lt_zero _)⟩
  | succ M ih =>
    refine ⟨?_, ?_⟩
    · intro l2 r h e2 rn hM ok v9 v3 q2 dl
      refine r_X9_open_20 l2 ⟨fun c => ?_, fun c => ?_⟩
      · rw [i_le, v9, e0, e2] at c
        have er : r = n := by omega
        rw [er] at q2 dl
        exact hp h ok v9 v3 q2 dl
      · rw [i_le, v9, e0, e2] at c
        refine ⟨i_vp e2 (by omega), fun x3 e3 => ?_⟩
        rw [i_nat e2, show mI h 21 r = mI h0 21 r from Ok_eq ok (by decide)] at e3
        exact ih.2 l2 x3 0 r 0 h e2 (by omega) (by rw [e3]; exact (hl r (by omega)).1) (by decide) (Nat.zero_le _) (by omega) ok v9 v3 q2 dl
    · intro l2 l3 l4 r j h e2 rn e3 e4 jl hM ok v9 v3 q2 dl
      obtain ⟨-, l1', l6'⟩ := hl r rn
      refine r_X9_open_38 l2 l3 l4 ⟨fun c => ?_, fun c => ?_⟩
      · rw [i_le, e3, e4] at c
        have ej : j = ln r := by omega
        rw [ej] at q2 dl
        refine ih.1 (l2 + 1) (r + 1) h (i_inc e2 (by omega)) rn (by omega) ok v9 v3 q2 (fun r' j' w => dl r' j' ?_)
        rcases w with ⟨w1, w2⟩ | ⟨-, w2⟩
        · by_cases y : r' = r
          · exact Or.inr ⟨y, by rw [← y]; exact w2⟩
          · exact Or.inl ⟨by omega, w2⟩
        · exact absurd w2 (Nat.not_lt_zero _)
      · rw [i_le, e3, e4] at c
        have o6 := ofL_24 (fun r hr => (hl r hr).2.2) r (by omega)
        have e6 : (6 * l2).toInt = ((6 * r : Nat) : Int) := by
          rw [Int32.toInt_mul, show (6 : Int32).toInt = 6 from by decide, e2, bm (by omega) (by omega)]
          omega
        have ei : (6 * l2 + l4).toInt = ((6 * r + j : Nat) : Int) := by
          rw [i_add e6 e4 (by omega)]
          omega
        have em : (l3 - 1).toInt = (ln r : Int) - 1 := i_sub e3 (show (1 : Int32).toInt = 1 from by decide) (by omega)
        have vi : vp_in (6 * l2 + l4) 24 := i_vp ei (by omega)
        have vs : vp_in (mI h 9 2) 24 := i_vp q2 (by omega)
        have eT : (mI h 9 2).toNatClampNeg = ofL ln r + j := i_nat q2
        have fa : R 0 5 (mI h 22 (6 * l2 + l4).toNatClampNeg) := GI_rd ok.1 22 _ rfl
        have fb : R 0 1 (mI h 23 (6 * l2 + l4).toNatClampNeg) := GI_rd ok.1 23 _ rfl
        have e22 : mI h 22 (6 * l2 + l4).toNatClampNeg = mI h0 22 (6 * r + j) := by rw [i_nat ei]; exact Ok_eq ok (by decide)
        have e23 : mI h 23 (6 * l2 + l4).toNatClampNeg = mI h0 23 (6 * r + j) := by rw [i_nat ei]; exact Ok_eq ok (by decide)
        have st : ∀ e : Int32, R 0 1 e → (¬ e = 0 ↔ j + 1 = ln r) → ME g uX9_open 38 [.ref 9, .ref 2, .int l2, .int l3, .int (l4 + 1)] [] (wI (wI (wI (wI h 34 (mI h 9 2).toNatClampNeg (mI h 22 (6 * l2 + l4).toNatClampNeg)) 35 (mI h 9 2).toNatClampNeg (mI h 23 (6 * l2 + l4).toNatClampNeg)) 36 (mI h 9 2).toNatClampNeg e) 9 2 (mI h 9 2 + 1)) (qV P) := fun e fe he => by
          have es := i_inc q2 (by omega)
          have o1 := Ok_w ok (k := 34) (j := (mI h 9 2).toNatClampNeg) (v := mI h 22 (6 * l2 + l4).toNatClampNeg) (lo := 0) (hi := 5) rfl fa (by decide) (nt_k (by decide))
          have o2 := Ok_w o1 (k := 35) (j := (mI h 9 2).toNatClampNeg) (v := mI h 23 (6 * l2 + l4).toNatClampNeg) (lo := 0) (hi := 1) rfl fb (by decide) (nt_k (by decide))
          have o3 := Ok_w o2 (k := 36) (j := (mI h 9 2).toNatClampNeg) (v := e) (lo := 0) (hi := 1) rfl fe (by decide) (nt_k (by decide))
          have o4 := Ok_w o3 (k := 9) (j := 2) (v := mI h 9 2 + 1) (lo := 0) (hi := 24) (by decide) ⟨by omega, by omega⟩ (by decide) (by decide)
          have c9 : ∀ i, ¬ i = 2 → mI (wI (wI (wI (wI h 34 (mI h 9 2).toNatClampNeg (mI h 22 (6 * l2 + l4).toNatClampNeg)) 35 (mI h 9 2).toNatClampNeg (mI h 23 (6 * l2 + l4).toNatClampNeg)) 36 (mI h 9 2).toNatClampNeg e) 9 2 (mI h 9 2 + 1)) 9 i = mI h 9 i := fun i hi => by rw [mI_wI, if_neg (fun z => hi z.2), mI_wI, if_neg (fun z => absurd z.1 (by decide)), mI_wI, if_neg (fun z => absurd z.1 (by decide)), mI_wI, if_neg (fun z => absurd z.1 (by decide))]
          have c34 : ∀ q, mI (wI (wI (wI (wI h 34 (mI h 9 2).toNatClampNeg (mI h 22 (6 * l2 + l4).toNatClampNeg)) 35 (mI h 9 2).toNatClampNeg (mI h 23 (6 * l2 + l4).toNatClampNeg)) 36 (mI h 9 2).toNatClampNeg e) 9 2 (mI h 9 2 + 1)) 34 q = if q = ofL ln r + j then mI h0 22 (6 * r + j) else mI h 34 q := fun q => by
            rw [mI_wI, if_neg (fun z => absurd z.1 (by decide)), mI_wI, if_neg (fun z => absurd z.1 (by decide)), mI_wI, if_neg (fun z => absurd z.1 (by decide)), mI_wI, eT, e22]
            by_cases w : q = ofL ln r + j
            · rw [if_pos ⟨rfl, w⟩, if_pos w]
            · rw [if_neg (fun z => w z.2), if_neg w]
          have c35 : ∀ q, mI (wI (wI (wI (wI h 34 (mI h 9 2).toNatClampNeg (mI h 22 (6 * l2 + l4).toNatClampNeg)) 35 (mI h 9 2).toNatClampNeg (mI h 23 (6 * l2 + l4).toNatClampNeg)) 36 (mI h 9 2).toNatClampNeg e) 9 2 (mI h 9 2 + 1)) 35 q = if q = ofL ln r + j then mI h0 23 (6 * r + j) else mI h 35 q := fun q => by
            rw [mI_wI, if_neg (fun z => absurd z.1 (by decide)), mI_wI, if_neg (fun z => absurd z.1 (by decide)), mI_wI, eT, e23]
            by_cases w : q = ofL ln r + j
            · rw [if_pos ⟨rfl, w⟩, if_pos w]
            · rw [if_neg (fun z => w z.2), if_neg w, mI_wI, if_neg (fun z => absurd z.1 (by decide))]
          have c36 : ∀ q, mI (wI (wI (wI (wI h 34 (mI h 9 2).toNatClampNeg (mI h 22 (6 * l2 + l4).toNatClampNeg)) 35 (mI h 9 2).toNatClampNeg (mI h 23 (6 * l2 + l4).toNatClampNeg)) 36 (mI h 9 2).toNatClampNeg e) 9 2 (mI h 9 2 + 1)) 36 q = if q = ofL ln r + j then e else mI h 36 q := fun q => by
            rw [mI_wI, if_neg (fun z => absurd z.1 (by decide)), mI_wI, eT]
            by_cases w : q = ofL ln r + j
            · rw [if_pos ⟨rfl, w⟩, if_pos w]
            · rw [if_neg (fun z => w z.2), if_neg w, mI_wI, if_neg (fun z => absurd z.1 (by decide)), mI_wI, if_neg (fun z => absurd z.1 (by decide))]
          refine ih.2 l2 l3 (l4 + 1) r (j + 1) _ e2 rn e3 (i_inc e4 (by omega)) (by omega) (by omega) o4 (by rw [c9 0 (by decide)]; exact v9) (by rw [c9 3 (by decide)]; exact v3) (by rw [mI_wI, if_pos ⟨rfl, rfl⟩]; exact es) (fun r' j' w => ?_)
          rw [c34, c35, c36]
          by_cases y : ofL ln r' + j' = ofL ln r + j
          · have yr : r' = r ∧ j' = j := by
              rcases w with ⟨w1, w2⟩ | ⟨w1, w2⟩
              · have := ofL_m w1 w2
                omega
              · rw [w1] at y
                exact ⟨w1, by omega⟩
            rw [if_pos y, if_pos y, if_pos y, yr.1, yr.2]
            exact ⟨rfl, rfl, he⟩
          · rw [if_neg y, if_neg y, if_neg y]
            refine dl r' j' (w.imp id (fun w => ⟨w.1, ?_⟩))
            have := w.2
            refine Nat.lt_of_le_of_ne (by omega) (fun z => y (by rw [w.1, z]))
        refine ⟨vi, vs, vi, vs, fun c2 => ⟨vs, st 0 ⟨by decide, by decide⟩ ⟨fun z => absurd rfl z, fun z => absurd (Int32.toInt_inj.mp ?_) c2⟩⟩, fun c2 => ⟨vs, st 1 ⟨by decide, by decide⟩ ⟨fun _ => ?_, fun _ => by decide⟩⟩⟩
        · rw [e4, em]
          omega
        · have := congrArg Int32.toInt c2
          rw [e4, em] at this
          omega
theorem v_X9_open {g : gT} {h : mh_T} {P : mh_T → Prop} {n : Nat} {ln : Nat → Nat} (hG : GI h) (e0 : (mI h 2 6).toInt = (n : Int)) (n4 : n ≤ 4) (hl : ∀ r, r < n → (mI h 21 r).toInt = (ln r : Int) ∧ 1 ≤ ln r ∧ ln r ≤ 6) (hp : ∀ h', Ok [9, 34, 35, 36] h h' → mI h' 9 0 = mI h 2 6 → mI h' 9 3 = 0 → (mI h' 9 2).toInt = (ofL ln n : Int) → DL ln n 0 h h' → P h') : MCv g yX9_open uX9_open [.ref 9, .ref 2] h P := by
  have f0 : R 0 0 0 := ⟨by decide, by decide⟩
  have o1 := Ok_w (ms := [9, 34, 35, 36]) (Ok_rf hG) (k := 9) (j := 0) (v := mI h 2 6) (lo := 0) (hi := 4) (by decide) (GI_rd hG 2 6 (by decide)) (by decide) (by decide)
  have o2 := Ok_w o1 (k := 9) (j := 2) (v := 0) (lo := 0) (hi := 24) (by decide) (R_w f0 (by decide)) (by decide) (by decide)
  have o3 := Ok_w o2 (k := 9) (j := 3) (v := 0) (lo := 0) (hi := 1) (by decide) (R_w f0 (by decide)) (by decide) (by decide)
  refine e_X9_open ?_
  refine (v_X9_openL e0 n4 hl hp 40).1 0 0 _ (by decide) (Nat.zero_le _) (by decide) o3 (by rw [mI_wI, if_neg (by decide), mI_wI, if_neg (by decide), mI_wI, if_pos ⟨rfl, rfl⟩]) (by rw [mI_wI, if_pos ⟨rfl, rfl⟩]) (by rw [mI_wI, if_neg (by decide), mI_wI, if_pos ⟨rfl, rfl⟩]; rfl) (fun r' j' w => ?_)
  rcases w with ⟨w, -⟩ | ⟨-, w⟩ <;> exact absurd w (Nat.not_lt_zero _)
/-- the class's table just after a book, and its history -/
def Tb (f : Nat → Int32) (h : mh_T) : Prop := mI h 3 2 = f 0 ∧ (∀ s : Nat, s < 8 → (s : Int) < (f 0).toInt → h.1 24 s = f (1 + s) ∧ h.1 25 s = f (9 + s)) ∧ (∀ i, i < 32 → h.1 26 i = f (17 + i)) ∧ (∀ i, i < 32 → h.1 27 i = 0) ∧ mI h 10 0 = 0 ∧ mI h 10 1 = 0 ∧ mI h 10 2 = 0
theorem Ok_62 {ms : List Nat} {h h' : mh_T} (ok : Ok ms h h') (hm : 302 ∉ ms) : H62 h h' := by
  rcases ok.2.2.2.2.2.2.2.1 with z | z
  · exact absurd z hm
  · exact z
theorem Ok_24 {ms : List Nat} {h h' : mh_T} (ok : Ok ms h h') (hm : 301 ∉ ms) : ∀ j, 24 ≤ j → j ≤ 26 → mI h' 11 j = mI h 11 j := by
  rcases ok.2.2.2.2.2.2.2.2 with z | z
  · exact absurd z hm
  · exact z
abbrev msD : List Nat := [0, 1, 2, 3, 4, 5, 6, 7, 8, 9, 10, 13, 14, 15, 16, 17, 18, 19, 20, 21, 22, 23, 24, 25, 26, 27, 28, 29, 30, 31, 32, 33, 34, 35, 36, 37, 38, 39, 302]
/-- the class's runs just after a book: one list of steps -/
def Ub (f : Nat → Int32) (h : mh_T) : Prop := mI h 9 3 = 0 ∧ (mI h 9 2).toInt = (ofL (fun r => (f (159 + r)).toInt.toNat) (f 158).toInt.toNat : Int) ∧ ∀ r j, r < (f 158).toInt.toNat → j < (f (159 + r)).toInt.toNat → mI h 34 (ofL (fun r => (f (159 + r)).toInt.toNat) r + j) = f (163 + 6 * r + j) ∧ mI h 35 (ofL (fun r => (f (159 + r)).toInt.toNat) r + j) = f (187 + 6 * r + j) ∧ (¬ mI h 36 (ofL (fun r => (f (159 + r)).toInt.toNat) r + j) = 0 ↔ j + 1 = (f (159 + r)).toInt.toNat)
/-- the class's book: what it answers, what stays -/
theorem s_X4_open' {g : gT} {h : mh_T} {P : mh_T → Prop} (hG : GI h) (hp : ∀ h', Ok [10] h h' → (mI h' 10 0 = 0 ∧ mI h' 10 1 = 0 ∧ mI h' 10 2 = 0) → P h') : MCv g yX4_open uX4_open [.ref 10] h P :=
  e_X4_open (hp _ (Ok_w (Ok_w (Ok_w (Ok_rf hG) (k := 10) (j := 0) (v := 0) (lo := 0) (hi := 20) rfl ⟨by decide, by decide⟩ (by decide) (by decide)) (k := 10) (j := 1) (v := 0) (lo := 0) (hi := 20) rfl ⟨by decide, by decide⟩ (by decide) (by decide)) (k := 10) (j := 2) (v := 0) (lo := 0) (hi := 4) rfl ⟨by decide, by decide⟩ (by decide) (by decide)) ⟨by rw [mI_wI, if_neg (by decide), mI_wI, if_neg (by decide), mI_wI, if_pos ⟨rfl, rfl⟩], by rw [mI_wI, if_neg (by decide), mI_wI, if_pos ⟨rfl, rfl⟩], by rw [mI_wI, if_pos ⟨rfl, rfl⟩]⟩)
theorem c_book {g : gT} {h : mh_T} {P : Int32 → mh_T → Prop} {T : Nat → Int32} (l1 : Int32) (hG : GI h) (hT : ∀ j : Nat, (j : Int) < (mI h 0 10).toInt → mI h 12 j = T j) (hn : ¬ (0 ≤ l1.toInt ∧ l1.toInt ≤ (mI h 0 10).toInt) → P (-1) (wI h 0 11 2)) (hs : ∀ (n e : Nat) (f : Nat → Int32) (h' : mh_T), l1.toInt = (n : Int) → (n : Int) ≤ (mI h 0 10).toInt → rx_book T n = .inr ((), e, f) → GI h' → Fr msD h h' → mI h' 0 10 = 0 ∧ mI h' 0 11 = 0 ∧ mI h' 0 12 = 0 → (mI h' 3 0 = f 49 ∧ mI h' 3 1 = f 50 ∧ mI h' 8 0 = f 85 ∧ ∀ i j : Nat, (i : Int) < (f 85).toInt → (j : Int) < (f 85).toInt → ¬ j = i → (bt (mI h' 32 i) j = true ↔ dtk (fun q => f (86 + q)) i j 4 = 0)) → LF f (f 52).toInt.toNat (f 51).toInt.toNat h' → Tb f h' → Ub f h' → P (f 50) h') (hx : ∀ (n : Nat) (w : Int32) (p : Nat) (h' : mh_T), l1.toInt = (n : Int) → (n : Int) ≤ (mI h 0 10).toInt → rx_book T n = .inl (w, p) → GI h' → Fr msD h h' → mI h' 0 10 = 0 ∧ mI h' 0 11 = 4 ∧ mI h' 0 12 = w → (mI h' 0 13).toInt = (p : Int) → (h'.1 3 = h.1 3 ∧ h'.1 8 = h.1 8 ∧ h'.1 32 = h.1 32 ∧ h'.1 7 = h.1 7 ∧ h'.1 31 = h.1 31) → (Fr (0 :: cms) h h' ∧ H62 h h') → P (-1) h') : MCi g yX10_book uX10_book [.ref 0, .int l1] h P := by
  have z0 : (0 : Int32).toInt = 0 := by decide
  have f0 : R 0 900 (mI h 0 10) := GI_rd hG 0 10 (by decide)
  refine e_X10_book l1 ⟨fun c => e_X10_refused 2 (hn (fun z => by have := lt_ti c; omega)), fun c => ⟨fun c2 => ?_, fun c2 => e_X10_refused 2 (hn (fun z => by have := lt_ti (nle c2); omega))⟩⟩
  have a1 := le_ti (nlt c)
  have a2 := le_ti c2
  obtain ⟨n, en⟩ : ∃ n : Nat, l1.toInt = (n : Int) := ⟨l1.toInt.toNat, by omega⟩
  have n9 : n ≤ 900 := by have := f0.2; omega
  have g0 : GI (wI h 0 10 0) := GI_w hG (k := 0) (j := 10) (lo := 0) (hi := 900) (by decide) ⟨by decide, by decide⟩
  have fr1 : Fr msD h (wI h 0 10 0) := Fr_w (Fr_rf h) (by decide)
  have fr1x : Fr (0 :: cms) h (wI h 0 10 0) := Fr_w (Fr_rf h) (by decide)
  have e0 : mI (wI h 0 10 0) 0 10 = 0 := by rw [mI_wI, if_pos ⟨rfl, rfl⟩]
  have t12 : ∀ j, j < n → mI (wI h 0 10 0) 12 j = T j := fun j hj => by
    rw [mI_wI, if_neg (fun z => absurd z.1 (by decide))]
    exact hT j (by omega)
  have h62 : H62 h (wI h 0 10 0) := H62_w (fun _ _ => rfl) (by decide)
  generalize wI h 0 10 0 = h1 at g0 fr1 fr1x e0 t12 h62
  refine c_read l1 g0 en n9 t12 (fun h5 cz => ?_)
  have e12 : mI (wI h5 0 12 (mI h5 1 1)) 0 12 = mI h5 1 1 := by rw [mI_wI, if_pos ⟨rfl, rfl⟩]
  have e10 : mI (wI h5 0 12 (mI h5 1 1)) 0 10 = mI h5 0 10 := by rw [mI_wI, if_neg (by decide)]
  rw [e12]
  rcases cz with ⟨e, f, eo, cs⟩ | ⟨w, p, eo, cx⟩
  · have c11 : mI h5 1 1 = 0 := cs.2.2.2.2.2.2.1
    have c21 : mI h5 2 1 = f 50 := cs.2.2.2.2.1.1.2.1
    have ok5 : Ok msD h1 h5 := Ok_mono cs.1 (by decide)
    refine ⟨fun _ => ?_, fun z => absurd c11 z⟩
    have g6 : GI (wI h5 0 12 (mI h5 1 1)) := GI_w ok5.1 (k := 0) (j := 12) (lo := -2147483648) (hi := 2147483647) (by decide) (R_full _)
    have fr6 : Fr msD h (wI h5 0 12 (mI h5 1 1)) := Fr_w (Fr_tr fr1 ok5.2.1) (by decide)
    have v10 : mI (wI h5 0 12 (mI h5 1 1)) 0 10 = 0 := e10.trans (ok5.2.2.1.trans e0)
    have v12 : mI (wI h5 0 12 (mI h5 1 1)) 0 12 = 0 := e12.trans c11
    have v21 : mI (wI h5 0 12 (mI h5 1 1)) 2 1 = f 50 := by rw [mI_wI, if_neg (by decide)]; exact c21
    have v20 : mI (wI h5 0 12 (mI h5 1 1)) 2 0 = f 49 := by rw [mI_wI, if_neg (by decide)]; exact cs.2.2.2.2.1.1.1
    have w25 : mI (wI h5 0 12 (mI h5 1 1)) 2 5 = f 85 := by rw [mI_wI, if_neg (by decide)]; exact cs.2.2.2.2.1.1.2.2.2.2.2.1
    have w24 : mI (wI h5 0 12 (mI h5 1 1)) 2 4 = f 52 := by rw [mI_wI, if_neg (by decide)]; exact cs.2.2.2.2.1.1.2.2.2.2.1
    have w22 : mI (wI h5 0 12 (mI h5 1 1)) 2 2 = f 51 := by rw [mI_wI, if_neg (by decide)]; exact cs.2.2.2.2.1.1.2.2.1
    have wal : ∀ l : Nat, (l : Int) < (f 52).toInt → mI (wI h5 0 12 (mI h5 1 1)) 19 l = f (77 + l) ∧ Lp (mI (wI h5 0 12 (mI h5 1 1)) 18 l) (f (53 + 3 * l)) (f (54 + 3 * l)) (f (55 + 3 * l)) := fun l hl => by rw [mI_wI, if_neg (fun z => absurd z.1 (by decide)), mI_wI, if_neg (fun z => absurd z.1 (by decide))]; exact cs.2.2.2.2.2.2.2.2.2.2.1.1 l hl
    have w20 : ∀ i : Nat, (i : Int) < 4 * (f 85).toInt → mI (wI h5 0 12 (mI h5 1 1)) 20 i = f (86 + i) := fun i hi => by rw [mI_wI, if_neg (fun z => absurd z.1 (by decide))]; exact cs.2.2.2.2.2.2.2.2.2.1 i hi
    have w23 : mI (wI h5 0 12 (mI h5 1 1)) 2 3 = f 0 := by rw [mI_wI, if_neg (by decide)]; exact cs.2.2.2.2.1.1.2.2.2.1
    have w15 : ∀ s : Nat, (s : Int) < (f 0).toInt → mI (wI h5 0 12 (mI h5 1 1)) 15 s = f (1 + s) ∧ mI (wI h5 0 12 (mI h5 1 1)) 16 s = f (9 + s) := fun s hs => by rw [mI_wI, if_neg (fun z => absurd z.1 (by decide)), mI_wI, if_neg (fun z => absurd z.1 (by decide))]; exact cs.2.2.2.2.2.2.2.1 s hs
    have w17 : ∀ i, i < 32 → mI (wI h5 0 12 (mI h5 1 1)) 17 i = f (17 + i) := fun i hi => by rw [mI_wI, if_neg (fun z => absurd z.1 (by decide))]; exact cs.2.2.2.2.2.2.2.2.1 i hi
    have u26 : mI (wI h5 0 12 (mI h5 1 1)) 2 6 = f 158 := by rw [mI_wI, if_neg (by decide)]; exact cs.2.2.2.2.1.1.2.2.2.2.2.2
    have uu : ∀ u : Nat, (u : Int) < (f 158).toInt → mI (wI h5 0 12 (mI h5 1 1)) 21 u = f (159 + u) ∧ ∀ j : Nat, (j : Int) < (f (159 + u)).toInt → j < 6 → mI (wI h5 0 12 (mI h5 1 1)) 22 (6 * u + j) = f (163 + 6 * u + j) ∧ mI (wI h5 0 12 (mI h5 1 1)) 23 (6 * u + j) = f (187 + 6 * u + j) := fun u hu => by
      have q := cs.2.2.2.2.2.2.2.2.2.2.2.1 u hu
      refine ⟨?_, fun j hj h6 => ⟨?_, ?_⟩⟩
      · rw [mI_wI, if_neg (fun z => absurd z.1 (by decide))]; exact q.1
      · rw [mI_wI, if_neg (fun z => absurd z.1 (by decide))]; exact (q.2 j hj h6).1
      · rw [mI_wI, if_neg (fun z => absurd z.1 (by decide))]; exact (q.2 j hj h6).2
    generalize wI h5 0 12 (mI h5 1 1) = h6 at g6 fr6 v10 v12 v21 v20 w25 w20 w24 w22 wal w23 w15 w17 u26 uu
    refine v_X8_open g6 (fun h7 g7 fr7 v7 => ?_)
    have f7 : ∀ k j, k < 62 → k ∉ [3, 24, 25, 26, 27] → mI h7 k j = mI h6 k j := fun k j hk hm => congrFun (fr7 k hk hm).1 j
    have c52 : mI h7 2 4 = f 52 := by rw [f7 2 4 (by decide) (by decide), w24]
    have c51 : mI h7 2 2 = f 51 := by rw [f7 2 2 (by decide) (by decide), w22]
    obtain ⟨n5, en5, n50, n58⟩ := i_R (show R 0 8 (f 52) by rw [← c52]; exact GI_rd g7 2 4 (by decide)) (by decide)
    obtain ⟨m5, em5, m50, m59⟩ := i_R (show R 0 9 (f 51) by rw [← c51]; exact GI_rd g7 2 2 (by decide)) (by decide)
    refine v_X5_openL (f := f) (n := n5) (m := m5) g7 (by rw [c51]; exact em5) (by omega) (by rw [c52]; exact en5) (by omega) (fun l hl => ?_) (fun h8 g8 fr8' lf => ?_)
    · rw [f7 19 l (by decide) (by decide), f7 18 l (by decide) (by decide)]
      exact wal l (by omega)
    have c85 : mI h8 2 5 = f 85 := by
      rw [show mI h8 2 5 = mI h7 2 5 from congrFun (fr8' 2 (by decide) (by decide)).1 5, f7 2 5 (by decide) (by decide), w25]
    have r85 : R 0 18 (f 85) := by rw [← c85]; exact GI_rd g8 2 5 (by decide)
    obtain ⟨c, ec, c0, c18⟩ := i_R r85 (by decide)
    refine v_X3_open (c := c) g8 (by rw [c85]; exact ec) (by omega) (fun h9 g9 fr9 v80 v32 => ?_)
    have uz := book_UZ eo
    have e9 : ∀ k j, k < 62 → k ∉ [3, 24, 25, 26, 27] → k ∉ [7, 31] → k ∉ [8, 32, 33] → mI h9 k j = mI h6 k j := fun k j hk m1 m2 m3 => by
      have e1 := congrFun (fr9 k hk m3).1 j
      have e2 := congrFun (fr8' k hk m2).1 j
      have e3 := congrFun (fr7 k hk m1).1 j
      exact e1.trans (e2.trans e3)
    have eN : (mI h9 2 6).toInt = (((f 158).toInt.toNat : Nat) : Int) := by
      rw [e9 2 6 (by decide) (by decide) (by decide) (by decide), u26]
      have := uz.1.1
      omega
    refine v_X9_open (n := (f 158).toInt.toNat) (ln := fun r => (f (159 + r)).toInt.toNat) g9 eN (by have := uz.1.2; omega) (fun r hr => ?_) (fun h10 k10 _ m93 m92 dl => ?_)
    · have z := uz.2 r (by omega)
      show (mI h9 21 r).toInt = (((f (159 + r)).toInt.toNat : Nat) : Int) ∧ 1 ≤ (f (159 + r)).toInt.toNat ∧ (f (159 + r)).toInt.toNat ≤ 6
      rw [e9 21 r (by decide) (by decide) (by decide) (by decide), (uu r (by omega)).1]
      exact ⟨by omega, by omega, by omega⟩
    refine s_X4_open' k10.1 (fun h11 k11 k110 => ?_)
    have fr8 : Fr msD h h8 := Fr_t2 (Fr_t2 fr6 fr7 (by decide)) fr8' (by decide)
    have g78 : ∀ k j, k < 62 → k ∉ [7, 31] → mI h8 k j = mI h7 k j := fun k j hk hm => congrFun (fr8' k hk hm).1 j
    have fr11 : Fr msD h h11 := Fr_t2 (Fr_t2 (Fr_t2 fr8 fr9 (by decide)) k10.2.1 (by decide)) k11.2.1 (by decide)
    have z0 : ∀ j, mI h11 0 j = mI h6 0 j := fun j => by
      rw [Ok_eq k11 (by decide), Ok_eq k10 (by decide), show mI h9 0 j = mI h8 0 j from congrFun (fr9 0 (by decide) (by decide)).1 j, g78 0 j (by decide) (by decide), show mI h7 0 j = mI h6 0 j from congrFun (fr7 0 (by decide) (by decide)).1 j]
    have z3 : ∀ j, mI h11 3 j = mI h7 3 j := fun j => by
      rw [Ok_eq k11 (by decide), Ok_eq k10 (by decide), show mI h9 3 j = mI h8 3 j from congrFun (fr9 3 (by decide) (by decide)).1 j, g78 3 j (by decide) (by decide)]
    have z8 : ∀ j, mI h11 8 j = mI h9 8 j := fun j => by rw [Ok_eq k11 (by decide), Ok_eq k10 (by decide)]
    have z7 : ∀ j, mI h11 7 j = mI h8 7 j := fun j => by rw [Ok_eq k11 (by decide), Ok_eq k10 (by decide), show mI h9 7 j = mI h8 7 j from congrFun (fr9 7 (by decide) (by decide)).1 j]
    have n58' : n5 ≤ 8 := by omega
    have zt : ∀ k, (k = 24 ∨ k = 25 ∨ k = 26 ∨ k = 27) → ∀ j, mI h11 k j = mI h7 k j := fun k hk j => by
      have k62 : k < 62 := by omega
      have e1 := congrFun (k11.2.1 k k62 (by rcases hk with z | z | z | z <;> subst z <;> decide)).1 j
      have e2 := congrFun (k10.2.1 k k62 (by rcases hk with z | z | z | z <;> subst z <;> decide)).1 j
      have e3 := congrFun (fr9 k k62 (by rcases hk with z | z | z | z <;> subst z <;> decide)).1 j
      have e4 := congrFun (fr8' k k62 (by rcases hk with z | z | z | z <;> subst z <;> decide)).1 j
      exact e1.trans (e2.trans (e3.trans e4))
    have z31 : ∀ j, mI h11 31 j = mI h8 31 j := fun j => by rw [Ok_eq k11 (by decide), Ok_eq k10 (by decide), show mI h9 31 j = mI h8 31 j from congrFun (fr9 31 (by decide) (by decide)).1 j]
    have z32 : ∀ j, mI h11 32 j = mI h9 32 j := fun j => by rw [Ok_eq k11 (by decide), Ok_eq k10 (by decide)]
    have z20 : ∀ j, mI h8 20 j = mI h6 20 j := fun j => by rw [g78 20 j (by decide) (by decide), show mI h7 20 j = mI h6 20 j from congrFun (fr7 20 (by decide) (by decide)).1 j]
    rw [show mI h11 3 1 = f 50 from by rw [z3, v7.2.1, v21]]
    have o : ∀ k j, ¬ (k = 0 ∧ j = 11) → mI (wI h11 0 11 0) k j = mI h11 k j := fun k j hk => by rw [mI_wI, if_neg hk]
    refine e_X10_told _ (hs n e f _ en (by omega) eo (GI_w k11.1 (k := 0) (j := 11) (lo := -2147483648) (hi := 2147483647) (by decide) (R_full _)) (Fr_w fr11 (by decide)) ⟨?_, ?_, ?_⟩ ⟨?_, ?_, ?_, fun a b ha hb hab => ?_⟩ ?_ ⟨?_, fun s h8' hs' => ⟨?_, ?_⟩, fun i hi => ?_, fun i hi => ?_, ?_, ?_, ?_⟩ ⟨?_, ?_, fun r j hr hj => ?_⟩)
    · rw [o 0 10 (by decide), z0]; exact v10
    · rw [mI_wI, if_pos ⟨rfl, rfl⟩]
    · rw [o 0 12 (by decide), z0]; exact v12
    · rw [o 3 0 (by decide), z3, v7.1]; exact v20
    · rw [o 3 1 (by decide), z3, v7.2.1]; exact v21
    · rw [o 8 0 (by decide), z8, v80]; exact c85
    · rw [o 32 a (fun z => absurd z.1 (by decide)), z32, v32 a b (by omega) (by omega) hab, dtk_cg (y := fun q => f (86 + q)) 4 (Nat.le_refl _) (fun q hq => ⟨?_, ?_⟩)]
      · show mI h8 20 (4 * a + q) = f (86 + (4 * a + q))
        rw [z20]
        exact w20 _ (by omega)
      · show mI h8 20 (4 * b + q) = f (86 + (4 * b + q))
        rw [z20]
        exact w20 _ (by omega)
    · rw [en5, em5, Int.toNat_natCast, Int.toNat_natCast]
      refine LF_cg n58' (fun _ _ _ => rfl) ?_ ?_ lf
      · funext j
        exact (o 7 j (fun z => absurd z.1 (by decide))).trans (z7 j)
      · funext j
        exact (o 31 j (fun z => absurd z.1 (by decide))).trans (z31 j)
    · rw [o 3 2 (by decide), z3, v7.2.2.1]; exact w23
    · exact (o 24 s (fun z => absurd z.1 (by decide))).trans ((zt 24 (by decide) s).trans ((v7.2.2.2.1 s h8').trans (w15 s hs').1))
    · exact (o 25 s (fun z => absurd z.1 (by decide))).trans ((zt 25 (by decide) s).trans ((v7.2.2.2.2.1 s h8').trans (w15 s hs').2))
    · exact (o 26 i (fun z => absurd z.1 (by decide))).trans ((zt 26 (by decide) i).trans ((v7.2.2.2.2.2.1 i hi).trans (w17 i hi)))
    · exact (o 27 i (fun z => absurd z.1 (by decide))).trans ((zt 27 (by decide) i).trans (v7.2.2.2.2.2.2 i hi))
    · rw [o 10 0 (by decide)]; exact k110.1
    · rw [o 10 1 (by decide)]; exact k110.2.1
    · rw [o 10 2 (by decide)]; exact k110.2.2
    · rw [o 9 3 (by decide), Ok_eq k11 (by decide)]; exact m93
    · rw [o 9 2 (by decide), Ok_eq k11 (by decide)]; exact m92
    · have d := dl r j (Or.inl ⟨hr, hj⟩)
      have z := uz.2 r (by omega)
      have q := (uu r (by omega)).2 j (by omega) (by omega)
      have x : ∀ k i, k = 34 ∨ k = 35 ∨ k = 36 → mI (wI h11 0 11 0) k i = mI h10 k i := fun k i hk => by
        have e1 := congrFun (k11.2.1 k (by omega) (by rcases hk with y | y | y <;> subst y <;> decide)).1 i
        exact (o k i (by omega)).trans e1
      rw [x 34 _ (by decide), x 35 _ (by decide), x 36 _ (by decide)]
      exact ⟨d.1.trans ((e9 22 _ (by decide) (by decide) (by decide) (by decide)).trans q.1), d.2.1.trans ((e9 23 _ (by decide) (by decide) (by decide) (by decide)).trans q.2), d.2.2⟩
  · have c11 : mI h5 1 1 = w := cx.2.1
    have ok5 : Ok msD h1 h5 := Ok_mono cx.1 (by decide)
    refine ⟨fun z => absurd (c11.symm.trans z) cx.2.2.2, fun _ => ?_⟩
    have g6 : GI (wI h5 0 12 (mI h5 1 1)) := GI_w ok5.1 (k := 0) (j := 12) (lo := -2147483648) (hi := 2147483647) (by decide) (R_full _)
    have fr6 : Fr msD h (wI h5 0 12 (mI h5 1 1)) := Fr_w (Fr_tr fr1 ok5.2.1) (by decide)
    have v10 : mI (wI h5 0 12 (mI h5 1 1)) 0 10 = 0 := e10.trans (ok5.2.2.1.trans e0)
    have v12 : mI (wI h5 0 12 (mI h5 1 1)) 0 12 = w := e12.trans c11
    have v2 : (mI (wI h5 0 12 (mI h5 1 1)) 1 2).toInt = (p : Int) := by rw [mI_wI, if_neg (by decide)]; exact cx.2.2.1
    have fx : Fr (0 :: cms) h (wI h5 0 12 (mI h5 1 1)) := Fr_w (Fr_t2 fr1x cx.1.2.1 (by decide)) (by decide)
    have h62x : H62 h (wI h5 0 12 (mI h5 1 1)) := H62_w (H62_tr h62 (Ok_62 cx.1 (by decide))) (by decide)
    generalize wI h5 0 12 (mI h5 1 1) = h6 at g6 fr6 v10 v12 v2 fx h62x
    have fy : Fr (0 :: cms) h (wI (wI h6 0 13 (mI h6 1 2)) 0 11 4) := Fr_w (Fr_w fx (by decide)) (by decide)
    have fc : ∀ k, k < 62 → k ∉ (0 :: cms) → True → (wI (wI h6 0 13 (mI h6 1 2)) 0 11 4).1 k = h.1 k := fun k hk hm _ => (fy k hk hm).1
    have g8 : GI (wI (wI h6 0 13 (mI h6 1 2)) 0 11 4) := GI_w (GI_w g6 (k := 0) (j := 13) (lo := -2147483648) (hi := 2147483647) (by decide) (R_full _)) (k := 0) (j := 11) (lo := -2147483648) (hi := 2147483647) (by decide) (R_full _)
    refine e_X10_refused 4 (hx n w p _ en (by omega) eo g8 (Fr_w (Fr_w fr6 (by decide)) (by decide)) ⟨?_, ?_, ?_⟩ ?_ ⟨fc 3 (by decide) (by decide) trivial, fc 8 (by decide) (by decide) trivial, fc 32 (by decide) (by decide) trivial, fc 7 (by decide) (by decide) trivial, fc 31 (by decide) (by decide) trivial⟩ ⟨fy, H62_w (H62_w h62x (by decide)) (by decide)⟩)
    · rw [mI_wI, if_neg (by decide), mI_wI, if_neg (by decide)]; exact v10
    · rw [mI_wI, if_pos ⟨rfl, rfl⟩]
    · rw [mI_wI, if_neg (by decide), mI_wI, if_neg (by decide)]; exact v12
    · rw [mI_wI, if_neg (by decide), mI_wI, if_pos ⟨rfl, rfl⟩]; exact v2
/-! feed: both tapes get the same bytes -/
def OkH (ms : List Nat) (h h' : mh_T) : Prop := GI h' ∧ Fr ms h h' ∧ H62 h h'
theorem OkH_w {ms : List Nat} {h0 h : mh_T} (a : OkH ms h0 h) {k j : Nat} {v : Int32} {lo hi : Int} (e : rgT k j = (lo, hi)) (f : R lo hi v) (hk : k ∈ ms) (h62 : k < 62 := by decide) : OkH ms h0 (wI h k j v) := ⟨GI_w a.1 e f, Fr_w a.2.1 hk, H62_w a.2.2 h62⟩
theorem OkH_tr {ms : List Nat} {h h1 h2 : mh_T} (a : OkH ms h h1) (b : OkH ms h1 h2) : OkH ms h h2 := ⟨b.1, Fr_tr a.2.1 b.2.1, H62_tr a.2.2 b.2.2⟩
def fb (a : Int32) (d : Nat) : Int32 := (a >>> (Int32.ofNat (24 - 8 * d) &&& 31)) &&& 255
def fw (a1 a2 a3 a4 a5 : Int32) (m : Nat) : Int32 := if m < 4 then fb a1 m else if m < 8 then fb a2 (m - 4) else if m < 12 then fb a3 (m - 8) else if m < 16 then fb a4 (m - 12) else fb a5 (m - 16)
theorem fb_nn (a : Int32) (d : Nat) : 0 ≤ (fb a d).toInt := (R_and (x := a >>> (Int32.ofNat (24 - 8 * d) &&& 31)) (y := 255) (c := 255) (d := 255) ⟨by decide, by decide⟩ (by decide)).1
theorem fw_nn (a1 a2 a3 a4 a5 : Int32) (m : Nat) : 0 ≤ (fw a1 a2 a3 a4 a5 m).toInt := by
  unfold fw
  split
  · exact fb_nn _ _
  · split
    · exact fb_nn _ _
    · split
      · exact fb_nn _ _
      · split
        · exact fb_nn _ _
        · exact fb_nn _ _
theorem sh_bv (x : BitVec 32) (d : Nat) (hd : d ≤ 24) : (x >>> d) &&& 255#32 = (x.sshiftRight d) &&& 255#32 := by
  apply BitVec.eq_of_getLsbD_eq
  intro i hi
  rw [BitVec.getLsbD_and, BitVec.getLsbD_and, BitVec.getLsbD_ushiftRight, BitVec.getLsbD_sshiftRight]
  by_cases q : i < 8
  · rw [if_pos (by omega), decide_eq_false (by omega : ¬ 32 ≤ i), Bool.not_false, Bool.true_and]
  · have : (255#32).getLsbD i = false := by
      have e : (255#32) = BitVec.ofNat 32 (2 ^ 8 - 1) := by decide
      rw [e, BitVec.getLsbD_ofNat, Nat.testBit_two_pow_sub_one, decide_eq_false q, Bool.and_false]
    rw [this, Bool.and_false, Bool.and_false]
theorem sh_u (a l : Int32) (d : Nat) (hd : d < 4) (el : l = Int32.ofNat (24 - 8 * d)) : ((a.toUInt32 >>> (l.toUInt32 &&& Int32.toUInt32 31)).toInt32) &&& 255 = fb a d := by
  subst el
  unfold fb
  apply Int32.toBitVec_inj.mp
  rw [Int32.toBitVec_and, Int32.toBitVec_and, Int32.toBitVec_shiftRight]
  show (UInt32.toBitVec (a.toUInt32 >>> ((Int32.ofNat (24 - 8 * d)).toUInt32 &&& Int32.toUInt32 31))) &&& _ = _
  rw [UInt32.toBitVec_shiftRight]
  rcases (show d = 0 ∨ d = 1 ∨ d = 2 ∨ d = 3 by omega) with q | q | q | q <;> subst q
  · exact sh_bv _ 24 (by omega)
  · exact sh_bv _ 16 (by omega)
  · exact sh_bv _ 8 (by omega)
  · exact sh_bv _ 0 (by omega)
theorem v_put {g : gT} {h : mh_T} {P : mh_T → Prop} {F : Nat} (l1 : Int32) (hG : GI h) (eF : (mI h 0 10).toInt = (F : Int)) (hF : F ≤ 896) (hp : ∀ h', OkH [0, 12] h h' → (mI h' 0 10).toInt = ((F + 4 : Nat) : Int) → (∀ i, i < F → mI h' 12 i = mI h 12 i) → (∀ d, d < 4 → mI h' 12 (F + d) = fb l1 d) → (∀ j, ¬ j = 10 → mI h' 0 j = mI h 0 j) → P h') : MCv g yX10_put uX10_put [.ref 0, .int l1] h P := by
  have z : (0 : Int32).toInt = 0 := by decide
  have L : ∀ (n : Nat) (l2 : Int32) (d : Nat) (k : mh_T), d + n = 4 → l2.toInt = 8 * (n : Int) - 8 → OkH [0, 12] h k → (mI k 0 10).toInt = ((F + d : Nat) : Int) → (∀ i, i < F → mI k 12 i = mI h 12 i) → (∀ b, b < d → mI k 12 (F + b) = fb l1 b) → (∀ j, ¬ j = 10 → mI k 0 j = mI h 0 j) → ME g uX10_put 3 [.ref 0, .int l1, .int l2] [] k (qV P) := by
    intro n
    induction n with
    | zero =>
      intro l2 d k hd e2 ok ef k1 k2 k3
      have : d = 4 := by omega
      subst this
      refine r_X10_put_3 l1 l2 ⟨fun _ => hp k ok ef k1 k2 k3, fun c => ?_⟩
      exfalso
      apply c
      rw [i_lt, e2, z]
      omega
    | succ n ih =>
      intro l2 d k hd e2 ok ef k1 k2 k3
      refine r_X10_put_3 l1 l2 ⟨fun c => ?_, fun c => ⟨i_vp ef (by omega), ?_⟩⟩
      · rw [i_lt, e2, z] at c
        omega
      · have e2' : l2.toInt = ((24 - 8 * d : Nat) : Int) := by omega
        have ei : mI (wI k 12 (mI k 0 10).toNatClampNeg (((l1.toUInt32 >>> (l2.toUInt32 &&& Int32.toUInt32 31)).toInt32) &&& 255)) 0 10 = mI k 0 10 := by rw [mI_wI, if_neg (fun q => absurd q.1 (by decide))]
        rw [ei, sh_u l1 l2 d (by omega) (i_of e2' (by omega)), i_nat ef]
        have e8 : (l2 + (-8)).toInt = 8 * (n : Int) - 8 := by
          rw [i_add (a := 8 * ((n + 1 : Nat) : Int) - 8) (b := -8) e2 (by decide) (by omega)]
          omega
        refine ih (l2 + (-8)) (d + 1) _ (by omega) e8 (OkH_w (OkH_w ok (k := 12) (rgc_12 _) (R_full _) (by decide)) (k := 0) (j := 10) (lo := 0) (hi := 900) (by decide) ?_ (by decide)) ?_ (fun i hi => ?_) (fun b hb => ?_) (fun j hj => ?_)
        · have := i_inc ef (by omega)
          exact ⟨by omega, by omega⟩
        · rw [mI_wI, if_pos ⟨rfl, rfl⟩]
          have t := i_inc ef (by omega)
          rw [t]
          rfl
        · rw [mI_wI, if_neg (fun q => absurd q.1 (by decide)), mI_wI, if_neg (by omega)]
          exact k1 i hi
        · rw [mI_wI, if_neg (fun q => absurd q.1 (by decide)), mI_wI]
          by_cases q : b = d
          · rw [if_pos ⟨rfl, by rw [q]⟩, q]
          · rw [if_neg (by omega)]
            exact k2 b (by omega)
        · rw [mI_wI, if_neg (fun q => hj q.2), mI_wI, if_neg (fun q => absurd q.1 (by decide))]
          exact k3 j hj
  exact e_X10_put l1 (L 4 24 0 h (by omega) (by decide) ⟨hG, fun _ _ _ => ⟨rfl, rfl, rfl⟩, fun _ _ => rfl⟩ (by rw [eF]; rfl) (fun _ _ => rfl) (fun b hb => absurd hb (Nat.not_lt_zero b)) (fun _ _ => rfl))
theorem v_feed {g : gT} {h : mh_T} {P : Int32 → mh_T → Prop} {F : Nat} (l1 l2 l3 l4 l5 : Int32) (hG : GI h) (eF : (mI h 0 10).toInt = (F : Int)) (hp : F ≤ 880 → ∀ h', OkH [0, 12] h h' → (mI h' 0 10).toInt = ((F + 20 : Nat) : Int) → (∀ i, i < F → mI h' 12 i = mI h 12 i) → (∀ m, m < 20 → mI h' 12 (F + m) = fw l1 l2 l3 l4 l5 m) → (∀ j, ¬ j = 10 → mI h' 0 j = mI h 0 j) → P (mI h' 0 10) h') (hx : ¬ F ≤ 880 → P (-1) h) : MCi g yX10_feed uX10_feed [.ref 0, .int l1, .int l2, .int l3, .int l4, .int l5] h P := by
  have f0 : R 0 900 (mI h 0 10) := GI_rd hG 0 10 (by decide)
  have f9 := f0.2
  have es : (mI h 0 10 + 20).toInt = (F : Int) + 20 := i_add eF (by decide) (by omega)
  have z9 : (900 : Int32).toInt = 900 := by decide
  refine e_X10_feed l1 l2 l3 l4 l5 ⟨fun c => ?_, fun c => ?_⟩
  · rw [i_le, es, z9] at c
    refine v_put l1 hG eF (by omega) (fun h1 k1 e1 a1 b1 c1 => ?_)
    refine v_put l2 k1.1 e1 (by omega) (fun h2 k2 e2 a2 b2 c2 => ?_)
    refine v_put l3 k2.1 e2 (by omega) (fun h3 k3 e3 a3 b3 c3 => ?_)
    refine v_put l4 k3.1 e3 (by omega) (fun h4 k4 e4 a4 b4 c4 => ?_)
    refine v_put l5 k4.1 e4 (by omega) (fun h5 k5 e5 a5 b5 c5 => ?_)
    refine hp (by omega) h5 (OkH_tr (OkH_tr (OkH_tr (OkH_tr k1 k2) k3) k4) k5) (by rw [e5]) (fun i hi => ?_) (fun m hm => ?_) (fun j hj => ?_)
    · rw [a5 i (by omega), a4 i (by omega), a3 i (by omega), a2 i (by omega), a1 i hi]
    · unfold fw
      split
      · rw [a5 _ (by omega), a4 _ (by omega), a3 _ (by omega), a2 _ (by omega)]
        exact b1 m (by omega)
      · split
        · rw [a5 _ (by omega), a4 _ (by omega), a3 _ (by omega), show F + m = F + 4 + (m - 4) by omega]
          exact b2 (m - 4) (by omega)
        · split
          · rw [a5 _ (by omega), a4 _ (by omega), show F + m = F + 4 + 4 + (m - 8) by omega]
            exact b3 (m - 8) (by omega)
          · split
            · rw [a5 _ (by omega), show F + m = F + 4 + 4 + 4 + (m - 12) by omega]
              exact b4 (m - 12) (by omega)
            · rw [show F + m = F + 4 + 4 + 4 + 4 + (m - 16) by omega]
              exact b5 (m - 16) (by omega)
    · rw [c5 j hj, c4 j hj, c3 j hj, c2 j hj, c1 j hj]
  · rw [i_le, es, z9] at c
    exact hx (by omega)
theorem sh_m : ∀ m, m < 20 → (24 : Int32) - (8 * (Int32.ofNat m - Int32.ofNat m / 4 * 4)) = Int32.ofNat (24 - 8 * (m % 4)) := by decide
theorem w_feed {g : gT} {h : mh_T} {P : Int32 → mh_T → Prop} {F : Nat} (l1 l2 l3 l4 l5 : Int32) (hG : GI h) (eF : (mI h 11 2).toInt = (F : Int)) (hp : F ≤ 880 → ∀ h', OkH [11, 43] h h' → (mI h' 11 2).toInt = ((F + 20 : Nat) : Int) → (∀ i, i < F → mI h' 43 i = mI h 43 i) → (∀ m, m < 20 → mI h' 43 (F + m) = fw l1 l2 l3 l4 l5 m) → (∀ j, ¬ (j = 0 ∨ j = 2) → mI h' 11 j = mI h 11 j) → P (mI h' 11 2) h') (hx : ¬ F ≤ 880 → P (-1) (wI h 11 0 0)) : MCi g yX11_feed uX11_feed [.ref 11, .int l1, .int l2, .int l3, .int l4, .int l5] h P := by
  have f0 : R 0 900 (mI h 11 2) := GI_rd hG 11 2 (by decide)
  have f9 := f0.2
  have e0 : mI (wI h 11 0 0) 11 2 = mI h 11 2 := by rw [mI_wI, if_neg (by decide)]
  have es : (mI (wI h 11 0 0) 11 2 + 20).toInt = (F : Int) + 20 := by rw [e0]; exact i_add eF (by decide) (by omega)
  have z9 : (900 : Int32).toInt = 900 := by decide
  have z20 : (20 : Int32).toInt = 20 := by decide
  have z4 : (4 : Int32).toInt = 4 := by decide
  have z8 : (8 : Int32).toInt = 8 := by decide
  have z12 : (12 : Int32).toInt = 12 := by decide
  have z16 : (16 : Int32).toInt = 16 := by decide
  refine e_X11_feed l1 l2 l3 l4 l5 ⟨fun c => ?_, fun c => ?_⟩
  · rw [i_le, es, z9] at c
    have L : ∀ (n : Nat) (l6 : Int32) (m : Nat) (k : mh_T), m + n = 20 → l6.toInt = (m : Int) → OkH [11, 43] h k → (mI k 11 2).toInt = ((F + m : Nat) : Int) → (∀ i, i < F → mI k 43 i = mI h 43 i) → (∀ b, b < m → mI k 43 (F + b) = fw l1 l2 l3 l4 l5 b) → (∀ j, ¬ (j = 0 ∨ j = 2) → mI k 11 j = mI h 11 j) → ME g uX11_feed 23 [.ref 11, .int l1, .int l2, .int l3, .int l4, .int l5, .int l6, .retAddr 0] [] k (qI P) := by
      intro n
      induction n with
      | zero =>
        intro l6 m k hm e6 ok ef k1 k2 k3
        have : m = 20 := by omega
        subst this
        refine r_X11_feed_23 l1 l2 l3 l4 l5 l6 ⟨fun _ => hp (by omega) k ok ef k1 k2 k3, fun c => absurd (by rw [i_le, z20, e6]; omega) c⟩
      | succ n ih =>
        intro l6 m k hm e6 ok ef k1 k2 k3
        have st : ∀ v : Int32, v = fw l1 l2 l3 l4 l5 m → (vp_in (mI k 11 2) 900) ∧ (ME g uX11_feed 23 [.ref 11, .int l1, .int l2, .int l3, .int l4, .int l5, .int (l6 + 1), .retAddr 0] [] (wI (wI k 43 (mI k 11 2).toNatClampNeg v) 11 2 ((mI (wI k 43 (mI k 11 2).toNatClampNeg v) 11 2) + 1)) (qI P)) := by
          intro v hv
          have ei : mI (wI k 43 (mI k 11 2).toNatClampNeg v) 11 2 = mI k 11 2 := by rw [mI_wI, if_neg (fun q => absurd q.1 (by decide))]
          refine ⟨i_vp ef (by omega), ?_⟩
          rw [ei, i_nat ef]
          refine ih (l6 + 1) (m + 1) _ (by omega) (i_inc e6 (by omega)) (OkH_w (OkH_w ok (k := 43) (rgc_43 _) (R_full _) (by decide)) (k := 11) (j := 2) (lo := 0) (hi := 900) (by decide) ?_ (by decide)) ?_ (fun i hi => ?_) (fun b hb => ?_) (fun j hj => ?_)
          · have := i_inc ef (by omega)
            exact ⟨by omega, by omega⟩
          · rw [mI_wI, if_pos ⟨rfl, rfl⟩]
            have t := i_inc ef (by omega)
            rw [t]
            rfl
          · rw [mI_wI, if_neg (fun q => absurd q.1 (by decide)), mI_wI, if_neg (by omega)]
            exact k1 i hi
          · rw [mI_wI, if_neg (fun q => absurd q.1 (by decide)), mI_wI]
            by_cases q : b = m
            · rw [if_pos ⟨rfl, by rw [q]⟩, q, hv]
            · rw [if_neg (by omega)]
              exact k2 b (by omega)
          · rw [mI_wI, if_neg (by omega), mI_wI, if_neg (fun q => absurd q.1 (by decide))]
            exact k3 j hj
        have e6' : l6 = Int32.ofNat m := i_of e6 (by omega)
        have sh := sh_m m (by omega)
        rw [← e6'] at sh
        refine r_X11_feed_23 l1 l2 l3 l4 l5 l6 ⟨fun c => ?_, fun c => ?_⟩
        · rw [i_le, z20, e6] at c
          omega
        · rw [i_le, i_le, i_le, i_le, z4, z8, z12, z16, e6, sh]
          refine ⟨fun a => ⟨fun b => ⟨fun c => ⟨fun d => st _ ?_, fun d => st _ ?_⟩, fun c => st _ ?_⟩, fun b => st _ ?_⟩, fun a => st _ ?_⟩
          · unfold fw fb
            rw [if_neg (by omega), if_neg (by omega), if_neg (by omega), if_neg (by omega), show m % 4 = m - 16 by omega]
          · unfold fw fb
            rw [if_neg (by omega), if_neg (by omega), if_neg (by omega), if_pos (by omega), show m % 4 = m - 12 by omega]
          · unfold fw fb
            rw [if_neg (by omega), if_neg (by omega), if_pos (by omega), show m % 4 = m - 8 by omega]
          · unfold fw fb
            rw [if_neg (by omega), if_pos (by omega), show m % 4 = m - 4 by omega]
          · unfold fw fb
            rw [if_pos (by omega), show m % 4 = m by omega]
    refine L 20 0 0 _ (by omega) (by decide) (OkH_w ⟨hG, fun _ _ _ => ⟨rfl, rfl, rfl⟩, fun _ _ => rfl⟩ (k := 11) (j := 0) (lo := -2147483648) (hi := 2147483647) (by decide) (R_full _) (by decide)) (by rw [e0, eF]; rfl) (fun i _ => by rw [mI_wI, if_neg (fun q => absurd q.1 (by decide))]) (fun b hb => absurd hb (Nat.not_lt_zero b)) (fun j hj => by rw [mI_wI, if_neg (by omega)])
  · rw [i_le, es, z9] at c
    exact hx (by omega)
