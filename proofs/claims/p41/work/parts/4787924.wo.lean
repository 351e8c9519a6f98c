def CL (f : Nat → Int32) (n m s : Nat) : Prop := ∃ v, v < 2 ^ m ∧ ∀ t, t < 8 → bt (Int32.ofNat s) t = true → bt (sv f n v) t = true
/-- what the class knows of the lines -/
def LF (f : Nat → Int32) (n m : Nat) (h : mh_T) : Prop := (mI h 7 0).toInt = (m : Int) ∧ (mI h 7 1).toInt = (n : Int) ∧ mI h 7 2 = wyc f n (2 ^ m) ∧ (∀ p, p < 9 → (bt (mI h 7 3) p = true ↔ ∃ w, w < 2 ^ m ∧ sv f n w = An n ∧ bt (Int32.ofNat w) p = true)) ∧ (∀ p, p < 9 → (bt (mI h 7 4) p = true ↔ ∃ w, w < 2 ^ m ∧ sv f n w = An n ∧ bt (Int32.ofNat w) p = false)) ∧ ∀ s, s < 2 ^ n → (¬ mI h 31 s = 0 ↔ CL f n m s)
theorem LF_cg {f f' : Nat → Int32} {n m : Nat} {h h' : mh_T} (hn : n ≤ 8) (e : ∀ i, 53 ≤ i → i < 85 → f i = f' i) (e7 : h'.1 7 = h.1 7) (e31 : h'.1 31 = h.1 31) (l : LF f n m h) : LF f' n m h' := by
  have g7 : ∀ j, mI h' 7 j = mI h 7 j := fun j => congrFun e7 j
  have g31 : ∀ j, mI h' 31 j = mI h 31 j := fun j => congrFun e31 j
  have es : ∀ w, sv f' n w = sv f n w := fun w => (slb_cg n hn e).symm
  unfold LF CL
  simp only [g7, g31, es, ← wyc_cg hn e]
  exact l
theorem v_X5_openL {g : gT} {h : mh_T} {P : mh_T → Prop} {f : Nat → Int32} {n m : Nat} (hG : GI h) (em : (mI h 2 2).toInt = (m : Int)) (hm9 : m ≤ 9) (en : (mI h 2 4).toInt = (n : Int)) (hn : n ≤ 8) (hl : ∀ l : Nat, l < n → mI h 19 l = f (77 + l) ∧ Lp (mI h 18 l) (f (53 + 3 * l)) (f (54 + 3 * l)) (f (55 + 3 * l))) (hp : ∀ h', GI h' → Fr [7, 31] h h' → LF f n m h' → P h') : MCv g yX5_open uX5_open [.ref 7, .ref 2] h P := by
  refine e_X5_open (fun x1 ex => ?_)
  have q1 : mI (wI h 7 0 (mI h 2 2)) 2 4 = mI h 2 4 := by rw [mI_wI, if_neg (by decide)]
  rw [q1] at ex ⊢
  have g0 : GI (wI (wI (wI (wI (wI h 7 0 (mI h 2 2)) 7 1 (mI h 2 4)) 7 2 0) 7 3 0) 7 4 0) := GI_w (GI_w (GI_w (GI_w (GI_w hG (k := 7) (j := 0) (lo := 0) (hi := 9) (by decide) (GI_rd hG 2 2 (by decide))) (k := 7) (j := 1) (lo := 0) (hi := 8) (by decide) (GI_rd hG 2 4 (by decide))) (k := 7) (j := 2) (lo := -2147483648) (hi := 2147483647) (by decide) (R_full _)) (k := 7) (j := 3) (lo := -2147483648) (hi := 2147483647) (by decide) (R_full _)) (k := 7) (j := 4) (lo := -2147483648) (hi := 2147483647) (by decide) (R_full _)
  have r0 : Fr [7, 31] h (wI (wI (wI (wI (wI h 7 0 (mI h 2 2)) 7 1 (mI h 2 4)) 7 2 0) 7 3 0) 7 4 0) := Fr_w (Fr_w (Fr_w (Fr_w (Fr_w (Fr_rf h) (by decide)) (by decide)) (by decide)) (by decide)) (by decide)
  have v0 : mI (wI (wI (wI (wI (wI h 7 0 (mI h 2 2)) 7 1 (mI h 2 4)) 7 2 0) 7 3 0) 7 4 0) 7 0 = mI h 2 2 := by
    rw [mI_wI, if_neg (by decide), mI_wI, if_neg (by decide), mI_wI, if_neg (by decide), mI_wI, if_neg (by decide), mI_wI, if_pos ⟨rfl, rfl⟩]
  have v1 : mI (wI (wI (wI (wI (wI h 7 0 (mI h 2 2)) 7 1 (mI h 2 4)) 7 2 0) 7 3 0) 7 4 0) 7 1 = mI h 2 4 := by
    rw [mI_wI, if_neg (by decide), mI_wI, if_neg (by decide), mI_wI, if_neg (by decide), mI_wI, if_pos ⟨rfl, rfl⟩]
  have v2 : mI (wI (wI (wI (wI (wI h 7 0 (mI h 2 2)) 7 1 (mI h 2 4)) 7 2 0) 7 3 0) 7 4 0) 7 2 = 0 := by
    rw [mI_wI, if_neg (by decide), mI_wI, if_neg (by decide), mI_wI, if_pos ⟨rfl, rfl⟩]
  rw [v1, i_of en (by omega)] at ex
  have v3 : mI (wI (wI (wI (wI (wI h 7 0 (mI h 2 2)) 7 1 (mI h 2 4)) 7 2 0) 7 3 0) 7 4 0) 7 3 = 0 := by
    rw [mI_wI, if_neg (by decide), mI_wI, if_pos ⟨rfl, rfl⟩]
  have v4 : mI (wI (wI (wI (wI (wI h 7 0 (mI h 2 2)) 7 1 (mI h 2 4)) 7 2 0) 7 3 0) 7 4 0) 7 4 = 0 := by
    rw [mI_wI, if_pos ⟨rfl, rfl⟩]
  generalize wI (wI (wI (wI (wI h 7 0 (mI h 2 2)) 7 1 (mI h 2 4)) 7 2 0) 7 3 0) 7 4 0 = h0 at g0 r0 v0 v1 v2 v3 v4
  have p8 : ((1 : Int32) <<< (Int32.ofNat n &&& 31)).toInt = (2 : Int) ^ n := shl_n (by omega)
  have n2 : (1 : Int) ≤ 2 ^ n ∧ (2 : Int) ^ n ≤ 256 := by
    rcases (show n = 0 ∨ n = 1 ∨ n = 2 ∨ n = 3 ∨ n = 4 ∨ n = 5 ∨ n = 6 ∨ n = 7 ∨ n = 8 by omega) with q | q | q | q | q | q | q | q | q <;> subst q <;> decide
  have ex1 : x1.toInt = (2 : Int) ^ n - 1 := by rw [ex]; exact i_sub p8 (by decide) (by omega)
  have m2 : ((2 ^ m : Nat) : Int) = (2 : Int) ^ m ∧ 2 ^ m ≤ 512 := by
    rcases (show m = 0 ∨ m = 1 ∨ m = 2 ∨ m = 3 ∨ m = 4 ∨ m = 5 ∨ m = 6 ∨ m = 7 ∨ m = 8 ∨ m = 9 by omega) with q | q | q | q | q | q | q | q | q | q <;> subst q <;> decide
  have pm : ∀ {k : mh_T}, mI k 7 0 = mI h 2 2 → ((1 : Int32) <<< ((mI k 7 0) &&& 31)).toInt = ((2 ^ m : Nat) : Int) := fun e => by
    rw [e, i_of em (by omega), shl_n (by omega), m2.1]
  have B : ∀ (q : Nat) (l3 : Int32) (v : Nat) (k : mh_T), l3.toInt = (v : Int) → v ≤ 2 ^ m → 2 ^ m - v < q → GI k → Fr [7, 31] h k → mI k 7 0 = mI h 2 2 → mI k 7 1 = mI h 2 4 → mI k 7 2 = wyc f n v → (∀ p, p < 9 → (bt (mI k 7 3) p = true ↔ ∃ w, w < v ∧ sv f n w = An n ∧ bt (Int32.ofNat w) p = true)) → (∀ p, p < 9 → (bt (mI k 7 4) p = true ↔ ∃ w, w < v ∧ sv f n w = An n ∧ bt (Int32.ofNat w) p = false)) → (∀ s, s < 2 ^ n → (¬ mI k 31 s = 0 ↔ ∃ w, w < v ∧ sv f n w = Int32.ofNat s)) → ME g uX5_open 62 [.ref 7, .ref 2, .int x1, .int l3, .retAddr 0] [] k (qV P) := by
    intro q
    induction q with
    | zero => intro l3 v k _ _ hq; exact absurd hq (Nat.not_lt_zero _)
    | succ q ih =>
      intro l3 v k e3 hv hq kG kF k0 k1 k2 k3 k4 k5
      refine r_X5_open_62 x1 l3 ⟨fun z => ?_, fun z => ?_⟩
      · rw [i_le, pm k0, e3] at z
        have : v = 2 ^ m := by omega
        subst this
        refine v_spread (n := n) (E := fun s => ∃ w, w < 2 ^ m ∧ sv f n w = Int32.ofNat s) kG (by rw [k1]; exact en) hn k5 (fun h2 o2 u2 => hp h2 o2.1 (Fr_t2 kF o2.2.1 (by decide)) ⟨?_, ?_, ?_, ?_, ?_, fun s hs => ?_⟩)
        · rw [Ok_eq o2 (by decide), k0]; exact em
        · rw [Ok_eq o2 (by decide), k1]; exact en
        · rw [Ok_eq o2 (by decide)]; exact k2
        · rw [Ok_eq o2 (by decide)]; exact k3
        · rw [Ok_eq o2 (by decide)]; exact k4
        · rw [u2 s hs]
          constructor
          · rintro ⟨s', h1, ⟨w, w1, w2⟩, h3⟩
            exact ⟨w, w1, fun t ht hx => by rw [w2]; exact h3 t ht hx⟩
          · rintro ⟨w, w1, w2⟩
            obtain ⟨x, x1, x2, x3⟩ := sv_nat (f := f) (v := Int32.ofNat w) hn
            exact ⟨x, x2, ⟨w, w1, x3⟩, fun t ht hx => by rw [← x3]; exact w2 t ht hx⟩
      · rw [i_le, pm k0, e3] at z
        refine v_soLines (f := f) (n := n) l3 e3 (by omega) (by rw [k1]; exact en) hn (fun l hl' => ?_) ?_
        · rw [show mI k 19 l = mI h 19 l from congrFun (kF 19 (by decide) (by decide)).1 l, show mI k 18 l = mI h 18 l from congrFun (kF 18 (by decide) (by decide)).1 l]
          exact hl l hl'
        · have sr := slb_R (f := f) (v := l3) n hn
          have e3' := i_inc e3 (by omega)
          have ev : l3 = Int32.ofNat v := i_of e3 (by omega)
          have xa : x1 = An n := ex
          have ny : ¬ slb f l3 n = x1 → ¬ slb f l3 n = An n := fun q z => q (z.trans xa.symm)
          have yy : slb f l3 n = x1 → slb f l3 n = An n := fun q => q.trans xa
          refine ⟨vin sr (by decide), fun y => ?_, fun y => ?_⟩
          · refine ih (l3 + 1) (v + 1) _ e3' (by omega) (by omega) (GI_w kG (k := 31) (lo := 0) (hi := 1) rfl ⟨by decide, by decide⟩) (Fr_w kF (by decide)) ?_ ?_ ?_ ?_ ?_ ?_
            · rw [mI_wI, if_neg (fun w => absurd w.1 (by decide))]; exact k0
            · rw [mI_wI, if_neg (fun w => absurd w.1 (by decide))]; exact k1
            · rw [mI_wI, if_neg (fun w => absurd w.1 (by decide)), k2]
              show _ = (if slb f (Int32.ofNat v) n = (1 <<< (Int32.ofNat n &&& 31)) - 1 then _ else _)
              rw [← ev, ← ex, if_neg y]
            · intro p hp'
              rw [mI_wI, if_neg (fun w => absurd w.1 (by decide)), k3 p hp']
              refine ⟨fun ⟨w, w1, w2⟩ => ⟨w, by omega, w2⟩, fun ⟨w, w1, w2, w3⟩ => ⟨w, ?_, w2, w3⟩⟩
              by_cases q : w = v
              · subst q
                exact absurd (by rw [ev]; exact w2) (ny y)
              · omega
            · intro p hp'
              rw [mI_wI, if_neg (fun w => absurd w.1 (by decide)), k4 p hp']
              refine ⟨fun ⟨w, w1, w2⟩ => ⟨w, by omega, w2⟩, fun ⟨w, w1, w2, w3⟩ => ⟨w, ?_, w2, w3⟩⟩
              by_cases q : w = v
              · subst q
                exact absurd (by rw [ev]; exact w2) (ny y)
              · omega
            · intro s hs
              have pn := p2n hn
              obtain ⟨x, x1, x2, x3⟩ := sv_nat (f := f) (v := l3) hn
              rw [i_nat x1]
              have key : (∃ w, w < v + 1 ∧ sv f n w = Int32.ofNat s) ↔ (∃ w, w < v ∧ sv f n w = Int32.ofNat s) ∨ s = x := by
                constructor
                · rintro ⟨w, w1, w2⟩
                  by_cases q : w = v
                  · right
                    subst q
                    have : Int32.ofNat x = Int32.ofNat s := by rw [← x3, ev]; exact w2
                    have := congrArg Int32.toInt this
                    rw [Int32.toInt_ofNat_of_lt (by omega), Int32.toInt_ofNat_of_lt (by omega)] at this
                    omega
                  · exact Or.inl ⟨w, by omega, w2⟩
                · rintro (⟨w, w1, w2⟩ | q)
                  · exact ⟨w, by omega, w2⟩
                  · exact ⟨v, by omega, by rw [q, ← x3, ev]⟩
              rw [key]
              rw [mI_wI]
              by_cases q : s = x
              · rw [if_pos ⟨rfl, q⟩]
                exact ⟨fun _ => Or.inr q, fun _ => by decide⟩
              · rw [if_neg (fun z => q z.2), k5 s hs]
                exact ⟨Or.inl, fun z => z.resolve_right q⟩
          · refine ih (l3 + 1) (v + 1) _ e3' (by omega) (by omega) (GI_w (GI_w (GI_w (GI_w kG (k := 31) (lo := 0) (hi := 1) rfl ⟨by decide, by decide⟩) (k := 7) (j := 2) (lo := -2147483648) (hi := 2147483647) (by decide) (R_full _)) (k := 7) (j := 3) (lo := -2147483648) (hi := 2147483647) (by decide) (R_full _)) (k := 7) (j := 4) (lo := -2147483648) (hi := 2147483647) (by decide) (R_full _)) (Fr_w (Fr_w (Fr_w (Fr_w kF (by decide)) (by decide)) (by decide)) (by decide)) ?_ ?_ ?_ ?_ ?_ ?_
            · rw [mI_wI, if_neg (by decide), mI_wI, if_neg (by decide), mI_wI, if_neg (by decide), mI_wI, if_neg (fun w => absurd w.1 (by decide))]; exact k0
            · rw [mI_wI, if_neg (by decide), mI_wI, if_neg (by decide), mI_wI, if_neg (by decide), mI_wI, if_neg (fun w => absurd w.1 (by decide))]; exact k1
            · rw [mI_wI, if_neg (by decide), mI_wI, if_neg (by decide), mI_wI, if_pos ⟨rfl, rfl⟩, mI_wI, if_neg (fun w => absurd w.1 (by decide)), k2]
              show _ = (if slb f (Int32.ofNat v) n = (1 <<< (Int32.ofNat n &&& 31)) - 1 then _ else _)
              rw [← ev, ← ex, if_pos y]
            · intro p hp'
              rw [mI_wI, if_neg (by decide), mI_wI, if_pos ⟨rfl, rfl⟩, mI_wI, if_neg (by decide), mI_wI, if_neg (fun w => absurd w.1 (by decide)), bt_or2, Bool.or_eq_true, k3 p hp', ev]
              constructor
              · rintro (⟨w, w1, w2⟩ | q)
                · exact ⟨w, by omega, w2⟩
                · exact ⟨v, by omega, by rw [← yy y, ev], q⟩
              · rintro ⟨w, w1, w2, w3⟩
                by_cases q : w = v
                · subst q; exact Or.inr w3
                · exact Or.inl ⟨w, by omega, w2, w3⟩
            · intro p hp'
              rw [mI_wI, if_pos ⟨rfl, rfl⟩, mI_wI, if_neg (by decide), mI_wI, if_neg (by decide), mI_wI, if_neg (fun w => absurd w.1 (by decide)), bt_or2, Bool.or_eq_true, k4 p hp', bt_not (by omega), ev, Bool.not_eq_true']
              constructor
              · rintro (⟨w, w1, w2⟩ | q)
                · exact ⟨w, by omega, w2⟩
                · exact ⟨v, by omega, by rw [← yy y, ev], q⟩
              · rintro ⟨w, w1, w2, w3⟩
                by_cases q : w = v
                · subst q; exact Or.inr w3
                · exact Or.inl ⟨w, by omega, w2, w3⟩
            · intro s hs
              have pn := p2n hn
              obtain ⟨x, x1, x2, x3⟩ := sv_nat (f := f) (v := l3) hn
              rw [i_nat x1]
              have key : (∃ w, w < v + 1 ∧ sv f n w = Int32.ofNat s) ↔ (∃ w, w < v ∧ sv f n w = Int32.ofNat s) ∨ s = x := by
                constructor
                · rintro ⟨w, w1, w2⟩
                  by_cases q : w = v
                  · right
                    subst q
                    have : Int32.ofNat x = Int32.ofNat s := by rw [← x3, ev]; exact w2
                    have := congrArg Int32.toInt this
                    rw [Int32.toInt_ofNat_of_lt (by omega), Int32.toInt_ofNat_of_lt (by omega)] at this
                    omega
                  · exact Or.inl ⟨w, by omega, w2⟩
                · rintro (⟨w, w1, w2⟩ | q)
                  · exact ⟨w, by omega, w2⟩
                  · exact ⟨v, by omega, by rw [q, ← x3, ev]⟩
              rw [key]
              rw [mI_wI, if_neg (fun w => absurd w.1 (by decide)), mI_wI, if_neg (fun w => absurd w.1 (by decide)), mI_wI, if_neg (fun w => absurd w.1 (by decide)), mI_wI]
              by_cases q : s = x
              · rw [if_pos ⟨rfl, q⟩]
                exact ⟨fun _ => Or.inr q, fun _ => by decide⟩
              · rw [if_neg (fun z => q z.2), k5 s hs]
                exact ⟨Or.inl, fun z => z.resolve_right q⟩
  have A : ∀ (q : Nat) (l3 : Int32) (v : Nat) (k : mh_T), l3.toInt = (v : Int) → v ≤ 256 → 256 - v < q → Ok [31] h0 k → (∀ s, s < v → s < 2 ^ n → mI k 31 s = 0) → ME g uX5_open 42 [.ref 7, .ref 2, .int x1, .int l3, .retAddr 0] [] k (qV P) := by
    intro q
    induction q with
    | zero => intro l3 v k _ _ hq; exact absurd hq (Nat.not_lt_zero _)
    | succ q ih =>
      intro l3 v k e3 hv hq ok cl
      refine r_X5_open_42 x1 l3 ⟨fun z => ?_, fun z => ?_⟩
      · refine B (2 ^ m + 1) 0 0 k (by decide) (Nat.zero_le _) (Nat.lt_succ_of_le (Nat.sub_le _ _)) ok.1 (Fr_t2 r0 ok.2.1 (by decide)) ?_ ?_ ?_ ?_ ?_ ?_
        · rw [Ok_eq ok (by decide)]; exact v0
        · rw [Ok_eq ok (by decide)]; exact v1
        · rw [Ok_eq ok (by decide)]; exact v2
        · intro p hp'
          rw [Ok_eq ok (by decide), v3, bt_zr]
          exact ⟨fun z => absurd z (by decide), fun ⟨w, w1, _⟩ => absurd w1 (Nat.not_lt_zero _)⟩
        · intro p hp'
          rw [Ok_eq ok (by decide), v4, bt_zr]
          exact ⟨fun z => absurd z (by decide), fun ⟨w, w1, _⟩ => absurd w1 (Nat.not_lt_zero _)⟩
        · intro s hs
          rw [i_lt, ex1, e3] at z
          have pn := p2n hn
          exact ⟨fun q => absurd (cl s (by omega) hs) q, fun ⟨w, w1, _⟩ => absurd w1 (Nat.not_lt_zero _)⟩
      · rw [i_lt, ex1, e3] at z
        rw [i_nat e3]
        exact ⟨i_vp e3 (by omega), ih (l3 + 1) (v + 1) _ (i_inc e3 (by omega)) (by omega) (by omega) (Ok_w ok (k := 31) (lo := 0) (hi := 1) rfl ⟨by decide, by decide⟩ (by decide) (nt_k (by decide))) (fun s hs hs2 => by
          rw [mI_wI]
          split
          · rfl
          · rename_i q
            exact cl s (by have : ¬ s = v := fun z => q ⟨rfl, z⟩
                           omega) hs2)⟩
  exact A 257 0 0 h0 (by decide) (Nat.zero_le _) (by omega) (Ok_rf g0) (fun s hs => absurd hs (Nat.not_lt_zero _))
