def CL (f : Nat → Int32) (n m s : Nat) : Prop := ∃ v, v < 2 ^ m ∧ ∀ t, t < 8 → bt (Int32.ofNat s) t = true → bt (sv f n v) t = true
/-- what the class knows of the lines -/
def LF (f : Nat → Int32) (n m : Nat) (h : mh_T) : Prop := (mI h 7 0).toInt = (m : Int) ∧ (mI h 7 1).toInt = (n : Int) ∧ mI h 7 2 = wyc f n (2 ^ m) ∧ (∀ p, p < 9 → (bt (mI h 7 3) p = true ↔ ∃ w, w < 2 ^ m ∧ sv f n w = An n ∧ bt (Int32.ofNat w) p = true)) ∧ (∀ p, p < 9 → (bt (mI h 7 4) p = true ↔ ∃ w, w < 2 ^ m ∧ sv f n w = An n ∧ bt (Int32.ofNat w) p = false)) ∧ ∀ s, s < 2 ^ n → (¬ mI h 31 s = 0 ↔ CL f n m s)
theorem LF_cg {f f' : Nat → Int32} {n m : Nat} {h h' : mh_T} (hn : n ≤ 8) (e : ∀ i, 53 ≤ i → i < 85 → f i = f' i) (e7 : h'.1 7 = h.1 7) (e31 : h'.1 31 = h.1 31) (l : LF f n m h) : LF f' n m h' := by
  have g7 : ∀ j, mI h' 7 j = mI h 7 j := fun j => congrFun e7 j
  have g31 : ∀ j, mI h' 31 j = mI h 31 j := fun j => congrFun e31 j
  have es : ∀ w, sv f' n w = sv f n w := fun w => (slb_cg n hn e).symm
  unfold LF CL
  simp only [g7, g31, es, ← wyc_cg hn e]
  exact l
theorem v_X5_openL {g : gT} {h : mh_T} {P : mh_T → Prop} {f : Nat → Int32} {n m : Nat} (hG : GI h) (em : (mI h 2 2).toInt = (m : Int)) (hm9 : m ≤ 9) (en : (mI h 2 4).toInt = (n : Int)) (hn : n ≤ 8) (hl : ∀ l : Nat, l < n → mI h 19 l = f (77 + l) ∧ Lp (mI h 18 l) (f (53 + 3 * l)) (f (54 + 3 * l)) (f (55 + 3 * l))) (hp : ∀ h', GI h' → Fr [7, 31] h h' → LF f n m h' → P h') : MCv g yX5_open uX5_open [.ref 7, .ref 2] h P := by
  refine e_X5_open (fun x1 ex => ?_)
  have q1 : mI (wI h 7 0 (mI h 2 2)) 2 4 = mI h 2 4 := by rw [mI_wI, if_neg (by decide)]
  rw [q1] at ex ⊢
  have g0 : GI (wI (wI (wI (wI (wI h 7 0 (mI h 2 2)) 7 1 (mI h 2 4)) 7 2 0) 7 3 0) 7 4 0) := GI_w (GI_w (GI_w (GI_w (GI_w hG (k := 7) (j := 0) (lo := 0) (hi := 9) (by decide) (GI_rd hG 2 2 (by decide))) (k := 7) (j := 1) (lo := 0) (hi := 8) (by decide) (GI_rd hG 2 4 (by decide))) (k := 7) (j := 2) (lo := -2147483648) (hi := 2147483647) (by decide) (R_full _)) (k := 7) (j := 3) (lo := -2147483648) (hi := 2147483647) (by decide) (R_full _)) (k := 7) (j := 4) (lo := -2147483648) (hi := 2147483647) (by decide) (R_full _)
  have r0 : Fr [7, 31] h (wI (wI (wI (wI (wI h 7 0 (mI h 2 2)) 7 1 (mI h 2 4)) 7 2 0) 7 3 0) 7 4 0) := Fr_w (Fr_w (Fr_w (Fr_w (Fr_w (Fr_rf h) (by decide)) (by decide)) (by decide)) (by decide)) (by decide)
  have v0 : mI (wI (wI (wI (wI (wI h 7 0 (mI h 2 2)) 7 1 (mI h 2 4)) 7 2 0) 7 3 0) 7 4 0) 7 0 = mI h 2 2 := by
    rw [mI_wI, if_neg (by decide), mI_wI, if_neg (by decide), mI_wI, if_neg (by decide), mI_wI, if_neg (by decide), mI_wI, if_pos ⟨rfl, rfl⟩]
  have v1 : mI (wI (wI (wI (wI (wI h 7 0 (mI h 2 2)) 7 1 (mI h 2 4)) 7 2 0) 7 3 0) 7 4 0) 7 1 = mI h 2 4 := by
    rw [mI_wI, if_neg (by decide), mI_wI, if_neg (by decide), mI_wI, if_neg (by decide), mI_wI, if_pos ⟨rfl, rfl⟩]
  have v2 : mI (wI (wI (wI (wI (wI h 7 0 (mI h 2 2)) 7 1 (mI h 2 4)) 7 2 0) 7 3 0) 7 4 0) 7 2 = 0 := by
    rw [mI_wI, if_neg (by decide), mI_wI, if_neg (by decide), mI_wI, if_pos ⟨rfl, rfl⟩]
  rw [v1, i_of en (by omega)] at ex
  have v3 : mI (wI (wI (wI (wI (wI h 7 0 (mI h 2 2)) 7 1 (mI h 2 4)) 7 2 0) 7 3 0) 7 4 0) 7 3 = 0 := by
    rw [mI_wI, if_neg (by decide), mI_wI, if_pos ⟨rfl, rfl⟩]
  have v4 : mI (wI (wI (wI (wI (wI h 7 0 (mI h 2 2)) 7 1 (mI h 2 4)) 7 2 0) 7 3 0) 7 4 0) 7 4 = 0 := by
    rw [mI_wI, if_pos ⟨rfl, rfl⟩]
  generalize wI (wI (wI (wI (wI h 7 0 (mI h 2 2)) 7 1 (mI h 2 4)) 7 2 0) 7 3 0) 7 4 0 = h0 at g0 r0 v0 v1 v2 v3 v4
  have p8 : ((1 : Int32) <<< (Int32.ofNat n &&& 31)).toInt = (2 : Int) ^ n := shl_n (by omega)
  have n2 : (1 : Int) ≤ 2 ^ n ∧ (2 : Int) ^ n ≤ 256 := by
    rcases (show n = 0 ∨ n = 1 ∨ n = 2 ∨ n = 3 ∨ n = 4 ∨ n = 5 ∨ n = 6 ∨ n = 7 ∨ n = 8 by omega) with q | q | q | q | q | q | q | q | q <;> subst q <;> decide
  have ex1 : x1.toInt = (2 : Int) ^ n - 1 := by rw [ex]; exact i_sub p8 (by decide) (by omega)
  have m2 : ((2 ^ m : Nat) : Int) = (2 : Int) ^ m ∧ 2 ^ m ≤ 512 := by
    rcases (show m = 0 ∨ m = 1 ∨ m = 2 ∨ m = 3 ∨ m = 4 ∨ m = 5 ∨ m = 6 ∨ m = 7 ∨ m = 8 ∨ m = 9 by omega) with q | q | q | q | q | q | q | q | q | q <;> subst q <;> decide
  have pm : ∀ {k : mh_T}, mI k 7 0 = mI h 2 2 → ((1 : Int32) <<< ((mI k 7 0) &&& 31)).toInt = ((2 ^ m : Nat) : Int) := fun e => by
    rw [e, i_of em (by omega), shl_n (by omega), m2.1]
  have B : ∀ (q : Nat) (l3 : Int32) (v : Nat) (k : mh_T), l3.toInt = (v : Int) → v ≤ 2 ^ m → 2 ^ m - v < q → GI k → Fr [7, 31] h k → mI k 7 0 = mI h 2 2 → mI k 7 1 = mI h 2 4 → mI k 7 2 = wyc f n v → (∀ p, p < 9 → (bt (mI k 7 3) p = true ↔ ∃ w, w < v ∧ sv f n w = An n ∧ bt (Int32.ofNat w) p = true)) → (∀ p, p < 9 → (bt (mI k 7 4) p = true ↔ ∃ w, w < v ∧ sv f n w = An n ∧ bt (Int32.ofNat w) p = false)) → (∀ s, s < 2 ^ n → (¬ mI k 31 s = 0 ↔ ∃ w, w < v ∧ sv f n w = Int32.ofNat s)) → ME g uX5_open 62 [.ref 7, .ref 2, .int x1, .int l3, .retAddr 0] [] k (qV P) := by
    intro q
    induction q with
    | zero => intro l3 v k _ _ hq; exact absurd hq (Nat.not_lt_zero _)
    | succ q ih =>
      intro l3 v k e3 hv hq kG kF k0 k1 k2 k3 k4 k5
      refine r_X5_open_62 x1 l3 ⟨fun z => ?_, fun z => ?_⟩
      · rw [i_le, pm k0, e3] at z
        have : v = 2 ^ m := by omega
        subst this
        refine v_spread (n := n) (E := fun s => ∃ w, w < 2 ^ m ∧ sv f n w = Int32.ofNat s) kG (by rw [k1]; exact en) hn k5 (fun h2 o2 u2 => hp h2 o2.1 (Fr_t2 kF o2.2.1 (by decide)) ⟨?_, ?_, ?_, ?_, ?_, fun s hs => ?_⟩)
        · rw [Ok_eq o2 (by decide), k0]; exact em
        · rw [Ok_eq o2 (by decide), k1]; exact en
        · rw [Ok_eq o2 (by decide)]; exact k2
        · rw [Ok_eq o2 (by decide)]; exact k3
        · rw [Ok_eq o2 (by decide)]; exact k4
        · rw [u2 s hs]
          constructor
          · rintro ⟨s', h1, ⟨w, w1, w2⟩, h3⟩
            exact ⟨w, w1, fun t ht hx => by rw [w2]; exact h3 t ht hx⟩
          · rintro ⟨w, w1, w2⟩
            obtain ⟨x, x1, x2, x3⟩ := sv_nat (f := f) (v := Int32.ofNat w) hn
            exact ⟨x, x2, ⟨w, w1, x3⟩, fun t ht hx => by rw [← x3]; exact w2 t ht hx⟩
      · rw [i_le, pm k0, e3] at z
        refine v_soLines (f := f) (n := n) l3 e3 (by omega) (by rw [k1]; exact en) hn (fun l hl' => ?_) ?_
        · rw [show mI k 19 l = mI h 19 l from congrFun (kF 19 (by decide) (by decide)).1 l, show mI k 18 l = mI h 18 l from congrFun (kF 18 (by decide) (by decide)).1 l]
          exact hl l hl'
        · have sr := slb_R (f := f) (v := l3) n hn
          have e3' := i_inc e3 (by omega)
          have ev : l3 = Int32.ofNat v := i_of e3 (by omega)
          have xa : x1 = An n := ex
          have ny : ¬ slb f l3 n = x1 → ¬ slb f l3 n = An n := fun q z => q (z.trans xa.symm)
          have yy : slb f l3 n = x1 → slb f l3 n = An n := fun q => q.trans xa
          refine ⟨vin sr (by decide), fun y => ?_, fun y => ?_⟩
          · refine ih (l3 + 1) (v + 1) _ e3' (by omega) (by omega) (GI_w kG (k := 31) (lo := 0) (hi := 1) rfl ⟨by decide, by decide⟩) (Fr_w kF (by decide)) ?_ ?_ ?_ ?_ ?_ ?_
            · rw [mI_wI, if_neg (fun w => absurd w.1 (by decide))]; exact k0
            · rw [mI_wI, if_neg (fun w => absurd w.1 (by decide))]; exact k1
            · rw [mI_wI, if_neg (fun w => absurd w.1 (by decide)), k2]
              show _ = (if slb f (Int32.ofNat v) n = (1 <<< (Int32.ofNat n &&& 31)) - 1 then _ else _)
              rw [← ev, ← ex, if_neg y]
            · intro p hp'
              rw [mI_wI, if_neg (fun w => absurd w.1 (by decide)), k3 p hp']
              refine ⟨fun ⟨w, w1, w2⟩ => ⟨w, by omega, w2⟩, fun ⟨w, w1, w2, w3⟩ => ⟨w, ?_, w2, w3⟩⟩
              by_cases q : w = v
              · subst q
                exact absurd (by rw [ev]; exact w2) (ny y)
              · omega
            · intro p hp'
              rw [mI_wI, if_neg (fun w => absurd w.1 (by decide)), k4 p hp']
              refine ⟨fun ⟨w, w1, w2⟩ => ⟨w, by omega, w2⟩, fun ⟨w, w1, w2, w3⟩ => ⟨w, ?_, w2, w3⟩⟩
              by_cases q : w = v
              · subst q
                exact absurd (by rw [ev]; exact w2) (ny y)
              · omega
            · intro s hs
              have pn := p2n hn
              obtain ⟨x, x1, x2, x3⟩ := sv_nat (f := f) (v := l3) hn
              rw [i_nat x1]
              have key : (∃ w, w < v + 1 ∧ sv f n w = Int32.ofNat s) ↔ (∃ w, w < v ∧ sv f n w = Int32.ofNat s) ∨ s = x := by
                constructor
                · rintro ⟨w, w1, w2⟩
                  by_cases q : w = v
                  · right
                    subst q
                    have : Int32.ofNat x = Int32.ofNat s := by rw [← x3, ev]; exact w2
                    have := congrArg Int32.toInt this
                    rw [Int32.toInt_ofNat_of_lt (by omega), Int32.toInt_ofNat_of_lt (by omega)] at this
                    omega
                  · exact Or.inl ⟨w, by omega, w2⟩
                · rintro (⟨w, w1, w2⟩ | q)
                  · exact ⟨w, by omega, w2⟩
                  · exact ⟨v, by omega, by rw [q, ← x3, ev]⟩
              rw [key]
              rw [mI_wI]
              by_cases q : s = x
              · rw [if_pos ⟨rfl, q⟩]
                exact ⟨fun _ => Or.inr q, fun _ => by decide⟩
              · rw [if_neg (fun z => q z.2), k5 s hs]
                exact ⟨Or.inl, fun z => z.resolve_right q⟩
          · refine ih (l3 + 1) (v + 1) _ e3' (by omega) (by omega) (GI_w (GI_w (GI_w (GI_w kG (k := 31) (lo := 0) (hi := 1) rfl ⟨by decide, by decide⟩) (k := 7) (j := 2) (lo := -2147483648) (hi := 2147483647) (by decide) (R_full _)) (k := 7) (j := 3) (lo := -2147483648) (hi := 2147483647) (by decide) (R_full _)) (k := 7) (j := 4) (lo := -2147483648) (hi := 2147483647) (by decide) (R_full _)) (Fr_w (Fr_w (Fr_w (Fr_w kF (by decide)) (by decide)) (by decide)) (by decide)) ?_ ?_ ?_ ?_ ?_ ?_
            · rw [mI_wI, if_neg (by decide), mI_wI, if_neg (by decide), mI_wI, if_neg (by decide), mI_wI, if_neg (fun w => absurd w.1 (by decide))]; exact k0
            · rw [mI_wI, if_neg (by decide), mI_wI, if_neg (by decide), mI_wI, if_neg (by decide), mI_wI, if_neg (fun w => absurd w.1 (by decide))]; exact k1
            · rw [mI_wI, if_neg (by decide), mI_wI, if_neg (by decide), mI_wI, if_pos ⟨rfl, rfl⟩, mI_wI, if_neg (fun w => absurd w.1 (by decide)), k2]
              show _ = (if slb f (Int32.ofNat v) n = (1 <<< (Int32.ofNat n &&& 31)) - 1 then _ else _)
              rw [← ev, ← ex, if_pos y]
            · intro p hp'
              rw [mI_wI, if_neg (by decide), mI_wI, if_pos ⟨rfl, rfl⟩, mI_wI, if_neg (by decide), mI_wI, if_neg (fun w => absurd w.1 (by decide)), bt_or2, Bool.or_eq_true, k3 p hp', ev]
              constructor
              · rintro (⟨w, w1, w2⟩ | q)
                · exact ⟨w, by omega, w2⟩
                · exact ⟨v, by omega, by rw [← yy y, ev], q⟩
              · rintro ⟨w, w1, w2, w3⟩
                by_cases q : w = v
                · subst q; exact Or.inr w3
                · exact Or.inl ⟨w, by omega, w2, w3⟩
            · intro p hp'
              rw [mI_wI, if_pos ⟨rfl, rfl⟩, mI_wI, if_neg (by decide), mI_wI, if_neg (by decide), mI_wI, if_neg (fun w => absurd w.1 (by decide)), bt_or2, Bool.or_eq_true, k4 p hp', bt_not (by omega), ev, Bool.not_eq_true']
              constructor
              · rintro (⟨w, w1, w2⟩ | q)
                · exact ⟨w, by omega, w2⟩
                · exact ⟨v, by omega, by rw [← yy y, ev], q⟩
              · rintro ⟨w, w1, w2, w3⟩
                by_cases q : w = v
                · subst q; exact Or.inr w3
                · exact Or.inl ⟨w, by omega, w2, w3⟩
            · intro s hs
              have pn := p2n hn
              obtain ⟨x, x1, x2, x3⟩ := sv_nat (f := f) (v := l3) hn
              rw [i_nat x1]
              have key : (∃ w, w < v + 1 ∧ sv f n w = Int32.ofNat s) ↔ (∃ w, w < v ∧ sv f n w = Int32.ofNat s) ∨ s = x := by
                constructor
                · rintro ⟨w, w1, w2⟩
                  by_cases q : w = v
                  · right
                    subst q
                    have : Int32.ofNat x = Int32.ofNat s := by rw [← x3, ev]; exact w2
                    have := congrArg Int32.toInt this
                    rw [Int32.toInt_ofNat_of_lt (by omega), Int32.toInt_ofNat_of_lt (by omega)] at this
                    omega
                  · exact Or.inl ⟨w, by omega, w2⟩
                · rintro (⟨w, w1, w2⟩ | q)
                  · exact ⟨w, by omega, w2⟩
                  · exact ⟨v, by omega, by rw [q, ← x3, ev]⟩
              rw [key]
              rw [mI_wI, if_neg (fun w => absurd w.1 (by decide)), mI_wI, if_neg (fun w => absurd w.1 (by decide)), mI_wI, if_neg (fun w => absurd w.1 (by decide)), mI_wI]
              by_cases q : s = x
              · rw [if_pos ⟨rfl, q⟩]
                exact ⟨fun _ => Or.inr q, fun _ => by decide⟩
              · rw [if_neg (fun z => q z.2), k5 s hs]
                exact ⟨Or.inl, fun z => z.resolve_right q⟩
  have A : ∀ (q : Nat) (l3 : Int32) (v : Nat) (k : mh_T), l3.toInt = (v : Int) → v ≤ 256 → 256 - v < q → Ok [31] h0 k → (∀ s, s < v → s < 2 ^ n → mI k 31 s = 0) → ME g uX5_open 42 [.ref 7, .ref 2, .int x1, .int l3, .retAddr 0] [] k (qV P) := by
    intro q
    induction q with
    | zero => intro l3 v k _ _ hq; exact absurd hq (Nat.not_lt_zero _)
    | succ q ih =>
      intro l3 v k e3 hv hq ok cl
      refine r_X5_open_42 x1 l3 ⟨fun z => ?_, fun z => ?_⟩
      · refine B (2 ^ m + 1) 0 0 k (by decide) (Nat.zero_le _) (Nat.lt_succ_of_le (Nat.sub_le _ _)) ok.1 (Fr_t2 r0 ok.2.1 (by decide)) ?_ ?_ ?_ ?_ ?_ ?_
        · rw [Ok_eq ok (by decide)]; exact v0
        · rw [Ok_eq ok (by decide)]; exact v1
        · rw [Ok_eq ok (by decide)]; exact v2
        · intro p hp'
          rw [Ok_eq ok (by decide), v3, bt_zr]
          exact ⟨fun z => absurd z (by decide), fun ⟨w, w1, _⟩ => absurd w1 (Nat.not_lt_zero _)⟩
        · intro p hp'
          rw [Ok_eq ok (by decide), v4, bt_zr]
          exact ⟨fun z => absurd z (by decide), fun ⟨w, w1, _⟩ => absurd w1 (Nat.not_lt_zero _)⟩
        · intro s hs
          rw [i_lt, ex1, e3] at z
          have pn := p2n hn
          exact ⟨fun q => absurd (cl s (by omega) hs) q, fun ⟨w, w1, _⟩ => absurd w1 (Nat.not_lt_zero _)⟩
      · rw [i_lt, ex1, e3] at z
        rw [i_nat e3]
        exact ⟨i_vp e3 (by omega), ih (l3 + 1) (v + 1) _ (i_inc e3 (by omega)) (by omega) (by omega) (Ok_w ok (k := 31) (lo := 0) (hi := 1) rfl ⟨by decide, by decide⟩ (by decide) (nt_k (by decide))) (fun s hs hs2 => by
          rw [mI_wI]
          split
          · rfl
          · rename_i q
            exact cl s (by have : ¬ s = v := fun z => q ⟨rfl, z⟩
                           omega) hs2)⟩
  exact A 257 0 0 h0 (by decide) (Nat.zero_le _) (by omega) (Ok_rf g0) (fun s hs => absurd hs (Nat.not_lt_zero _))
/-! LINES: what is asked of them -/
abbrev pcn (s : Nat) : Nat := S9 (fun t => bt (Int32.ofNat s) t)
theorem s9_le (g : Nat → Bool) : S9 g ≤ 9 := by
  have t : ∀ b : Bool, b.toNat ≤ 1 := fun b => by cases b <;> decide
  unfold S9
  have := t (g 0); have := t (g 1); have := t (g 2); have := t (g 3); have := t (g 4); have := t (g 5); have := t (g 6); have := t (g 7); have := t (g 8)
  omega
theorem s9_mono {g g' : Nat → Bool} (h : ∀ t, t < 9 → g t = true → g' t = true) : S9 g ≤ S9 g' := by
  have t : ∀ i, i < 9 → (g i).toNat ≤ (g' i).toNat := fun i hi => by
    have := h i hi
    cases a : g i
    · exact Nat.zero_le _
    · rw [this a]; exact Nat.le_refl _
  unfold S9
  have := t 0 (by decide); have := t 1 (by decide); have := t 2 (by decide); have := t 3 (by decide); have := t 4 (by decide); have := t 5 (by decide); have := t 6 (by decide); have := t 7 (by decide); have := t 8 (by decide)
  omega
theorem pcn_i (s : Nat) : (Int32.ofNat (pcn s)).toInt = (pcn s : Int) := Int32.toInt_ofNat_of_lt (by have : pcn s ≤ 9 := s9_le _; omega)
def btr (x : Int32) : Nat → Int32
  | 0 => 0
  | k + 1 => btr x k + ((x >>> (Int32.ofNat k &&& 31)) &&& 1)
set_option maxRecDepth 100000 in
theorem btr_n : ∀ w, w < 256 → btr (Int32.ofNat w) 20 = Int32.ofNat (pcn w) := by decide +kernel
theorem w_bits {g : gT} {h : mh_T} {P : Int32 → mh_T → Prop} {w : Nat} (l0 : Int32) (e : l0.toInt = (w : Int)) (hw : w < 256) (hp : P (Int32.ofNat (pcn w)) h) : MCi g yX11_bits uX11_bits [.int l0] h P := by
  have L : ∀ (q : Nat) (l1 l2 : Int32) (k : Nat), l2.toInt = (k : Int) → k ≤ 20 → 20 - k < q → l1 = btr l0 k → ME g uX11_bits 4 [.int l0, .int l1, .int l2] [] h (qI P) := by
    intro q
    induction q with
    | zero => intro l1 l2 k _ _ hq; exact absurd hq (Nat.not_lt_zero _)
    | succ q ih =>
      intro l1 l2 k e2 hk hq e1
      refine r_X11_bits_4 l0 l1 l2 ⟨fun z => ?_, fun z x2 ex => ?_⟩
      · rw [i_le, show (20 : Int32).toInt = 20 by decide, e2] at z
        have : k = 20 := by omega
        subst this
        rw [e1, i_of e (by omega), btr_n w hw]
        exact hp
      · rw [i_le, show (20 : Int32).toInt = 20 by decide, e2] at z
        refine ih x2 (l2 + 1) (k + 1) (i_inc e2 (by omega)) (by omega) (by omega) ?_
        rw [ex, e1, i_of e2 (by omega)]
        rfl
  exact e_X11_bits l0 (L 21 0 0 0 (by decide) (Nat.zero_le _) (by omega) rfl)
theorem v_bc {g : gT} {h : mh_T} {P : Int32 → mh_T → Prop} {w : Nat} (l0 : Int32) (e : l0.toInt = (w : Int)) (hw : w < 256) (hp : P (Int32.ofNat (pcn w)) h) : MCi g yJ6_bitCount_0f7a4 uJ6_bitCount_0f7a4 [.int l0] h P := by
  refine v_bitCount l0 ?_
  rw [i_of e (by omega), bc_n w (by omega)]
  exact hp
theorem m2n {m : Nat} (hm : m ≤ 9) : ((2 ^ m : Nat) : Int) = (2 : Int) ^ m ∧ 2 ^ m ≤ 512 := by
  rcases (show m = 0 ∨ m = 1 ∨ m = 2 ∨ m = 3 ∨ m = 4 ∨ m = 5 ∨ m = 6 ∨ m = 7 ∨ m = 8 ∨ m = 9 by omega) with q | q | q | q | q | q | q | q | q | q <;> subst q <;> decide
theorem shl_m {x : Int32} {m : Nat} (em : x.toInt = (m : Int)) (hm : m ≤ 9) : ((1 : Int32) <<< (x &&& 31)).toInt = ((2 ^ m : Nat) : Int) := by
  rw [i_of em (by omega), shl_n (by omega), (m2n hm).1]
theorem w_canLines {g : gT} {h : mh_T} {P : Int32 → mh_T → Prop} {n m s : Nat} (l1 : Int32) (e1 : l1.toInt = (s : Int)) (hs : s < 256) (en : (mI h 45 52).toInt = (n : Int)) (hn : n ≤ 8) (em : (mI h 45 51).toInt = (m : Int)) (hm9 : m ≤ 9) (h1 : CL (fun j => mI h 45 j) n m s → P 1 h) (h0 : ¬ CL (fun j => mI h 45 j) n m s → P 0 h) : MCi g yX11_canLines uX11_canLines [.ref 11, .int l1] h P := by
  have n51 : Int32.toNatClampNeg 51 = 51 := by decide
  have m2 := m2n hm9
  have pm := shl_m em hm9
  have sb : ∀ y : Int32, (l1 &&& (y ^^^ (-1))) = 0 ↔ ∀ t, t < 8 → bt (Int32.ofNat s) t = true → bt y t = true := fun y => by
    rw [sub_0, i_of e1 (by omega)]
    refine ⟨fun q t ht hx => q t (by omega) hx, fun q t ht hx => ?_⟩
    by_cases z : t < 8
    · exact q t z hx
    · rw [bt_hi hs (by omega)] at hx; cases hx
  have L : ∀ (q : Nat) (l2 l3 : Int32) (v : Nat), l3.toInt = (v : Int) → v ≤ 2 ^ m → 2 ^ m - v < q → ((l2 = 0 ∧ ∀ w, w < v → ¬ ∀ t, t < 8 → bt (Int32.ofNat s) t = true → bt (sv (fun j => mI h 45 j) n w) t = true) ∨ (l2 = 1 ∧ CL (fun j => mI h 45 j) n m s)) → ME g uX11_canLines 4 [.ref 11, .int l1, .int l2, .int l3] [] h (qI P) := by
    intro q
    induction q with
    | zero => intro l2 l3 v _ _ hq; exact absurd hq (Nat.not_lt_zero _)
    | succ q ih =>
      intro l2 l3 v e3 hv hq iv
      have one : l2 = 1 ∧ CL (fun j => mI h 45 j) n m s → (l2 = 0 ∨ l2 = 1) ∧ P l2 h := fun z => by
        rw [z.1]
        exact ⟨Or.inr rfl, h1 z.2⟩
      refine r_X11_canLines_4 l1 l2 l3 ⟨fun z => ?_, fun z => ⟨fun y => ?_, fun y => ?_⟩⟩
      · rw [n51, i_le, pm, e3] at z
        rcases iv with a | a
        · rw [a.1]
          refine ⟨Or.inl rfl, h0 (fun ⟨w, w1, w2⟩ => a.2 w (by omega) w2)⟩
        · exact one a
      · rcases iv with a | a
        · exact absurd a.1 y
        · exact one a
      · rw [n51, i_le, pm, e3] at z
        have a := iv.resolve_right (fun a => absurd (a.1.symm.trans y) (by decide))
        have e3' := i_inc e3 (by omega)
        have ev : l3 = Int32.ofNat v := i_of e3 (by omega)
        refine w_linesBy l3 en hn ⟨fun x => ih 0 (l3 + 1) (v + 1) e3' (by omega) (by omega) (Or.inl ⟨rfl, fun w hw => ?_⟩), fun x => ih 1 (l3 + 1) (v + 1) e3' (by omega) (by omega) (Or.inr ⟨rfl, v, by omega, ?_⟩)⟩
        · by_cases c : w = v
          · subst c
            rw [sb, ev] at x
            exact x
          · exact a.2 w (by omega)
        · rw [sb, ev] at x
          exact x
  exact e_X11_canLines l1 (L (2 ^ m + 1) 0 0 0 (by decide) (Nat.zero_le _) (Nat.lt_succ_of_le (Nat.sub_le _ _)) (Or.inl ⟨rfl, fun w hw => absurd hw (Nat.not_lt_zero _)⟩))
/-- how many of the first v -/
def ctb (p : Nat → Bool) : Nat → Int32
  | 0 => 0
  | v + 1 => if p v = true then ctb p v + 1 else ctb p v
theorem ctb_le {p : Nat → Bool} : ∀ v, v ≤ 600 → 0 ≤ (ctb p v).toInt ∧ (ctb p v).toInt ≤ v
  | 0, _ => show 0 ≤ (0 : Int32).toInt ∧ (0 : Int32).toInt ≤ (0 : Nat) from by decide
  | v + 1, hv => by
    have ih := ctb_le (p := p) v (by omega)
    show 0 ≤ (if p v = true then ctb p v + 1 else ctb p v).toInt ∧ (if p v = true then ctb p v + 1 else ctb p v).toInt ≤ ((v + 1 : Nat) : Int)
    split
    · rw [i_add (a := (ctb p v).toInt) rfl (show (1 : Int32).toInt = 1 by decide) (by omega)]
      omega
    · omega
theorem ctb_0 {p : Nat → Bool} : ∀ v, v ≤ 600 → (ctb p v = 0 ↔ ∀ w, w < v → p w = false)
  | 0, _ => ⟨fun _ w hw => absurd hw (Nat.not_lt_zero _), fun _ => rfl⟩
  | v + 1, hv => by
    have ih := ctb_0 (p := p) v (by omega)
    have le := ctb_le (p := p) v (by omega)
    show (if p v = true then ctb p v + 1 else ctb p v) = 0 ↔ _
    split
    · rename_i q
      refine ⟨fun z => ?_, fun z => absurd q (by rw [z v (by omega)]; decide)⟩
      have := congrArg Int32.toInt z
      rw [i_add (a := (ctb p v).toInt) rfl (show (1 : Int32).toInt = 1 by decide) (by omega), show (0 : Int32).toInt = 0 by decide] at this
      omega
    · rename_i q
      rw [ih]
      refine ⟨fun z w hw => ?_, fun z w hw => z w (by omega)⟩
      by_cases c : w = v
      · subst c; exact Bool.eq_false_iff.mpr q
      · exact z w (by omega)
abbrev oneB (f : Nat → Int32) (n m p : Nat) (b : Bool) : Prop := ∃ w, w < 2 ^ m ∧ sv f n w = An n ∧ bt (Int32.ofNat w) p = b
/-- what a point must be -/
def fcv (N O : Prop) (r : Int32) : Prop := (¬ N → ¬ O → r = -1) ∧ (¬ N → O → r = 1) ∧ (N → ¬ O → r = 0) ∧ (N → O → r = -2)
theorem w_forced_L {g : gT} {h : mh_T} {P : Int32 → mh_T → Prop} {n m p : Nat} (l1 : Int32) (e1 : l1.toInt = (p : Int)) (hp9 : p < 9) (en : (mI h 45 52).toInt = (n : Int)) (hn : n ≤ 8) (em : (mI h 45 51).toInt = (m : Int)) (hm9 : m ≤ 9) (hno : (∀ r, fcv (oneB (fun j => mI h 45 j) n m p false) (oneB (fun j => mI h 45 j) n m p true) r → r = -1) → MCi g yX11_no uX11_no [.ref 11, .int 6] h (fun r h' => P r h')) (hp : ∀ r, fcv (oneB (fun j => mI h 45 j) n m p false) (oneB (fun j => mI h 45 j) n m p true) r → P r h) : ME g uX11_forced 41 [.ref 11, .int l1, .int 0, .int 0, .int 0] [] h (qI P) := by
  have n51 : Int32.toNatClampNeg 51 = 51 := by decide
  have n52 : Int32.toNatClampNeg 52 = 52 := by decide
  have m2 := m2n hm9
  have pm := shl_m em hm9
  have L : ∀ (q : Nat) (l2 l3 l4 : Int32) (v : Nat), l4.toInt = (v : Int) → v ≤ 2 ^ m → 2 ^ m - v < q → l2 = ctb (fun w => decide (sv (fun j => mI h 45 j) n w = An n) && !bt (Int32.ofNat w) p) v → l3 = ctb (fun w => decide (sv (fun j => mI h 45 j) n w = An n) && bt (Int32.ofNat w) p) v → ME g uX11_forced 41 [.ref 11, .int l1, .int l2, .int l3, .int l4] [] h (qI P) := by
    intro q
    induction q with
    | zero => intro l2 l3 l4 v _ _ hq; exact absurd hq (Nat.not_lt_zero _)
    | succ q ih =>
      intro l2 l3 l4 v e4 hv hq e2 e3
      refine r_X11_forced_41 l1 l2 l3 l4 ⟨fun z => ?_, fun z => ?_⟩
      · rw [n51, i_le, pm, e4] at z
        have : v = 2 ^ m := by omega
        subst this
        have b2 := ctb_le (p := fun w => decide (sv (fun j => mI h 45 j) n w = An n) && !bt (Int32.ofNat w) p) (2 ^ m) (by omega)
        have b3 := ctb_le (p := fun w => decide (sv (fun j => mI h 45 j) n w = An n) && bt (Int32.ofNat w) p) (2 ^ m) (by omega)
        have c2 : l2 = 0 ↔ ¬ oneB (fun j => mI h 45 j) n m p false := by
          rw [e2, ctb_0 _ (by omega)]
          refine ⟨fun y ⟨w, w1, w2, w3⟩ => ?_, fun y w hw => ?_⟩
          · have := y w w1
            rw [decide_eq_true w2, w3] at this
            cases this
          · by_cases c : sv (fun j => mI h 45 j) n w = An n
            · cases d : bt (Int32.ofNat w) p
              · exact absurd ⟨w, hw, c, d⟩ y
              · rw [Bool.not_true, Bool.and_false]
            · rw [decide_eq_false c, Bool.false_and]
        have c3 : l3 = 0 ↔ ¬ oneB (fun j => mI h 45 j) n m p true := by
          rw [e3, ctb_0 _ (by omega)]
          refine ⟨fun y ⟨w, w1, w2, w3⟩ => ?_, fun y w hw => ?_⟩
          · have := y w w1
            rw [decide_eq_true w2, w3] at this
            cases this
          · by_cases c : sv (fun j => mI h 45 j) n w = An n
            · cases d : bt (Int32.ofNat w) p
              · rw [Bool.and_false]
              · exact absurd ⟨w, hw, c, d⟩ y
            · rw [decide_eq_false c, Bool.false_and]
        rw [← e2] at b2
        rw [← e3] at b3
        have cs : (l2 + l3) = 0 ↔ l2 = 0 ∧ l3 = 0 := by
          have e : (l2 + l3).toInt = l2.toInt + l3.toInt := i_add rfl rfl (by omega)
          constructor
          · intro y
            rw [y, show (0 : Int32).toInt = 0 by decide] at e
            exact ⟨Int32.toInt_inj.mp (by rw [show (0 : Int32).toInt = 0 by decide]; omega), Int32.toInt_inj.mp (by rw [show (0 : Int32).toInt = 0 by decide]; omega)⟩
          · rintro ⟨a, b⟩
            rw [a, b]; rfl
        refine ⟨fun y => ⟨fun x => ⟨fun w => hp _ ⟨fun a => absurd (c2.mpr a) x, fun a => absurd (c2.mpr a) x, fun _ b => absurd (c3.mpr b) w, fun _ _ => rfl⟩, fun w => hp _ ⟨fun a => absurd (c2.mpr a) x, fun a => absurd (c2.mpr a) x, fun _ _ => rfl, fun _ b => absurd b (c3.mp w)⟩⟩, fun x => hp _ ⟨fun a b => absurd (cs.mpr ⟨x, c3.mpr b⟩) y, fun _ _ => rfl, fun a => absurd a (c2.mp x), fun a => absurd a (c2.mp x)⟩⟩, fun y => hno (fun r f => f.1 (c2.mp (cs.mp y).1) (c3.mp (cs.mp y).2))⟩
      · rw [n51, i_le, pm, e4] at z
        refine w_linesBy l4 en hn (e_X11_allLines ?_)
        rw [n52]
        have ev : l4 = Int32.ofNat v := i_of e4 (by omega)
        have e4' := i_inc e4 (by omega)
        have ea : (1 <<< ((mI h 45 52) &&& 31)) - 1 = An n := by unfold An; rw [← i_of en (by omega)]
        rw [ea]
        refine ⟨fun y => e_X11_has l4 l1 ?_, fun y => ih l2 l3 (l4 + 1) (v + 1) e4' (by omega) (by omega) ?_ ?_⟩
        · rw [bt_1 e1 hp9]
          have yd : decide (sv (fun j => mI h 45 j) n v = An n) = true := decide_eq_true (by show slb _ (Int32.ofNat v) n = An n; rw [← ev]; exact y)
          rw [ev]
          refine ⟨fun x => ⟨fun _ => ?_, fun w => absurd rfl w⟩, fun x => ⟨fun w => absurd w (by decide), fun _ => ?_⟩⟩
          · rw [← ev]
            refine ih (l2 + 1) l3 (l4 + 1) (v + 1) e4' (by omega) (by omega) ?_ ?_
            · show l2 + 1 = if (decide (sv (fun j => mI h 45 j) n v = An n) && !bt (Int32.ofNat v) p) = true then _ else _
              rw [yd, Bool.eq_false_iff.mpr x, if_pos (by decide), e2]
            · show l3 = if (decide (sv (fun j => mI h 45 j) n v = An n) && bt (Int32.ofNat v) p) = true then _ else _
              rw [yd, Bool.eq_false_iff.mpr x, if_neg (by decide), e3]
          · rw [← ev]
            refine ih l2 (l3 + 1) (l4 + 1) (v + 1) e4' (by omega) (by omega) ?_ ?_
            · show l2 = if (decide (sv (fun j => mI h 45 j) n v = An n) && !bt (Int32.ofNat v) p) = true then _ else _
              rw [yd, x, if_neg (by decide), e2]
            · show l3 + 1 = if (decide (sv (fun j => mI h 45 j) n v = An n) && bt (Int32.ofNat v) p) = true then _ else _
              rw [yd, x, if_pos (by decide), e3]
        · have yd : decide (sv (fun j => mI h 45 j) n v = An n) = false := decide_eq_false (by show ¬ slb _ (Int32.ofNat v) n = An n; rw [← ev]; exact y)
          show l2 = if (decide (sv (fun j => mI h 45 j) n v = An n) && !bt (Int32.ofNat v) p) = true then _ else _
          rw [yd, Bool.false_and, if_neg (by decide), e2]
        · have yd : decide (sv (fun j => mI h 45 j) n v = An n) = false := decide_eq_false (by show ¬ slb _ (Int32.ofNat v) n = An n; rw [← ev]; exact y)
          show l3 = if (decide (sv (fun j => mI h 45 j) n v = An n) && bt (Int32.ofNat v) p) = true then _ else _
          rw [yd, Bool.false_and, if_neg (by decide), e3]
  exact L (2 ^ m + 1) 0 0 0 0 (by decide) (Nat.zero_le _) (Nat.lt_succ_of_le (Nat.sub_le _ _)) rfl rfl
/-- the first of the fewest lines that can't all be so -/
def crf (H : Nat → Bool) : Nat → Int32
  | 0 => -2
  | s + 1 => if H s = false ∧ (crf H s = -2 ∨ pcn s < pcn (crf H s).toInt.toNat) then Int32.ofNat s else crf H s
theorem crf_R {H : Nat → Bool} : ∀ s, s ≤ 256 → crf H s = -2 ∨ ∃ w : Nat, (crf H s).toInt = (w : Int) ∧ w < s
  | 0, _ => Or.inl rfl
  | s + 1, hs => by
    show (if H s = false ∧ (crf H s = -2 ∨ pcn s < pcn (crf H s).toInt.toNat) then Int32.ofNat s else crf H s) = -2 ∨ ∃ w : Nat, (if H s = false ∧ (crf H s = -2 ∨ pcn s < pcn (crf H s).toInt.toNat) then Int32.ofNat s else crf H s).toInt = (w : Int) ∧ w < s + 1
    split
    · exact Or.inr ⟨s, Int32.toInt_ofNat_of_lt (by omega), by omega⟩
    · rcases crf_R (H := H) s (by omega) with a | ⟨w, w1, w2⟩
      · exact Or.inl a
      · exact Or.inr ⟨w, w1, by omega⟩
theorem crf_cg {H H' : Nat → Bool} : ∀ s, (∀ i, i < s → H i = H' i) → crf H s = crf H' s
  | 0, _ => rfl
  | s + 1, h => by
    show (if H s = false ∧ _ then _ else _) = (if H' s = false ∧ _ then _ else _)
    rw [crf_cg s (fun i hi => h i (by omega)), h s (by omega)]
theorem pl {a b : Nat} : Int32.ofNat (pcn a) ≤ Int32.ofNat (pcn b) ↔ pcn a ≤ pcn b := by
  rw [i_le, pcn_i, pcn_i]
  omega
theorem v_leastBroken {g : gT} {h : mh_T} {P : Int32 → mh_T → Prop} {n : Nat} (en : (mI h 7 1).toInt = (n : Int)) (hn : n ≤ 8) (hp : P (crf (fun s => decide (¬ mI h 31 s = 0)) (2 ^ n)) h) : MCi g yX5_leastBroken uX5_leastBroken [.ref 7] h P := by
  have p := p2n hn
  have pm := shl_m en (by omega)
  have L : ∀ (q : Nat) (l1 l2 : Int32) (s : Nat), l2.toInt = (s : Int) → s ≤ 2 ^ n → 2 ^ n - s < q → l1 = crf (fun s => decide (¬ mI h 31 s = 0)) s → ME g uX5_leastBroken 5 [.ref 7, .int l1, .int l2] [] h (qI P) := by
    intro q
    induction q with
    | zero => intro l1 l2 s _ _ hq; exact absurd hq (Nat.not_lt_zero _)
    | succ q ih =>
      intro l1 l2 s e2 hs hq e1
      have e2' := i_inc e2 (by omega)
      have es : l2 = Int32.ofNat s := i_of e2 (by omega)
      refine r_X5_leastBroken_5 l1 l2 ⟨fun z => ?_, fun z => ⟨?_, ?_⟩⟩
      · rw [i_le, pm, e2] at z
        have : s = 2 ^ n := by omega
        subst this
        rw [e1]
        exact hp
      · rw [i_le, pm, e2] at z
        exact i_vp e2 (by omega)
      · rw [i_le, pm, e2] at z
        rw [i_nat e2]
        have stay : ¬ (decide (¬ mI h 31 s = 0) = false ∧ (crf (fun s => decide (¬ mI h 31 s = 0)) s = -2 ∨ pcn s < pcn (crf (fun s => decide (¬ mI h 31 s = 0)) s).toInt.toNat)) → ME g uX5_leastBroken 5 [.ref 7, .int l1, .int (l2 + 1)] [] h (qI P) := fun c => ih l1 (l2 + 1) (s + 1) e2' (by omega) (by omega) (by
          show l1 = if _ then _ else _
          rw [if_neg c]
          exact e1)
        have take : (decide (¬ mI h 31 s = 0) = false ∧ (crf (fun s => decide (¬ mI h 31 s = 0)) s = -2 ∨ pcn s < pcn (crf (fun s => decide (¬ mI h 31 s = 0)) s).toInt.toNat)) → ME g uX5_leastBroken 5 [.ref 7, .int l2, .int (l2 + 1)] [] h (qI P) := fun c => ih l2 (l2 + 1) (s + 1) e2' (by omega) (by omega) (by
          show l2 = if _ then _ else _
          rw [if_pos c]
          exact es)
        have cr := crf_R (H := fun s => decide (¬ mI h 31 s = 0)) s (by omega)
        rw [← e1] at cr stay take
        refine ⟨fun y => stay (fun c => by rw [decide_eq_true y] at c; exact absurd c.1 (by decide)), fun y => ?_⟩
        have yd : decide (¬ mI h 31 s = 0) = false := decide_eq_false (fun c => c y)
        rcases cr with a | ⟨w, w1, w2⟩
        · refine ⟨fun _ => take ⟨yd, Or.inl a⟩, fun x => absurd (by rw [a]; decide) x⟩
        · refine ⟨fun x => ?_, fun x => v_bc l2 e2 (by omega) (v_bc l1 w1 (by omega) ⟨fun c => stay (fun d => ?_), fun c => take ⟨yd, Or.inr ?_⟩⟩)⟩
          · rw [i_lt, w1, show (0 : Int32).toInt = 0 by decide] at x
            omega
          · rw [pl] at c
            rcases d.2 with d | d
            · rw [d, show (-2 : Int32).toInt = -2 by decide] at w1
              omega
            · rw [w1, Int.toNat_natCast] at d
              omega
          · rw [pl] at c
            rw [w1, Int.toNat_natCast]
            omega
  exact e_X5_leastBroken (L (2 ^ n + 1) (-2) 0 0 (by decide) (Nat.zero_le _) (by omega) rfl)
theorem w_core_L {g : gT} {h : mh_T} {P : Int32 → mh_T → Prop} {n m : Nat} {H : Nat → Bool} (en : (mI h 45 52).toInt = (n : Int)) (hn : n ≤ 8) (em : (mI h 45 51).toInt = (m : Int)) (hm9 : m ≤ 9) (hH : ∀ s, s < 2 ^ n → (H s = true ↔ CL (fun j => mI h 45 j) n m s)) (hp : P (crf H (2 ^ n)) h) : ME g uX11_core 22 [.ref 11, .int (-2), .int 0] [] h (qI P) := by
  have n52 : Int32.toNatClampNeg 52 = 52 := by decide
  have p := p2n hn
  have pm : ((1 <<< ((mI h 45 52) &&& 31)) - 1).toInt = ((2 ^ n : Nat) : Int) - 1 := i_sub (shl_m en (by omega)) (show (1 : Int32).toInt = 1 by decide) (by omega)
  have L : ∀ (q : Nat) (l1 l2 : Int32) (s : Nat), l2.toInt = (s : Int) → s ≤ 2 ^ n → 2 ^ n - s < q → l1 = crf H s → ME g uX11_core 22 [.ref 11, .int l1, .int l2] [] h (qI P) := by
    intro q
    induction q with
    | zero => intro l1 l2 s _ _ hq; exact absurd hq (Nat.not_lt_zero _)
    | succ q ih =>
      intro l1 l2 s e2 hs hq e1
      have e2' := i_inc e2 (by omega)
      have es : l2 = Int32.ofNat s := i_of e2 (by omega)
      refine r_X11_core_22 l1 l2 (e_X11_allLines ?_)
      rw [n52]
      refine ⟨fun z => ?_, fun z => ?_⟩
      · rw [i_lt, pm, e2] at z
        have : s = 2 ^ n := by omega
        subst this
        rw [e1]
        exact hp
      · rw [i_lt, pm, e2] at z
        have stay : ¬ (H s = false ∧ (crf H s = -2 ∨ pcn s < pcn (crf H s).toInt.toNat)) → ME g uX11_core 22 [.ref 11, .int l1, .int (l2 + 1)] [] h (qI P) := fun c => ih l1 (l2 + 1) (s + 1) e2' (by omega) (by omega) (by
          show l1 = if _ then _ else _
          rw [if_neg c]
          exact e1)
        have take : (H s = false ∧ (crf H s = -2 ∨ pcn s < pcn (crf H s).toInt.toNat)) → ME g uX11_core 22 [.ref 11, .int l2, .int (l2 + 1)] [] h (qI P) := fun c => ih l2 (l2 + 1) (s + 1) e2' (by omega) (by omega) (by
          show l2 = if _ then _ else _
          rw [if_pos c]
          exact es)
        have cr := crf_R (H := H) s (by omega)
        rw [← e1] at cr stay take
        have hs' := hH s (by omega)
        have yes : CL (fun j => mI h 45 j) n m s → ¬ H s = false := fun c d => absurd (hs'.mpr c) (by rw [d]; decide)
        have nope : ¬ CL (fun j => mI h 45 j) n m s → H s = false := fun c => Bool.eq_false_iff.mpr (fun d => c (hs'.mp d))
        refine ⟨fun y => w_canLines l2 e2 (by omega) en hn em hm9 (fun c => ⟨fun _ => stay (fun d => yes c d.1), fun d => absurd d (by decide)⟩) (fun c => ⟨fun d => absurd rfl d, fun _ => take ⟨nope c, Or.inl y⟩⟩), fun y => ?_⟩
        obtain ⟨w, w1, w2⟩ := cr.resolve_left y
        refine w_bits l2 e2 (by omega) (w_bits l1 w1 (by omega) ⟨fun c => stay (fun d => ?_), fun c => w_canLines l2 e2 (by omega) en hn em hm9 (fun c' => ⟨fun _ => stay (fun d => yes c' d.1), fun d => absurd d (by decide)⟩) (fun c' => ⟨fun d => absurd rfl d, fun _ => take ⟨nope c', Or.inr ?_⟩⟩)⟩)
        · rw [pl] at c
          rcases d.2 with d | d
          · exact y d
          · rw [w1, Int.toNat_natCast] at d
            omega
        · rw [pl] at c
          rw [w1, Int.toNat_natCast]
          omega
  exact L (2 ^ n + 1) (-2) 0 0 (by decide) (Nat.zero_le _) (by omega) rfl
/-- the greatest of some numbers -/
def mxC (H : Nat → Prop) (c : Nat → Nat) (k : Nat) (r : Int32) : Prop := (∀ s, s < k → H s → (c s : Int) ≤ r.toInt) ∧ 0 ≤ r.toInt ∧ r.toInt ≤ 9 ∧ (r = 0 ∨ ∃ s, s < k ∧ H s ∧ r.toInt = (c s : Int))
theorem v_mostHeld {g : gT} {h : mh_T} {P : Int32 → mh_T → Prop} {n : Nat} (en : (mI h 7 1).toInt = (n : Int)) (hn : n ≤ 8) (hp : ∀ r, mxC (fun s => ¬ mI h 31 s = 0) pcn (2 ^ n) r → P r h) : MCi g yX5_mostHeld uX5_mostHeld [.ref 7] h P := by
  have p := p2n hn
  have pm := shl_m en (by omega)
  have L : ∀ (q : Nat) (l1 l2 : Int32) (s : Nat), l2.toInt = (s : Int) → s ≤ 2 ^ n → 2 ^ n - s < q → mxC (fun s => ¬ mI h 31 s = 0) pcn s l1 → ME g uX5_mostHeld 4 [.ref 7, .int l1, .int l2] [] h (qI P) := by
    intro q
    induction q with
    | zero => intro l1 l2 s _ _ hq; exact absurd hq (Nat.not_lt_zero _)
    | succ q ih =>
      intro l1 l2 s e2 hs hq e1
      have e2' := i_inc e2 (by omega)
      refine r_X5_mostHeld_4 l1 l2 ⟨fun z => ?_, fun z => ⟨?_, ?_⟩⟩
      · rw [i_le, pm, e2] at z
        have : s = 2 ^ n := by omega
        subst this
        exact hp l1 e1
      · rw [i_le, pm, e2] at z
        exact i_vp e2 (by omega)
      · rw [i_le, pm, e2] at z
        rw [i_nat e2]
        have c9 : pcn s ≤ 9 := s9_le _
        refine ⟨fun y => ih l1 (l2 + 1) (s + 1) e2' (by omega) (by omega) ⟨fun i hi hh => ?_, e1.2.1, e1.2.2.1, ?_⟩, fun y => v_bc l2 e2 (by omega) (fun x6 ex => ih x6 (l2 + 1) (s + 1) e2' (by omega) (by omega) ?_)⟩
        · by_cases w : i = s
          · subst w; exact absurd y hh
          · exact e1.1 i (by omega) hh
        · rcases e1.2.2.2 with a | ⟨i, i1, i2⟩
          · exact Or.inl a
          · exact Or.inr ⟨i, by omega, i2⟩
        · by_cases w : l1 < Int32.ofNat (pcn s)
          · rw [if_pos w] at ex
            rw [i_lt, pcn_i] at w
            rw [ex]
            unfold mxC
            rw [pcn_i]
            refine ⟨fun i hi hh => ?_, by omega, by omega, Or.inr ⟨s, by omega, y, rfl⟩⟩
            by_cases w' : i = s
            · subst w'; omega
            · have := e1.1 i (by omega) hh
              omega
          · rw [if_neg w] at ex
            rw [i_lt, pcn_i] at w
            rw [ex]
            refine ⟨fun i hi hh => ?_, e1.2.1, e1.2.2.1, ?_⟩
            · by_cases w' : i = s
              · subst w'; omega
              · exact e1.1 i (by omega) hh
            · rcases e1.2.2.2 with a | ⟨i, i1, i2⟩
              · exact Or.inl a
              · exact Or.inr ⟨i, by omega, i2⟩
  exact e_X5_mostHeld (L (2 ^ n + 1) 0 0 0 (by decide) (Nat.zero_le _) (by omega) ⟨fun s hs => absurd hs (Nat.not_lt_zero _), by decide, by decide, Or.inl rfl⟩)
theorem w_game_L {g : gT} {h : mh_T} {P : Int32 → mh_T → Prop} {n m : Nat} (en : (mI h 45 52).toInt = (n : Int)) (hn : n ≤ 8) (em : (mI h 45 51).toInt = (m : Int)) (hm9 : m ≤ 9) (hp : ∀ r, mxC (fun _ => True) (fun v => pcn (sv (fun j => mI h 45 j) n v).toInt.toNat) (2 ^ m) r → P r h) : ME g uX11_game 21 [.ref 11, .int 0, .int 0] [] h (qI P) := by
  have n51 : Int32.toNatClampNeg 51 = 51 := by decide
  have p := p2n hn
  have m2 := m2n hm9
  have pm := shl_m em hm9
  have L : ∀ (q : Nat) (l1 l2 : Int32) (v : Nat), l2.toInt = (v : Int) → v ≤ 2 ^ m → 2 ^ m - v < q → mxC (fun _ => True) (fun v => pcn (sv (fun j => mI h 45 j) n v).toInt.toNat) v l1 → ME g uX11_game 21 [.ref 11, .int l1, .int l2] [] h (qI P) := by
    intro q
    induction q with
    | zero => intro l1 l2 v _ _ hq; exact absurd hq (Nat.not_lt_zero _)
    | succ q ih =>
      intro l1 l2 v e2 hv hq e1
      have e2' := i_inc e2 (by omega)
      have ev : l2 = Int32.ofNat v := i_of e2 (by omega)
      refine r_X11_game_21 l1 l2 ⟨fun z => ?_, fun z => ?_⟩
      · rw [n51, i_le, pm, e2] at z
        have : v = 2 ^ m := by omega
        subst this
        exact hp l1 e1
      · rw [n51, i_le, pm, e2] at z
        obtain ⟨x, x1, x2, x3⟩ := sv_nat (f := fun j => mI h 45 j) (v := l2) hn
        have xv : pcn (sv (fun j => mI h 45 j) n v).toInt.toNat = pcn x := by
          show pcn (slb _ (Int32.ofNat v) n).toInt.toNat = _
          rw [← ev, x1, Int.toNat_natCast]
        have c9 : pcn x ≤ 9 := s9_le _
        refine w_linesBy l2 en hn (w_bits _ x1 (by omega) ⟨fun y => ih l1 (l2 + 1) (v + 1) e2' (by omega) (by omega) ⟨fun i hi _ => ?_, e1.2.1, e1.2.2.1, ?_⟩, fun y => w_linesBy l2 en hn (w_bits _ x1 (by omega) (ih _ (l2 + 1) (v + 1) e2' (by omega) (by omega) ?_))⟩)
        · rw [i_le, pcn_i] at y
          by_cases w : i = v
          · subst w
            show ((pcn (sv (fun j => mI h 45 j) n i).toInt.toNat : Nat) : Int) ≤ _
            rw [xv]
            exact y
          · exact e1.1 i (by omega) trivial
        · rcases e1.2.2.2 with a | ⟨i, i1, i2⟩
          · exact Or.inl a
          · exact Or.inr ⟨i, by omega, i2⟩
        · rw [i_le, pcn_i] at y
          unfold mxC
          rw [pcn_i]
          refine ⟨fun i hi _ => ?_, by omega, by omega, Or.inr ⟨v, by omega, trivial, by show _ = ((pcn (sv (fun j => mI h 45 j) n v).toInt.toNat : Nat) : Int); rw [xv]⟩⟩
          by_cases w : i = v
          · subst w
            show ((pcn (sv (fun j => mI h 45 j) n i).toInt.toNat : Nat) : Int) ≤ _
            rw [xv]
            exact Int.le_refl _
          · have := e1.1 i (by omega) trivial
            omega
  exact L (2 ^ m + 1) 0 0 0 (by decide) (Nat.zero_le _) (Nat.lt_succ_of_le (Nat.sub_le _ _)) ⟨fun s hs => absurd hs (Nat.not_lt_zero _), by decide, by decide, Or.inl rfl⟩
theorem game_u {f : Nat → Int32} {n m : Nat} {r r' : Int32} {H : Nat → Prop} (hn : n ≤ 8) (hH : ∀ s, s < 2 ^ n → (H s ↔ CL f n m s)) (a : mxC H pcn (2 ^ n) r) (b : mxC (fun _ => True) (fun v => pcn (sv f n v).toInt.toNat) (2 ^ m) r') : r = r' := by
  have p := p2n hn
  refine Int32.toInt_inj.mp (Int.le_antisymm ?_ ?_)
  · rcases a.2.2.2 with q | ⟨s, s1, s2, s3⟩
    · rw [q, show (0 : Int32).toInt = 0 by decide]; exact b.2.1
    · obtain ⟨v, v1, v2⟩ := (hH s s1).mp s2
      have k := b.1 v v1 trivial
      obtain ⟨x, x1, x2, x3⟩ := sv_nat (f := f) (v := Int32.ofNat v) hn
      have le : pcn s ≤ pcn x := s9_mono (fun t ht hx => by
        rw [← x3]
        by_cases c : t < 8
        · exact v2 t c hx
        · rw [bt_hi (by omega) (by omega)] at hx; cases hx)
      have e : (sv f n v).toInt.toNat = x := by rw [show (sv f n v).toInt = (x : Int) from x1, Int.toNat_natCast]
      dsimp only at k
      rw [e] at k
      omega
  · rcases b.2.2.2 with q | ⟨v, v1, -, v3⟩
    · rw [q, show (0 : Int32).toInt = 0 by decide]; exact a.2.1
    · obtain ⟨x, x1, x2, x3⟩ := sv_nat (f := f) (v := Int32.ofNat v) hn
      have e : (sv f n v).toInt.toNat = x := by rw [show (sv f n v).toInt = (x : Int) from x1, Int.toNat_natCast]
      have k := a.1 x x2 ((hH x x2).mpr ⟨v, v1, fun t _ hx => by rw [show sv f n v = Int32.ofNat x from x3]; exact hx⟩)
      rw [v3]
      dsimp only
      rw [e]
      exact k
abbrev msD : List Nat := [0, 1, 2, 3, 4, 5, 6, 7, 8, 9, 10, 13, 14, 15, 16, 17, 18, 19, 20, 21, 22, 23, 24, 25, 26, 27, 28, 29, 30, 31, 32, 33, 34, 35, 36, 37, 38, 39, 40, 41, 42]
/-- the class's book: what it answers, what stays -/
theorem c_book {g : gT} {h : mh_T} {P : Int32 → mh_T → Prop} {T : Nat → Int32} (l1 : Int32) (hG : GI h) (hT : ∀ j : Nat, (j : Int) < (mI h 0 10).toInt → mI h 12 j = T j) (hn : ¬ (0 ≤ l1.toInt ∧ l1.toInt ≤ (mI h 0 10).toInt) → P (-1) (wI h 0 11 2)) (hs : ∀ (n e : Nat) (f : Nat → Int32) (h' : mh_T), l1.toInt = (n : Int) → (n : Int) ≤ (mI h 0 10).toInt → rx_book T n = .inr ((), e, f) → GI h' → Fr msD h h' → mI h' 0 10 = 0 ∧ mI h' 0 11 = 0 ∧ mI h' 0 12 = 0 → (mI h' 3 0 = f 49 ∧ mI h' 3 1 = f 50 ∧ mI h' 8 0 = f 85 ∧ ∀ i j : Nat, (i : Int) < (f 85).toInt → (j : Int) < (f 85).toInt → ¬ j = i → (bt (mI h' 32 i) j = true ↔ dtk (fun q => f (86 + q)) i j 4 = 0)) → LF f (f 52).toInt.toNat (f 51).toInt.toNat h' → P (f 50) h') (hx : ∀ (n : Nat) (w : Int32) (p : Nat) (h' : mh_T), l1.toInt = (n : Int) → (n : Int) ≤ (mI h 0 10).toInt → rx_book T n = .inl (w, p) → GI h' → Fr msD h h' → mI h' 0 10 = 0 ∧ mI h' 0 11 = 4 ∧ mI h' 0 12 = w → (mI h' 0 13).toInt = (p : Int) → (h'.1 3 = h.1 3 ∧ h'.1 8 = h.1 8 ∧ h'.1 32 = h.1 32 ∧ h'.1 7 = h.1 7 ∧ h'.1 31 = h.1 31) → P (-1) h') : MCi g yX10_book uX10_book [.ref 0, .int l1] h P := by
  have z0 : (0 : Int32).toInt = 0 := by decide
  have f0 : R 0 900 (mI h 0 10) := GI_rd hG 0 10 (by decide)
  refine e_X10_book l1 ⟨fun c => e_X10_refused 2 (hn (fun z => by have := lt_ti c; omega)), fun c => ⟨fun c2 => ?_, fun c2 => e_X10_refused 2 (hn (fun z => by have := lt_ti (nle c2); omega))⟩⟩
  have a1 := le_ti (nlt c)
  have a2 := le_ti c2
  obtain ⟨n, en⟩ : ∃ n : Nat, l1.toInt = (n : Int) := ⟨l1.toInt.toNat, by omega⟩
  have n9 : n ≤ 900 := by have := f0.2; omega
  have g0 : GI (wI h 0 10 0) := GI_w hG (k := 0) (j := 10) (lo := 0) (hi := 900) (by decide) ⟨by decide, by decide⟩
  have fr1 : Fr msD h (wI h 0 10 0) := Fr_w (Fr_rf h) (by decide)
  have fr1x : Fr (0 :: cms) h (wI h 0 10 0) := Fr_w (Fr_rf h) (by decide)
  have e0 : mI (wI h 0 10 0) 0 10 = 0 := by rw [mI_wI, if_pos ⟨rfl, rfl⟩]
  have t12 : ∀ j, j < n → mI (wI h 0 10 0) 12 j = T j := fun j hj => by
    rw [mI_wI, if_neg (fun z => absurd z.1 (by decide))]
    exact hT j (by omega)
  generalize wI h 0 10 0 = h1 at g0 fr1 fr1x e0 t12
  refine c_read l1 g0 en n9 t12 (fun h5 cz => ?_)
  have e12 : mI (wI h5 0 12 (mI h5 1 1)) 0 12 = mI h5 1 1 := by rw [mI_wI, if_pos ⟨rfl, rfl⟩]
  have e10 : mI (wI h5 0 12 (mI h5 1 1)) 0 10 = mI h5 0 10 := by rw [mI_wI, if_neg (by decide)]
  rw [e12]
  rcases cz with ⟨e, f, eo, cs⟩ | ⟨w, p, eo, cx⟩
  · have c11 : mI h5 1 1 = 0 := cs.2.2.2.2.2.2.1
    have c21 : mI h5 2 1 = f 50 := cs.2.2.2.2.1.1.2.1
    have ok5 : Ok msD h1 h5 := Ok_mono cs.1 (by decide)
    refine ⟨fun _ => ?_, fun z => absurd c11 z⟩
    have g6 : GI (wI h5 0 12 (mI h5 1 1)) := GI_w ok5.1 (k := 0) (j := 12) (lo := -2147483648) (hi := 2147483647) (by decide) (R_full _)
    have fr6 : Fr msD h (wI h5 0 12 (mI h5 1 1)) := Fr_w (Fr_tr fr1 ok5.2.1) (by decide)
    have v10 : mI (wI h5 0 12 (mI h5 1 1)) 0 10 = 0 := e10.trans (ok5.2.2.1.trans e0)
    have v12 : mI (wI h5 0 12 (mI h5 1 1)) 0 12 = 0 := e12.trans c11
    have v21 : mI (wI h5 0 12 (mI h5 1 1)) 2 1 = f 50 := by rw [mI_wI, if_neg (by decide)]; exact c21
    have v20 : mI (wI h5 0 12 (mI h5 1 1)) 2 0 = f 49 := by rw [mI_wI, if_neg (by decide)]; exact cs.2.2.2.2.1.1.1
    have w25 : mI (wI h5 0 12 (mI h5 1 1)) 2 5 = f 85 := by rw [mI_wI, if_neg (by decide)]; exact cs.2.2.2.2.1.1.2.2.2.2.2.1
    have w24 : mI (wI h5 0 12 (mI h5 1 1)) 2 4 = f 52 := by rw [mI_wI, if_neg (by decide)]; exact cs.2.2.2.2.1.1.2.2.2.2.1
    have w22 : mI (wI h5 0 12 (mI h5 1 1)) 2 2 = f 51 := by rw [mI_wI, if_neg (by decide)]; exact cs.2.2.2.2.1.1.2.2.1
    have wal : ∀ l : Nat, (l : Int) < (f 52).toInt → mI (wI h5 0 12 (mI h5 1 1)) 19 l = f (77 + l) ∧ Lp (mI (wI h5 0 12 (mI h5 1 1)) 18 l) (f (53 + 3 * l)) (f (54 + 3 * l)) (f (55 + 3 * l)) := fun l hl => by rw [mI_wI, if_neg (fun z => absurd z.1 (by decide)), mI_wI, if_neg (fun z => absurd z.1 (by decide))]; exact cs.2.2.2.2.2.2.2.2.2.2.1 l hl
    have w20 : ∀ i : Nat, (i : Int) < 4 * (f 85).toInt → mI (wI h5 0 12 (mI h5 1 1)) 20 i = f (86 + i) := fun i hi => by rw [mI_wI, if_neg (fun z => absurd z.1 (by decide))]; exact cs.2.2.2.2.2.2.2.2.2.1 i hi
    generalize wI h5 0 12 (mI h5 1 1) = h6 at g6 fr6 v10 v12 v21 v20 w25 w20 w24 w22 wal
    refine v_X8_open g6 (fun h7 g7 fr7 v7 => ?_)
    have f7 : ∀ k j, k < 62 → k ∉ [3, 24, 25, 26, 27] → mI h7 k j = mI h6 k j := fun k j hk hm => congrFun (fr7 k hk hm).1 j
    have c52 : mI h7 2 4 = f 52 := by rw [f7 2 4 (by decide) (by decide), w24]
    have c51 : mI h7 2 2 = f 51 := by rw [f7 2 2 (by decide) (by decide), w22]
    obtain ⟨n5, en5, n50, n58⟩ := i_R (show R 0 8 (f 52) by rw [← c52]; exact GI_rd g7 2 4 (by decide)) (by decide)
    obtain ⟨m5, em5, m50, m59⟩ := i_R (show R 0 9 (f 51) by rw [← c51]; exact GI_rd g7 2 2 (by decide)) (by decide)
    refine v_X5_openL (f := f) (n := n5) (m := m5) g7 (by rw [c51]; exact em5) (by omega) (by rw [c52]; exact en5) (by omega) (fun l hl => ?_) (fun h8 g8 fr8' lf => ?_)
    · rw [f7 19 l (by decide) (by decide), f7 18 l (by decide) (by decide)]
      exact wal l (by omega)
    have c85 : mI h8 2 5 = f 85 := by
      rw [show mI h8 2 5 = mI h7 2 5 from congrFun (fr8' 2 (by decide) (by decide)).1 5, f7 2 5 (by decide) (by decide), w25]
    have r85 : R 0 18 (f 85) := by rw [← c85]; exact GI_rd g8 2 5 (by decide)
    obtain ⟨c, ec, c0, c18⟩ := i_R r85 (by decide)
    refine v_X3_open (c := c) g8 (by rw [c85]; exact ec) (by omega) (fun h9 g9 fr9 v80 v32 => ?_)
    refine s_X9_open g9 (fun h10 k10 => ?_)
    refine s_X4_open k10.1 (fun h11 k11 => ?_)
    have fr8 : Fr msD h h8 := Fr_t2 (Fr_t2 fr6 fr7 (by decide)) fr8' (by decide)
    have g78 : ∀ k j, k < 62 → k ∉ [7, 31] → mI h8 k j = mI h7 k j := fun k j hk hm => congrFun (fr8' k hk hm).1 j
    have fr11 : Fr msD h h11 := Fr_t2 (Fr_t2 (Fr_t2 fr8 fr9 (by decide)) k10.2.1 (by decide)) k11.2.1 (by decide)
    have z0 : ∀ j, mI h11 0 j = mI h6 0 j := fun j => by
      rw [Ok_eq k11 (by decide), Ok_eq k10 (by decide), show mI h9 0 j = mI h8 0 j from congrFun (fr9 0 (by decide) (by decide)).1 j, g78 0 j (by decide) (by decide), show mI h7 0 j = mI h6 0 j from congrFun (fr7 0 (by decide) (by decide)).1 j]
    have z3 : ∀ j, mI h11 3 j = mI h7 3 j := fun j => by
      rw [Ok_eq k11 (by decide), Ok_eq k10 (by decide), show mI h9 3 j = mI h8 3 j from congrFun (fr9 3 (by decide) (by decide)).1 j, g78 3 j (by decide) (by decide)]
    have z8 : ∀ j, mI h11 8 j = mI h9 8 j := fun j => by rw [Ok_eq k11 (by decide), Ok_eq k10 (by decide)]
    have z7 : ∀ j, mI h11 7 j = mI h8 7 j := fun j => by rw [Ok_eq k11 (by decide), Ok_eq k10 (by decide), show mI h9 7 j = mI h8 7 j from congrFun (fr9 7 (by decide) (by decide)).1 j]
    have n58' : n5 ≤ 8 := by omega
    have z31 : ∀ j, mI h11 31 j = mI h8 31 j := fun j => by rw [Ok_eq k11 (by decide), Ok_eq k10 (by decide), show mI h9 31 j = mI h8 31 j from congrFun (fr9 31 (by decide) (by decide)).1 j]
    have z32 : ∀ j, mI h11 32 j = mI h9 32 j := fun j => by rw [Ok_eq k11 (by decide), Ok_eq k10 (by decide)]
    have z20 : ∀ j, mI h8 20 j = mI h6 20 j := fun j => by rw [g78 20 j (by decide) (by decide), show mI h7 20 j = mI h6 20 j from congrFun (fr7 20 (by decide) (by decide)).1 j]
    rw [show mI h11 3 1 = f 50 from by rw [z3, v7.2.1, v21]]
    have o : ∀ k j, ¬ (k = 0 ∧ j = 11) → mI (wI h11 0 11 0) k j = mI h11 k j := fun k j hk => by rw [mI_wI, if_neg hk]
    refine e_X10_told _ (hs n e f _ en (by omega) eo (GI_w k11.1 (k := 0) (j := 11) (lo := -2147483648) (hi := 2147483647) (by decide) (R_full _)) (Fr_w fr11 (by decide)) ⟨?_, ?_, ?_⟩ ⟨?_, ?_, ?_, fun a b ha hb hab => ?_⟩ ?_)
    · rw [o 0 10 (by decide), z0]; exact v10
    · rw [mI_wI, if_pos ⟨rfl, rfl⟩]
    · rw [o 0 12 (by decide), z0]; exact v12
    · rw [o 3 0 (by decide), z3, v7.1]; exact v20
    · rw [o 3 1 (by decide), z3, v7.2.1]; exact v21
    · rw [o 8 0 (by decide), z8, v80]; exact c85
    · rw [o 32 a (fun z => absurd z.1 (by decide)), z32, v32 a b (by omega) (by omega) hab, dtk_cg (y := fun q => f (86 + q)) 4 (Nat.le_refl _) (fun q hq => ⟨?_, ?_⟩)]
      · show mI h8 20 (4 * a + q) = f (86 + (4 * a + q))
        rw [z20]
        exact w20 _ (by omega)
      · show mI h8 20 (4 * b + q) = f (86 + (4 * b + q))
        rw [z20]
        exact w20 _ (by omega)
    · rw [en5, em5, Int.toNat_natCast, Int.toNat_natCast]
      refine LF_cg n58' (fun _ _ _ => rfl) ?_ ?_ lf
      · funext j
        exact (o 7 j (fun z => absurd z.1 (by decide))).trans (z7 j)
      · funext j
        exact (o 31 j (fun z => absurd z.1 (by decide))).trans (z31 j)
  · have c11 : mI h5 1 1 = w := cx.2.1
    have ok5 : Ok msD h1 h5 := Ok_mono cx.1 (by decide)
    refine ⟨fun z => absurd (c11.symm.trans z) cx.2.2.2, fun _ => ?_⟩
    have g6 : GI (wI h5 0 12 (mI h5 1 1)) := GI_w ok5.1 (k := 0) (j := 12) (lo := -2147483648) (hi := 2147483647) (by decide) (R_full _)
    have fr6 : Fr msD h (wI h5 0 12 (mI h5 1 1)) := Fr_w (Fr_tr fr1 ok5.2.1) (by decide)
    have v10 : mI (wI h5 0 12 (mI h5 1 1)) 0 10 = 0 := e10.trans (ok5.2.2.1.trans e0)
    have v12 : mI (wI h5 0 12 (mI h5 1 1)) 0 12 = w := e12.trans c11
    have v2 : (mI (wI h5 0 12 (mI h5 1 1)) 1 2).toInt = (p : Int) := by rw [mI_wI, if_neg (by decide)]; exact cx.2.2.1
    have fx : Fr (0 :: cms) h (wI h5 0 12 (mI h5 1 1)) := Fr_w (Fr_t2 fr1x cx.1.2.1 (by decide)) (by decide)
    generalize wI h5 0 12 (mI h5 1 1) = h6 at g6 fr6 v10 v12 v2 fx
    have fy : Fr (0 :: cms) h (wI (wI h6 0 13 (mI h6 1 2)) 0 11 4) := Fr_w (Fr_w fx (by decide)) (by decide)
    have fc : ∀ k, k < 62 → k ∉ (0 :: cms) → True → (wI (wI h6 0 13 (mI h6 1 2)) 0 11 4).1 k = h.1 k := fun k hk hm _ => (fy k hk hm).1
    have g8 : GI (wI (wI h6 0 13 (mI h6 1 2)) 0 11 4) := GI_w (GI_w g6 (k := 0) (j := 13) (lo := -2147483648) (hi := 2147483647) (by decide) (R_full _)) (k := 0) (j := 11) (lo := -2147483648) (hi := 2147483647) (by decide) (R_full _)
    refine e_X10_refused 4 (hx n w p _ en (by omega) eo g8 (Fr_w (Fr_w fr6 (by decide)) (by decide)) ⟨?_, ?_, ?_⟩ ?_ ⟨fc 3 (by decide) (by decide) trivial, fc 8 (by decide) (by decide) trivial, fc 32 (by decide) (by decide) trivial, fc 7 (by decide) (by decide) trivial, fc 31 (by decide) (by decide) trivial⟩)
    · rw [mI_wI, if_neg (by decide), mI_wI, if_neg (by decide)]; exact v10
    · rw [mI_wI, if_pos ⟨rfl, rfl⟩]
    · rw [mI_wI, if_neg (by decide), mI_wI, if_neg (by decide)]; exact v12
    · rw [mI_wI, if_neg (by decide), mI_wI, if_pos ⟨rfl, rfl⟩]; exact v2
/-! feed: both tapes get the same bytes -/
def fb (a : Int32) (d : Nat) : Int32 := (a >>> (Int32.ofNat (24 - 8 * d) &&& 31)) &&& 255
def fw (a1 a2 a3 a4 a5 : Int32) (m : Nat) : Int32 := if m < 4 then fb a1 m else if m < 8 then fb a2 (m - 4) else if m < 12 then fb a3 (m - 8) else if m < 16 then fb a4 (m - 12) else fb a5 (m - 16)
theorem fb_nn (a : Int32) (d : Nat) : 0 ≤ (fb a d).toInt := (R_and (x := a >>> (Int32.ofNat (24 - 8 * d) &&& 31)) (y := 255) (c := 255) (d := 255) ⟨by decide, by decide⟩ (by decide)).1
theorem fw_nn (a1 a2 a3 a4 a5 : Int32) (m : Nat) : 0 ≤ (fw a1 a2 a3 a4 a5 m).toInt := by
  unfold fw
  split
  · exact fb_nn _ _
  · split
    · exact fb_nn _ _
    · split
      · exact fb_nn _ _
      · split
        · exact fb_nn _ _
        · exact fb_nn _ _
theorem sh_bv (x : BitVec 32) (d : Nat) (hd : d ≤ 24) : (x >>> d) &&& 255#32 = (x.sshiftRight d) &&& 255#32 := by
  apply BitVec.eq_of_getLsbD_eq
  intro i hi
  rw [BitVec.getLsbD_and, BitVec.getLsbD_and, BitVec.getLsbD_ushiftRight, BitVec.getLsbD_sshiftRight]
  by_cases q : i < 8
  · rw [if_pos (by omega), decide_eq_false (by omega : ¬ 32 ≤ i), Bool.not_false, Bool.true_and]
  · have : (255#32).getLsbD i = false := by
      have e : (255#32) = BitVec.ofNat 32 (2 ^ 8 - 1) := by decide
      rw [e, BitVec.getLsbD_ofNat, Nat.testBit_two_pow_sub_one, decide_eq_false q, Bool.and_false]
    rw [this, Bool.and_false, Bool.and_false]
theorem sh_u (a l : Int32) (d : Nat) (hd : d < 4) (el : l = Int32.ofNat (24 - 8 * d)) : ((a.toUInt32 >>> (l.toUInt32 &&& Int32.toUInt32 31)).toInt32) &&& 255 = fb a d := by
  subst el
  unfold fb
  apply Int32.toBitVec_inj.mp
  rw [Int32.toBitVec_and, Int32.toBitVec_and, Int32.toBitVec_shiftRight]
  show (UInt32.toBitVec (a.toUInt32 >>> ((Int32.ofNat (24 - 8 * d)).toUInt32 &&& Int32.toUInt32 31))) &&& _ = _
  rw [UInt32.toBitVec_shiftRight]
  rcases (show d = 0 ∨ d = 1 ∨ d = 2 ∨ d = 3 by omega) with q | q | q | q <;> subst q
  · exact sh_bv _ 24 (by omega)
  · exact sh_bv _ 16 (by omega)
  · exact sh_bv _ 8 (by omega)
  · exact sh_bv _ 0 (by omega)
theorem v_put {g : gT} {h : mh_T} {P : mh_T → Prop} {F : Nat} (l1 : Int32) (hG : GI h) (eF : (mI h 0 10).toInt = (F : Int)) (hF : F ≤ 896) (hp : ∀ h', OkT [0, 12] h h' → (mI h' 0 10).toInt = ((F + 4 : Nat) : Int) → (∀ i, i < F → mI h' 12 i = mI h 12 i) → (∀ d, d < 4 → mI h' 12 (F + d) = fb l1 d) → (∀ j, ¬ j = 10 → mI h' 0 j = mI h 0 j) → P h') : MCv g yX10_put uX10_put [.ref 0, .int l1] h P := by
  have z : (0 : Int32).toInt = 0 := by decide
  have L : ∀ (n : Nat) (l2 : Int32) (d : Nat) (k : mh_T), d + n = 4 → l2.toInt = 8 * (n : Int) - 8 → OkT [0, 12] h k → (mI k 0 10).toInt = ((F + d : Nat) : Int) → (∀ i, i < F → mI k 12 i = mI h 12 i) → (∀ b, b < d → mI k 12 (F + b) = fb l1 b) → (∀ j, ¬ j = 10 → mI k 0 j = mI h 0 j) → ME g uX10_put 3 [.ref 0, .int l1, .int l2] [] k (qV P) := by
    intro n
    induction n with
    | zero =>
      intro l2 d k hd e2 ok ef k1 k2 k3
      have : d = 4 := by omega
      subst this
      refine r_X10_put_3 l1 l2 ⟨fun _ => hp k ok ef k1 k2 k3, fun c => ?_⟩
      exfalso
      apply c
      rw [i_lt, e2, z]
      omega
    | succ n ih =>
      intro l2 d k hd e2 ok ef k1 k2 k3
      refine r_X10_put_3 l1 l2 ⟨fun c => ?_, fun c => ⟨i_vp ef (by omega), ?_⟩⟩
      · rw [i_lt, e2, z] at c
        omega
      · have e2' : l2.toInt = ((24 - 8 * d : Nat) : Int) := by omega
        have ei : mI (wI k 12 (mI k 0 10).toNatClampNeg (((l1.toUInt32 >>> (l2.toUInt32 &&& Int32.toUInt32 31)).toInt32) &&& 255)) 0 10 = mI k 0 10 := by rw [mI_wI, if_neg (fun q => absurd q.1 (by decide))]
        rw [ei, sh_u l1 l2 d (by omega) (i_of e2' (by omega)), i_nat ef]
        have e8 : (l2 + (-8)).toInt = 8 * (n : Int) - 8 := by
          rw [i_add (a := 8 * ((n + 1 : Nat) : Int) - 8) (b := -8) e2 (by decide) (by omega)]
          omega
        refine ih (l2 + (-8)) (d + 1) _ (by omega) e8 (OkT_w (OkT_w ok (k := 12) (rgc_12 _) (R_full _) (by decide)) (k := 0) (j := 10) (lo := 0) (hi := 900) (by decide) ?_ (by decide)) ?_ (fun i hi => ?_) (fun b hb => ?_) (fun j hj => ?_)
        · have := i_inc ef (by omega)
          exact ⟨by omega, by omega⟩
        · rw [mI_wI, if_pos ⟨rfl, rfl⟩]
          have t := i_inc ef (by omega)
          rw [t]
          rfl
        · rw [mI_wI, if_neg (fun q => absurd q.1 (by decide)), mI_wI, if_neg (by omega)]
          exact k1 i hi
        · rw [mI_wI, if_neg (fun q => absurd q.1 (by decide)), mI_wI]
          by_cases q : b = d
          · rw [if_pos ⟨rfl, by rw [q]⟩, q]
          · rw [if_neg (by omega)]
            exact k2 b (by omega)
        · rw [mI_wI, if_neg (fun q => hj q.2), mI_wI, if_neg (fun q => absurd q.1 (by decide))]
          exact k3 j hj
  exact e_X10_put l1 (L 4 24 0 h (by omega) (by decide) ⟨hG, fun _ _ _ => ⟨rfl, rfl, rfl⟩⟩ (by rw [eF]; rfl) (fun _ _ => rfl) (fun b hb => absurd hb (Nat.not_lt_zero b)) (fun _ _ => rfl))
theorem v_feed {g : gT} {h : mh_T} {P : Int32 → mh_T → Prop} {F : Nat} (l1 l2 l3 l4 l5 : Int32) (hG : GI h) (eF : (mI h 0 10).toInt = (F : Int)) (hp : F ≤ 880 → ∀ h', OkT [0, 12] h h' → (mI h' 0 10).toInt = ((F + 20 : Nat) : Int) → (∀ i, i < F → mI h' 12 i = mI h 12 i) → (∀ m, m < 20 → mI h' 12 (F + m) = fw l1 l2 l3 l4 l5 m) → (∀ j, ¬ j = 10 → mI h' 0 j = mI h 0 j) → P (mI h' 0 10) h') (hx : ¬ F ≤ 880 → P (-1) h) : MCi g yX10_feed uX10_feed [.ref 0, .int l1, .int l2, .int l3, .int l4, .int l5] h P := by
  have f0 : R 0 900 (mI h 0 10) := GI_rd hG 0 10 (by decide)
  have f9 := f0.2
  have es : (mI h 0 10 + 20).toInt = (F : Int) + 20 := i_add eF (by decide) (by omega)
  have z9 : (900 : Int32).toInt = 900 := by decide
  refine e_X10_feed l1 l2 l3 l4 l5 ⟨fun c => ?_, fun c => ?_⟩
  · rw [i_le, es, z9] at c
    refine v_put l1 hG eF (by omega) (fun h1 k1 e1 a1 b1 c1 => ?_)
    refine v_put l2 k1.1 e1 (by omega) (fun h2 k2 e2 a2 b2 c2 => ?_)
    refine v_put l3 k2.1 e2 (by omega) (fun h3 k3 e3 a3 b3 c3 => ?_)
    refine v_put l4 k3.1 e3 (by omega) (fun h4 k4 e4 a4 b4 c4 => ?_)
    refine v_put l5 k4.1 e4 (by omega) (fun h5 k5 e5 a5 b5 c5 => ?_)
    refine hp (by omega) h5 (OkT_tr (OkT_tr (OkT_tr (OkT_tr k1 k2) k3) k4) k5) (by rw [e5]) (fun i hi => ?_) (fun m hm => ?_) (fun j hj => ?_)
    · rw [a5 i (by omega), a4 i (by omega), a3 i (by omega), a2 i (by omega), a1 i hi]
    · unfold fw
      split
      · rw [a5 _ (by omega), a4 _ (by omega), a3 _ (by omega), a2 _ (by omega)]
        exact b1 m (by omega)
      · split
        · rw [a5 _ (by omega), a4 _ (by omega), a3 _ (by omega), show F + m = F + 4 + (m - 4) by omega]
          exact b2 (m - 4) (by omega)
        · split
          · rw [a5 _ (by omega), a4 _ (by omega), show F + m = F + 4 + 4 + (m - 8) by omega]
            exact b3 (m - 8) (by omega)
          · split
            · rw [a5 _ (by omega), show F + m = F + 4 + 4 + 4 + (m - 12) by omega]
              exact b4 (m - 12) (by omega)
            · rw [show F + m = F + 4 + 4 + 4 + 4 + (m - 16) by omega]
              exact b5 (m - 16) (by omega)
    · rw [c5 j hj, c4 j hj, c3 j hj, c2 j hj, c1 j hj]
  · rw [i_le, es, z9] at c
    exact hx (by omega)
theorem sh_m : ∀ m, m < 20 → (24 : Int32) - (8 * (Int32.ofNat m - Int32.ofNat m / 4 * 4)) = Int32.ofNat (24 - 8 * (m % 4)) := by decide
theorem w_feed {g : gT} {h : mh_T} {P : Int32 → mh_T → Prop} {F : Nat} (l1 l2 l3 l4 l5 : Int32) (hG : GI h) (eF : (mI h 11 2).toInt = (F : Int)) (hp : F ≤ 880 → ∀ h', OkT [11, 43] h h' → (mI h' 11 2).toInt = ((F + 20 : Nat) : Int) → (∀ i, i < F → mI h' 43 i = mI h 43 i) → (∀ m, m < 20 → mI h' 43 (F + m) = fw l1 l2 l3 l4 l5 m) → (∀ j, ¬ (j = 0 ∨ j = 2) → mI h' 11 j = mI h 11 j) → P (mI h' 11 2) h') (hx : ¬ F ≤ 880 → P (-1) (wI h 11 0 0)) : MCi g yX11_feed uX11_feed [.ref 11, .int l1, .int l2, .int l3, .int l4, .int l5] h P := by
  have f0 : R 0 900 (mI h 11 2) := GI_rd hG 11 2 (by decide)
  have f9 := f0.2
  have e0 : mI (wI h 11 0 0) 11 2 = mI h 11 2 := by rw [mI_wI, if_neg (by decide)]
  have es : (mI (wI h 11 0 0) 11 2 + 20).toInt = (F : Int) + 20 := by rw [e0]; exact i_add eF (by decide) (by omega)
  have z9 : (900 : Int32).toInt = 900 := by decide
  have z20 : (20 : Int32).toInt = 20 := by decide
  have z4 : (4 : Int32).toInt = 4 := by decide
  have z8 : (8 : Int32).toInt = 8 := by decide
  have z12 : (12 : Int32).toInt = 12 := by decide
  have z16 : (16 : Int32).toInt = 16 := by decide
  refine e_X11_feed l1 l2 l3 l4 l5 ⟨fun c => ?_, fun c => ?_⟩
  · rw [i_le, es, z9] at c
    have L : ∀ (n : Nat) (l6 : Int32) (m : Nat) (k : mh_T), m + n = 20 → l6.toInt = (m : Int) → OkT [11, 43] h k → (mI k 11 2).toInt = ((F + m : Nat) : Int) → (∀ i, i < F → mI k 43 i = mI h 43 i) → (∀ b, b < m → mI k 43 (F + b) = fw l1 l2 l3 l4 l5 b) → (∀ j, ¬ (j = 0 ∨ j = 2) → mI k 11 j = mI h 11 j) → ME g uX11_feed 23 [.ref 11, .int l1, .int l2, .int l3, .int l4, .int l5, .int l6, .retAddr 0] [] k (qI P) := by
      intro n
      induction n with
      | zero =>
        intro l6 m k hm e6 ok ef k1 k2 k3
        have : m = 20 := by omega
        subst this
        refine r_X11_feed_23 l1 l2 l3 l4 l5 l6 ⟨fun _ => hp (by omega) k ok ef k1 k2 k3, fun c => absurd (by rw [i_le, z20, e6]; omega) c⟩
      | succ n ih =>
        intro l6 m k hm e6 ok ef k1 k2 k3
        have st : ∀ v : Int32, v = fw l1 l2 l3 l4 l5 m → (vp_in (mI k 11 2) 900) ∧ (ME g uX11_feed 23 [.ref 11, .int l1, .int l2, .int l3, .int l4, .int l5, .int (l6 + 1), .retAddr 0] [] (wI (wI k 43 (mI k 11 2).toNatClampNeg v) 11 2 ((mI (wI k 43 (mI k 11 2).toNatClampNeg v) 11 2) + 1)) (qI P)) := by
          intro v hv
          have ei : mI (wI k 43 (mI k 11 2).toNatClampNeg v) 11 2 = mI k 11 2 := by rw [mI_wI, if_neg (fun q => absurd q.1 (by decide))]
          refine ⟨i_vp ef (by omega), ?_⟩
          rw [ei, i_nat ef]
          refine ih (l6 + 1) (m + 1) _ (by omega) (i_inc e6 (by omega)) (OkT_w (OkT_w ok (k := 43) (rgc_43 _) (R_full _) (by decide)) (k := 11) (j := 2) (lo := 0) (hi := 900) (by decide) ?_ (by decide)) ?_ (fun i hi => ?_) (fun b hb => ?_) (fun j hj => ?_)
          · have := i_inc ef (by omega)
            exact ⟨by omega, by omega⟩
          · rw [mI_wI, if_pos ⟨rfl, rfl⟩]
            have t := i_inc ef (by omega)
            rw [t]
            rfl
          · rw [mI_wI, if_neg (fun q => absurd q.1 (by decide)), mI_wI, if_neg (by omega)]
            exact k1 i hi
          · rw [mI_wI, if_neg (fun q => absurd q.1 (by decide)), mI_wI]
            by_cases q : b = m
            · rw [if_pos ⟨rfl, by rw [q]⟩, q, hv]
            · rw [if_neg (by omega)]
              exact k2 b (by omega)
          · rw [mI_wI, if_neg (by omega), mI_wI, if_neg (fun q => absurd q.1 (by decide))]
            exact k3 j hj
        have e6' : l6 = Int32.ofNat m := i_of e6 (by omega)
        have sh := sh_m m (by omega)
        rw [← e6'] at sh
        refine r_X11_feed_23 l1 l2 l3 l4 l5 l6 ⟨fun c => ?_, fun c => ?_⟩
        · rw [i_le, z20, e6] at c
          omega
        · rw [i_le, i_le, i_le, i_le, z4, z8, z12, z16, e6, sh]
          refine ⟨fun a => ⟨fun b => ⟨fun c => ⟨fun d => st _ ?_, fun d => st _ ?_⟩, fun c => st _ ?_⟩, fun b => st _ ?_⟩, fun a => st _ ?_⟩
          · unfold fw fb
            rw [if_neg (by omega), if_neg (by omega), if_neg (by omega), if_neg (by omega), show m % 4 = m - 16 by omega]
          · unfold fw fb
            rw [if_neg (by omega), if_neg (by omega), if_neg (by omega), if_pos (by omega), show m % 4 = m - 12 by omega]
          · unfold fw fb
            rw [if_neg (by omega), if_neg (by omega), if_pos (by omega), show m % 4 = m - 8 by omega]
          · unfold fw fb
            rw [if_neg (by omega), if_pos (by omega), show m % 4 = m - 4 by omega]
          · unfold fw fb
            rw [if_pos (by omega), show m % 4 = m by omega]
    refine L 20 0 0 _ (by omega) (by decide) (OkT_w ⟨hG, fun _ _ _ => ⟨rfl, rfl, rfl⟩⟩ (k := 11) (j := 0) (lo := -2147483648) (hi := 2147483647) (by decide) (R_full _) (by decide)) (by rw [e0, eF]; rfl) (fun i _ => by rw [mI_wI, if_neg (fun q => absurd q.1 (by decide))]) (fun b hb => absurd hb (Nat.not_lt_zero b)) (fun j hj => by rw [mI_wI, if_neg (by omega)])
  · rw [i_le, es, z9] at c
    exact hx (by omega)
