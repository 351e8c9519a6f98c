def CL (f : Nat → Int32) (n m s : Nat) : Prop := ∃ v, v < 2 ^ m ∧ ∀ t, t < 8 → bt (Int32.ofNat s) t = true → bt (sv f n v) t = true
/-- what the class knows of the lines -/
def LF (f : Nat → Int32) (n m : Nat) (h : mh_T) : Prop := (mI h 7 0).toInt = (m : Int) ∧ (mI h 7 1).toInt = (n : Int) ∧ mI h 7 2 = wyc f n (2 ^ m) ∧ (∀ p, p < 9 → (bt (mI h 7 3) p = true ↔ ∃ w, w < 2 ^ m ∧ sv f n w = An n ∧ bt (Int32.ofNat w) p = true)) ∧ (∀ p, p < 9 → (bt (mI h 7 4) p = true ↔ ∃ w, w < 2 ^ m ∧ sv f n w = An n ∧ bt (Int32.ofNat w) p = false)) ∧ ∀ s, s < 2 ^ n → (¬ mI h 31 s = 0 ↔ CL f n m s)
theorem LF_cg {f f' : Nat → Int32} {n m : Nat} {h h' : mh_T} (hn : n ≤ 8) (e : ∀ i, 53 ≤ i → i < 85 → f i = f' i) (e7 : h'.1 7 = h.1 7) (e31 : h'.1 31 = h.1 31) (l : LF f n m h) : LF f' n m h' := by
  have g7 : ∀ j, mI h' 7 j = mI h 7 j := fun j => congrFun e7 j
  have g31 : ∀ j, mI h' 31 j = mI h 31 j := fun j => congrFun e31 j
  have es : ∀ w, sv f' n w = sv f n w := fun w => (slb_cg n hn e).symm
  unfold LF CL
  simp only [g7, g31, es, ← wyc_cg hn e]
  exact l
theorem v_X5_openL {g : gT} {h : mh_T} {P : mh_T → Prop} {f : Nat → Int32} {n m : Nat} (hG : GI h) (em : (mI h 2 2).toInt = (m : Int)) (hm9 : m ≤ 9) (en : (mI h 2 4).toInt = (n : Int)) (hn : n ≤ 8) (hl : ∀ l : Nat, l < n → mI h 19 l = f (77 + l) ∧ Lp (mI h 18 l) (f (53 + 3 * l)) (f (54 + 3 * l)) (f (55 + 3 * l))) (hp : ∀ h', GI h' → Fr [7, 31] h h' → LF f n m h' → P h') : MCv g yX5_open uX5_open [.ref 7, .ref 2] h P := by
  refine e_X5_open (fun x1 ex => ?_)
  have q1 : mI (wI h 7 0 (mI h 2 2)) 2 4 = mI h 2 4 := by rw [mI_wI, if_neg (by decide)]
  rw [q1] at ex ⊢
  have g0 : GI (wI (wI (wI (wI (wI h 7 0 (mI h 2 2)) 7 1 (mI h 2 4)) 7 2 0) 7 3 0) 7 4 0) := GI_w (GI_w (GI_w (GI_w (GI_w hG (k := 7) (j := 0) (lo := 0) (hi := 9) (by decide) (GI_rd hG 2 2 (by decide))) (k := 7) (j := 1) (lo := 0) (hi := 8) (by decide) (GI_rd hG 2 4 (by decide))) (k := 7) (j := 2) (lo := -2147483648) (hi := 2147483647) (by decide) (R_full _)) (k := 7) (j := 3) (lo := -2147483648) (hi := 2147483647) (by decide) (R_full _)) (k := 7) (j := 4) (lo := -2147483648) (hi := 2147483647) (by decide) (R_full _)
  have r0 : Fr [7, 31] h (wI (wI (wI (wI (wI h 7 0 (mI h 2 2)) 7 1 (mI h 2 4)) 7 2 0) 7 3 0) 7 4 0) := Fr_w (Fr_w (Fr_w (Fr_w (Fr_w (Fr_rf h) (by decide)) (by decide)) (by decide)) (by decide)) (by decide)
  have v0 : mI (wI (wI (wI (wI (wI h 7 0 (mI h 2 2)) 7 1 (mI h 2 4)) 7 2 0) 7 3 0) 7 4 0) 7 0 = mI h 2 2 := by
    rw [mI_wI, if_neg (by decide), mI_wI, if_neg (by decide), mI_wI, if_neg (by decide), mI_wI, if_neg (by decide), mI_wI, if_pos ⟨rfl, rfl⟩]
  have v1 : mI (wI (wI (wI (wI (wI h 7 0 (mI h 2 2)) 7 1 (mI h 2 4)) 7 2 0) 7 3 0) 7 4 0) 7 1 = mI h 2 4 := by
    rw [mI_wI, if_neg (by decide), mI_wI, if_neg (by decide), mI_wI, if_neg (by decide), mI_wI, if_pos ⟨rfl, rfl⟩]
  have v2 : mI (wI (wI (wI (wI (wI h 7 0 (mI h 2 2)) 7 1 (mI h 2 4)) 7 2 0) 7 3 0) 7 4 0) 7 2 = 0 := by
    rw [mI_wI, if_neg (by decide), mI_wI, if_neg (by decide), mI_wI, if_pos ⟨rfl, rfl⟩]
  rw [v1, i_of en (by omega)] at ex
  have v3 : mI (wI (wI (wI (wI (wI h 7 0 (mI h 2 2)) 7 1 (mI h 2 4)) 7 2 0) 7 3 0) 7 4 0) 7 3 = 0 := by
    rw [mI_wI, if_neg (by decide), mI_wI, if_pos ⟨rfl, rfl⟩]
  have v4 : mI (wI (wI (wI (wI (wI h 7 0 (mI h 2 2)) 7 1 (mI h 2 4)) 7 2 0) 7 3 0) 7 4 0) 7 4 = 0 := by
    rw [mI_wI, if_pos ⟨rfl, rfl⟩]
  generalize wI (wI (wI (wI (wI h 7 0 (mI h 2 2)) 7 1 (mI h 2 4)) 7 2 0) 7 3 0) 7 4 0 = h0 at g0 r0 v0 v1 v2 v3 v4
  have p8 : ((1 : Int32) <<< (Int32.ofNat n &&& 31)).toInt = (2 : Int) ^ n := shl_n (by omega)
  have n2 : (1 : Int) ≤ 2 ^ n ∧ (2 : Int) ^ n ≤ 256 := by
    rcases (show n = 0 ∨ n = 1 ∨ n = 2 ∨ n = 3 ∨ n = 4 ∨ n = 5 ∨ n = 6 ∨ n = 7 ∨ n = 8 by omega) with q | q | q | q | q | q | q | q | q <;> subst q <;> decide
  have ex1 : x1.toInt = (2 : Int) ^ n - 1 := by rw [ex]; exact i_sub p8 (by decide) (by omega)
  have m2 : ((2 ^ m : Nat) : Int) = (2 : Int) ^ m ∧ 2 ^ m ≤ 512 := by
    rcases (show m = 0 ∨ m = 1 ∨ m = 2 ∨ m = 3 ∨ m = 4 ∨ m = 5 ∨ m = 6 ∨ m = 7 ∨ m = 8 ∨ m = 9 by omega) with q | q | q | q | q | q | q | q | q | q <;> subst q <;> decide
  have pm : ∀ {k : mh_T}, mI k 7 0 = mI h 2 2 → ((1 : Int32) <<< ((mI k 7 0) &&& 31)).toInt = ((2 ^ m : Nat) : Int) := fun e => by
    rw [e, i_of em (by omega), shl_n (by omega), m2.1]
  have B : ∀ (q : Nat) (l3 : Int32) (v : Nat) (k : mh_T), l3.toInt = (v : Int) → v ≤ 2 ^ m → 2 ^ m - v < q → GI k → Fr [7, 31] h k → mI k 7 0 = mI h 2 2 → mI k 7 1 = mI h 2 4 → mI k 7 2 = wyc f n v → (∀ p, p < 9 → (bt (mI k 7 3) p = true ↔ ∃ w, w < v ∧ sv f n w = An n ∧ bt (Int32.ofNat w) p = true)) → (∀ p, p < 9 → (bt (mI k 7 4) p = true ↔ ∃ w, w < v ∧ sv f n w = An n ∧ bt (Int32.ofNat w) p = false)) → (∀ s, s < 2 ^ n → (¬ mI k 31 s = 0 ↔ ∃ w, w < v ∧ sv f n w = Int32.ofNat s)) → ME g uX5_open 62 [.ref 7, .ref 2, .int x1, .int l3, .retAddr 0] [] k (qV P) := by
    intro q
    induction q with
    | zero => intro l3 v k _ _ hq; exact absurd hq (Nat.not_lt_zero _)
    | succ q ih =>
      intro l3 v k e3 hv hq kG kF k0 k1 k2 k3 k4 k5
      refine r_X5_open_62 x1 l3 ⟨fun z => ?_, fun z => ?_⟩
      · rw [i_le, pm k0, e3] at z
        have : v = 2 ^ m := by omega
        subst this
        refine v_spread (n := n) (E := fun s => ∃ w, w < 2 ^ m ∧ sv f n w = Int32.ofNat s) kG (by rw [k1]; exact en) hn k5 (fun h2 o2 u2 => hp h2 o2.1 (Fr_t2 kF o2.2.1 (by decide)) ⟨?_, ?_, ?_, ?_, ?_, fun s hs => ?_⟩)
        · rw [Ok_eq o2 (by decide), k0]; exact em
        · rw [Ok_eq o2 (by decide), k1]; exact en
        · rw [Ok_eq o2 (by decide)]; exact k2
        · rw [Ok_eq o2 (by decide)]; exact k3
        · rw [Ok_eq o2 (by decide)]; exact k4
        · rw [u2 s hs]
          constructor
          · rintro ⟨s', h1, ⟨w, w1, w2⟩, h3⟩
            exact ⟨w, w1, fun t ht hx => by rw [w2]; exact h3 t ht hx⟩
          · rintro ⟨w, w1, w2⟩
            obtain ⟨x, x1, x2, x3⟩ := sv_nat (f := f) (v := Int32.ofNat w) hn
            exact ⟨x, x2, ⟨w, w1, x3⟩, fun t ht hx => by rw [← x3]; exact w2 t ht hx⟩
      · rw [i_le, pm k0, e3] at z
        refine v_soLines (f := f) (n := n) l3 e3 (by omega) (by rw [k1]; exact en) hn (fun l hl' => ?_) ?_
        · rw [show mI k 19 l = mI h 19 l from congrFun (kF 19 (by decide) (by decide)).1 l, show mI k 18 l = mI h 18 l from congrFun (kF 18 (by decide) (by decide)).1 l]
          exact hl l hl'
        · have sr := slb_R (f := f) (v := l3) n hn
          have e3' := i_inc e3 (by omega)
          have ev : l3 = Int32.ofNat v := i_of e3 (by omega)
          have xa : x1 = An n := ex
          have ny : ¬ slb f l3 n = x1 → ¬ slb f l3 n = An n := fun q z => q (z.trans xa.symm)
          have yy : slb f l3 n = x1 → slb f l3 n = An n := fun q => q.trans xa
          refine ⟨vin sr (by decide), fun y => ?_, fun y => ?_⟩
          · refine ih (l3 + 1) (v + 1) _ e3' (by omega) (by omega) (GI_w kG (k := 31) (lo := 0) (hi := 1) rfl ⟨by decide, by decide⟩) (Fr_w kF (by decide)) ?_ ?_ ?_ ?_ ?_ ?_
            · rw [mI_wI, if_neg (fun w => absurd w.1 (by decide))]; exact k0
            · rw [mI_wI, if_neg (fun w => absurd w.1 (by decide))]; exact k1
            · rw [mI_wI, if_neg (fun w => absurd w.1 (by decide)), k2]
              show _ = (if slb f (Int32.ofNat v) n = (1 <<< (Int32.ofNat n &&& 31)) - 1 then _ else _)
              rw [← ev, ← ex, if_neg y]
            · intro p hp'
              rw [mI_wI, if_neg (fun w => absurd w.1 (by decide)), k3 p hp']
              refine ⟨fun ⟨w, w1, w2⟩ => ⟨w, by omega, w2⟩, fun ⟨w, w1, w2, w3⟩ => ⟨w, ?_, w2, w3⟩⟩
              by_cases q : w = v
              · subst q
                exact absurd (by rw [ev]; exact w2) (ny y)
              · omega
            · intro p hp'
              rw [mI_wI, if_neg (fun w => absurd w.1 (by decide)), k4 p hp']
              refine ⟨fun ⟨w, w1, w2⟩ => ⟨w, by omega, w2⟩, fun ⟨w, w1, w2, w3⟩ => ⟨w, ?_, w2, w3⟩⟩
              by_cases q : w = v
              · subst q
                exact absurd (by rw [ev]; exact w2) (ny y)
              · omega
            · intro s hs
              have pn := p2n hn
              obtain ⟨x, x1, x2, x3⟩ := sv_nat (f := f) (v := l3) hn
              rw [i_nat x1]
              have key : (∃ w, w < v + 1 ∧ sv f n w = Int32.ofNat s) ↔ (∃ w, w < v ∧ sv f n w = Int32.ofNat s) ∨ s = x := by
                constructor
                · rintro ⟨w, w1, w2⟩
                  by_cases q : w = v
                  · right
                    subst q
                    have : Int32.ofNat x = Int32.ofNat s := by rw [← x3, ev]; exact w2
                    have := congrArg Int32.toInt this
                    rw [Int32.toInt_ofNat_of_lt (by omega), Int32.toInt_ofNat_of_lt (by omega)] at this
                    omega
                  · exact Or.inl ⟨w, by omega, w2⟩
                · rintro (⟨w, w1, w2⟩ | q)
                  · exact ⟨w, by omega, w2⟩
                  · exact ⟨v, by omega, by rw [q, ← x3, ev]⟩
              rw [key]
              rw [mI_wI]
              by_cases q : s = x
              · rw [if_pos ⟨rfl, q⟩]
                exact ⟨fun _ => Or.inr q, fun _ => by decide⟩
              · rw [if_neg (fun z => q z.2), k5 s hs]
                exact ⟨Or.inl, fun z => z.resolve_right q⟩
          · refine ih (l3 + 1) (v + 1) _ e3' (by omega) (by omega) (GI_w (GI_w (GI_w (GI_w kG (k := 31) (lo := 0) (hi := 1) rfl ⟨by decide, by decide⟩) (k := 7) (j := 2) (lo := -2147483648) (hi := 2147483647) (by decide) (R_full _)) (k := 7) (j := 3) (lo := -2147483648) (hi := 2147483647) (by decide) (R_full _)) (k := 7) (j := 4) (lo := -2147483648) (hi := 2147483647) (by decide) (R_full _)) (Fr_w (Fr_w (Fr_w (Fr_w kF (by decide)) (by decide)) (by decide)) (by decide)) ?_ ?_ ?_ ?_ ?_ ?_
            · rw [mI_wI, if_neg (by decide), mI_wI, if_neg (by decide), mI_wI, if_neg (by decide), mI_wI, if_neg (fun w => absurd w.1 (by decide))]; exact k0
            · rw [mI_wI, if_neg (by decide), mI_wI, if_neg (by decide), mI_wI, if_neg (by decide), mI_wI, if_neg (fun w => absurd w.1 (by decide))]; exact k1
            · rw [mI_wI, if_neg (by decide), mI_wI, if_neg (by decide), mI_wI, if_pos ⟨rfl, rfl⟩, mI_wI, if_neg (fun w => absurd w.1 (by decide)), k2]
              show _ = (if slb f (Int32.ofNat v) n = (1 <<< (Int32.ofNat n &&& 31)) - 1 then _ else _)
              rw [← ev, ← ex, if_pos y]
            · intro p hp'
              rw [mI_wI, if_neg (by decide), mI_wI, if_pos ⟨rfl, rfl⟩, mI_wI, if_neg (by decide), mI_wI, if_neg (fun w => absurd w.1 (by decide)), bt_or2, Bool.or_eq_true, k3 p hp', ev]
              constructor
              · rintro (⟨w, w1, w2⟩ | q)
                · exact ⟨w, by omega, w2⟩
                · exact ⟨v, by omega, by rw [← yy y, ev], q⟩
              · rintro ⟨w, w1, w2, w3⟩
                by_cases q : w = v
                · subst q; exact Or.inr w3
                · exact Or.inl ⟨w, by omega, w2, w3⟩
            · intro p hp'
              rw [mI_wI, if_pos ⟨rfl, rfl⟩, mI_wI, if_neg (by decide), mI_wI, if_neg (by decide), mI_wI, if_neg (fun w => absurd w.1 (by decide)), bt_or2, Bool.or_eq_true, k4 p hp', bt_not (by omega), ev, Bool.not_eq_true']
              constructor
              · rintro (⟨w, w1, w2⟩ | q)
                · exact ⟨w, by omega, w2⟩
                · exact ⟨v, by omega, by rw [← yy y, ev], q⟩
              · rintro ⟨w, w1, w2, w3⟩
                by_cases q : w = v
                · subst q; exact Or.inr w3
                · exact Or.inl ⟨w, by omega, w2, w3⟩
            · intro s hs
              have pn := p2n hn
              obtain ⟨x, x1, x2, x3⟩ := sv_nat (f := f) (v := l3) hn
              rw [i_nat x1]
              have key : (∃ w, w < v + 1 ∧ sv f n w = Int32.ofNat s) ↔ (∃ w, w < v ∧ sv f n w = Int32.ofNat s) ∨ s = x := by
                constructor
                · rintro ⟨w, w1, w2⟩
                  by_cases q : w = v
                  · right
                    subst q
                    have : Int32.ofNat x = Int32.ofNat s := by rw [← x3, ev]; exact w2
                    have := congrArg Int32.toInt this
                    rw [Int32.toInt_ofNat_of_lt (by omega), Int32.toInt_ofNat_of_lt (by omega)] at this
                    omega
                  · exact Or.inl ⟨w, by omega, w2⟩
                · rintro (⟨w, w1, w2⟩ | q)
                  · exact ⟨w, by omega, w2⟩
                  · exact ⟨v, by omega, by rw [q, ← x3, ev]⟩
              rw [key]
              rw [mI_wI, if_neg (fun w => absurd w.1 (by decide)), mI_wI, if_neg (fun w => absurd w.1 (by decide)), mI_wI, if_neg (fun w => absurd w.1 (by decide)), mI_wI]
              by_cases q : s = x
              · rw [if_pos ⟨rfl, q⟩]
                exact ⟨fun _ => Or.inr q, fun _ => by decide⟩
              · rw [if_neg (fun z => q z.2), k5 s hs]
                exact ⟨Or.inl, fun z => z.resolve_right q⟩
  have A : ∀ (q : Nat) (l3 : Int32) (v : Nat) (k : mh_T), l3.toInt = (v : Int) → v ≤ 256 → 256 - v < q → Ok [31] h0 k → (∀ s, s < v → s < 2 ^ n → mI k 31 s = 0) → ME g uX5_open 42 [.ref 7, .ref 2, .int x1, .int l3, .retAddr 0] [] k (qV P) := by
    intro q
    induction q with
    | zero => intro l3 v k _ _ hq; exact absurd hq (Nat.not_lt_zero _)
    | succ q ih =>
      intro l3 v k e3 hv hq ok cl
      refine r_X5_open_42 x1 l3 ⟨fun z => ?_, fun z => ?_⟩
      · refine B (2 ^ m + 1) 0 0 k (by decide) (Nat.zero_le _) (Nat.lt_succ_of_le (Nat.sub_le _ _)) ok.1 (Fr_t2 r0 ok.2.1 (by decide)) ?_ ?_ ?_ ?_ ?_ ?_
        · rw [Ok_eq ok (by decide)]; exact v0
        · rw [Ok_eq ok (by decide)]; exact v1
        · rw [Ok_eq ok (by decide)]; exact v2
        · intro p hp'
          rw [Ok_eq ok (by decide), v3, bt_zr]
          exact ⟨fun z => absurd z (by decide), fun ⟨w, w1, _⟩ => absurd w1 (Nat.not_lt_zero _)⟩
        · intro p hp'
          rw [Ok_eq ok (by decide), v4, bt_zr]
          exact ⟨fun z => absurd z (by decide), fun ⟨w, w1, _⟩ => absurd w1 (Nat.not_lt_zero _)⟩
        · intro s hs
          rw [i_lt, ex1, e3] at z
          have pn := p2n hn
          exact ⟨fun q => absurd (cl s (by omega) hs) q, fun ⟨w, w1, _⟩ => absurd w1 (Nat.not_lt_zero _)⟩
      · rw [i_lt, ex1, e3] at z
        rw [i_nat e3]
        exact ⟨i_vp e3 (by omega), ih (l3 + 1) (v + 1) _ (i_inc e3 (by omega)) (by omega) (by omega) (Ok_w ok (k := 31) (lo := 0) (hi := 1) rfl ⟨by decide, by decide⟩ (by decide) (nt_k (by decide))) (fun s hs hs2 => by
          rw [mI_wI]
          split
          · rfl
          · rename_i q
            exact cl s (by have : ¬ s = v := fun z => q ⟨rfl, z⟩
                           omega) hs2)⟩
  exact A 257 0 0 h0 (by decide) (Nat.zero_le _) (by omega) (Ok_rf g0) (fun s hs => absurd hs (Nat.not_lt_zero _))
/-! LINES: what is asked of them -/
abbrev pcn (s : Nat) : Nat := S9 (fun t => bt (Int32.ofNat s) t)
theorem s9_le (g : Nat → Bool) : S9 g ≤ 9 := by
  have t : ∀ b : Bool, b.toNat ≤ 1 := fun b => by cases b <;> decide
  unfold S9
  have := t (g 0); have := t (g 1); have := t (g 2); have := t (g 3); have := t (g 4); have := t (g 5); have := t (g 6); have := t (g 7); have := t (g 8)
  omega
theorem pcn_i (s : Nat) : (Int32.ofNat (pcn s)).toInt = (pcn s : Int) := Int32.toInt_ofNat_of_lt (by have : pcn s ≤ 9 := s9_le _; omega)
def btr (x : Int32) : Nat → Int32
  | 0 => 0
  | k + 1 => btr x k + ((x >>> (Int32.ofNat k &&& 31)) &&& 1)
set_option maxRecDepth 100000 in
theorem btr_n : ∀ w, w < 256 → btr (Int32.ofNat w) 20 = Int32.ofNat (pcn w) := by decide +kernel
theorem w_bits {g : gT} {h : mh_T} {P : Int32 → mh_T → Prop} {w : Nat} (l0 : Int32) (e : l0.toInt = (w : Int)) (hw : w < 256) (hp : P (Int32.ofNat (pcn w)) h) : MCi g yX11_bits uX11_bits [.int l0] h P := by
  have L : ∀ (q : Nat) (l1 l2 : Int32) (k : Nat), l2.toInt = (k : Int) → k ≤ 20 → 20 - k < q → l1 = btr l0 k → ME g uX11_bits 4 [.int l0, .int l1, .int l2] [] h (qI P) := by
    intro q
    induction q with
    | zero => intro l1 l2 k _ _ hq; exact absurd hq (Nat.not_lt_zero _)
    | succ q ih =>
      intro l1 l2 k e2 hk hq e1
      refine r_X11_bits_4 l0 l1 l2 ⟨fun z => ?_, fun z x2 ex => ?_⟩
      · rw [i_le, show (20 : Int32).toInt = 20 by decide, e2] at z
        have : k = 20 := by omega
        subst this
        rw [e1, i_of e (by omega), btr_n w hw]
        exact hp
      · rw [i_le, show (20 : Int32).toInt = 20 by decide, e2] at z
        refine ih x2 (l2 + 1) (k + 1) (i_inc e2 (by omega)) (by omega) (by omega) ?_
        rw [ex, e1, i_of e2 (by omega)]
        rfl
  exact e_X11_bits l0 (L 21 0 0 0 (by decide) (Nat.zero_le _) (by omega) rfl)
theorem v_bc {g : gT} {h : mh_T} {P : Int32 → mh_T → Prop} {w : Nat} (l0 : Int32) (e : l0.toInt = (w : Int)) (hw : w < 256) (hp : P (Int32.ofNat (pcn w)) h) : MCi g yJ6_bitCount_0f7a4 uJ6_bitCount_0f7a4 [.int l0] h P := by
  refine v_bitCount l0 ?_
  rw [i_of e (by omega), bc_n w (by omega)]
  exact hp
theorem pl {a b : Nat} : Int32.ofNat (pcn a) ≤ Int32.ofNat (pcn b) ↔ pcn a ≤ pcn b := by
  rw [i_le, pcn_i, pcn_i]
  omega
/-- the class's table just after a book, and its history -/
def Tb (f : Nat → Int32) (h : mh_T) : Prop := mI h 3 2 = f 0 ∧ (∀ s : Nat, s < 8 → (s : Int) < (f 0).toInt → h.1 24 s = f (1 + s) ∧ h.1 25 s = f (9 + s)) ∧ (∀ i, i < 32 → h.1 26 i = f (17 + i)) ∧ (∀ i, i < 32 → h.1 27 i = 0) ∧ mI h 10 0 = 0 ∧ mI h 10 1 = 0 ∧ mI h 10 2 = 0
theorem Ok_62 {ms : List Nat} {h h' : mh_T} (ok : Ok ms h h') (hm : 302 ∉ ms) : H62 h h' := by
  rcases ok.2.2.2.2.2.2.2.1 with z | z
  · exact absurd z hm
  · exact z
theorem Ok_24 {ms : List Nat} {h h' : mh_T} (ok : Ok ms h h') (hm : 301 ∉ ms) : ∀ j, 24 ≤ j → j ≤ 26 → mI h' 11 j = mI h 11 j := by
  rcases ok.2.2.2.2.2.2.2.2 with z | z
  · exact absurd z hm
  · exact z
abbrev msD : List Nat := [0, 1, 2, 3, 4, 5, 6, 7, 8, 9, 10, 13, 14, 15, 16, 17, 18, 19, 20, 21, 22, 23, 24, 25, 26, 27, 28, 29, 30, 31, 32, 33, 34, 35, 36, 37, 38, 39, 302]
/-- the class's book: what it answers, what stays -/
theorem s_X4_open' {g : gT} {h : mh_T} {P : mh_T → Prop} (hG : GI h) (hp : ∀ h', Ok [10] h h' → (mI h' 10 0 = 0 ∧ mI h' 10 1 = 0 ∧ mI h' 10 2 = 0) → P h') : MCv g yX4_open uX4_open [.ref 10] h P :=
  e_X4_open (hp _ (Ok_w (Ok_w (Ok_w (Ok_rf hG) (k := 10) (j := 0) (v := 0) (lo := 0) (hi := 20) rfl ⟨by decide, by decide⟩ (by decide) (by decide)) (k := 10) (j := 1) (v := 0) (lo := 0) (hi := 20) rfl ⟨by decide, by decide⟩ (by decide) (by decide)) (k := 10) (j := 2) (v := 0) (lo := 0) (hi := 4) rfl ⟨by decide, by decide⟩ (by decide) (by decide)) ⟨by rw [mI_wI, if_neg (by decide), mI_wI, if_neg (by decide), mI_wI, if_pos ⟨rfl, rfl⟩], by rw [mI_wI, if_neg (by decide), mI_wI, if_pos ⟨rfl, rfl⟩], by rw [mI_wI, if_pos ⟨rfl, rfl⟩]⟩)
theorem c_book {g : gT} {h : mh_T} {P : Int32 → mh_T → Prop} {T : Nat → Int32} (l1 : Int32) (hG : GI h) (hT : ∀ j : Nat, (j : Int) < (mI h 0 10).toInt → mI h 12 j = T j) (hn : ¬ (0 ≤ l1.toInt ∧ l1.toInt ≤ (mI h 0 10).toInt) → P (-1) (wI h 0 11 2)) (hs : ∀ (n e : Nat) (f : Nat → Int32) (h' : mh_T), l1.toInt = (n : Int) → (n : Int) ≤ (mI h 0 10).toInt → rx_book T n = .inr ((), e, f) → GI h' → Fr msD h h' → mI h' 0 10 = 0 ∧ mI h' 0 11 = 0 ∧ mI h' 0 12 = 0 → (mI h' 3 0 = f 49 ∧ mI h' 3 1 = f 50 ∧ mI h' 8 0 = f 85 ∧ ∀ i j : Nat, (i : Int) < (f 85).toInt → (j : Int) < (f 85).toInt → ¬ j = i → (bt (mI h' 32 i) j = true ↔ dtk (fun q => f (86 + q)) i j 4 = 0)) → LF f (f 52).toInt.toNat (f 51).toInt.toNat h' → Tb f h' → P (f 50) h') (hx : ∀ (n : Nat) (w : Int32) (p : Nat) (h' : mh_T), l1.toInt = (n : Int) → (n : Int) ≤ (mI h 0 10).toInt → rx_book T n = .inl (w, p) → GI h' → Fr msD h h' → mI h' 0 10 = 0 ∧ mI h' 0 11 = 4 ∧ mI h' 0 12 = w → (mI h' 0 13).toInt = (p : Int) → (h'.1 3 = h.1 3 ∧ h'.1 8 = h.1 8 ∧ h'.1 32 = h.1 32 ∧ h'.1 7 = h.1 7 ∧ h'.1 31 = h.1 31) → (Fr (0 :: cms) h h' ∧ H62 h h') → P (-1) h') : MCi g yX10_book uX10_book [.ref 0, .int l1] h P := by
  have z0 : (0 : Int32).toInt = 0 := by decide
  have f0 : R 0 900 (mI h 0 10) := GI_rd hG 0 10 (by decide)
  refine e_X10_book l1 ⟨fun c => e_X10_refused 2 (hn (fun z => by have := lt_ti c; omega)), fun c => ⟨fun c2 => ?_, fun c2 => e_X10_refused 2 (hn (fun z => by have := lt_ti (nle c2); omega))⟩⟩
  have a1 := le_ti (nlt c)
  have a2 := le_ti c2
  obtain ⟨n, en⟩ : ∃ n : Nat, l1.toInt = (n : Int) := ⟨l1.toInt.toNat, by omega⟩
  have n9 : n ≤ 900 := by have := f0.2; omega
  have g0 : GI (wI h 0 10 0) := GI_w hG (k := 0) (j := 10) (lo := 0) (hi := 900) (by decide) ⟨by decide, by decide⟩
  have fr1 : Fr msD h (wI h 0 10 0) := Fr_w (Fr_rf h) (by decide)
  have fr1x : Fr (0 :: cms) h (wI h 0 10 0) := Fr_w (Fr_rf h) (by decide)
  have e0 : mI (wI h 0 10 0) 0 10 = 0 := by rw [mI_wI, if_pos ⟨rfl, rfl⟩]
  have t12 : ∀ j, j < n → mI (wI h 0 10 0) 12 j = T j := fun j hj => by
    rw [mI_wI, if_neg (fun z => absurd z.1 (by decide))]
    exact hT j (by omega)
  have h62 : H62 h (wI h 0 10 0) := H62_w (fun _ _ => rfl) (by decide)
  generalize wI h 0 10 0 = h1 at g0 fr1 fr1x e0 t12 h62
  refine c_read l1 g0 en n9 t12 (fun h5 cz => ?_)
  have e12 : mI (wI h5 0 12 (mI h5 1 1)) 0 12 = mI h5 1 1 := by rw [mI_wI, if_pos ⟨rfl, rfl⟩]
  have e10 : mI (wI h5 0 12 (mI h5 1 1)) 0 10 = mI h5 0 10 := by rw [mI_wI, if_neg (by decide)]
  rw [e12]
  rcases cz with ⟨e, f, eo, cs⟩ | ⟨w, p, eo, cx⟩
  · have c11 : mI h5 1 1 = 0 := cs.2.2.2.2.2.2.1
    have c21 : mI h5 2 1 = f 50 := cs.2.2.2.2.1.1.2.1
    have ok5 : Ok msD h1 h5 := Ok_mono cs.1 (by decide)
    refine ⟨fun _ => ?_, fun z => absurd c11 z⟩
    have g6 : GI (wI h5 0 12 (mI h5 1 1)) := GI_w ok5.1 (k := 0) (j := 12) (lo := -2147483648) (hi := 2147483647) (by decide) (R_full _)
    have fr6 : Fr msD h (wI h5 0 12 (mI h5 1 1)) := Fr_w (Fr_tr fr1 ok5.2.1) (by decide)
    have v10 : mI (wI h5 0 12 (mI h5 1 1)) 0 10 = 0 := e10.trans (ok5.2.2.1.trans e0)
    have v12 : mI (wI h5 0 12 (mI h5 1 1)) 0 12 = 0 := e12.trans c11
    have v21 : mI (wI h5 0 12 (mI h5 1 1)) 2 1 = f 50 := by rw [mI_wI, if_neg (by decide)]; exact c21
    have v20 : mI (wI h5 0 12 (mI h5 1 1)) 2 0 = f 49 := by rw [mI_wI, if_neg (by decide)]; exact cs.2.2.2.2.1.1.1
    have w25 : mI (wI h5 0 12 (mI h5 1 1)) 2 5 = f 85 := by rw [mI_wI, if_neg (by decide)]; exact cs.2.2.2.2.1.1.2.2.2.2.2.1
    have w24 : mI (wI h5 0 12 (mI h5 1 1)) 2 4 = f 52 := by rw [mI_wI, if_neg (by decide)]; exact cs.2.2.2.2.1.1.2.2.2.2.1
    have w22 : mI (wI h5 0 12 (mI h5 1 1)) 2 2 = f 51 := by rw [mI_wI, if_neg (by decide)]; exact cs.2.2.2.2.1.1.2.2.1
    have wal : ∀ l : Nat, (l : Int) < (f 52).toInt → mI (wI h5 0 12 (mI h5 1 1)) 19 l = f (77 + l) ∧ Lp (mI (wI h5 0 12 (mI h5 1 1)) 18 l) (f (53 + 3 * l)) (f (54 + 3 * l)) (f (55 + 3 * l)) := fun l hl => by rw [mI_wI, if_neg (fun z => absurd z.1 (by decide)), mI_wI, if_neg (fun z => absurd z.1 (by decide))]; exact cs.2.2.2.2.2.2.2.2.2.2.1 l hl
    have w20 : ∀ i : Nat, (i : Int) < 4 * (f 85).toInt → mI (wI h5 0 12 (mI h5 1 1)) 20 i = f (86 + i) := fun i hi => by rw [mI_wI, if_neg (fun z => absurd z.1 (by decide))]; exact cs.2.2.2.2.2.2.2.2.2.1 i hi
    have w23 : mI (wI h5 0 12 (mI h5 1 1)) 2 3 = f 0 := by rw [mI_wI, if_neg (by decide)]; exact cs.2.2.2.2.1.1.2.2.2.1
    have w15 : ∀ s : Nat, (s : Int) < (f 0).toInt → mI (wI h5 0 12 (mI h5 1 1)) 15 s = f (1 + s) ∧ mI (wI h5 0 12 (mI h5 1 1)) 16 s = f (9 + s) := fun s hs => by rw [mI_wI, if_neg (fun z => absurd z.1 (by decide)), mI_wI, if_neg (fun z => absurd z.1 (by decide))]; exact cs.2.2.2.2.2.2.2.1 s hs
    have w17 : ∀ i, i < 32 → mI (wI h5 0 12 (mI h5 1 1)) 17 i = f (17 + i) := fun i hi => by rw [mI_wI, if_neg (fun z => absurd z.1 (by decide))]; exact cs.2.2.2.2.2.2.2.2.1 i hi
    generalize wI h5 0 12 (mI h5 1 1) = h6 at g6 fr6 v10 v12 v21 v20 w25 w20 w24 w22 wal w23 w15 w17
    refine v_X8_open g6 (fun h7 g7 fr7 v7 => ?_)
    have f7 : ∀ k j, k < 62 → k ∉ [3, 24, 25, 26, 27] → mI h7 k j = mI h6 k j := fun k j hk hm => congrFun (fr7 k hk hm).1 j
    have c52 : mI h7 2 4 = f 52 := by rw [f7 2 4 (by decide) (by decide), w24]
    have c51 : mI h7 2 2 = f 51 := by rw [f7 2 2 (by decide) (by decide), w22]
    obtain ⟨n5, en5, n50, n58⟩ := i_R (show R 0 8 (f 52) by rw [← c52]; exact GI_rd g7 2 4 (by decide)) (by decide)
    obtain ⟨m5, em5, m50, m59⟩ := i_R (show R 0 9 (f 51) by rw [← c51]; exact GI_rd g7 2 2 (by decide)) (by decide)
    refine v_X5_openL (f := f) (n := n5) (m := m5) g7 (by rw [c51]; exact em5) (by omega) (by rw [c52]; exact en5) (by omega) (fun l hl => ?_) (fun h8 g8 fr8' lf => ?_)
    · rw [f7 19 l (by decide) (by decide), f7 18 l (by decide) (by decide)]
      exact wal l (by omega)
    have c85 : mI h8 2 5 = f 85 := by
      rw [show mI h8 2 5 = mI h7 2 5 from congrFun (fr8' 2 (by decide) (by decide)).1 5, f7 2 5 (by decide) (by decide), w25]
    have r85 : R 0 18 (f 85) := by rw [← c85]; exact GI_rd g8 2 5 (by decide)
    obtain ⟨c, ec, c0, c18⟩ := i_R r85 (by decide)
    refine v_X3_open (c := c) g8 (by rw [c85]; exact ec) (by omega) (fun h9 g9 fr9 v80 v32 => ?_)
    refine s_X9_open g9 (fun h10 k10 => ?_)
    refine s_X4_open' k10.1 (fun h11 k11 k110 => ?_)
    have fr8 : Fr msD h h8 := Fr_t2 (Fr_t2 fr6 fr7 (by decide)) fr8' (by decide)
    have g78 : ∀ k j, k < 62 → k ∉ [7, 31] → mI h8 k j = mI h7 k j := fun k j hk hm => congrFun (fr8' k hk hm).1 j
    have fr11 : Fr msD h h11 := Fr_t2 (Fr_t2 (Fr_t2 fr8 fr9 (by decide)) k10.2.1 (by decide)) k11.2.1 (by decide)
    have z0 : ∀ j, mI h11 0 j = mI h6 0 j := fun j => by
      rw [Ok_eq k11 (by decide), Ok_eq k10 (by decide), show mI h9 0 j = mI h8 0 j from congrFun (fr9 0 (by decide) (by decide)).1 j, g78 0 j (by decide) (by decide), show mI h7 0 j = mI h6 0 j from congrFun (fr7 0 (by decide) (by decide)).1 j]
    have z3 : ∀ j, mI h11 3 j = mI h7 3 j := fun j => by
      rw [Ok_eq k11 (by decide), Ok_eq k10 (by decide), show mI h9 3 j = mI h8 3 j from congrFun (fr9 3 (by decide) (by decide)).1 j, g78 3 j (by decide) (by decide)]
    have z8 : ∀ j, mI h11 8 j = mI h9 8 j := fun j => by rw [Ok_eq k11 (by decide), Ok_eq k10 (by decide)]
    have z7 : ∀ j, mI h11 7 j = mI h8 7 j := fun j => by rw [Ok_eq k11 (by decide), Ok_eq k10 (by decide), show mI h9 7 j = mI h8 7 j from congrFun (fr9 7 (by decide) (by decide)).1 j]
    have n58' : n5 ≤ 8 := by omega
    have zt : ∀ k, (k = 24 ∨ k = 25 ∨ k = 26 ∨ k = 27) → ∀ j, mI h11 k j = mI h7 k j := fun k hk j => by
      have k62 : k < 62 := by omega
      have e1 := congrFun (k11.2.1 k k62 (by rcases hk with z | z | z | z <;> subst z <;> decide)).1 j
      have e2 := congrFun (k10.2.1 k k62 (by rcases hk with z | z | z | z <;> subst z <;> decide)).1 j
      have e3 := congrFun (fr9 k k62 (by rcases hk with z | z | z | z <;> subst z <;> decide)).1 j
      have e4 := congrFun (fr8' k k62 (by rcases hk with z | z | z | z <;> subst z <;> decide)).1 j
      exact e1.trans (e2.trans (e3.trans e4))
    have z31 : ∀ j, mI h11 31 j = mI h8 31 j := fun j => by rw [Ok_eq k11 (by decide), Ok_eq k10 (by decide), show mI h9 31 j = mI h8 31 j from congrFun (fr9 31 (by decide) (by decide)).1 j]
    have z32 : ∀ j, mI h11 32 j = mI h9 32 j := fun j => by rw [Ok_eq k11 (by decide), Ok_eq k10 (by decide)]
    have z20 : ∀ j, mI h8 20 j = mI h6 20 j := fun j => by rw [g78 20 j (by decide) (by decide), show mI h7 20 j = mI h6 20 j from congrFun (fr7 20 (by decide) (by decide)).1 j]
    rw [show mI h11 3 1 = f 50 from by rw [z3, v7.2.1, v21]]
    have o : ∀ k j, ¬ (k = 0 ∧ j = 11) → mI (wI h11 0 11 0) k j = mI h11 k j := fun k j hk => by rw [mI_wI, if_neg hk]
    refine e_X10_told _ (hs n e f _ en (by omega) eo (GI_w k11.1 (k := 0) (j := 11) (lo := -2147483648) (hi := 2147483647) (by decide) (R_full _)) (Fr_w fr11 (by decide)) ⟨?_, ?_, ?_⟩ ⟨?_, ?_, ?_, fun a b ha hb hab => ?_⟩ ?_ ⟨?_, fun s h8' hs' => ⟨?_, ?_⟩, fun i hi => ?_, fun i hi => ?_, ?_, ?_, ?_⟩)
    · rw [o 0 10 (by decide), z0]; exact v10
    · rw [mI_wI, if_pos ⟨rfl, rfl⟩]
    · rw [o 0 12 (by decide), z0]; exact v12
    · rw [o 3 0 (by decide), z3, v7.1]; exact v20
    · rw [o 3 1 (by decide), z3, v7.2.1]; exact v21
    · rw [o 8 0 (by decide), z8, v80]; exact c85
    · rw [o 32 a (fun z => absurd z.1 (by decide)), z32, v32 a b (by omega) (by omega) hab, dtk_cg (y := fun q => f (86 + q)) 4 (Nat.le_refl _) (fun q hq => ⟨?_, ?_⟩)]
      · show mI h8 20 (4 * a + q) = f (86 + (4 * a + q))
        rw [z20]
        exact w20 _ (by omega)
      · show mI h8 20 (4 * b + q) = f (86 + (4 * b + q))
        rw [z20]
        exact w20 _ (by omega)
    · rw [en5, em5, Int.toNat_natCast, Int.toNat_natCast]
      refine LF_cg n58' (fun _ _ _ => rfl) ?_ ?_ lf
      · funext j
        exact (o 7 j (fun z => absurd z.1 (by decide))).trans (z7 j)
      · funext j
        exact (o 31 j (fun z => absurd z.1 (by decide))).trans (z31 j)
    · rw [o 3 2 (by decide), z3, v7.2.2.1]; exact w23
    · exact (o 24 s (fun z => absurd z.1 (by decide))).trans ((zt 24 (by decide) s).trans ((v7.2.2.2.1 s h8').trans (w15 s hs').1))
    · exact (o 25 s (fun z => absurd z.1 (by decide))).trans ((zt 25 (by decide) s).trans ((v7.2.2.2.2.1 s h8').trans (w15 s hs').2))
    · exact (o 26 i (fun z => absurd z.1 (by decide))).trans ((zt 26 (by decide) i).trans ((v7.2.2.2.2.2.1 i hi).trans (w17 i hi)))
    · exact (o 27 i (fun z => absurd z.1 (by decide))).trans ((zt 27 (by decide) i).trans (v7.2.2.2.2.2.2 i hi))
    · rw [o 10 0 (by decide)]; exact k110.1
    · rw [o 10 1 (by decide)]; exact k110.2.1
    · rw [o 10 2 (by decide)]; exact k110.2.2
  · have c11 : mI h5 1 1 = w := cx.2.1
    have ok5 : Ok msD h1 h5 := Ok_mono cx.1 (by decide)
    refine ⟨fun z => absurd (c11.symm.trans z) cx.2.2.2, fun _ => ?_⟩
    have g6 : GI (wI h5 0 12 (mI h5 1 1)) := GI_w ok5.1 (k := 0) (j := 12) (lo := -2147483648) (hi := 2147483647) (by decide) (R_full _)
    have fr6 : Fr msD h (wI h5 0 12 (mI h5 1 1)) := Fr_w (Fr_tr fr1 ok5.2.1) (by decide)
    have v10 : mI (wI h5 0 12 (mI h5 1 1)) 0 10 = 0 := e10.trans (ok5.2.2.1.trans e0)
    have v12 : mI (wI h5 0 12 (mI h5 1 1)) 0 12 = w := e12.trans c11
    have v2 : (mI (wI h5 0 12 (mI h5 1 1)) 1 2).toInt = (p : Int) := by rw [mI_wI, if_neg (by decide)]; exact cx.2.2.1
    have fx : Fr (0 :: cms) h (wI h5 0 12 (mI h5 1 1)) := Fr_w (Fr_t2 fr1x cx.1.2.1 (by decide)) (by decide)
    have h62x : H62 h (wI h5 0 12 (mI h5 1 1)) := H62_w (H62_tr h62 (Ok_62 cx.1 (by decide))) (by decide)
    generalize wI h5 0 12 (mI h5 1 1) = h6 at g6 fr6 v10 v12 v2 fx h62x
    have fy : Fr (0 :: cms) h (wI (wI h6 0 13 (mI h6 1 2)) 0 11 4) := Fr_w (Fr_w fx (by decide)) (by decide)
    have fc : ∀ k, k < 62 → k ∉ (0 :: cms) → True → (wI (wI h6 0 13 (mI h6 1 2)) 0 11 4).1 k = h.1 k := fun k hk hm _ => (fy k hk hm).1
    have g8 : GI (wI (wI h6 0 13 (mI h6 1 2)) 0 11 4) := GI_w (GI_w g6 (k := 0) (j := 13) (lo := -2147483648) (hi := 2147483647) (by decide) (R_full _)) (k := 0) (j := 11) (lo := -2147483648) (hi := 2147483647) (by decide) (R_full _)
    refine e_X10_refused 4 (hx n w p _ en (by omega) eo g8 (Fr_w (Fr_w fr6 (by decide)) (by decide)) ⟨?_, ?_, ?_⟩ ?_ ⟨fc 3 (by decide) (by decide) trivial, fc 8 (by decide) (by decide) trivial, fc 32 (by decide) (by decide) trivial, fc 7 (by decide) (by decide) trivial, fc 31 (by decide) (by decide) trivial⟩ ⟨fy, H62_w (H62_w h62x (by decide)) (by decide)⟩)
    · rw [mI_wI, if_neg (by decide), mI_wI, if_neg (by decide)]; exact v10
    · rw [mI_wI, if_pos ⟨rfl, rfl⟩]
    · rw [mI_wI, if_neg (by decide), mI_wI, if_neg (by decide)]; exact v12
    · rw [mI_wI, if_neg (by decide), mI_wI, if_pos ⟨rfl, rfl⟩]; exact v2
/-! feed: both tapes get the same bytes -/
def OkH (ms : List Nat) (h h' : mh_T) : Prop := GI h' ∧ Fr ms h h' ∧ H62 h h'
theorem OkH_w {ms : List Nat} {h0 h : mh_T} (a : OkH ms h0 h) {k j : Nat} {v : Int32} {lo hi : Int} (e : rgT k j = (lo, hi)) (f : R lo hi v) (hk : k ∈ ms) (h62 : k < 62 := by decide) : OkH ms h0 (wI h k j v) := ⟨GI_w a.1 e f, Fr_w a.2.1 hk, H62_w a.2.2 h62⟩
theorem OkH_tr {ms : List Nat} {h h1 h2 : mh_T} (a : OkH ms h h1) (b : OkH ms h1 h2) : OkH ms h h2 := ⟨b.1, Fr_tr a.2.1 b.2.1, H62_tr a.2.2 b.2.2⟩
def fb (a : Int32) (d : Nat) : Int32 := (a >>> (Int32.ofNat (24 - 8 * d) &&& 31)) &&& 255
def fw (a1 a2 a3 a4 a5 : Int32) (m : Nat) : Int32 := if m < 4 then fb a1 m else if m < 8 then fb a2 (m - 4) else if m < 12 then fb a3 (m - 8) else if m < 16 then fb a4 (m - 12) else fb a5 (m - 16)
theorem fb_nn (a : Int32) (d : Nat) : 0 ≤ (fb a d).toInt := (R_and (x := a >>> (Int32.ofNat (24 - 8 * d) &&& 31)) (y := 255) (c := 255) (d := 255) ⟨by decide, by decide⟩ (by decide)).1
theorem fw_nn (a1 a2 a3 a4 a5 : Int32) (m : Nat) : 0 ≤ (fw a1 a2 a3 a4 a5 m).toInt := by
  unfold fw
  split
  · exact fb_nn _ _
  · split
    · exact fb_nn _ _
    · split
      · exact fb_nn _ _
      · split
        · exact fb_nn _ _
        · exact fb_nn _ _
theorem sh_bv (x : BitVec 32) (d : Nat) (hd : d ≤ 24) : (x >>> d) &&& 255#32 = (x.sshiftRight d) &&& 255#32 := by
  apply BitVec.eq_of_getLsbD_eq
  intro i hi
  rw [BitVec.getLsbD_and, BitVec.getLsbD_and, BitVec.getLsbD_ushiftRight, BitVec.getLsbD_sshiftRight]
  by_cases q : i < 8
  · rw [if_pos (by omega), decide_eq_false (by omega : ¬ 32 ≤ i), Bool.not_false, Bool.true_and]
  · have : (255#32).getLsbD i = false := by
      have e : (255#32) = BitVec.ofNat 32 (2 ^ 8 - 1) := by decide
      rw [e, BitVec.getLsbD_ofNat, Nat.testBit_two_pow_sub_one, decide_eq_false q, Bool.and_false]
    rw [this, Bool.and_false, Bool.and_false]
theorem sh_u (a l : Int32) (d : Nat) (hd : d < 4) (el : l = Int32.ofNat (24 - 8 * d)) : ((a.toUInt32 >>> (l.toUInt32 &&& Int32.toUInt32 31)).toInt32) &&& 255 = fb a d := by
  subst el
  unfold fb
  apply Int32.toBitVec_inj.mp
  rw [Int32.toBitVec_and, Int32.toBitVec_and, Int32.toBitVec_shiftRight]
  show (UInt32.toBitVec (a.toUInt32 >>> ((Int32.ofNat (24 - 8 * d)).toUInt32 &&& Int32.toUInt32 31))) &&& _ = _
  rw [UInt32.toBitVec_shiftRight]
  rcases (show d = 0 ∨ d = 1 ∨ d = 2 ∨ d = 3 by omega) with q | q | q | q <;> subst q
  · exact sh_bv _ 24 (by omega)
  · exact sh_bv _ 16 (by omega)
  · exact sh_bv _ 8 (by omega)
  · exact sh_bv _ 0 (by omega)
theorem v_put {g : gT} {h : mh_T} {P : mh_T → Prop} {F : Nat} (l1 : Int32) (hG : GI h) (eF : (mI h 0 10).toInt = (F : Int)) (hF : F ≤ 896) (hp : ∀ h', OkH [0, 12] h h' → (mI h' 0 10).toInt = ((F + 4 : Nat) : Int) → (∀ i, i < F → mI h' 12 i = mI h 12 i) → (∀ d, d < 4 → mI h' 12 (F + d) = fb l1 d) → (∀ j, ¬ j = 10 → mI h' 0 j = mI h 0 j) → P h') : MCv g yX10_put uX10_put [.ref 0, .int l1] h P := by
  have z : (0 : Int32).toInt = 0 := by decide
  have L : ∀ (n : Nat) (l2 : Int32) (d : Nat) (k : mh_T), d + n = 4 → l2.toInt = 8 * (n : Int) - 8 → OkH [0, 12] h k → (mI k 0 10).toInt = ((F + d : Nat) : Int) → (∀ i, i < F → mI k 12 i = mI h 12 i) → (∀ b, b < d → mI k 12 (F + b) = fb l1 b) → (∀ j, ¬ j = 10 → mI k 0 j = mI h 0 j) → ME g uX10_put 3 [.ref 0, .int l1, .int l2] [] k (qV P) := by
    intro n
    induction n with
    | zero =>
      intro l2 d k hd e2 ok ef k1 k2 k3
      have : d = 4 := by omega
      subst this
      refine r_X10_put_3 l1 l2 ⟨fun _ => hp k ok ef k1 k2 k3, fun c => ?_⟩
      exfalso
      apply c
      rw [i_lt, e2, z]
      omega
    | succ n ih =>
      intro l2 d k hd e2 ok ef k1 k2 k3
      refine r_X10_put_3 l1 l2 ⟨fun c => ?_, fun c => ⟨i_vp ef (by omega), ?_⟩⟩
      · rw [i_lt, e2, z] at c
        omega
      · have e2' : l2.toInt = ((24 - 8 * d : Nat) : Int) := by omega
        have ei : mI (wI k 12 (mI k 0 10).toNatClampNeg (((l1.toUInt32 >>> (l2.toUInt32 &&& Int32.toUInt32 31)).toInt32) &&& 255)) 0 10 = mI k 0 10 := by rw [mI_wI, if_neg (fun q => absurd q.1 (by decide))]
        rw [ei, sh_u l1 l2 d (by omega) (i_of e2' (by omega)), i_nat ef]
        have e8 : (l2 + (-8)).toInt = 8 * (n : Int) - 8 := by
          rw [i_add (a := 8 * ((n + 1 : Nat) : Int) - 8) (b := -8) e2 (by decide) (by omega)]
          omega
        refine ih (l2 + (-8)) (d + 1) _ (by omega) e8 (OkH_w (OkH_w ok (k := 12) (rgc_12 _) (R_full _) (by decide)) (k := 0) (j := 10) (lo := 0) (hi := 900) (by decide) ?_ (by decide)) ?_ (fun i hi => ?_) (fun b hb => ?_) (fun j hj => ?_)
        · have := i_inc ef (by omega)
          exact ⟨by omega, by omega⟩
        · rw [mI_wI, if_pos ⟨rfl, rfl⟩]
          have t := i_inc ef (by omega)
          rw [t]
          rfl
        · rw [mI_wI, if_neg (fun q => absurd q.1 (by decide)), mI_wI, if_neg (by omega)]
          exact k1 i hi
        · rw [mI_wI, if_neg (fun q => absurd q.1 (by decide)), mI_wI]
          by_cases q : b = d
          · rw [if_pos ⟨rfl, by rw [q]⟩, q]
          · rw [if_neg (by omega)]
            exact k2 b (by omega)
        · rw [mI_wI, if_neg (fun q => hj q.2), mI_wI, if_neg (fun q => absurd q.1 (by decide))]
          exact k3 j hj
  exact e_X10_put l1 (L 4 24 0 h (by omega) (by decide) ⟨hG, fun _ _ _ => ⟨rfl, rfl, rfl⟩, fun _ _ => rfl⟩ (by rw [eF]; rfl) (fun _ _ => rfl) (fun b hb => absurd hb (Nat.not_lt_zero b)) (fun _ _ => rfl))
theorem v_feed {g : gT} {h : mh_T} {P : Int32 → mh_T → Prop} {F : Nat} (l1 l2 l3 l4 l5 : Int32) (hG : GI h) (eF : (mI h 0 10).toInt = (F : Int)) (hp : F ≤ 880 → ∀ h', OkH [0, 12] h h' → (mI h' 0 10).toInt = ((F + 20 : Nat) : Int) → (∀ i, i < F → mI h' 12 i = mI h 12 i) → (∀ m, m < 20 → mI h' 12 (F + m) = fw l1 l2 l3 l4 l5 m) → (∀ j, ¬ j = 10 → mI h' 0 j = mI h 0 j) → P (mI h' 0 10) h') (hx : ¬ F ≤ 880 → P (-1) h) : MCi g yX10_feed uX10_feed [.ref 0, .int l1, .int l2, .int l3, .int l4, .int l5] h P := by
  have f0 : R 0 900 (mI h 0 10) := GI_rd hG 0 10 (by decide)
  have f9 := f0.2
  have es : (mI h 0 10 + 20).toInt = (F : Int) + 20 := i_add eF (by decide) (by omega)
  have z9 : (900 : Int32).toInt = 900 := by decide
  refine e_X10_feed l1 l2 l3 l4 l5 ⟨fun c => ?_, fun c => ?_⟩
  · rw [i_le, es, z9] at c
    refine v_put l1 hG eF (by omega) (fun h1 k1 e1 a1 b1 c1 => ?_)
    refine v_put l2 k1.1 e1 (by omega) (fun h2 k2 e2 a2 b2 c2 => ?_)
    refine v_put l3 k2.1 e2 (by omega) (fun h3 k3 e3 a3 b3 c3 => ?_)
    refine v_put l4 k3.1 e3 (by omega) (fun h4 k4 e4 a4 b4 c4 => ?_)
    refine v_put l5 k4.1 e4 (by omega) (fun h5 k5 e5 a5 b5 c5 => ?_)
    refine hp (by omega) h5 (OkH_tr (OkH_tr (OkH_tr (OkH_tr k1 k2) k3) k4) k5) (by rw [e5]) (fun i hi => ?_) (fun m hm => ?_) (fun j hj => ?_)
    · rw [a5 i (by omega), a4 i (by omega), a3 i (by omega), a2 i (by omega), a1 i hi]
    · unfold fw
      split
      · rw [a5 _ (by omega), a4 _ (by omega), a3 _ (by omega), a2 _ (by omega)]
        exact b1 m (by omega)
      · split
        · rw [a5 _ (by omega), a4 _ (by omega), a3 _ (by omega), show F + m = F + 4 + (m - 4) by omega]
          exact b2 (m - 4) (by omega)
        · split
          · rw [a5 _ (by omega), a4 _ (by omega), show F + m = F + 4 + 4 + (m - 8) by omega]
            exact b3 (m - 8) (by omega)
          · split
            · rw [a5 _ (by omega), show F + m = F + 4 + 4 + 4 + (m - 12) by omega]
              exact b4 (m - 12) (by omega)
            · rw [show F + m = F + 4 + 4 + 4 + 4 + (m - 16) by omega]
              exact b5 (m - 16) (by omega)
    · rw [c5 j hj, c4 j hj, c3 j hj, c2 j hj, c1 j hj]
  · rw [i_le, es, z9] at c
    exact hx (by omega)
theorem sh_m : ∀ m, m < 20 → (24 : Int32) - (8 * (Int32.ofNat m - Int32.ofNat m / 4 * 4)) = Int32.ofNat (24 - 8 * (m % 4)) := by decide
theorem w_feed {g : gT} {h : mh_T} {P : Int32 → mh_T → Prop} {F : Nat} (l1 l2 l3 l4 l5 : Int32) (hG : GI h) (eF : (mI h 11 2).toInt = (F : Int)) (hp : F ≤ 880 → ∀ h', OkH [11, 43] h h' → (mI h' 11 2).toInt = ((F + 20 : Nat) : Int) → (∀ i, i < F → mI h' 43 i = mI h 43 i) → (∀ m, m < 20 → mI h' 43 (F + m) = fw l1 l2 l3 l4 l5 m) → (∀ j, ¬ (j = 0 ∨ j = 2) → mI h' 11 j = mI h 11 j) → P (mI h' 11 2) h') (hx : ¬ F ≤ 880 → P (-1) (wI h 11 0 0)) : MCi g yX11_feed uX11_feed [.ref 11, .int l1, .int l2, .int l3, .int l4, .int l5] h P := by
  have f0 : R 0 900 (mI h 11 2) := GI_rd hG 11 2 (by decide)
  have f9 := f0.2
  have e0 : mI (wI h 11 0 0) 11 2 = mI h 11 2 := by rw [mI_wI, if_neg (by decide)]
  have es : (mI (wI h 11 0 0) 11 2 + 20).toInt = (F : Int) + 20 := by rw [e0]; exact i_add eF (by decide) (by omega)
  have z9 : (900 : Int32).toInt = 900 := by decide
  have z20 : (20 : Int32).toInt = 20 := by decide
  have z4 : (4 : Int32).toInt = 4 := by decide
  have z8 : (8 : Int32).toInt = 8 := by decide
  have z12 : (12 : Int32).toInt = 12 := by decide
  have z16 : (16 : Int32).toInt = 16 := by decide
  refine e_X11_feed l1 l2 l3 l4 l5 ⟨fun c => ?_, fun c => ?_⟩
  · rw [i_le, es, z9] at c
    have L : ∀ (n : Nat) (l6 : Int32) (m : Nat) (k : mh_T), m + n = 20 → l6.toInt = (m : Int) → OkH [11, 43] h k → (mI k 11 2).toInt = ((F + m : Nat) : Int) → (∀ i, i < F → mI k 43 i = mI h 43 i) → (∀ b, b < m → mI k 43 (F + b) = fw l1 l2 l3 l4 l5 b) → (∀ j, ¬ (j = 0 ∨ j = 2) → mI k 11 j = mI h 11 j) → ME g uX11_feed 23 [.ref 11, .int l1, .int l2, .int l3, .int l4, .int l5, .int l6, .retAddr 0] [] k (qI P) := by
      intro n
      induction n with
      | zero =>
        intro l6 m k hm e6 ok ef k1 k2 k3
        have : m = 20 := by omega
        subst this
        refine r_X11_feed_23 l1 l2 l3 l4 l5 l6 ⟨fun _ => hp (by omega) k ok ef k1 k2 k3, fun c => absurd (by rw [i_le, z20, e6]; omega) c⟩
      | succ n ih =>
        intro l6 m k hm e6 ok ef k1 k2 k3
        have st : ∀ v : Int32, v = fw l1 l2 l3 l4 l5 m → (vp_in (mI k 11 2) 900) ∧ (ME g uX11_feed 23 [.ref 11, .int l1, .int l2, .int l3, .int l4, .int l5, .int (l6 + 1), .retAddr 0] [] (wI (wI k 43 (mI k 11 2).toNatClampNeg v) 11 2 ((mI (wI k 43 (mI k 11 2).toNatClampNeg v) 11 2) + 1)) (qI P)) := by
          intro v hv
          have ei : mI (wI k 43 (mI k 11 2).toNatClampNeg v) 11 2 = mI k 11 2 := by rw [mI_wI, if_neg (fun q => absurd q.1 (by decide))]
          refine ⟨i_vp ef (by omega), ?_⟩
          rw [ei, i_nat ef]
          refine ih (l6 + 1) (m + 1) _ (by omega) (i_inc e6 (by omega)) (OkH_w (OkH_w ok (k := 43) (rgc_43 _) (R_full _) (by decide)) (k := 11) (j := 2) (lo := 0) (hi := 900) (by decide) ?_ (by decide)) ?_ (fun i hi => ?_) (fun b hb => ?_) (fun j hj => ?_)
          · have := i_inc ef (by omega)
            exact ⟨by omega, by omega⟩
          · rw [mI_wI, if_pos ⟨rfl, rfl⟩]
            have t := i_inc ef (by omega)
            rw [t]
            rfl
          · rw [mI_wI, if_neg (fun q => absurd q.1 (by decide)), mI_wI, if_neg (by omega)]
            exact k1 i hi
          · rw [mI_wI, if_neg (fun q => absurd q.1 (by decide)), mI_wI]
            by_cases q : b = m
            · rw [if_pos ⟨rfl, by rw [q]⟩, q, hv]
            · rw [if_neg (by omega)]
              exact k2 b (by omega)
          · rw [mI_wI, if_neg (by omega), mI_wI, if_neg (fun q => absurd q.1 (by decide))]
            exact k3 j hj
        have e6' : l6 = Int32.ofNat m := i_of e6 (by omega)
        have sh := sh_m m (by omega)
        rw [← e6'] at sh
        refine r_X11_feed_23 l1 l2 l3 l4 l5 l6 ⟨fun c => ?_, fun c => ?_⟩
        · rw [i_le, z20, e6] at c
          omega
        · rw [i_le, i_le, i_le, i_le, z4, z8, z12, z16, e6, sh]
          refine ⟨fun a => ⟨fun b => ⟨fun c => ⟨fun d => st _ ?_, fun d => st _ ?_⟩, fun c => st _ ?_⟩, fun b => st _ ?_⟩, fun a => st _ ?_⟩
          · unfold fw fb
            rw [if_neg (by omega), if_neg (by omega), if_neg (by omega), if_neg (by omega), show m % 4 = m - 16 by omega]
          · unfold fw fb
            rw [if_neg (by omega), if_neg (by omega), if_neg (by omega), if_pos (by omega), show m % 4 = m - 12 by omega]
          · unfold fw fb
            rw [if_neg (by omega), if_neg (by omega), if_pos (by omega), show m % 4 = m - 8 by omega]
          · unfold fw fb
            rw [if_neg (by omega), if_pos (by omega), show m % 4 = m - 4 by omega]
          · unfold fw fb
            rw [if_pos (by omega), show m % 4 = m by omega]
    refine L 20 0 0 _ (by omega) (by decide) (OkH_w ⟨hG, fun _ _ _ => ⟨rfl, rfl, rfl⟩, fun _ _ => rfl⟩ (k := 11) (j := 0) (lo := -2147483648) (hi := 2147483647) (by decide) (R_full _) (by decide)) (by rw [e0, eF]; rfl) (fun i _ => by rw [mI_wI, if_neg (fun q => absurd q.1 (by decide))]) (fun b hb => absurd hb (Nat.not_lt_zero b)) (fun j hj => by rw [mI_wI, if_neg (by omega)])
  · rw [i_le, es, z9] at c
    exact hx (by omega)
/-! THE TABLE of both sides, as rows; the acts on rows -/
/-- the class's table as a row -/
def tC (h : mh_T) (j : Nat) : Int32 := if j = 0 then mI h 3 2 else if j < 9 then mI h 24 (j - 1) else if j < 17 then mI h 25 (j - 9) else mI h 26 (j - 17)
abbrev sn (a : Nat → Int32) : Nat := (a 0).toInt.toNat
/-- set s of one row is set q of the other -/
def sE (a : Nat → Int32) (s : Nat) (b : Nat → Int32) (q : Nat) : Prop := a (1 + s) = b (1 + q) ∧ a (9 + s) = b (9 + q) ∧ ∀ o, o < 4 → a (17 + 4 * s + o) = b (17 + 4 * q + o)
def cE (c : Nat → Int32) (s : Nat) (d : Nat → Int32) (q : Nat) : Prop := ∀ o, o < 4 → c (4 * s + o) = d (4 * q + o)
/-- a set's numbers -/
def TP (a : Nat → Int32) (s : Nat) : Prop := 0 ≤ (a (17 + 4 * s)).toInt ∧ 0 ≤ (a (17 + 4 * s + 1)).toInt ∧ 0 ≤ (a (17 + 4 * s + 2)).toInt ∧ 0 ≤ (a (17 + 4 * s + 3)).toInt ∧ (a (17 + 4 * s)).toInt + (a (17 + 4 * s + 1)).toInt + (a (17 + 4 * s + 2)).toInt + (a (17 + 4 * s + 3)).toInt ≤ 60
/-- a set of one look has two outcomes, and no more -/
def TS (a : Nat → Int32) (s : Nat) : Prop := ((a (9 + s) = -2 ∧ a (17 + 4 * s + 2) = 0 ∧ a (17 + 4 * s + 3) = 0) ∨ 0 ≤ (a (9 + s)).toInt) ∧ TP a s
def TZ (a : Nat → Int32) : Prop := 0 ≤ (a 0).toInt ∧ (a 0).toInt ≤ 8 ∧ ∀ s, s < sn a → TS a s
theorem TS_sE {a b : Nat → Int32} {s q : Nat} (h : sE a s b q) (t : TS b q) : TS a s := by
  have e0 := h.2.2 0 (by omega)
  rw [Nat.add_zero, Nat.add_zero] at e0
  unfold TS TP
  rw [h.2.1, e0, h.2.2 1 (by omega), h.2.2 2 (by omega), h.2.2 3 (by omega)]
  exact t
theorem TP_pm {f g : Nat → Int32} {s : Nat} {q : Nat → Nat} (t : TP f s) (hq : (q 0 = 0 ∧ q 1 = 1 ∧ q 2 = 2 ∧ q 3 = 3) ∨ (q 0 = 1 ∧ q 1 = 0 ∧ q 2 = 2 ∧ q 3 = 3) ∨ (q 0 = 1 ∧ q 1 = 0 ∧ q 2 = 3 ∧ q 3 = 2) ∨ (q 0 = 2 ∧ q 1 = 3 ∧ q 2 = 0 ∧ q 3 = 1)) (h : ∀ i, i < 4 → g (17 + 4 * s + i) = f (17 + 4 * s + q i)) : TP g s := by
  unfold TP at *
  have e0 := h 0 (by omega)
  have e1 := h 1 (by omega)
  have e2 := h 2 (by omega)
  have e3 := h 3 (by omega)
  rw [Nat.add_zero] at e0
  rcases hq with ⟨q0, q1, q2, q3⟩ | ⟨q0, q1, q2, q3⟩ | ⟨q0, q1, q2, q3⟩ | ⟨q0, q1, q2, q3⟩
  · rw [e0, e1, e2, e3, q0, q1, q2, q3]; simp only [Nat.add_zero]; omega
  · rw [e0, e1, e2, e3, q0, q1, q2, q3]; simp only [Nat.add_zero]; omega
  · rw [e0, e1, e2, e3, q0, q1, q2, q3]; simp only [Nat.add_zero]; omega
  · rw [e0, e1, e2, e3, q0, q1, q2, q3]; simp only [Nat.add_zero]; omega
def Rq (a b : Nat → Int32) : Prop := a 0 = b 0 ∧ TZ b ∧ ∀ s, s < sn b → sE a s b s
def Ce (b : Nat → Int32) (c d : Nat → Int32) : Prop := ∀ s, s < sn b → cE c s d s
theorem sE_rf (a : Nat → Int32) (s : Nat) : sE a s a s := ⟨rfl, rfl, fun _ _ => rfl⟩
theorem sE_tr {a b c : Nat → Int32} {s q r : Nat} (x : sE a s b q) (y : sE b q c r) : sE a s c r := ⟨x.1.trans y.1, x.2.1.trans y.2.1, fun o ho => (x.2.2 o ho).trans (y.2.2 o ho)⟩
theorem sE_sy {a b : Nat → Int32} {s q : Nat} (x : sE a s b q) : sE b q a s := ⟨x.1.symm, x.2.1.symm, fun o ho => (x.2.2 o ho).symm⟩
theorem cE_tr {a b c : Nat → Int32} {s q r : Nat} (x : cE a s b q) (y : cE b q c r) : cE a s c r := fun o ho => (x o ho).trans (y o ho)
theorem cE_sy {a b : Nat → Int32} {s q : Nat} (x : cE a s b q) : cE b q a s := fun o ho => (x o ho).symm
theorem Rq_rf {a : Nat → Int32} (h : TZ a) : Rq a a := ⟨rfl, h, fun s _ => sE_rf a s⟩
/-- rows that are the same up to 49 -/
theorem Rq_cg {a b a' b' : Nat → Int32} (h : Rq a b) (ha : ∀ j, j < 49 → a' j = a j) (hb : ∀ j, j < 49 → b' j = b j) : Rq a' b' := by
  obtain ⟨e, ⟨z0, z8, z⟩, hs⟩ := h
  have e0 : sn b' = sn b := by unfold sn; rw [hb 0 (by omega)]
  have s8 : sn b ≤ 8 := by unfold sn; omega
  refine ⟨by rw [ha 0 (by omega), hb 0 (by omega)]; exact e, ⟨by rw [hb 0 (by omega)]; exact z0, by rw [hb 0 (by omega)]; exact z8, fun s h => ?_⟩, fun s h => ?_⟩
  · rw [e0] at h
    exact TS_sE ⟨hb _ (by omega), hb _ (by omega), fun o ho => hb _ (by omega)⟩ (z s h)
  · rw [e0] at h
    obtain ⟨q1, q2, q3⟩ := hs s h
    refine ⟨?_, ?_, fun o ho => ?_⟩
    · rw [ha _ (by omega), hb _ (by omega)]; exact q1
    · rw [ha _ (by omega), hb _ (by omega)]; exact q2
    · rw [ha _ (by omega), hb _ (by omega)]; exact q3 o ho
/-- which outcome comes to place o when a look is turned -/
def pm (a : Nat → Int32) (L : Int32) (s o : Nat) : Nat :=
  if (a (9 + s)).toInt < 0 then (if a (1 + s) = L then (if o = 0 then 1 else if o = 1 then 0 else o) else o)
  else if a (1 + s) = L then (if o < 2 then o + 2 else o - 2)
  else if a (9 + s) = L then (if o = 0 then 1 else if o = 1 then 0 else if o = 2 then 3 else 2) else o
theorem pm_lt {a : Nat → Int32} {L : Int32} {s o : Nat} (h : o < 4) : pm a L s o < 4 := by
  unfold pm
  repeat' split
  all_goals omega
theorem pm_cg {a b : Nat → Int32} {L : Int32} {s o : Nat} (h : sE a s b s) : pm a L s o = pm b L s o := by
  unfold pm
  rw [h.1, h.2.1]
/-- nothing of the sets changes -/
def smS (a c a' c' : Nat → Int32) : Prop := a' 0 = a 0 ∧ ∀ s, s < sn a → sE a' s a s ∧ cE c' s c s
/-- FLIP -/
def flp (L : Int32) (a c a' c' : Nat → Int32) : Prop := a' 0 = a 0 ∧ ∀ s, s < sn a → (a' (1 + s) = a (1 + s) ∧ a' (9 + s) = a (9 + s)) ∧ ∀ o, o < 4 → a' (17 + 4 * s + o) = a (17 + 4 * s + pm a L s o) ∧ c' (4 * s + o) = c (4 * s + pm a L s o)
/-- DROP -/
def dq (S s : Nat) : Nat := if s < S then s else s + 1
def drp (S : Nat) (a c a' c' : Nat → Int32) : Prop := (a' 0).toInt = (a 0).toInt - 1 ∧ ∀ s, s + 1 < sn a → sE a' s a (dq S s) ∧ cE c' s c (dq S s)
/-- a set of two looks becomes one of the other look -/
def mgS (L : Int32) (S : Nat) (a c a' c' : Nat → Int32) : Prop := a' 0 = a 0 ∧ (∀ s, s < sn a → ¬ s = S → sE a' s a s ∧ cE c' s c s) ∧ a' (9 + S) = -2 ∧ ((a (1 + S) = L ∧ a' (1 + S) = a (9 + S) ∧ a' (17 + 4 * S) = a (17 + 4 * S) + a (17 + 4 * S + 2) ∧ a' (17 + 4 * S + 1) = a (17 + 4 * S + 1) + a (17 + 4 * S + 3)) ∨ (¬ a (1 + S) = L ∧ a' (1 + S) = a (1 + S) ∧ a' (17 + 4 * S) = a (17 + 4 * S) + a (17 + 4 * S + 1) ∧ a' (17 + 4 * S + 1) = a (17 + 4 * S + 2) + a (17 + 4 * S + 3))) ∧ a' (17 + 4 * S + 2) = 0 ∧ a' (17 + 4 * S + 3) = 0 ∧ ∀ o, o < 4 → c' (4 * S + o) = 0
/-- a step of FORGET -/
def stp (L : Int32) (S : Nat) (a c a' c' : Nat → Int32) : Prop := ((a (9 + S)).toInt < 0 ∧ a (1 + S) = L ∧ drp S a c a' c') ∨ (¬ (a (9 + S)).toInt < 0 ∧ (a (1 + S) = L ∨ a (9 + S) = L) ∧ mgS L S a c a' c') ∨ (¬ a (1 + S) = L ∧ ((a (9 + S)).toInt < 0 ∨ ¬ a (9 + S) = L) ∧ smS a c a' c')
def fgt (L : Int32) : Nat → (Nat → Int32) → (Nat → Int32) → (Nat → Int32) → (Nat → Int32) → Prop
  | 0, a, c, a', c' => smS a c a' c'
  | n + 1, a, c, a', c' => ∃ e m, stp L n a c e m ∧ fgt L n e m a' c'
/-- SHIFT -/
def shf (S o p : Nat) (n : Int32) (a c a' c' : Nat → Int32) : Prop := a' 0 = a 0 ∧ ∀ s, s < sn a → (a' (1 + s) = a (1 + s) ∧ a' (9 + s) = a (9 + s)) ∧ cE c' s c s ∧ ∀ i, i < 4 → a' (17 + 4 * s + i) = if s = S ∧ i = o then a (17 + 4 * s + i) - n else if s = S ∧ i = p then a (17 + 4 * s + i) + n else a (17 + 4 * s + i)
/-- both sides -/
def Rc (a c b d : Nat → Int32) : Prop := Rq a b ∧ Ce b c d
theorem Rc_sm {a c b d a' c' b' d' : Nat → Int32} (r : Rc a c b d) (x : smS a c a' c') (y : smS b d b' d') : Rc a' c' b' d' := by
  obtain ⟨⟨e, ⟨z0, z8, z⟩, hs⟩, hc⟩ := r
  have e0 : sn b' = sn b := by unfold sn; rw [y.1]
  have e1 : sn a = sn b := by unfold sn; rw [e]
  refine ⟨⟨by rw [x.1, y.1]; exact e, ⟨by rw [y.1]; exact z0, by rw [y.1]; exact z8, fun s h => ?_⟩, fun s h => ?_⟩, fun s h => ?_⟩
  · rw [e0] at h
    exact TS_sE (y.2 s h).1 (z s h)
  · rw [e0] at h
    exact sE_tr (x.2 s (by omega)).1 (sE_tr (hs s h) (sE_sy (y.2 s h).1))
  · rw [e0] at h
    exact cE_tr (x.2 s (by omega)).2 (cE_tr (hc s h) (cE_sy (y.2 s h).2))
theorem Rc_flp {L : Int32} {a c b d a' c' b' d' : Nat → Int32} (r : Rc a c b d) (x : flp L a c a' c') (y : flp L b d b' d') : Rc a' c' b' d' := by
  obtain ⟨⟨e, ⟨z0, z8, z⟩, hs⟩, hc⟩ := r
  have e0 : sn b' = sn b := by unfold sn; rw [y.1]
  have e1 : sn a = sn b := by unfold sn; rw [e]
  refine ⟨⟨by rw [x.1, y.1]; exact e, ⟨by rw [y.1]; exact z0, by rw [y.1]; exact z8, fun s h => ?_⟩, fun s h => ⟨?_, ?_, fun o ho => ?_⟩⟩, fun s h o ho => ?_⟩
  · rw [e0] at h
    obtain ⟨⟨q1, q2⟩, q3⟩ := y.2 s h
    refine ⟨?_, TP_pm (q := pm b L s) (z s h).2 ?_ (fun i hi => (q3 i hi).1)⟩
    · rw [q2, (q3 2 (by omega)).1, (q3 3 (by omega)).1]
      rcases (z s h).1 with w | w
      · refine Or.inl ⟨w.1, ?_, ?_⟩
        · rw [show pm b L s 2 = 2 by unfold pm; rw [w.1, if_pos (by decide)]; split <;> rfl]
          exact w.2.1
        · rw [show pm b L s 3 = 3 by unfold pm; rw [w.1, if_pos (by decide)]; split <;> rfl]
          exact w.2.2
      · exact Or.inr w
    · unfold pm
      by_cases w1 : (b (9 + s)).toInt < 0
      · simp only [if_pos w1]
        by_cases w2 : b (1 + s) = L
        · simp only [if_pos w2]; exact Or.inr (Or.inl ⟨rfl, rfl, rfl, rfl⟩)
        · simp only [if_neg w2]; exact Or.inl (by refine ⟨?_, ?_, ?_, ?_⟩ <;> first | trivial | rfl)
      · simp only [if_neg w1]
        by_cases w2 : b (1 + s) = L
        · simp only [if_pos w2]; exact Or.inr (Or.inr (Or.inr ⟨rfl, rfl, rfl, rfl⟩))
        · simp only [if_neg w2]
          by_cases w3 : b (9 + s) = L
          · simp only [if_pos w3]; exact Or.inr (Or.inr (Or.inl ⟨rfl, rfl, rfl, rfl⟩))
          · simp only [if_neg w3]; exact Or.inl (by refine ⟨?_, ?_, ?_, ?_⟩ <;> first | trivial | rfl)
  · rw [e0] at h
    rw [(x.2 s (by omega)).1.1, (y.2 s h).1.1]
    exact (hs s h).1
  · rw [e0] at h
    rw [(x.2 s (by omega)).1.2, (y.2 s h).1.2]
    exact (hs s h).2.1
  · rw [e0] at h
    rw [((x.2 s (by omega)).2 o ho).1, ((y.2 s h).2 o ho).1, pm_cg (hs s h)]
    exact (hs s h).2.2 _ (pm_lt ho)
  · rw [e0] at h
    rw [((x.2 s (by omega)).2 o ho).2, ((y.2 s h).2 o ho).2, pm_cg (hs s h)]
    exact hc s h _ (pm_lt ho)
theorem dq_lt {S s n : Nat} (h : s + 1 < n) : dq S s < n := by
  unfold dq
  split <;> omega
theorem Rc_drp {S : Nat} {a c b d a' c' b' d' : Nat → Int32} (r : Rc a c b d) (hp : 0 < sn b) (x : drp S a c a' c') (y : drp S b d b' d') : Rc a' c' b' d' := by
  obtain ⟨⟨e, ⟨z0, z8, z⟩, hs⟩, hc⟩ := r
  have e0 : sn b' + 1 = sn b := by unfold sn at *; rw [y.1]; omega
  have e1 : sn a = sn b := by unfold sn; rw [e]
  refine ⟨⟨Int32.toInt_inj.mp (by rw [x.1, y.1, e]), ⟨by unfold sn at hp; rw [y.1]; omega, by rw [y.1]; omega, fun s h => ?_⟩, fun s h => ?_⟩, fun s h => ?_⟩
  · have h1 : s + 1 < sn b := by omega
    exact TS_sE (y.2 s h1).1 (z _ (dq_lt h1))
  · have h1 : s + 1 < sn b := by omega
    exact sE_tr (x.2 s (by omega)).1 (sE_tr (hs _ (dq_lt h1)) (sE_sy (y.2 s h1).1))
  · have h1 : s + 1 < sn b := by omega
    exact cE_tr (x.2 s (by omega)).2 (cE_tr (hc _ (dq_lt h1)) (cE_sy (y.2 s h1).2))
theorem Rc_mg {L : Int32} {S : Nat} {a c b d a' c' b' d' : Nat → Int32} (r : Rc a c b d) (hS : S < sn b) (x : mgS L S a c a' c') (y : mgS L S b d b' d') : Rc a' c' b' d' := by
  obtain ⟨⟨e, ⟨z0, z8, z⟩, hs⟩, hc⟩ := r
  have e0 : sn b' = sn b := by unfold sn; rw [y.1]
  have e1 : sn a = sn b := by unfold sn; rw [e]
  obtain ⟨f1, f2, f3⟩ := hs S hS
  have g0 := f3 0 (by omega)
  rw [Nat.add_zero] at g0
  obtain ⟨x1, x2, x3, x4, x5, x6, x7⟩ := x
  obtain ⟨y1, y2, y3, y4, y5, y6, y7⟩ := y
  have cs : a' (1 + S) = b' (1 + S) ∧ a' (17 + 4 * S) = b' (17 + 4 * S) ∧ a' (17 + 4 * S + 1) = b' (17 + 4 * S + 1) := by
    rcases x4 with x4 | x4 <;> rcases y4 with y4 | y4
    · rw [x4.2.1, x4.2.2.1, x4.2.2.2, y4.2.1, y4.2.2.1, y4.2.2.2, f2, g0, f3 1 (by omega), f3 2 (by omega), f3 3 (by omega)]
      exact ⟨rfl, rfl, rfl⟩
    · exact absurd (f1.symm.trans x4.1) y4.1
    · exact absurd (f1.trans y4.1) x4.1
    · rw [x4.2.1, x4.2.2.1, x4.2.2.2, y4.2.1, y4.2.2.1, y4.2.2.2, f1, g0, f3 1 (by omega), f3 2 (by omega), f3 3 (by omega)]
      exact ⟨rfl, rfl, rfl⟩
  refine ⟨⟨by rw [x1, y1]; exact e, ⟨by rw [y1]; exact z0, by rw [y1]; exact z8, fun s h => ?_⟩, fun s h => ?_⟩, fun s h => ?_⟩
  · rw [e0] at h
    by_cases es : s = S
    · subst es
      refine ⟨Or.inl ⟨y3, y5, y6⟩, ?_⟩
      have zp := (z s hS).2
      unfold TP at zp ⊢
      have z0 : (0 : Int32).toInt = 0 := by decide
      have ad : ∀ p q : Nat, (0 ≤ (b p).toInt ∧ 0 ≤ (b q).toInt ∧ (b p).toInt + (b q).toInt ≤ 60) → (b p + b q).toInt = (b p).toInt + (b q).toInt := fun p q w => i_add rfl rfl (by omega)
      rcases y4 with y4 | y4
      · rw [y4.2.2.1, y4.2.2.2, y5, y6, z0, ad _ _ (by omega), ad _ _ (by omega)]; omega
      · rw [y4.2.2.1, y4.2.2.2, y5, y6, z0, ad _ _ (by omega), ad _ _ (by omega)]; omega
    · exact TS_sE (y2 s h es).1 (z s h)
  · rw [e0] at h
    by_cases es : s = S
    · subst es
      refine ⟨cs.1, by rw [x3, y3], fun o ho => ?_⟩
      have : o = 0 ∨ o = 1 ∨ o = 2 ∨ o = 3 := by omega
      rcases this with w | w | w | w <;> subst w
      · exact cs.2.1
      · exact cs.2.2
      · rw [x5, y5]
      · rw [x6, y6]
    · exact sE_tr (x2 s (by omega) es).1 (sE_tr (hs s h) (sE_sy (y2 s h es).1))
  · rw [e0] at h
    by_cases es : s = S
    · subst es
      exact fun o ho => by rw [x7 o ho, y7 o ho]
    · exact cE_tr (x2 s (by omega) es).2 (cE_tr (hc s h) (cE_sy (y2 s h es).2))
theorem stp_n {L : Int32} {S : Nat} {a c a' c' : Nat → Int32} (hS : S < sn a) (x : stp L S a c a' c') : S ≤ sn a' := by
  rcases x with x | x | x
  · have := x.2.2.1
    unfold sn at *
    omega
  · have : sn a' = sn a := by unfold sn; rw [x.2.2.1]
    omega
  · have : sn a' = sn a := by unfold sn; rw [x.2.2.1]
    omega
theorem Rc_st {L : Int32} {S : Nat} {a c b d a' c' b' d' : Nat → Int32} (r : Rc a c b d) (hS : S < sn b) (x : stp L S a c a' c') (y : stp L S b d b' d') : Rc a' c' b' d' := by
  obtain ⟨f1, f2, -⟩ := r.1.2.2 S hS
  unfold stp at x
  rw [f1, f2] at x
  rcases x with x | x | x <;> rcases y with y | y | y
  · exact Rc_drp r (by omega) x.2.2 y.2.2
  · exact absurd x.1 y.1
  · exact absurd x.2.1 y.1
  · exact absurd y.1 x.1
  · exact Rc_mg r hS x.2.2 y.2.2
  · rcases x.2.1 with w | w
    · exact absurd w y.1
    · rcases y.2.1 with v | v
      · exact absurd v x.1
      · exact absurd w v
  · exact absurd y.2.1 x.1
  · rcases y.2.1 with w | w
    · exact absurd w x.1
    · rcases x.2.1 with v | v
      · exact absurd v y.1
      · exact absurd w v
  · exact Rc_sm r x.2.2 y.2.2
theorem Rc_fg {L : Int32} : ∀ (n : Nat) {a c b d a' c' b' d' : Nat → Int32}, Rc a c b d → n ≤ sn b → fgt L n a c a' c' → fgt L n b d b' d' → Rc a' c' b' d'
  | 0, _, _, _, _, _, _, _, _, r, _, x, y => Rc_sm r x y
  | n + 1, _, _, _, _, _, _, _, _, r, hn, ⟨_, _, x1, x2⟩, ⟨_, _, y1, y2⟩ => Rc_fg n (Rc_st r (by omega) x1 y1) (stp_n (by omega) y1) x2 y2
theorem Rc_sh {S o p : Nat} {n : Int32} {a c b d a' c' b' d' : Nat → Int32} (r : Rc a c b d) (ho : o < (if (b (9 + S)).toInt < 0 then 2 else 4)) (hp : p < (if (b (9 + S)).toInt < 0 then 2 else 4)) (hop : ¬ o = p) (hn : 0 ≤ n.toInt ∧ n.toInt ≤ (b (17 + 4 * S + o)).toInt) (x : shf S o p n a c a' c') (y : shf S o p n b d b' d') : Rc a' c' b' d' := by
  obtain ⟨⟨e, ⟨z0, z8, z⟩, hs⟩, hc⟩ := r
  have e0 : sn b' = sn b := by unfold sn; rw [y.1]
  have e1 : sn a = sn b := by unfold sn; rw [e]
  refine ⟨⟨by rw [x.1, y.1]; exact e, ⟨by rw [y.1]; exact z0, by rw [y.1]; exact z8, fun s h => ?_⟩, fun s h => ⟨?_, ?_, fun i hi => ?_⟩⟩, fun s h => ?_⟩
  · rw [e0] at h
    obtain ⟨⟨q1, q2⟩, q3, q4⟩ := y.2 s h
    refine ⟨?_, ?_⟩
    · rw [q2, q4 2 (by omega), q4 3 (by omega)]
      rcases (z s h).1 with w | w
      · refine Or.inl ⟨w.1, ?_, ?_⟩
        · rw [if_neg (fun v => by rw [← v.1, w.1, if_pos (by decide)] at ho; omega), if_neg (fun v => by rw [← v.1, w.1, if_pos (by decide)] at hp; omega)]
          exact w.2.1
        · rw [if_neg (fun v => by rw [← v.1, w.1, if_pos (by decide)] at ho; omega), if_neg (fun v => by rw [← v.1, w.1, if_pos (by decide)] at hp; omega)]
          exact w.2.2
      · exact Or.inr w
    · have zp := (z s h).2
      by_cases es : s = S
      · subst es
        have o4 : o < 4 := by split at ho <;> omega
        have p4 : p < 4 := by split at hp <;> omega
        have t0 : ∀ i, i < 4 → 0 ≤ (b (17 + 4 * s + i)).toInt ∧ (b (17 + 4 * s + i)).toInt ≤ 60 := fun i hi => by
          unfold TP at zp
          have : i = 0 ∨ i = 1 ∨ i = 2 ∨ i = 3 := by omega
          rcases this with w | w | w | w <;> subst w <;> (try simp only [Nat.add_zero]) <;> omega
        have to := t0 o o4
        have tp := t0 p p4
        have so : (b (17 + 4 * s + o) - n).toInt = (b (17 + 4 * s + o)).toInt - n.toInt := i_sub rfl rfl (by omega)
        have sp : (b (17 + 4 * s + p) + n).toInt = (b (17 + 4 * s + p)).toInt + n.toInt := i_add rfl rfl (by omega)
        have vo : (b' (17 + 4 * s + o)).toInt = (b (17 + 4 * s + o)).toInt - n.toInt := by rw [q4 o o4, if_pos ⟨rfl, rfl⟩, so]
        have vp : (b' (17 + 4 * s + p)).toInt = (b (17 + 4 * s + p)).toInt + n.toInt := by rw [q4 p p4, if_neg (fun v => hop v.2.symm), if_pos ⟨rfl, rfl⟩, sp]
        have vi : ∀ i, i < 4 → ¬ i = o → ¬ i = p → b' (17 + 4 * s + i) = b (17 + 4 * s + i) := fun i hi h1 h2 => by rw [q4 i hi, if_neg (fun v => h1 v.2), if_neg (fun v => h2 v.2)]
        have hn1 := hn.1
        have hn2 : 0 ≤ (b' (17 + 4 * s + o)).toInt := by omega
        unfold TP at zp ⊢
        have v0 := vi 0 (by omega)
        have v1 := vi 1 (by omega)
        have v2 := vi 2 (by omega)
        have v3 := vi 3 (by omega)
        rw [Nat.add_zero] at v0
        have ho' : o = 0 ∨ o = 1 ∨ o = 2 ∨ o = 3 := by omega
        have hp' : p = 0 ∨ p = 1 ∨ p = 2 ∨ p = 3 := by omega
        clear x y q4 so sp to tp t0 hn ho hp
        rcases ho' with w | w | w | w <;> rcases hp' with v | v | v | v <;> subst w <;> subst v <;> first | exact absurd rfl hop | ((try simp only [Nat.add_zero] at vo vp hn2); first | (rw [v2 (by omega) (by omega), v3 (by omega) (by omega)]; omega) | (rw [v1 (by omega) (by omega), v3 (by omega) (by omega)]; omega) | (rw [v1 (by omega) (by omega), v2 (by omega) (by omega)]; omega) | (rw [v0 (by omega) (by omega), v3 (by omega) (by omega)]; omega) | (rw [v0 (by omega) (by omega), v2 (by omega) (by omega)]; omega) | (rw [v0 (by omega) (by omega), v1 (by omega) (by omega)]; omega))
      · refine (TS_sE (a := b') (b := b) (s := s) (q := s) ⟨q1, q2, fun i hi => ?_⟩ (z s h)).2
        rw [q4 i hi, if_neg (fun v => es v.1), if_neg (fun v => es v.1)]
  · rw [e0] at h
    rw [(x.2 s (by omega)).1.1, (y.2 s h).1.1]
    exact (hs s h).1
  · rw [e0] at h
    rw [(x.2 s (by omega)).1.2, (y.2 s h).1.2]
    exact (hs s h).2.1
  · rw [e0] at h
    rw [(x.2 s (by omega)).2.2 i hi, (y.2 s h).2.2 i hi, (hs s h).2.2 i hi]
  · rw [e0] at h
    exact cE_tr (x.2 s (by omega)).2.1 (cE_tr (hc s h) (cE_sy (y.2 s h).2.1))
/-! what the acts of the reference do: keep, did -/
/-- a row is put behind those kept; the 21st puts the oldest out -/
def psh (u : Nat) (f : Nat → Nat → Int32) (x : Nat → Int32) (i : Nat) : Nat → Int32 := if u = 20 then (if i < 19 then f (i + 1) else if i = 19 then x else f i) else if i = u then x else f i
def ac5 (a b c d e : Int32) (j : Nat) : Int32 := if j = 0 then a else if j = 1 then b else if j = 2 then c else if j = 3 then d else e
set_option maxRecDepth 100000 in
set_option maxHeartbeats 4000000 in
theorem v_keep {g : gT} {h0 : mh_T} {P : mh_T → Prop} (l0 l1 : Nat) (l2 l4 l5 l6 l7 l8 : Int32) (u : Nat) (eu : l2.toInt = (u : Int)) (u20 : u ≤ 20) (sl0 : shp l0 = (20, 980, [])) (sl1 : shp l1 = (20, 100, [])) (k0 : l0 ≠ 0 ∧ l0 ≠ 11 ∧ l0 ≠ 3 ∧ l0 ≠ 8) (k1 : l1 ≠ 0 ∧ l1 ≠ 11 ∧ l1 ≠ 3 ∧ l1 ≠ 8) (k45 : l0 ≠ 45 ∧ l1 ≠ 45) (k01 : l0 ≠ l1 ∧ l0 ≠ 48 ∧ l1 ≠ 48 ∧ l0 < 62 ∧ l1 < 62) (r0 : ∀ j, rgT l0 j = rgRowM (j % 49)) (r1 : ∀ j, rgT l1 j = (-2147483648, 2147483647)) (hG0 : GI h0) (hp : ∀ h', Ok [l0, l1] h0 h' → (∀ i j, i < 20 → j < 49 → h'.1 l0 (49 * i + j) = psh u (fun i j => h0.1 l0 (49 * i + j)) (h0.1 48) i j) → (∀ i j, i < 20 → j < 5 → h'.1 l1 (5 * i + j) = psh u (fun i j => h0.1 l1 (5 * i + j)) (ac5 l4 l5 l6 l7 l8) i j) → P h') : MCv g yX11_keep uX11_keep [.ref l0, .ref l1, .int l2, .ref 48, .int l4, .int l5, .int l6, .int l7, .int l8] h0 P := by
  have m0 : l0 ∈ [l0, l1] := List.mem_cons_self
  have m1 : l1 ∈ [l0, l1] := List.mem_cons_of_mem _ List.mem_cons_self
  have n48 : 48 ∉ [l0, l1] := fun z => by
    rcases List.mem_cons.mp z with y | y
    · exact k01.2.1 y.symm
    · exact k01.2.2.1 (List.mem_singleton.mp y).symm
  have nk1 : ∀ j, ¬ (l1 = 11 ∧ 24 ≤ j ∧ j ≤ 26) ∨ 301 ∈ [l0, l1] := fun j => Or.inl (fun z => k1.2.1 z.1)
  have nk0 : ∀ j, ¬ (l0 = 11 ∧ 24 ≤ j ∧ j ≤ 26) ∨ 301 ∈ [l0, l1] := fun j => Or.inl (fun z => k0.2.1 z.1)
  have w1k : ∀ {h : mh_T} (j : Nat) (v : Int32), Ok [l0, l1] h0 h → Ok [l0, l1] h0 (wI h l1 j v) := fun j v o => Ok_w o (k := l1) (j := j) (v := v) (r1 j) (R_full _) (Or.inl ⟨m1, k01.2.2.2.2⟩) (nt_c k1 (fun z => absurd z k45.2)) (nk1 j)
  have fin : ∀ (x : Int32) (q : Nat) (h : mh_T), x.toInt = (q : Int) → q < 20 → Ok [l0, l1] h0 h → (∀ i j, i < 20 → j < 49 → (if i = q then h0.1 48 j else h.1 l0 (49 * i + j)) = psh u (fun i j => h0.1 l0 (49 * i + j)) (h0.1 48) i j) → (∀ i j, i < 20 → j < 5 → (if i = q then ac5 l4 l5 l6 l7 l8 j else h.1 l1 (5 * i + j)) = psh u (fun i j => h0.1 l1 (5 * i + j)) (ac5 l4 l5 l6 l7 l8) i j) → MCv g yX11_copy uX11_copy [.ref 48, .int 0, .ref l0, .int (49 * x), .int 49] h (fun h2 => (vp_in (5 * x) 100) ∧ ((vp_in ((5 * x) + 1) 100) ∧ ((vp_in ((5 * x) + 2) 100) ∧ ((vp_in ((5 * x) + 3) 100) ∧ ((vp_in ((5 * x) + 4) 100) ∧ (P (wI (wI (wI (wI (wI h2 l1 (5 * x).toNatClampNeg l4) l1 ((5 * x) + 1).toNatClampNeg l5) l1 ((5 * x) + 2).toNatClampNeg l6) l1 ((5 * x) + 3).toNatClampNeg l7) l1 ((5 * x) + 4).toNatClampNeg l8))))))) := by
    intro x q h hq q20 ok tA tB
    have eq : (49 * x).toInt = 49 * q := by rw [Int32.toInt_mul, show (49 : Int32).toInt = 49 from by decide, bm (by omega) (by omega), hq]
    have e5 : (5 * x).toInt = ((5 * q : Nat) : Int) := by rw [Int32.toInt_mul, show (5 : Int32).toInt = 5 from by decide, bm (by omega) (by omega), hq]; omega
    have e51 := i_off e5 1 1 (by decide) (by omega)
    have e52 := i_off e5 2 2 (by decide) (by omega)
    have e53 := i_off e5 3 3 (by decide) (by omega)
    have e54 := i_off e5 4 4 (by decide) (by omega)
    have e48 : h.1 48 = h0.1 48 := OkC ok ⟨by decide, n48⟩
    refine t_copy (hq45 := fun z => absurd z k45.1) 48 49 0 l0 980 (49 * x) rfl sl0 (fun z => k01.2.1 z.symm) (by decide) 0 q (by decide) eq (by decide) (by omega) (by decide) (by omega) rr48 (fun j hj => ?_) ⟨k0.1, k0.2.1, k0.2.2.1, k0.2.2.2, k01.2.2.2.1⟩ ok.1 (fun h2 k2 cp => ?_)
    · rw [r0, show (49 * q + j) % 49 = j by omega]
    · have o2 : Ok [l0, l1] h0 h2 := Ok_tr ok k2 (fun y z => by rw [List.mem_singleton.mp z]; exact m0)
      have c1 : h2.1 l1 = h.1 l1 := OkC k2 ⟨k01.2.2.2.2, fun z => k01.1 (List.mem_singleton.mp z).symm⟩
      rw [i_nat e5, i_nat e51, i_nat e52, i_nat e53, i_nat e54]
      refine ⟨i_vp e5 (by omega), i_vp e51 (by omega), i_vp e52 (by omega), i_vp e53 (by omega), i_vp e54 (by omega), hp _ (w1k _ _ (w1k _ _ (w1k _ _ (w1k _ _ (w1k _ _ o2))))) (fun i j hi hj => ?_) (fun i j hi hj => ?_)⟩
      · rw [wI_o k01.1, wI_o k01.1, wI_o k01.1, wI_o k01.1, wI_o k01.1, ← tA i j hi hj]
        by_cases e : i = q
        · rw [if_pos e, e, cp.1 j hj, e48, Nat.mul_zero, Nat.zero_add]
        · rw [if_neg e]
          exact cp.2 _ (by omega)
      · rw [← tB i j hi hj, wI_i, wI_i, wI_i, wI_i, wI_i, c1]
        by_cases e : i = q
        · rw [if_pos e]
          subst e
          unfold ac5
          have : j = 0 ∨ j = 1 ∨ j = 2 ∨ j = 3 ∨ j = 4 := by omega
          rcases this with z | z | z | z | z <;> subst z
          · rw [if_neg (by omega), if_neg (by omega), if_neg (by omega), if_neg (by omega), if_pos (by omega), if_pos rfl]
          · rw [if_neg (by omega), if_neg (by omega), if_neg (by omega), if_pos (by omega), if_neg (by omega), if_pos rfl]
          · rw [if_neg (by omega), if_neg (by omega), if_pos (by omega), if_neg (by omega), if_neg (by omega), if_pos rfl]
          · rw [if_neg (by omega), if_pos (by omega), if_neg (by omega), if_neg (by omega), if_neg (by omega), if_pos rfl]
          · rw [if_pos (by omega), if_neg (by omega), if_neg (by omega), if_neg (by omega), if_neg (by omega)]
        · rw [if_neg e, if_neg (by omega), if_neg (by omega), if_neg (by omega), if_neg (by omega), if_neg (by omega)]
  have z20 : (20 : Int32).toInt = 20 := by decide
  have z95 : (95 : Int32).toInt = 95 := by decide
  have z931 : (931 : Int32).toInt = 931 := by decide
  have L40 : u = 20 → ∀ (n : Nat) (l10 : Int32) (k : Nat) (h : mh_T), Ok [l0, l1] h0 h → l10.toInt = (k : Int) → k ≤ 95 → (∀ j, h.1 l0 j = if j < 931 then h0.1 l0 (j + 49) else h0.1 l0 j) → (∀ j, h.1 l1 j = if j < k then h0.1 l1 (j + 5) else h0.1 l1 j) → 95 - k < n → ME g uX11_keep 40 [.ref l0, .ref l1, .int l2, .ref 48, .int l4, .int l5, .int l6, .int l7, .int l8, .int 20, .int l10] [] h (qV P) := by
    intro hu n
    induction n with
    | zero => intro l10 k h _ _ _ _ _ hn; exact absurd hn (Nat.not_lt_zero _)
    | succ n ih =>
      intro l10 k h ok hk hk2 hf hf1 hn
      refine r_X11_keep_40 l0 980 l1 100 l2 48 49 l4 l5 l6 l7 l8 20 l10 sl0 sl1 rfl ⟨fun c => ?_, fun c => ?_⟩
      · have c := le_ti c
        have : k = 95 := by omega
        subst this
        refine fin (20 + (-1)) 19 h (by decide) (by decide) ok (fun i j hi hj => ?_) (fun i j hi hj => ?_)
        · unfold psh
          rw [if_pos hu]
          by_cases e : i = 19
          · rw [if_pos e, if_neg (by omega), if_pos e]
          · rw [if_neg e, if_pos (by omega), hf, if_pos (by omega), show 49 * i + j + 49 = 49 * (i + 1) + j by omega]
        · unfold psh
          rw [if_pos hu]
          by_cases e : i = 19
          · rw [if_pos e, if_neg (by omega), if_pos e]
          · rw [if_neg e, if_pos (by omega), hf1, if_pos (by omega), show 5 * i + j + 5 = 5 * (i + 1) + j by omega]
      · have c := lt_ti (nle c)
        have s1 : (l10 + 5).toInt = ((k + 5 : Nat) : Int) := by rw [i_add hk (show (5 : Int32).toInt = 5 from by decide) (by omega)]; omega
        refine ⟨i_vp s1 (by omega), i_vp hk (by omega), ?_⟩
        rw [i_nat s1, i_nat hk]
        refine ih (l10 + 1) (k + 1) _ (w1k _ _ ok) (i_inc hk (by omega)) (by omega) (fun j => ?_) (fun j => ?_) (by omega)
        · rw [wI_o k01.1]
          exact hf j
        · rw [wI_i]
          by_cases e : j = k
          · rw [if_pos e, if_pos (by omega), e]
            show h.1 l1 (k + 5) = _
            rw [hf1, if_neg (by omega)]
          · rw [if_neg e, hf1]
            by_cases e2 : j < k
            · rw [if_pos e2, if_pos (by omega)]
            · rw [if_neg e2, if_neg (by omega)]
  have L12 : u = 20 → ∀ (n : Nat) (l10 : Int32) (k : Nat) (h : mh_T), Ok [l0, l1] h0 h → l10.toInt = (k : Int) → k ≤ 931 → (∀ j, h.1 l0 j = if j < k then h0.1 l0 (j + 49) else h0.1 l0 j) → h.1 l1 = h0.1 l1 → 931 - k < n → ME g uX11_keep 12 [.ref l0, .ref l1, .int l2, .ref 48, .int l4, .int l5, .int l6, .int l7, .int l8, .int 20, .int l10] [] h (qV P) := by
    intro hu n
    induction n with
    | zero => intro l10 k h _ _ _ _ _ hn; exact absurd hn (Nat.not_lt_zero _)
    | succ n ih =>
      intro l10 k h ok hk hk2 hf hl1 hn
      refine r_X11_keep_12 l0 980 l1 100 l2 48 49 l4 l5 l6 l7 l8 20 l10 sl0 sl1 rfl ⟨fun c => ?_, fun c => ?_⟩
      · have c := le_ti c
        have : k = 931 := by omega
        subst this
        exact L40 hu 96 0 0 h ok (by decide) (Nat.zero_le _) hf (fun j => by rw [if_neg (Nat.not_lt_zero _), hl1]) (by omega)
      · have c := lt_ti (nle c)
        have s1 : (l10 + 49).toInt = ((k + 49 : Nat) : Int) := by rw [i_add hk (show (49 : Int32).toInt = 49 from by decide) (by omega)]; omega
        have fv : R (rgRowM (k % 49)).1 (rgRowM (k % 49)).2 (mI h l0 (k + 49)) := by
          have := ok.1.1 l0 (k + 49)
          rw [r0, show (k + 49) % 49 = k % 49 by omega] at this
          exact this
        refine ⟨i_vp s1 (by omega), i_vp hk (by omega), ?_⟩
        rw [i_nat s1, i_nat hk]
        refine ih (l10 + 1) (k + 1) _ (Ok_w ok (k := l0) (j := k) (v := mI h l0 (k + 49)) (r0 _) fv (Or.inl ⟨m0, k01.2.2.2.1⟩) (nt_c k0 (fun z => absurd z k45.1)) (nk0 k)) (i_inc hk (by omega)) (by omega) (fun j => ?_) ?_ (by omega)
        · rw [wI_i]
          by_cases e : j = k
          · rw [if_pos e, if_pos (by omega), e]
            show h.1 l0 (k + 49) = _
            rw [hf, if_neg (by omega)]
          · rw [if_neg e, hf]
            by_cases e2 : j < k
            · rw [if_pos e2, if_pos (by omega)]
            · rw [if_neg e2, if_neg (by omega)]
        · rw [wI_o (fun z => k01.1 z.symm)]
          exact hl1
  refine e_X11_keep l0 980 l1 100 l2 48 49 l4 l5 l6 l7 l8 sl0 sl1 rfl ⟨fun c => ?_, fun c => ?_⟩
  · have n2 : u ≠ 20 := fun z => c (Int32.toInt_inj.mp (by rw [eu, z, z20]; rfl))
    refine fin l2 u h0 eu (by omega) (Ok_rf hG0) (fun i j hi hj => ?_) (fun i j hi hj => ?_)
    · unfold psh
      rw [if_neg n2]
      by_cases e : i = u
      · rw [if_pos e, if_pos e]
      · rw [if_neg e, if_neg e]
    · unfold psh
      rw [if_neg n2]
      by_cases e : i = u
      · rw [if_pos e, if_pos e]
      · rw [if_neg e, if_neg e]
  · subst c
    have hu : u = 20 := by omega
    exact L12 hu 932 0 0 h0 (Ok_rf hG0) (by decide) (Nat.zero_le _) (fun j => by rw [if_neg (Nat.not_lt_zero _)]) rfl (by omega)
/-- the kept rows keep their numbers -/
theorem TQs_psh {f f' : Nat → Int32} {x : Nat → Int32} {u : Nat} (t : TQs f) (tx : TQ x 0) (h : ∀ i j, i < 20 → j < 49 → f' (49 * i + j) = psh u (fun i j => f (49 * i + j)) x i j) : TQs f' := by
  intro p hp
  by_cases hu : u = 20
  · by_cases e : p < 19
    · refine TQ_cp (t (p + 1) (by omega)) (fun j hj => ?_)
      rw [h p j hp hj]
      unfold psh
      rw [if_pos hu, if_pos e]
    · refine TQ_cp tx (fun j hj => ?_)
      rw [h p j hp hj, Nat.zero_add]
      unfold psh
      rw [if_pos hu, if_neg e, if_pos (by omega)]
  · by_cases e : p = u
    · refine TQ_cp tx (fun j hj => ?_)
      rw [h p j hp hj, Nat.zero_add]
      unfold psh
      rw [if_neg hu, if_pos e]
    · refine TQ_cp (t p hp) (fun j hj => ?_)
      rw [h p j hp hj]
      unfold psh
      rw [if_neg hu, if_neg e]
/-- did: the table as it was is kept, with the act -/
def DD (u : Nat) (a : Nat → Int32) (h h' : mh_T) : Prop := (mI h' 11 24).toInt = (if u = 20 then 20 else (u : Int) + 1) ∧ mI h' 11 25 = 0 ∧ mI h' 11 26 = mI h 11 26 ∧ (∀ i j, i < 20 → j < 49 → h'.1 49 (49 * i + j) = psh u (fun i j => h.1 49 (49 * i + j)) (h.1 48) i j) ∧ (∀ i j, i < 20 → j < 5 → h'.1 52 (5 * i + j) = psh u (fun i j => h.1 52 (5 * i + j)) a i j)
theorem v_did {g : gT} {h : mh_T} {P : Int32 → mh_T → Prop} (l1 l2 l3 l4 l5 : Int32) (u : Nat) (eu : (mI h 11 24).toInt = (u : Int)) (hG : GI h) (t : TVs h) (hp : ∀ h', Ok [301, 11, 49, 52] h h' → (∀ j, j < 24 → mI h' 11 j = mI h 11 j) → TVs h' → DD u (ac5 l1 l2 l3 l4 l5) h h' → P 1 h') : MCi g yX11_did uX11_did [.ref 11, .int l1, .int l2, .int l3, .int l4, .int l5] h P := by
  have f24 : R 0 20 (mI h 11 24) := GI_rd hG 11 24 rfl
  have u20 : u ≤ 20 := by have := f24.2; omega
  refine e_X11_did l1 l2 l3 l4 l5 (v_keep 49 52 _ l1 l2 l3 l4 l5 u eu u20 rfl rfl (by decide) (by decide) (by decide) (by decide) (fun _ => rfl) (fun _ => rfl) hG (fun h1 k1 hr ha => ?_))
  have e11 : ∀ j, mI h1 11 j = mI h 11 j := fun j => congrFun (OkC k1 (k := 11) (by decide)) j
  have t1 : TVs h1 := by
    have e45 := OkC k1 (k := 45) (by decide)
    refine ⟨?_, ?_, TQs_psh t.2.2.1 t.2.1 hr, ?_, ?_, ?_⟩
    · rw [e45]; exact t.1
    · rw [OkC k1 (k := 48) (by decide)]; exact t.2.1
    · rw [OkC k1 (k := 50) (by decide)]; exact t.2.2.2.1
    · rw [OkC k1 (k := 51) (by decide)]; exact t.2.2.2.2.1
    · rw [e45]; exact t.2.2.2.2.2
  have o1 : Ok [301, 11, 49, 52] h h1 := Ok_mono k1 (by decide)
  have fin : ∀ v : Int32, R 0 20 v → v.toInt = (if u = 20 then 20 else (u : Int) + 1) → P 1 (wI (wI h1 11 24 v) 11 25 0) := fun v fv ev => by
    refine hp _ (Ok_w (Ok_w o1 (k := 11) (j := 24) (v := v) (lo := 0) (hi := 20) rfl fv (by decide) (by decide)) (k := 11) (j := 25) (v := 0) (lo := 0) (hi := 20) rfl ⟨by decide, by decide⟩ (by decide) (by decide)) (fun j hj => ?_) (TVs_11 (TVs_11 t1)) ⟨?_, ?_, ?_, fun i j hi hj => ?_, fun i j hi hj => ?_⟩
    · rw [mI_wI, if_neg (by omega), mI_wI, if_neg (by omega)]; exact e11 j
    · rw [mI_wI, if_neg (by decide), mI_wI, if_pos ⟨rfl, rfl⟩]; exact ev
    · rw [mI_wI, if_pos ⟨rfl, rfl⟩]
    · rw [mI_wI, if_neg (by decide), mI_wI, if_neg (by decide)]; exact e11 26
    · rw [wI_o (by decide), wI_o (by decide)]; exact hr i j hi hj
    · rw [wI_o (by decide), wI_o (by decide)]; exact ha i j hi hj
  rw [e11 24]
  refine ⟨fun ne => ?_, fun e => ?_⟩
  · have n20 : ¬ u = 20 := fun z => ne (Int32.toInt_inj.mp (by rw [eu, z]; rfl))
    have e1 : (mI h 11 24 + 1).toInt = (u : Int) + 1 := by rw [i_inc eu (by omega)]; omega
    refine fin _ ⟨by omega, by omega⟩ ?_
    rw [if_neg n20, e1]
  · have n20 : u = 20 := by rw [e] at eu; have : (20 : Int32).toInt = 20 := by decide
                            omega
    exact fin 20 ⟨by decide, by decide⟩ (by rw [if_pos n20]; rfl)
/-! the acts of the reference: what is there, flip -/
/-- without a book nothing is there -/
def NB (h : mh_T) : Prop := mI h 11 14 = 0 → mI h 45 50 = 0 ∧ mI h 45 0 = 0 ∧ mI h 11 24 = 0 ∧ mI h 11 25 = 0 ∧ mI h 11 26 = 0
def LKb (h : mh_T) (l : Int32) : Prop := 0 ≤ l.toInt ∧ l.toInt < (mI h 45 50).toInt
def SEb (a : Nat → Int32) (l : Int32) : Prop := 0 ≤ l.toInt ∧ l.toInt < (a 0).toInt
def ocs (a : Nat → Int32) (s : Nat) : Nat := if a (9 + s) = -2 then 2 else 4
def OCb (a : Nat → Int32) (l o : Int32) : Prop := SEb a l ∧ 0 ≤ o.toInt ∧ o.toInt < (ocs a l.toInt.toNat : Int)
theorem ti_sub1 {x : Int32} {hi : Int} (f : R 0 hi x) (hh : hi ≤ 2147483647) : (x - 1).toInt = x.toInt - 1 := by
  have := f.1
  have := f.2
  exact i_sub (x := x) (y := 1) rfl (show (1 : Int32).toInt = 1 from by decide) (by omega)
theorem v_isLook {g : gT} {h : mh_T} {P : Int32 → mh_T → Prop} (l : Int32) (hG : GI h) (hB : NB h) (h1 : LKb h l → P 1 h) (h0 : ¬ LKb h l → P 0 h) : MCi g yX11_isLook uX11_isLook [.ref 11, .int l] h P := by
  have f50 : R 0 6 (mI h 45 50) := GI_rd hG 45 50 rfl
  have e := ti_sub1 f50 (by decide)
  refine e_X11_isLook l ⟨fun z => h0 (fun y => ?_), fun _ => b_within l 0 _ (fun q => ⟨fun z => absurd z (by decide), fun _ => h1 ?_⟩) (fun q => ⟨fun _ => h0 (fun y => q ?_), fun z => absurd rfl z⟩)⟩
  · have := (hB z).1
    unfold LKb at y
    rw [this, i_0] at y
    omega
  · rw [i_le, i_le, i_0, show Int32.toNatClampNeg 50 = 50 from by decide, e] at q
    exact ⟨q.1, by omega⟩
  · rw [i_le, i_le, i_0, show Int32.toNatClampNeg 50 = 50 from by decide, e]
    exact ⟨y.1, by have := y.2; omega⟩
theorem v_isSet {g : gT} {h : mh_T} {P : Int32 → mh_T → Prop} (l : Int32) (hG : GI h) (hB : NB h) (h1 : SEb (h.1 45) l → P 1 h) (h0 : ¬ SEb (h.1 45) l → P 0 h) : MCi g yX11_isSet uX11_isSet [.ref 11, .int l] h P := by
  have f0 : R 0 8 (mI h 45 0) := GI_rd hG 45 0 rfl
  have e := ti_sub1 f0 (by decide)
  have e' : (mI h 45 0).toInt = (h.1 45 0).toInt := rfl
  refine e_X11_isSet l ⟨fun z => h0 (fun y => ?_), fun _ => b_within l 0 _ (fun q => ⟨fun z => absurd z (by decide), fun _ => h1 ?_⟩) (fun q => ⟨fun _ => h0 (fun y => q ?_), fun z => absurd rfl z⟩)⟩
  · have z0 := (hB z).2.1
    unfold SEb at y
    rw [← e', z0, i_0] at y
    omega
  · rw [i_le, i_le, i_0, show Int32.toNatClampNeg 0 = 0 from by decide, e] at q
    exact ⟨q.1, by omega⟩
  · rw [i_le, i_le, i_0, show Int32.toNatClampNeg 0 = 0 from by decide, e]
    exact ⟨y.1, by have := y.2; omega⟩
theorem i_9 {l : Int32} {s : Nat} (h : l.toInt = (s : Int)) (hs : s < 8) : (9 + l).toInt = ((9 + s : Nat) : Int) := by rw [i_add (show (9 : Int32).toInt = 9 from by decide) h (by omega)]; omega
theorem i_1s {l : Int32} {s : Nat} (h : l.toInt = (s : Int)) (hs : s < 8) : (1 + l).toInt = ((1 + s : Nat) : Int) := by rw [i_add (show (1 : Int32).toInt = 1 from by decide) h (by omega)]; omega
theorem v_outcomes {g : gT} {h : mh_T} {P : Int32 → mh_T → Prop} (l : Int32) (s : Nat) (es : l.toInt = (s : Int)) (hs : s < 8) (h1 : ∀ v : Int32, v.toInt = (ocs (h.1 45) s : Int) → P v h) : MCi g yX11_outcomes uX11_outcomes [.ref 45, .int l] h P := by
  have j9 := i_9 es hs
  refine e_X11_outcomes l ⟨i_vp j9 (by omega), ?_⟩
  rw [i_nat j9]
  refine ⟨fun z => h1 4 ?_, fun z => h1 2 ?_⟩
  · have z : ¬ h.1 45 (9 + s) = -2 := z
    unfold ocs
    rw [if_neg z]
    rfl
  · have z : h.1 45 (9 + s) = -2 := z
    unfold ocs
    rw [if_pos z]
    rfl
theorem v_isOutcome {g : gT} {h : mh_T} {P : Int32 → mh_T → Prop} (l o : Int32) (hG : GI h) (hB : NB h) (h1 : OCb (h.1 45) l o → P 1 h) (h0 : ¬ OCb (h.1 45) l o → P 0 h) : MCi g yX11_isOutcome uX11_isOutcome [.ref 11, .int l, .int o] h P := by
  have f0 : R 0 8 (mI h 45 0) := GI_rd hG 45 0 rfl
  have f02 : (h.1 45 0).toInt ≤ 8 := f0.2
  refine e_X11_isOutcome l o (v_isSet l hG hB (fun q => ⟨fun z => absurd z (by decide), fun _ => ?_⟩) (fun q => ⟨fun _ => h0 (fun y => q y.1), fun z => absurd rfl z⟩))
  obtain ⟨s, es⟩ : ∃ s : Nat, l.toInt = (s : Int) := ⟨l.toInt.toNat, by have := q.1; omega⟩
  have s8 : s < 8 := by have := q.2; omega
  refine v_outcomes l s es s8 (fun v ev => ?_)
  have en : l.toInt.toNat = s := by omega
  have vb : R 0 4 v := by
    refine ⟨by omega, ?_⟩
    rw [ev]
    unfold ocs
    split <;> decide
  have e := ti_sub1 vb (by decide)
  refine b_within o 0 _ (fun y => ⟨fun z => absurd z (by decide), fun _ => h1 ⟨q, ?_⟩⟩) (fun y => ⟨fun _ => h0 (fun w => y ?_), fun z => absurd rfl z⟩)
  · rw [i_le, i_le, i_0, e, ev] at y
    rw [en]
    exact ⟨y.1, by omega⟩
  · have w2 := w.2
    rw [en] at w2
    rw [i_le, i_le, i_0, e, ev]
    exact ⟨w2.1, by omega⟩
/-- what good and a refusal leave -/
theorem v_good {g : gT} {h : mh_T} {P : mh_T → Prop} (hG : GI h) (hp : ∀ h', Ok [300, 11] h h' → P h') : MCv g yX11_good uX11_good [.ref 11] h P := s_X11_good hG (fun h' k _ => hp h' (Ok_mono k (by decide)))
theorem NB_ok {ms : List Nat} {h h' : mh_T} (ok : Ok ms h h') (hm : 301 ∉ ms ∧ 45 ∉ ms) (b : NB h) : NB h' := by
  have e45 := OkC ok (k := 45) ⟨by decide, hm.2⟩
  have e24 := Ok_24 ok hm.1
  intro z
  have z' : mI h 11 14 = 0 := by rw [← ok.2.2.2.2.1 11 14 (by decide)]; exact z
  obtain ⟨b1, b2, b3, b4, b5⟩ := b z'
  refine ⟨?_, ?_, ?_, ?_, ?_⟩
  · show h'.1 45 50 = 0
    rw [e45]; exact b1
  · show h'.1 45 0 = 0
    rw [e45]; exact b2
  · rw [e24 24 (by decide) (by decide)]; exact b3
  · rw [e24 25 (by decide) (by decide)]; exact b4
  · rw [e24 26 (by decide) (by decide)]; exact b5
/-- an act of the reference that is done -/
def HD (u : Nat) (a : Nat → Int32) (h h' : mh_T) : Prop := (mI h' 11 24).toInt = (if u = 20 then 20 else (u : Int) + 1) ∧ mI h' 11 25 = 0 ∧ mI h' 11 26 = mI h 11 26 ∧ (∀ i j, i < 20 → j < 49 → h'.1 49 (49 * i + j) = psh u (fun i j => h.1 49 (49 * i + j)) (h.1 45) i j) ∧ (∀ i j, i < 20 → j < 5 → h'.1 52 (5 * i + j) = psh u (fun i j => h.1 52 (5 * i + j)) a i j)
abbrev msR : List Nat := [301, 300, 11, 45, 47, 48, 49, 52]
theorem psh_cg {u : Nat} {f f' : Nat → Nat → Int32} {x x' : Nat → Int32} {n i j : Nat} (hf : ∀ i j, j < n → f i j = f' i j) (hx : ∀ j, j < n → x j = x' j) (hj : j < n) : psh u f x i j = psh u f' x' i j := by
  unfold psh
  repeat' split
  all_goals first | exact hf _ _ hj | exact hx _ hj
theorem HD_of {u : Nat} {a : Nat → Int32} {h h3 h' : mh_T} (d : DD u a h3 h') (e26 : mI h3 11 26 = mI h 11 26) (e48 : ∀ j, j < 49 → h3.1 48 j = h.1 45 j) (e49 : h3.1 49 = h.1 49) (e52 : h3.1 52 = h.1 52) : HD u a h h' := by
  obtain ⟨d1, d2, d3, d4, d5⟩ := d
  refine ⟨d1, d2, d3.trans e26, fun i j hi hj => ?_, fun i j hi hj => ?_⟩
  · rw [d4 i j hi hj]
    exact psh_cg (fun i j _ => by rw [e49]) e48 hj
  · rw [d5 i j hi hj, e52]
-- flip
/-- the sets below s are turned -/
def FP (L : Int32) (s : Nat) (a0 c0 a c : Nat → Int32) : Prop := (∀ j, j < 17 → a j = a0 j) ∧ ∀ s' o, s' < 8 → o < 4 → a (17 + 4 * s' + o) = a0 (17 + 4 * s' + (if s' < s then pm a0 L s' o else o)) ∧ c (4 * s' + o) = c0 (4 * s' + (if s' < s then pm a0 L s' o else o))
theorem FP_0 (L : Int32) (a c : Nat → Int32) : FP L 0 a c a c := ⟨fun _ _ => rfl, fun s' o _ _ => by rw [if_neg (Nat.not_lt_zero _)]; exact ⟨rfl, rfl⟩⟩
theorem FP_e {L : Int32} {s : Nat} {a0 c0 a c : Nat → Int32} (h8 : sn a0 ≤ 8) (hs : sn a0 ≤ s) (f : FP L s a0 c0 a c) : flp L a0 c0 a c := by
  refine ⟨f.1 0 (by omega), fun s' h => ⟨⟨f.1 _ (by omega), f.1 _ (by omega)⟩, fun o ho => ?_⟩⟩
  have := f.2 s' o (by omega) ho
  rw [if_pos (by omega)] at this
  exact this
theorem FP_s {L : Int32} {s : Nat} {a0 c0 a c a' c' : Nat → Int32} (hs : s < 8) (f : FP L s a0 c0 a c) (ha : ∀ j, ¬ (17 + 4 * s ≤ j ∧ j < 17 + 4 * s + 4) → a' j = a j) (hc : ∀ j, ¬ (4 * s ≤ j ∧ j < 4 * s + 4) → c' j = c j) (hx : ∀ o, o < 4 → a' (17 + 4 * s + o) = a (17 + 4 * s + pm a0 L s o) ∧ c' (4 * s + o) = c (4 * s + pm a0 L s o)) : FP L (s + 1) a0 c0 a' c' := by
  refine ⟨fun j hj => (ha j (by omega)).trans (f.1 j hj), fun s' o h8 ho => ?_⟩
  by_cases e : s' = s
  · subst e
    rw [if_pos (by omega), (hx o ho).1, (hx o ho).2]
    have := f.2 s' (pm a0 L s' o) h8 (pm_lt ho)
    rw [if_neg (Nat.lt_irrefl _)] at this
    exact this
  · rw [ha _ (by omega), hc _ (by omega)]
    have := f.2 s' o h8 ho
    by_cases q : s' < s
    · rw [if_pos q] at this
      rw [if_pos (by omega)]
      exact this
    · rw [if_neg q] at this
      rw [if_neg (by omega)]
      exact this
theorem FP_n {L : Int32} {s : Nat} {a0 c0 a c : Nat → Int32} (hs : s < 8) (f : FP L s a0 c0 a c) (hx : ∀ o, o < 4 → pm a0 L s o = o) : FP L (s + 1) a0 c0 a c := FP_s hs f (fun _ _ => rfl) (fun _ _ => rfl) (fun o ho => by rw [hx o ho]; exact ⟨rfl, rfl⟩)
def xb (b i : Nat) : Nat := if b = 1 then (if i = 0 then 1 else if i = 1 then 0 else if i = 2 then 3 else 2) else (if i < 2 then i + 2 else i - 2)
def xq (b o i : Nat) : Nat := if i < o ∨ xb b i < o then xb b i else i
theorem xb_all : ∀ b : Nat, b < 3 → ∀ i, i < 4 → xb b i < 4 ∧ xb b (xb b i) = i ∧ ¬ xb b i = i := by decide
theorem x4_all : ∀ b : Nat, b < 3 → 0 < b → ∀ i, i < 4 → (Int32.ofNat i ^^^ Int32.ofNat b).toInt = (xb b i : Int) := by decide
/-- a set is turned up to outcome o -/
def IV (b o s : Nat) (a0 c0 a c : Nat → Int32) : Prop := (∀ j, ¬ (17 + 4 * s ≤ j ∧ j < 17 + 4 * s + 4) → a j = a0 j) ∧ (∀ j, ¬ (4 * s ≤ j ∧ j < 4 * s + 4) → c j = c0 j) ∧ ∀ i, i < 4 → a (17 + 4 * s + i) = a0 (17 + 4 * s + xq b o i) ∧ c (4 * s + i) = c0 (4 * s + xq b o i)
theorem IV_0 (b s : Nat) (a c : Nat → Int32) : IV b 0 s a c a c := ⟨fun _ _ => rfl, fun _ _ => rfl, fun i _ => by unfold xq; rw [if_neg (by omega)]; exact ⟨rfl, rfl⟩⟩
theorem xq_skip : ∀ b : Nat, b < 3 → ∀ o, o < 4 → xb b o < o → ∀ i, i < 4 → xq b (o + 1) i = xq b o i := by decide
theorem xq_o : ∀ b : Nat, b < 3 → ∀ o, o < 4 → ¬ xb b o < o → xq b (o + 1) o = xq b o (xb b o) ∧ xq b (o + 1) (xb b o) = xq b o o := by decide
theorem xq_n : ∀ b : Nat, b < 3 → ∀ o, o < 4 → ∀ i, i < 4 → (¬ xb b o < o ∧ ¬ i = o ∧ ¬ i = xb b o) → xq b (o + 1) i = xq b o i := by decide
theorem IV_skip {b o s : Nat} {a0 c0 a c : Nat → Int32} (hb : b < 3) (ho : o < 4) (hx : xb b o < o) (v : IV b o s a0 c0 a c) : IV b (o + 1) s a0 c0 a c := ⟨v.1, v.2.1, fun i hi => by rw [xq_skip b hb o ho hx i hi]; exact v.2.2 i hi⟩
theorem IV_swap {b o s : Nat} {a0 c0 a c a' c' : Nat → Int32} (hb : b < 3) (ho : o < 4) (hx : ¬ xb b o < o) (v : IV b o s a0 c0 a c) (ha : ∀ j, a' j = if j = 17 + 4 * s + xb b o then a (17 + 4 * s + o) else if j = 17 + 4 * s + o then a (17 + 4 * s + xb b o) else a j) (hc : ∀ j, c' j = if j = 4 * s + xb b o then c (4 * s + o) else if j = 4 * s + o then c (4 * s + xb b o) else c j) : IV b (o + 1) s a0 c0 a' c' := by
  obtain ⟨p4, pp, pn⟩ := xb_all b hb o ho
  refine ⟨fun j hj => ?_, fun j hj => ?_, fun i hi => ?_⟩
  · rw [ha, if_neg (by omega), if_neg (by omega)]
    exact v.1 j hj
  · rw [hc, if_neg (by omega), if_neg (by omega)]
    exact v.2.1 j hj
  · rw [ha, hc]
    by_cases e1 : i = xb b o
    · rw [if_pos (by omega), if_pos (by omega), e1, (xq_o b hb o ho hx).2]
      exact v.2.2 o ho
    · by_cases e2 : i = o
      · rw [if_neg (by omega), if_pos (by omega), if_neg (by omega), if_pos (by omega), e2, (xq_o b hb o ho hx).1]
        exact v.2.2 _ p4
      · rw [if_neg (by omega), if_neg (by omega), if_neg (by omega), if_neg (by omega), xq_n b hb o ho i hi ⟨hx, e2, e1⟩]
        exact v.2.2 i hi
theorem xq_e4 : ∀ b : Nat, b < 3 → ∀ i, i < 4 → xq b 4 i = xb b i := by decide
theorem xq_e2 : ∀ i, i < 4 → xq 1 2 i = if i = 0 then 1 else if i = 1 then 0 else i := by decide
/-- a set whose outcomes change places keeps its numbers -/
theorem tq_pm {f g : Nat → Int32} {s : Nat} {q : Nat → Nat} (t : tq f 0 s) (hq : (q 0 = 1 ∧ q 1 = 0 ∧ q 2 = 2 ∧ q 3 = 3) ∨ (q 0 = 1 ∧ q 1 = 0 ∧ q 2 = 3 ∧ q 3 = 2) ∨ (q 0 = 2 ∧ q 1 = 3 ∧ q 2 = 0 ∧ q 3 = 1)) (h : ∀ i, i < 4 → g (17 + 4 * s + i) = f (17 + 4 * s + q i)) : tq g 0 s := by
  have t := tq_g t
  have e0 := h 0 (by omega)
  have e1 := h 1 (by omega)
  have e2 := h 2 (by omega)
  have e3 := h 3 (by omega)
  rw [Nat.add_zero] at e0
  refine tq_v rfl rfl rfl rfl ?_
  rcases hq with ⟨q0, q1, q2, q3⟩ | ⟨q0, q1, q2, q3⟩ | ⟨q0, q1, q2, q3⟩
  · rw [e0, e1, e2, e3, q0, q1, q2, q3]; simp only [Nat.add_zero]; omega
  · rw [e0, e1, e2, e3, q0, q1, q2, q3]; simp only [Nat.add_zero]; omega
  · rw [e0, e1, e2, e3, q0, q1, q2, q3]; simp only [Nat.add_zero]; omega
theorem i_ofN {x : Int32} {n : Nat} (h : x.toInt = (n : Int)) (hn : n < 2147483648) : x = Int32.ofNat n := Int32.toInt_inj.mp (by rw [h, Int32.toInt_ofNat_of_lt hn])
set_option maxRecDepth 100000 in
set_option maxHeartbeats 4000000 in
theorem v_flip_I {g : gT} {hs : mh_T} {P : Int32 → mh_T → Prop} (l1 l2 l3 : Int32) (s b : Nat) (es : l2.toInt = (s : Int)) (s8 : s < 8) (eb : l3.toInt = (b : Int)) (hb : b < 3) (hb0 : 0 < b) (nx : ∀ h', Ok [45, 47] hs h' → IV b (ocs (hs.1 45) s) s (hs.1 45) (hs.1 47) (h'.1 45) (h'.1 47) → ME g uX11_flip 35 [.ref 11, .int l1, .int (l2 + 1), .retAddr 0, .retAddr 0, .retAddr 0, .retAddr 0, .retAddr 0, .retAddr 0] [] h' (qI P)) : ∀ (n : Nat) (l4 : Int32) (o : Nat) (h : mh_T), l4.toInt = (o : Int) → o ≤ ocs (hs.1 45) s → ocs (hs.1 45) s - o < n → Ok [45, 47] hs h → IV b o s (hs.1 45) (hs.1 47) (h.1 45) (h.1 47) → ME g uX11_flip 124 [.ref 11, .int l1, .int l2, .int l3, .int l4, .retAddr 0, .retAddr 0, .retAddr 0, .retAddr 0] [] h (qI P) := by
  intro n
  induction n with
  | zero => intro l4 o h _ _ hn; exact absurd hn (Nat.not_lt_zero _)
  | succ n ih =>
    intro l4 o h eo ho hn ok iv
    have oc4 : ocs (hs.1 45) s ≤ 4 := by unfold ocs; split <;> omega
    have eoc : ocs (h.1 45) s = ocs (hs.1 45) s := by unfold ocs; rw [iv.1 _ (by omega)]
    refine r_X11_flip_124 l1 l2 l3 l4 (v_outcomes l2 s es s8 (fun v ev => ⟨fun c => ?_, fun c x4 e4 => ?_⟩))
    · have c := i_le.mp c
      rw [ev, eo, eoc] at c
      have : o = ocs (hs.1 45) s := by omega
      subst this
      exact nx h ok iv
    · have c := i_lt.mp (nle c)
      rw [ev, eo, eoc] at c
      have o4 : o < 4 := by omega
      obtain ⟨p4, pp, pn⟩ := xb_all b hb o o4
      have ep : x4.toInt = (xb b o : Int) := by
        rw [e4, i_ofN eo (by omega), i_ofN eb (by omega)]
        exact x4_all b hb hb0 o o4
      refine ⟨fun c2 x6 e6 x7 e7 => ?_, fun c2 => ?_⟩
      · have c2 := i_le.mp c2
        rw [eo, ep] at c2
        have hx : ¬ xb b o < o := by omega
        have i6 : x6.toInt = ((4 * s + o : Nat) : Int) := by rw [e6, i_add (i_4s es s8) eo (by omega)]; omega
        have i7 : x7.toInt = ((4 * s + xb b o : Nat) : Int) := by rw [e7, i_add (i_4s es s8) ep (by omega)]; omega
        have j6 : (17 + x6).toInt = ((17 + 4 * s + o : Nat) : Int) := by rw [i_add (show (17 : Int32).toInt = 17 from by decide) i6 (by omega)]; omega
        have j7 : (17 + x7).toInt = ((17 + 4 * s + xb b o : Nat) : Int) := by rw [i_add (show (17 : Int32).toInt = 17 from by decide) i7 (by omega)]; omega
        have v6 : vp_in (17 + x6) 346 := i_vp j6 (by omega)
        have v7 : vp_in (17 + x7) 346 := i_vp j7 (by omega)
        have u6 : vp_in x6 32 := i_vp i6 (by omega)
        have u7 : vp_in x7 32 := i_vp i7 (by omega)
        rw [i_nat j6, i_nat j7, i_nat i6, i_nat i7]
        refine ⟨v6, fun x9 e9 => ⟨v7, v6, v7, u6, fun x14 e14 => ⟨u7, u6, u7, ih (l4 + 1) (o + 1) _ (i_inc eo (by omega)) (by omega) (by omega) ?_ (IV_swap hb o4 hx iv (fun j => ?_) (fun j => ?_))⟩⟩⟩
        · exact Ok_w (Ok_w (Ok_w (Ok_w ok (k := 45) (j := 17 + 4 * s + o) (lo := -2147483648) (hi := 2147483647) (rgg_45_0 (by omega) (by omega)) (R_full _) (by decide) (nt_c (by decide) (fun _ => by omega))) (k := 45) (j := 17 + 4 * s + xb b o) (lo := -2147483648) (hi := 2147483647) (rgg_45_0 (by omega) (by omega)) (R_full _) (by decide) (nt_c (by decide) (fun _ => by omega))) (k := 47) (rgc_47 _) (R_full _) (by decide) (nt_k (by decide))) (k := 47) (rgc_47 _) (R_full _) (by decide) (nt_k (by decide))
        · rw [wI_o (by decide), wI_o (by decide), wI_i, wI_i, e9]
          rfl
        · have q14 : x14 = h.1 47 (4 * s + o) := by rw [e14]; show (wI (wI h 45 _ _) 45 _ _).1 47 _ = _; rw [wI_o (by decide), wI_o (by decide)]
          rw [wI_i, wI_i, wI_o (by decide), wI_o (by decide), q14]
          rfl
      · have c2 := i_lt.mp (nle c2)
        rw [eo, ep] at c2
        exact ih (l4 + 1) (o + 1) h (i_inc eo (by omega)) (by omega) (by omega) ok (IV_skip hb o4 (by omega) iv)
theorem pm_1 {a : Nat → Int32} {L : Int32} {s o : Nat} (h9 : a (9 + s) = -2) (h1 : a (1 + s) = L) (ho : o < 4) : pm a L s o = xq 1 2 o := by
  unfold pm
  rw [h9, if_pos (by decide), if_pos h1, xq_e2 o ho]
theorem pm_2 {a : Nat → Int32} {L : Int32} {s o : Nat} (h9 : 0 ≤ (a (9 + s)).toInt) (h1 : a (1 + s) = L) (ho : o < 4) : pm a L s o = xq 2 4 o := by
  unfold pm
  rw [if_neg (by omega), if_pos h1, xq_e4 2 (by decide) o ho]
  unfold xb
  rw [if_neg (show ¬ (2 = 1) by decide)]
theorem pm_3 {a : Nat → Int32} {L : Int32} {s o : Nat} (h9 : 0 ≤ (a (9 + s)).toInt) (h1 : ¬ a (1 + s) = L) (h2 : a (9 + s) = L) (ho : o < 4) : pm a L s o = xq 1 4 o := by
  unfold pm
  rw [if_neg (by omega), if_neg h1, if_pos h2, xq_e4 1 (by decide) o ho]
  unfold xb
  rw [if_pos rfl]
theorem pm_n1 {a : Nat → Int32} {L : Int32} {s o : Nat} (h9 : a (9 + s) = -2) (h1 : ¬ a (1 + s) = L) : pm a L s o = o := by
  unfold pm
  rw [h9, if_pos (by decide), if_neg h1]
theorem pm_n2 {a : Nat → Int32} {L : Int32} {s o : Nat} (h9 : 0 ≤ (a (9 + s)).toInt) (h1 : ¬ a (1 + s) = L) (h2 : ¬ a (9 + s) = L) : pm a L s o = o := by
  unfold pm
  rw [if_neg (by omega), if_neg h1, if_neg h2]
set_option maxRecDepth 100000 in
set_option maxHeartbeats 4000000 in
theorem v_flip_L {g : gT} {h0 : mh_T} {P : Int32 → mh_T → Prop} (l1 : Int32) (tz : TZ (h0.1 45)) (hp : ∀ h', Ok [45, 47] h0 h' → TQ (h'.1 45) 0 → flp l1 (h0.1 45) (h0.1 47) (h'.1 45) (h'.1 47) → MCi g yX11_did uX11_did [.ref 11, .int 0, .int l1, .int (-2), .int (-2), .int (-2)] h' (fun r3 h2 => (r3 = 0 ∨ r3 = 1) ∧ P r3 h2)) : ∀ (n : Nat) (l2 : Int32) (s : Nat) (h : mh_T), l2.toInt = (s : Int) → s ≤ sn (h0.1 45) → sn (h0.1 45) - s < n → Ok [45, 47] h0 h → TQ (h.1 45) 0 → FP l1 s (h0.1 45) (h0.1 47) (h.1 45) (h.1 47) → ME g uX11_flip 35 [.ref 11, .int l1, .int l2, .retAddr 0, .retAddr 0, .retAddr 0, .retAddr 0, .retAddr 0, .retAddr 0] [] h (qI P) := by
  intro n
  induction n with
  | zero => intro l2 s h _ _ hn; exact absurd hn (Nat.not_lt_zero _)
  | succ n ih =>
    intro l2 s h es hs hn ok t fp
    have n8 : sn (h0.1 45) ≤ 8 := by unfold sn; have := tz.2.1; omega
    have ec : (h.1 45 0).toInt = (sn (h0.1 45) : Int) := by rw [fp.1 0 (by omega)]; unfold sn; have := tz.1; omega
    refine r_X11_flip_35 l1 l2 ⟨fun c => hp h ok t (FP_e n8 ?_ fp), fun c => ?_⟩
    · have c := i_le.mp c
      rw [es] at c
      have c : (h.1 45 0).toInt ≤ (s : Int) := c
      omega
    · have c := i_lt.mp (nle c)
      rw [es] at c
      have c : (s : Int) < (h.1 45 0).toInt := c
      have s8 : s < 8 := by omega
      have sl : s < sn (h0.1 45) := by omega
      have j1 := i_1s es s8
      have j9 := i_9 es s8
      have v1 : vp_in (1 + l2) 346 := i_vp j1 (by omega)
      have v9 : vp_in (9 + l2) 346 := i_vp j9 (by omega)
      rw [i_nat j1, i_nat j9]
      have q1 : mI h 45 (1 + s) = h0.1 45 (1 + s) := fp.1 _ (by omega)
      have q9 : mI h 45 (9 + s) = h0.1 45 (9 + s) := fp.1 _ (by omega)
      rw [q1, q9]
      have nxt : ∀ h', Ok [45, 47] h h' → TQ (h'.1 45) 0 → FP l1 (s + 1) (h0.1 45) (h0.1 47) (h'.1 45) (h'.1 47) → ME g uX11_flip 35 [.ref 11, .int l1, .int (l2 + 1), .retAddr 0, .retAddr 0, .retAddr 0, .retAddr 0, .retAddr 0, .retAddr 0] [] h' (qI P) := fun h' k' t' f' => ih (l2 + 1) (s + 1) h' (i_inc es (by omega)) (by omega) (by omega) (Ok_tr ok k' (by decide)) t' f'
      have gen : ∀ (l3 : Int32) (b : Nat), l3.toInt = (b : Int) → b < 3 → 0 < b → (∀ o, o < 4 → pm (h0.1 45) l1 s o = xq b (ocs (h.1 45) s) o) → ((xq b (ocs (h.1 45) s) 0 = 1 ∧ xq b (ocs (h.1 45) s) 1 = 0 ∧ xq b (ocs (h.1 45) s) 2 = 2 ∧ xq b (ocs (h.1 45) s) 3 = 3) ∨ (xq b (ocs (h.1 45) s) 0 = 1 ∧ xq b (ocs (h.1 45) s) 1 = 0 ∧ xq b (ocs (h.1 45) s) 2 = 3 ∧ xq b (ocs (h.1 45) s) 3 = 2) ∨ (xq b (ocs (h.1 45) s) 0 = 2 ∧ xq b (ocs (h.1 45) s) 1 = 3 ∧ xq b (ocs (h.1 45) s) 2 = 0 ∧ xq b (ocs (h.1 45) s) 3 = 1)) → ME g uX11_flip 124 [.ref 11, .int l1, .int l2, .int l3, .int 0, .retAddr 0, .retAddr 0, .retAddr 0, .retAddr 0] [] h (qI P) := by
        intro l3 b eb hb hb0 hpm hq
        refine v_flip_I l1 l2 l3 s b es s8 eb hb hb0 (fun h' k' iv => nxt h' k' (TQ_i (fun s' hs' => ?_)) (FP_s s8 fp iv.1 iv.2.1 (fun o ho => ?_))) 5 0 0 h (by decide) (Nat.zero_le _) (by unfold ocs; split <;> omega) (Ok_rf ok.1) (IV_0 b s _ _)
        · by_cases e : s' = s
          · subst e
            exact tq_pm (t s' hs') hq (fun i hi => (iv.2.2 i hi).1)
          · exact tq_x (t s' hs') (fun i hi => iv.1 _ (by omega))
        · rw [hpm o ho]
          exact iv.2.2 o ho
      have o9 : h.1 45 (9 + s) = h0.1 45 (9 + s) := q9
      refine ⟨v9, fun z => ?_, fun z => ?_⟩
      · have nn : 0 ≤ (h0.1 45 (9 + s)).toInt := by
          rcases (tz.2.2 s sl).1 with w | w
          · exact absurd w.1 z
          · exact w
        have oc : ocs (h.1 45) s = 4 := by unfold ocs; rw [o9, if_neg z]
        refine ⟨v1, fun n1 => ⟨v9, fun n2 => nxt h (Ok_rf ok.1) t (FP_n s8 fp (fun o _ => pm_n2 nn n1 n2)), fun y2 => gen 1 1 (by decide) (by decide) (by decide) (fun o ho => by rw [oc]; exact pm_3 nn n1 y2 ho) (by rw [oc]; exact Or.inr (Or.inl (by decide)))⟩, fun y1 => gen 2 2 (by decide) (by decide) (by decide) (fun o ho => by rw [oc]; exact pm_2 nn y1 ho) (by rw [oc]; exact Or.inr (Or.inr (by decide)))⟩
      · have oc : ocs (h.1 45) s = 2 := by unfold ocs; rw [o9, if_pos z]
        exact ⟨v1, fun n1 => nxt h (Ok_rf ok.1) t (FP_n s8 fp (fun o _ => pm_n1 z n1)), fun y1 => gen 1 1 (by decide) (by decide) (by decide) (fun o ho => by rw [oc]; exact pm_1 z y1 ho) (by rw [oc]; exact Or.inl (by decide))⟩
/-- the table is kept aside -/
theorem v_was {g : gT} {h : mh_T} {P : mh_T → Prop} (hG : GI h) (t : TVs h) (hp : ∀ h', Ok [48] h h' → TVs h' → (∀ j, j < 49 → h'.1 48 j = h.1 45 j) → P h') : MCv g yX11_copy uX11_copy [.ref 45, .int 0, .ref 48, .int 0, .int 49] h P := by
  refine t_copy 45 346 0 48 49 0 rfl rfl (by decide) (by decide) 0 0 (by decide) (by decide) (by decide) (by decide) (by decide) (by decide) rr45 rr48 (by decide) hG (fun h' ok cp => hp h' ok ?_ (fun j hj => ?_))
  · have e45 := OkC ok (k := 45) (by decide)
    refine ⟨?_, TQ_cp t.1 cp.1, ?_, ?_, ?_, ?_⟩
    · rw [e45]; exact t.1
    · rw [OkC ok (k := 49) (by decide)]; exact t.2.2.1
    · rw [OkC ok (k := 50) (by decide)]; exact t.2.2.2.1
    · rw [OkC ok (k := 51) (by decide)]; exact t.2.2.2.2.1
    · rw [e45]; exact t.2.2.2.2.2
  · have := cp.1 j hj
    rw [Nat.mul_zero, Nat.zero_add] at this
    exact this
/-- done: from the table kept aside, over what happened to it, to the act -/
theorem v_done {g : gT} {h h1 h2 h3 : mh_T} {P : Int32 → mh_T → Prop} (l1 l2 l3 l4 l5 : Int32) (u : Nat) (eu : (mI h 11 24).toInt = (u : Int)) (o1 : Ok [300, 11] h h1) (o2 : Ok [48] h1 h2) (e48 : ∀ j, j < 49 → h2.1 48 j = h1.1 45 j) (o3 : Ok [45, 47] h2 h3) (t3 : TVs h3) (hp : ∀ h', Ok msR h h' → TVs h' → h'.1 45 = h3.1 45 → h'.1 47 = h3.1 47 → HD u (ac5 l1 l2 l3 l4 l5) h h' → P 1 h') : MCi g yX11_did uX11_did [.ref 11, .int l1, .int l2, .int l3, .int l4, .int l5] h3 (fun r h' => (r = 0 ∨ r = 1) ∧ P r h') := by
  have e24 : ∀ j, 24 ≤ j → j ≤ 26 → mI h3 11 j = mI h 11 j := fun j h1' h2' => by rw [Ok_24 o3 (by decide) j h1' h2', Ok_24 o2 (by decide) j h1' h2', Ok_24 o1 (by decide) j h1' h2']
  refine v_did l1 l2 l3 l4 l5 u (by rw [e24 24 (by decide) (by decide)]; exact eu) o3.1 t3 (fun h' k' _ t' d => ⟨Or.inr rfl, hp h' ?_ t' (OkC k' (by decide)) (OkC k' (by decide)) (HD_of d (e24 26 (by decide) (by decide)) (fun j hj => ?_) ?_ ?_)⟩)
  · exact Ok_tr (Ok_tr (Ok_tr (Ok_mono o1 (by decide)) o2 (by decide)) o3 (by decide)) k' (by decide)
  · rw [OkC o3 (k := 48) (by decide), e48 j hj, OkC o1 (k := 45) (by decide)]
  · rw [OkC o3 (k := 49) (by decide), OkC o2 (k := 49) (by decide), OkC o1 (k := 49) (by decide)]
  · rw [OkC o3 (k := 52) (by decide), OkC o2 (k := 52) (by decide), OkC o1 (k := 52) (by decide)]
theorem v_isNot {g : gT} {h h1 : mh_T} {P : Int32 → mh_T → Prop} (l : Int32) (hl : ¬ l = 4) (o1 : Ok [300, 11] h h1) (hp : ∀ h', Ok [300, 11] h h' → P 0 h') : MCi g yX11_isNot uX11_isNot [.ref 11, .int l] h1 (fun r h' => (r = 0 ∨ r = 1) ∧ P r h') := e_X11_isNot l ⟨Or.inl rfl, hp _ (Ok_w11 o1 hl (by decide))⟩
theorem TVs_4547 {h h' : mh_T} (t : TVs h) (ok : Ok [45, 47] h h') (tq : TQ (h'.1 45) 0) : TVs h' := TVs_45 t tq (OkC ok (by decide)) (OkC ok (by decide)) (OkC ok (by decide)) (OkC ok (by decide)) (ok.2.2.2.2.1 45 49 (by decide)) (ok.2.2.2.2.1 45 50 (by decide))
theorem TVs_ok {ms : List Nat} {h h' : mh_T} (t : TVs h) (ok : Ok ms h h') (hm : 45 ∉ ms ∧ 48 ∉ ms ∧ 49 ∉ ms ∧ 50 ∉ ms ∧ 51 ∉ ms) : TVs h' := by
  unfold TVs
  rw [OkC ok ⟨by decide, hm.1⟩, OkC ok ⟨by decide, hm.2.1⟩, OkC ok ⟨by decide, hm.2.2.1⟩, OkC ok ⟨by decide, hm.2.2.2.1⟩, OkC ok ⟨by decide, hm.2.2.2.2⟩]
  exact t
theorem v_X11_flip {g : gT} {h : mh_T} {P : Int32 → mh_T → Prop} (l1 : Int32) (u : Nat) (eu : (mI h 11 24).toInt = (u : Int)) (hG : GI h) (hI : TVs h) (hB : NB h) (tz : TZ (h.1 45)) (h0 : ¬ LKb h l1 → ∀ h', Ok [300, 11] h h' → P 0 h') (hp : LKb h l1 → ∀ h', Ok msR h h' → TVs h' → flp l1 (h.1 45) (h.1 47) (h'.1 45) (h'.1 47) → HD u (ac5 0 l1 (-2) (-2) (-2)) h h' → P 1 h') : MCi g yX11_flip uX11_flip [.ref 11, .int l1] h P := by
  refine e_X11_flip l1 (v_good hG (fun h1 k1 => ?_))
  have e45 : h1.1 45 = h.1 45 := OkC k1 (by decide)
  have lk : LKb h1 l1 ↔ LKb h l1 := by unfold LKb; rw [show mI h1 45 50 = mI h 45 50 from congrFun e45 50]
  refine v_isLook l1 k1.1 (NB_ok k1 (by decide) hB) (fun q => ⟨fun _ => ?_, fun z => absurd z (by decide)⟩) (fun q => ⟨fun z => absurd rfl z, fun _ => v_isNot 1 (by decide) k1 (h0 (fun y => q (lk.mpr y)))⟩)
  refine v_was k1.1 (TVs_ok hI k1 (by decide)) (fun h2 k2 t2 e48 => ?_)
  have e45' : h2.1 45 = h.1 45 := by rw [OkC k2 (k := 45) (by decide), e45]
  have e47' : h2.1 47 = h.1 47 := by rw [OkC k2 (k := 47) (by decide), OkC k1 (k := 47) (by decide)]
  refine v_flip_L l1 (by rw [e45']; exact tz) (fun h3 k3 t3 fl => v_done 0 l1 (-2) (-2) (-2) u eu k1 k2 e48 k3 (TVs_4547 t2 k3 t3) (fun h' k' t' e5 e7 hd => hp (lk.mp q) h' k' t' (by rw [e5, e7]; rw [e45', e47'] at fl; exact fl) hd)) 9 0 0 h2 (by decide) (Nat.zero_le _) ?_ (Ok_rf k2.1) t2.1 (FP_0 l1 _ _)
  have := tz.2.1
  rw [e45']
  unfold sn
  omega
