/-- the first of the fewest lines that can't all be so -/
def crf (H : Nat → Bool) : Nat → Int32
  | 0 => -2
  | s + 1 => if H s = false ∧ (crf H s = -2 ∨ pcn s < pcn (crf H s).toInt.toNat) then Int32.ofNat s else crf H s
theorem crf_R {H : Nat → Bool} : ∀ s, s ≤ 256 → crf H s = -2 ∨ ∃ w : Nat, (crf H s).toInt = (w : Int) ∧ w < s
  | 0, _ => Or.inl rfl
  | s + 1, hs => by
    show (if H s = false ∧ (crf H s = -2 ∨ pcn s < pcn (crf H s).toInt.toNat) then Int32.ofNat s else crf H s) = -2 ∨ ∃ w : Nat, (if H s = false ∧ (crf H s = -2 ∨ pcn s < pcn (crf H s).toInt.toNat) then Int32.ofNat s else crf H s).toInt = (w : Int) ∧ w < s + 1
    split
    · exact Or.inr ⟨s, Int32.toInt_ofNat_of_lt (by omega), by omega⟩
    · rcases crf_R (H := H) s (by omega) with a | ⟨w, w1, w2⟩
      · exact Or.inl a
      · exact Or.inr ⟨w, w1, by omega⟩
theorem crf_cg {H H' : Nat → Bool} : ∀ s, (∀ i, i < s → H i = H' i) → crf H s = crf H' s
  | 0, _ => rfl
  | s + 1, h => by
    show (if H s = false ∧ _ then _ else _) = (if H' s = false ∧ _ then _ else _)
    rw [crf_cg s (fun i hi => h i (by omega)), h s (by omega)]
theorem pl {a b : Nat} : Int32.ofNat (pcn a) ≤ Int32.ofNat (pcn b) ↔ pcn a ≤ pcn b := by
  rw [i_le, pcn_i, pcn_i]
  omega
theorem v_leastBroken {g : gT} {h : mh_T} {P : Int32 → mh_T → Prop} {n : Nat} (en : (mI h 7 1).toInt = (n : Int)) (hn : n ≤ 8) (hp : P (crf (fun s => decide (¬ mI h 31 s = 0)) (2 ^ n)) h) : MCi g yX5_leastBroken uX5_leastBroken [.ref 7] h P := by
  have p := p2n hn
  have pm := shl_m en (by omega)
  have L : ∀ (q : Nat) (l1 l2 : Int32) (s : Nat), l2.toInt = (s : Int) → s ≤ 2 ^ n → 2 ^ n - s < q → l1 = crf (fun s => decide (¬ mI h 31 s = 0)) s → ME g uX5_leastBroken 5 [.ref 7, .int l1, .int l2] [] h (qI P) := by
    intro q
    induction q with
    | zero => intro l1 l2 s _ _ hq; exact absurd hq (Nat.not_lt_zero _)
    | succ q ih =>
      intro l1 l2 s e2 hs hq e1
      have e2' := i_inc e2 (by omega)
      have es : l2 = Int32.ofNat s := i_of e2 (by omega)
      refine r_X5_leastBroken_5 l1 l2 ⟨fun z => ?_, fun z => ⟨?_, ?_⟩⟩
      · rw [i_le, pm, e2] at z
        have : s = 2 ^ n := by omega
        subst this
        rw [e1]
        exact hp
      · rw [i_le, pm, e2] at z
        exact i_vp e2 (by omega)
      · rw [i_le, pm, e2] at z
        rw [i_nat e2]
        have stay : ¬ (decide (¬ mI h 31 s = 0) = false ∧ (crf (fun s => decide (¬ mI h 31 s = 0)) s = -2 ∨ pcn s < pcn (crf (fun s => decide (¬ mI h 31 s = 0)) s).toInt.toNat)) → ME g uX5_leastBroken 5 [.ref 7, .int l1, .int (l2 + 1)] [] h (qI P) := fun c => ih l1 (l2 + 1) (s + 1) e2' (by omega) (by omega) (by
          show l1 = if _ then _ else _
          rw [if_neg c]
          exact e1)
        have take : (decide (¬ mI h 31 s = 0) = false ∧ (crf (fun s => decide (¬ mI h 31 s = 0)) s = -2 ∨ pcn s < pcn (crf (fun s => decide (¬ mI h 31 s = 0)) s).toInt.toNat)) → ME g uX5_leastBroken 5 [.ref 7, .int l2, .int (l2 + 1)] [] h (qI P) := fun c => ih l2 (l2 + 1) (s + 1) e2' (by omega) (by omega) (by
          show l2 = if _ then _ else _
          rw [if_pos c]
          exact es)
        have cr := crf_R (H := fun s => decide (¬ mI h 31 s = 0)) s (by omega)
        rw [← e1] at cr stay take
        refine ⟨fun y => stay (fun c => by rw [decide_eq_true y] at c; exact absurd c.1 (by decide)), fun y => ?_⟩
        have yd : decide (¬ mI h 31 s = 0) = false := decide_eq_false (fun c => c y)
        rcases cr with a | ⟨w, w1, w2⟩
        · refine ⟨fun _ => take ⟨yd, Or.inl a⟩, fun x => absurd (by rw [a]; decide) x⟩
        · refine ⟨fun x => ?_, fun x => v_bc l2 e2 (by omega) (v_bc l1 w1 (by omega) ⟨fun c => stay (fun d => ?_), fun c => take ⟨yd, Or.inr ?_⟩⟩)⟩
          · rw [i_lt, w1, show (0 : Int32).toInt = 0 by decide] at x
            omega
          · rw [pl] at c
            rcases d.2 with d | d
            · rw [d, show (-2 : Int32).toInt = -2 by decide] at w1
              omega
            · rw [w1, Int.toNat_natCast] at d
              omega
          · rw [pl] at c
            rw [w1, Int.toNat_natCast]
            omega
  exact e_X5_leastBroken (L (2 ^ n + 1) (-2) 0 0 (by decide) (Nat.zero_le _) (by omega) rfl)
theorem w_core_L {g : gT} {h : mh_T} {P : Int32 → mh_T → Prop} {n m : Nat} {H : Nat → Bool} (en : (mI h 45 52).toInt = (n : Int)) (hn : n ≤ 8) (em : (mI h 45 51).toInt = (m : Int)) (hm9 : m ≤ 9) (hH : ∀ s, s < 2 ^ n → (H s = true ↔ CL (fun j => mI h 45 j) n m s)) (hp : P (crf H (2 ^ n)) h) : ME g uX11_core 22 [.ref 11, .int (-2), .int 0] [] h (qI P) := by
  have n52 : Int32.toNatClampNeg 52 = 52 := by decide
  have p := p2n hn
  have pm : ((1 <<< ((mI h 45 52) &&& 31)) - 1).toInt = ((2 ^ n : Nat) : Int) - 1 := i_sub (shl_m en (by omega)) (show (1 : Int32).toInt = 1 by decide) (by omega)
  have L : ∀ (q : Nat) (l1 l2 : Int32) (s : Nat), l2.toInt = (s : Int) → s ≤ 2 ^ n → 2 ^ n - s < q → l1 = crf H s → ME g uX11_core 22 [.ref 11, .int l1, .int l2] [] h (qI P) := by
    intro q
    induction q with
    | zero => intro l1 l2 s _ _ hq; exact absurd hq (Nat.not_lt_zero _)
    | succ q ih =>
      intro l1 l2 s e2 hs hq e1
      have e2' := i_inc e2 (by omega)
      have es : l2 = Int32.ofNat s := i_of e2 (by omega)
      refine r_X11_core_22 l1 l2 (e_X11_allLines ?_)
      rw [n52]
      refine ⟨fun z => ?_, fun z => ?_⟩
      · rw [i_lt, pm, e2] at z
        have : s = 2 ^ n := by omega
        subst this
        rw [e1]
        exact hp
      · rw [i_lt, pm, e2] at z
        have stay : ¬ (H s = false ∧ (crf H s = -2 ∨ pcn s < pcn (crf H s).toInt.toNat)) → ME g uX11_core 22 [.ref 11, .int l1, .int (l2 + 1)] [] h (qI P) := fun c => ih l1 (l2 + 1) (s + 1) e2' (by omega) (by omega) (by
          show l1 = if _ then _ else _
          rw [if_neg c]
          exact e1)
        have take : (H s = false ∧ (crf H s = -2 ∨ pcn s < pcn (crf H s).toInt.toNat)) → ME g uX11_core 22 [.ref 11, .int l2, .int (l2 + 1)] [] h (qI P) := fun c => ih l2 (l2 + 1) (s + 1) e2' (by omega) (by omega) (by
          show l2 = if _ then _ else _
          rw [if_pos c]
          exact es)
        have cr := crf_R (H := H) s (by omega)
        rw [← e1] at cr stay take
        have hs' := hH s (by omega)
        have yes : CL (fun j => mI h 45 j) n m s → ¬ H s = false := fun c d => absurd (hs'.mpr c) (by rw [d]; decide)
        have nope : ¬ CL (fun j => mI h 45 j) n m s → H s = false := fun c => Bool.eq_false_iff.mpr (fun d => c (hs'.mp d))
        refine ⟨fun y => w_canLines l2 e2 (by omega) en hn em hm9 (fun c => ⟨fun _ => stay (fun d => yes c d.1), fun d => absurd d (by decide)⟩) (fun c => ⟨fun d => absurd rfl d, fun _ => take ⟨nope c, Or.inl y⟩⟩), fun y => ?_⟩
        obtain ⟨w, w1, w2⟩ := cr.resolve_left y
        refine w_bits l2 e2 (by omega) (w_bits l1 w1 (by omega) ⟨fun c => stay (fun d => ?_), fun c => w_canLines l2 e2 (by omega) en hn em hm9 (fun c' => ⟨fun _ => stay (fun d => yes c' d.1), fun d => absurd d (by decide)⟩) (fun c' => ⟨fun d => absurd rfl d, fun _ => take ⟨nope c', Or.inr ?_⟩⟩)⟩)
        · rw [pl] at c
          rcases d.2 with d | d
          · exact y d
          · rw [w1, Int.toNat_natCast] at d
            omega
        · rw [pl] at c
          rw [w1, Int.toNat_natCast]
          omega
  exact L (2 ^ n + 1) (-2) 0 0 (by decide) (Nat.zero_le _) (by omega) rfl
/-- the greatest of some numbers -/
def mxC (H : Nat → Prop) (c : Nat → Nat) (k : Nat) (r : Int32) : Prop := (∀ s, s < k → H s → (c s : Int) ≤ r.toInt) ∧ 0 ≤ r.toInt ∧ r.toInt ≤ 9 ∧ (r = 0 ∨ ∃ s, s < k ∧ H s ∧ r.toInt = (c s : Int))
theorem v_mostHeld {g : gT} {h : mh_T} {P : Int32 → mh_T → Prop} {n : Nat} (en : (mI h 7 1).toInt = (n : Int)) (hn : n ≤ 8) (hp : ∀ r, mxC (fun s => ¬ mI h 31 s = 0) pcn (2 ^ n) r → P r h) : MCi g yX5_mostHeld uX5_mostHeld [.ref 7] h P := by
  have p := p2n hn
  have pm := shl_m en (by omega)
  have L : ∀ (q : Nat) (l1 l2 : Int32) (s : Nat), l2.toInt = (s : Int) → s ≤ 2 ^ n → 2 ^ n - s < q → mxC (fun s => ¬ mI h 31 s = 0) pcn s l1 → ME g uX5_mostHeld 4 [.ref 7, .int l1, .int l2] [] h (qI P) := by
    intro q
    induction q with
    | zero => intro l1 l2 s _ _ hq; exact absurd hq (Nat.not_lt_zero _)
    | succ q ih =>
      intro l1 l2 s e2 hs hq e1
      have e2' := i_inc e2 (by omega)
      refine r_X5_mostHeld_4 l1 l2 ⟨fun z => ?_, fun z => ⟨?_, ?_⟩⟩
      · rw [i_le, pm, e2] at z
        have : s = 2 ^ n := by omega
        subst this
        exact hp l1 e1
      · rw [i_le, pm, e2] at z
        exact i_vp e2 (by omega)
      · rw [i_le, pm, e2] at z
        rw [i_nat e2]
        have c9 : pcn s ≤ 9 := s9_le _
        refine ⟨fun y => ih l1 (l2 + 1) (s + 1) e2' (by omega) (by omega) ⟨fun i hi hh => ?_, e1.2.1, e1.2.2.1, ?_⟩, fun y => v_bc l2 e2 (by omega) (fun x6 ex => ih x6 (l2 + 1) (s + 1) e2' (by omega) (by omega) ?_)⟩
        · by_cases w : i = s
          · subst w; exact absurd y hh
          · exact e1.1 i (by omega) hh
        · rcases e1.2.2.2 with a | ⟨i, i1, i2⟩
          · exact Or.inl a
          · exact Or.inr ⟨i, by omega, i2⟩
        · by_cases w : l1 < Int32.ofNat (pcn s)
          · rw [if_pos w] at ex
            rw [i_lt, pcn_i] at w
            rw [ex]
            unfold mxC
            rw [pcn_i]
            refine ⟨fun i hi hh => ?_, by omega, by omega, Or.inr ⟨s, by omega, y, rfl⟩⟩
            by_cases w' : i = s
            · subst w'; omega
            · have := e1.1 i (by omega) hh
              omega
          · rw [if_neg w] at ex
            rw [i_lt, pcn_i] at w
            rw [ex]
            refine ⟨fun i hi hh => ?_, e1.2.1, e1.2.2.1, ?_⟩
            · by_cases w' : i = s
              · subst w'; omega
              · exact e1.1 i (by omega) hh
            · rcases e1.2.2.2 with a | ⟨i, i1, i2⟩
              · exact Or.inl a
              · exact Or.inr ⟨i, by omega, i2⟩
  exact e_X5_mostHeld (L (2 ^ n + 1) 0 0 0 (by decide) (Nat.zero_le _) (by omega) ⟨fun s hs => absurd hs (Nat.not_lt_zero _), by decide, by decide, Or.inl rfl⟩)
theorem w_game_L {g : gT} {h : mh_T} {P : Int32 → mh_T → Prop} {n m : Nat} (en : (mI h 45 52).toInt = (n : Int)) (hn : n ≤ 8) (em : (mI h 45 51).toInt = (m : Int)) (hm9 : m ≤ 9) (hp : ∀ r, mxC (fun _ => True) (fun v => pcn (sv (fun j => mI h 45 j) n v).toInt.toNat) (2 ^ m) r → P r h) : ME g uX11_game 21 [.ref 11, .int 0, .int 0] [] h (qI P) := by
  have n51 : Int32.toNatClampNeg 51 = 51 := by decide
  have p := p2n hn
  have m2 := m2n hm9
  have pm := shl_m em hm9
  have L : ∀ (q : Nat) (l1 l2 : Int32) (v : Nat), l2.toInt = (v : Int) → v ≤ 2 ^ m → 2 ^ m - v < q → mxC (fun _ => True) (fun v => pcn (sv (fun j => mI h 45 j) n v).toInt.toNat) v l1 → ME g uX11_game 21 [.ref 11, .int l1, .int l2] [] h (qI P) := by
    intro q
    induction q with
    | zero => intro l1 l2 v _ _ hq; exact absurd hq (Nat.not_lt_zero _)
    | succ q ih =>
      intro l1 l2 v e2 hv hq e1
      have e2' := i_inc e2 (by omega)
      have ev : l2 = Int32.ofNat v := i_of e2 (by omega)
      refine r_X11_game_21 l1 l2 ⟨fun z => ?_, fun z => ?_⟩
      · rw [n51, i_le, pm, e2] at z
        have : v = 2 ^ m := by omega
        subst this
        exact hp l1 e1
      · rw [n51, i_le, pm, e2] at z
        obtain ⟨x, x1, x2, x3⟩ := sv_nat (f := fun j => mI h 45 j) (v := l2) hn
        have xv : pcn (sv (fun j => mI h 45 j) n v).toInt.toNat = pcn x := by
          show pcn (slb _ (Int32.ofNat v) n).toInt.toNat = _
          rw [← ev, x1, Int.toNat_natCast]
        have c9 : pcn x ≤ 9 := s9_le _
        refine w_linesBy l2 en hn (w_bits _ x1 (by omega) ⟨fun y => ih l1 (l2 + 1) (v + 1) e2' (by omega) (by omega) ⟨fun i hi _ => ?_, e1.2.1, e1.2.2.1, ?_⟩, fun y => w_linesBy l2 en hn (w_bits _ x1 (by omega) (ih _ (l2 + 1) (v + 1) e2' (by omega) (by omega) ?_))⟩)
        · rw [i_le, pcn_i] at y
          by_cases w : i = v
          · subst w
            show ((pcn (sv (fun j => mI h 45 j) n i).toInt.toNat : Nat) : Int) ≤ _
            rw [xv]
            exact y
          · exact e1.1 i (by omega) trivial
        · rcases e1.2.2.2 with a | ⟨i, i1, i2⟩
          · exact Or.inl a
          · exact Or.inr ⟨i, by omega, i2⟩
        · rw [i_le, pcn_i] at y
          unfold mxC
          rw [pcn_i]
          refine ⟨fun i hi _ => ?_, by omega, by omega, Or.inr ⟨v, by omega, trivial, by show _ = ((pcn (sv (fun j => mI h 45 j) n v).toInt.toNat : Nat) : Int); rw [xv]⟩⟩
          by_cases w : i = v
          · subst w
            show ((pcn (sv (fun j => mI h 45 j) n i).toInt.toNat : Nat) : Int) ≤ _
            rw [xv]
            exact Int.le_refl _
          · have := e1.1 i (by omega) trivial
            omega
  exact L (2 ^ m + 1) 0 0 0 (by decide) (Nat.zero_le _) (Nat.lt_succ_of_le (Nat.sub_le _ _)) ⟨fun s hs => absurd hs (Nat.not_lt_zero _), by decide, by decide, Or.inl rfl⟩
theorem game_u {f : Nat → Int32} {n m : Nat} {r r' : Int32} {H : Nat → Prop} (hn : n ≤ 8) (hH : ∀ s, s < 2 ^ n → (H s ↔ CL f n m s)) (a : mxC H pcn (2 ^ n) r) (b : mxC (fun _ => True) (fun v => pcn (sv f n v).toInt.toNat) (2 ^ m) r') : r = r' := by
  have p := p2n hn
  refine Int32.toInt_inj.mp (Int.le_antisymm ?_ ?_)
  · rcases a.2.2.2 with q | ⟨s, s1, s2, s3⟩
    · rw [q, show (0 : Int32).toInt = 0 by decide]; exact b.2.1
    · obtain ⟨v, v1, v2⟩ := (hH s s1).mp s2
      have k := b.1 v v1 trivial
      obtain ⟨x, x1, x2, x3⟩ := sv_nat (f := f) (v := Int32.ofNat v) hn
      have le : pcn s ≤ pcn x := s9_mono (fun t ht hx => by
        rw [← x3]
        by_cases c : t < 8
        · exact v2 t c hx
        · rw [bt_hi (by omega) (by omega)] at hx; cases hx)
      have e : (sv f n v).toInt.toNat = x := by rw [show (sv f n v).toInt = (x : Int) from x1, Int.toNat_natCast]
      dsimp only at k
      rw [e] at k
      omega
  · rcases b.2.2.2 with q | ⟨v, v1, -, v3⟩
    · rw [q, show (0 : Int32).toInt = 0 by decide]; exact a.2.1
    · obtain ⟨x, x1, x2, x3⟩ := sv_nat (f := f) (v := Int32.ofNat v) hn
      have e : (sv f n v).toInt.toNat = x := by rw [show (sv f n v).toInt = (x : Int) from x1, Int.toNat_natCast]
      have k := a.1 x x2 ((hH x x2).mpr ⟨v, v1, fun t _ hx => by rw [show sv f n v = Int32.ofNat x from x3]; exact hx⟩)
      rw [v3]
      dsimp only
      rw [e]
      exact k
