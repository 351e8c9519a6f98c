/-! hidden answers: which fit; disturbed looks -/
def fB (a : Nat → Int32) (s : Nat) (h : Int32) : Bool := decide (¬ a (17 + 4 * s + (fo a s h).toInt.toNat) = 0)
theorem fB_cg {a b : Nat → Int32} {s : Nat} (e : sE a s b s) (h : Int32) : fB a s h = fB b s h := by
  unfold fB
  rw [fo_cg e h, e.2.2 _ (fo_n b s h).2]
def aB (a : Nat → Int32) (h : Int32) : Nat → Bool
  | 0 => true
  | s + 1 => aB a h s && fB a s h
theorem aB_iff {a : Nat → Int32} {h : Int32} : ∀ n, aB a h n = true ↔ ∀ s, s < n → fB a s h = true
  | 0 => ⟨fun _ s hs => absurd hs (Nat.not_lt_zero _), fun _ => rfl⟩
  | n + 1 => by
    unfold aB
    rw [Bool.and_eq_true, aB_iff n]
    constructor
    · rintro ⟨q1, q2⟩ s hs
      by_cases e : s = n
      · rw [e]; exact q2
      · exact q1 s (by omega)
    · intro q
      exact ⟨fun s hs => q s (by omega), q n (by omega)⟩
theorem aB_cg {a b : Nat → Int32} (r : Rq a b) (h : Int32) : ∀ n, n ≤ sn b → aB a h n = aB b h n
  | 0, _ => rfl
  | s + 1, hn => by
    unfold aB
    rw [aB_cg r h s (by omega), fB_cg (r.2.2 s (by omega)) h]
def cN (p : Nat → Bool) : Nat → Nat
  | 0 => 0
  | k + 1 => cN p k + (if p k = true then 1 else 0)
theorem cN_le (p : Nat → Bool) : ∀ k, cN p k ≤ k
  | 0 => Nat.le_refl _
  | k + 1 => by
    have := cN_le p k
    show cN p k + (if p k = true then 1 else 0) ≤ k + 1
    split <;> omega
theorem cN_mono (p : Nat → Bool) {j : Nat} : ∀ {k}, j ≤ k → cN p j ≤ cN p k
  | 0, h => by
    have : j = 0 := by omega
    subst this
    exact Nat.le_refl _
  | k + 1, h => by
    by_cases e : j = k + 1
    · rw [e]; exact Nat.le_refl _
    · have := cN_mono p (j := j) (k := k) (by omega)
      show cN p j ≤ cN p k + (if p k = true then 1 else 0)
      omega
theorem cN_inj (p : Nat → Bool) {j k : Nat} (hj : p j = true) (hk : p k = true) (e : cN p j = cN p k) : j = k := by
  have s1 : cN p (j + 1) = cN p j + 1 := by
    show cN p j + (if p j = true then 1 else 0) = _
    rw [if_pos hj]
  have s2 : cN p (k + 1) = cN p k + 1 := by
    show cN p k + (if p k = true then 1 else 0) = _
    rw [if_pos hk]
  by_cases h1 : j < k
  · have := cN_mono p (j := j + 1) (k := k) (by omega)
    omega
  · by_cases h2 : k < j
    · have := cN_mono p (j := k + 1) (k := j) (by omega)
      omega
    · omega
theorem cN_cg {p q : Nat → Bool} : ∀ n, (∀ k, k < n → p k = q k) → cN p n = cN q n
  | 0, _ => rfl
  | n + 1, h => by
    show cN p n + (if p n = true then 1 else 0) = cN q n + (if q n = true then 1 else 0)
    rw [cN_cg n (fun k hk => h k (by omega)), h n (by omega)]
theorem twoP : ∀ p, p < 32 → (1 <<< (Int32.ofNat p &&& 31) : Int32).toBitVec = BitVec.twoPow 32 p := by decide
theorem bt_orA {x r : Int32} {p : Nat} (e : r.toInt = (p : Int)) (hp : p < 32) (q : Nat) : bt (x ||| (1 <<< (r &&& 31))) q = (bt x q || decide (p = q)) := by
  unfold bt
  rw [Int32.toBitVec_or, BitVec.getLsbD_or, i_of e (by omega), twoP p hp, BitVec.getLsbD_twoPow]
  by_cases h : p = q
  · subst h
    simp [hp]
  · simp [h]
theorem bt_nul {x : Int32} : x = 0 ↔ ∀ t, bt x t = false := by
  constructor
  · intro h t
    subst h
    unfold bt
    show (0#32).getLsbD t = false
    exact BitVec.getLsbD_zero
  · intro h
    apply Int32.toBitVec_inj.mp
    apply BitVec.eq_of_getLsbD_eq
    intro i hi
    exact (h i).trans (BitVec.getLsbD_zero (w := 32)).symm
theorem v_missed {g : gT} {h : mh_T} {P : Int32 → mh_T → Prop} (l1 : Int32) (tz : TZ (tC h)) (hp : ∀ x : Int32, (∀ t, bt x t = true ↔ t < sn (tC h) ∧ ¬ fB (tC h) t l1 = true) → P x h) : MCi g yX8_missed uX8_missed [.ref 3, .int l1] h P := by
  have n8 : sn (tC h) ≤ 8 := by unfold sn; have := tz.2.1; omega
  have en : (mI h 3 2).toInt = (sn (tC h) : Int) := by show (tC h 0).toInt = _; unfold sn; have := tz.1; omega
  have L : ∀ (n : Nat) (l2 l3 : Int32) (s : Nat), l3.toInt = (s : Int) → s ≤ sn (tC h) → sn (tC h) - s < n → (∀ t, bt l2 t = true ↔ t < s ∧ ¬ fB (tC h) t l1 = true) → ME g uX8_missed 4 [.ref 3, .int l1, .int l2, .int l3] [] h (qI P) := by
    intro n
    induction n with
    | zero => intro l2 l3 s _ _ hn; exact absurd hn (Nat.not_lt_zero _)
    | succ n ih =>
      intro l2 l3 s es hs hn hb
      refine r_X8_missed_4 l1 l2 l3 ⟨fun c => ?_, fun c => ?_⟩
      · have c := i_le.mp c
        have e : s = sn (tC h) := by omega
        rw [e] at hb
        exact hp l2 hb
      · have c := i_lt.mp (nle c)
        refine v_cellOf l3 l1 s es tz (by omega) (fun r er => ?_)
        have fr := (fo_n (tC h) s l1).2
        have ev : mI h 26 r.toNatClampNeg = tC h (17 + 4 * s + (fo (tC h) s l1).toInt.toNat) := by rw [i_nat er, ← tC_17, Nat.add_assoc]
        rw [ev]
        refine ⟨i_vp er (by omega), fun z => ih l2 (l3 + 1) (s + 1) (i_inc es (by omega)) (by omega) (by omega) (fun t => ?_), fun z x6 e6 => ih x6 (l3 + 1) (s + 1) (i_inc es (by omega)) (by omega) (by omega) (fun t => ?_)⟩
        · have f : fB (tC h) s l1 = true := by unfold fB; exact decide_eq_true z
          rw [hb t]
          constructor
          · rintro ⟨q1, q2⟩; exact ⟨by omega, q2⟩
          · rintro ⟨q1, q2⟩
            refine ⟨?_, q2⟩
            by_cases e : t = s
            · rw [e] at q2; exact absurd f q2
            · omega
        · have f : ¬ fB (tC h) s l1 = true := by unfold fB; exact fun w => (of_decide_eq_true w) z
          rw [e6, bt_orA es (by omega), Bool.or_eq_true, hb t, decide_eq_true_iff]
          constructor
          · rintro (⟨q1, q2⟩ | q)
            · exact ⟨by omega, q2⟩
            · rw [← q]; exact ⟨by omega, f⟩
          · rintro ⟨q1, q2⟩
            by_cases e : t = s
            · exact Or.inr e.symm
            · exact Or.inl ⟨by omega, q2⟩
  refine e_X8_missed l1 (L 9 0 0 0 (by decide) (Nat.zero_le _) (by omega) (fun t => ?_))
  have := (bt_nul (x := 0)).mp rfl t
  rw [this]
  constructor
  · intro z; cases z
  · rintro ⟨q, -⟩; omega
/-- nothing is missed: all fit -/
theorem ms_0 {a : Nat → Int32} {x h : Int32} (hx : ∀ t, bt x t = true ↔ t < sn a ∧ ¬ fB a t h = true) : x = 0 ↔ aB a h (sn a) = true := by
  rw [bt_nul, aB_iff]
  constructor
  · intro q s hs
    have := q s
    by_cases f : fB a s h = true
    · exact f
    · rw [(hx s).mpr ⟨hs, f⟩] at this
      cases this
  · intro q t
    cases b : bt x t
    · rfl
    · obtain ⟨q1, q2⟩ := (hx t).mp b
      exact absurd (q t q1) q2
theorem v_fitsAll {g : gT} {h : mh_T} {P : Int32 → mh_T → Prop} (l1 l2 : Int32) (tz : TZ (h.1 45)) (h1 : (∀ s : Nat, s < sn (h.1 45) → ¬ (s : Int) = l2.toInt → fB (h.1 45) s l1 = true) → P 1 h) (h0 : ¬ (∀ s : Nat, s < sn (h.1 45) → ¬ (s : Int) = l2.toInt → fB (h.1 45) s l1 = true) → P 0 h) : MCi g yX11_fitsAll uX11_fitsAll [.ref 11, .int l1, .int l2] h P := by
  have n8 : sn (h.1 45) ≤ 8 := by unfold sn; have := tz.2.1; omega
  have en : (mI h 45 (Int32.toNatClampNeg 0)).toInt = (sn (h.1 45) : Int) := by show (h.1 45 0).toInt = _; unfold sn; have := tz.1; omega
  have L : ∀ (n : Nat) (l3 l4 : Int32) (s : Nat), l4.toInt = (s : Int) → s ≤ sn (h.1 45) → sn (h.1 45) - s < n → ((l3 = 1 ∧ ∀ t : Nat, t < s → ¬ (t : Int) = l2.toInt → fB (h.1 45) t l1 = true) ∨ (l3 = 0 ∧ ¬ ∀ t : Nat, t < s → ¬ (t : Int) = l2.toInt → fB (h.1 45) t l1 = true)) → ME g uX11_fitsAll 5 [.ref 11, .int l1, .int l2, .int l3, .int l4] [] h (qI P) := by
    intro n
    induction n with
    | zero => intro l3 l4 s _ _ hn; exact absurd hn (Nat.not_lt_zero _)
    | succ n ih =>
      intro l3 l4 s es hs hn inv
      refine r_X11_fitsAll_5 l1 l2 l3 l4 ⟨fun c => ?_, fun c => ?_⟩
      · have c := i_le.mp c
        have e : s = sn (h.1 45) := by omega
        rw [e] at inv
        rcases inv with ⟨q1, q2⟩ | ⟨q1, q2⟩
        · rw [q1]; exact ⟨Or.inr rfl, h1 q2⟩
        · rw [q1]; exact ⟨Or.inl rfl, h0 q2⟩
      · have c := i_lt.mp (nle c)
        have s8 : s < 8 := by omega
        have nx : ∀ l3 : Int32, ((l3 = 1 ∧ ∀ t : Nat, t < s + 1 → ¬ (t : Int) = l2.toInt → fB (h.1 45) t l1 = true) ∨ (l3 = 0 ∧ ¬ ∀ t : Nat, t < s + 1 → ¬ (t : Int) = l2.toInt → fB (h.1 45) t l1 = true)) → ME g uX11_fitsAll 5 [.ref 11, .int l1, .int l2, .int l3, .int (l4 + 1)] [] h (qI P) := fun l3 i => ih l3 (l4 + 1) (s + 1) (i_inc es (by omega)) (by omega) (by omega) i
        refine ⟨fun z => nx 0 (Or.inr ⟨rfl, fun w => ?_⟩), fun z => ⟨fun y => nx 1 (Or.inl ⟨rfl, fun t ht hne => ?_⟩), fun y => ?_⟩⟩
        · rcases inv with ⟨q1, q2⟩ | ⟨q1, q2⟩
          · rw [q1] at z; exact absurd z (by decide)
          · exact q2 (fun t ht hne => w t (by omega) hne)
        · rcases inv with ⟨q1, q2⟩ | ⟨q1, q2⟩
          · by_cases e : t = s
            · exact absurd (by rw [e, ← es, y]) hne
            · exact q2 t (by omega) hne
          · exact absurd q1 z
        · have q2 : ∀ t : Nat, t < s → ¬ (t : Int) = l2.toInt → fB (h.1 45) t l1 = true := by
            rcases inv with ⟨q1, q2⟩ | ⟨q1, q2⟩
            · exact q2
            · exact absurd q1 z
          have fr := fo_n (h.1 45) s l1
          have ib := i_17 es s8 fr.1 fr.2
          refine v_fitted l4 l1 s es s8 ?_
          rw [i_nat ib]
          have ts := (tz.2.2 s (by omega)).2
          have nn : 0 ≤ (h.1 45 (17 + 4 * s + (fo (h.1 45) s l1).toInt.toNat)).toInt := by
            unfold TP at ts
            have f4 := fr.2
            have : (fo (h.1 45) s l1).toInt.toNat = 0 ∨ (fo (h.1 45) s l1).toInt.toNat = 1 ∨ (fo (h.1 45) s l1).toInt.toNat = 2 ∨ (fo (h.1 45) s l1).toInt.toNat = 3 := by omega
            rcases this with w | w | w | w <;> rw [w]
            · rw [Nat.add_zero]; exact ts.1
            · exact ts.2.1
            · exact ts.2.2.1
            · exact ts.2.2.2.1
          refine ⟨i_vp ib (by omega), fun q => nx 0 (Or.inr ⟨rfl, fun w => ?_⟩), fun q => nx 1 (Or.inl ⟨rfl, fun t ht hne => ?_⟩)⟩
          · have q := i_le.mp q
            rw [i_0] at q
            have w' := w s (by omega) (fun v => y (Int32.toInt_inj.mp (by rw [es, v])))
            unfold fB at w'
            have q : (h.1 45 (17 + 4 * s + (fo (h.1 45) s l1).toInt.toNat)).toInt ≤ 0 := q
            exact (of_decide_eq_true w') (Int32.toInt_inj.mp (by rw [i_0]; omega))
          · by_cases e : t = s
            · rw [e]
              unfold fB
              refine decide_eq_true (fun v => q ?_)
              show h.1 45 (17 + 4 * s + (fo (h.1 45) s l1).toInt.toNat) ≤ 0
              rw [v]
              decide
            · exact q2 t (by omega) hne
  exact e_X11_fitsAll l1 l2 (L 9 1 0 0 (by decide) (Nat.zero_le _) (by omega) (Or.inl ⟨rfl, fun t ht => absurd ht (Nat.not_lt_zero _)⟩))
abbrev pB (a : Nat → Int32) (k : Nat) : Bool := aB a (Int32.ofNat k) (sn a)
theorem v_fitting {g : gT} {h : mh_T} {P : Int32 → mh_T → Prop} (hG : GI h) (tz : TZ (tC h)) (hp : ∀ r : Int32, r.toInt = (cN (pB (tC h)) (2 ^ lk3 h) : Int) → P r h) : MCi g yX8_fitting uX8_fitting [.ref 3] h P := by
  have L : ∀ (n : Nat) (l1 l2 : Int32) (k : Nat), l2.toInt = (k : Int) → k ≤ 2 ^ lk3 h → 2 ^ lk3 h - k < n → l1.toInt = (cN (pB (tC h)) k : Int) → ME g uX8_fitting 4 [.ref 3, .int l1, .int l2] [] h (qI P) := by
    intro n
    induction n with
    | zero => intro l1 l2 k _ _ hn; exact absurd hn (Nat.not_lt_zero _)
    | succ n ih =>
      intro l1 l2 k e2 hk hn e1
      refine r_X8_fitting_4 l1 l2 (v_hiddenAnswers hG (fun v ev n6 => ⟨fun c => ?_, fun c => v_missed l2 tz (fun x hx => ?_)⟩))
      · have c := i_le.mp c
        have e : k = 2 ^ lk3 h := by omega
        rw [e] at e1
        exact hp l1 e1
      · have c := i_lt.mp (nle c)
        have p := (p2_64 n6).2
        have cl := cN_le (pB (tC h)) k
        have iff := ms_0 hx
        rw [i_of e2 (by omega)] at iff
        refine ⟨fun z => ih l1 (l2 + 1) (k + 1) (i_inc e2 (by omega)) (by omega) (by omega) ?_, fun z => ih (l1 + 1) (l2 + 1) (k + 1) (i_inc e2 (by omega)) (by omega) (by omega) ?_⟩
        · rw [e1]
          show _ = ((cN (pB (tC h)) k + (if pB (tC h) k = true then 1 else 0) : Nat) : Int)
          rw [if_neg (fun w => z (iff.mpr w))]
          rfl
        · rw [i_inc e1 (by omega)]
          show _ = ((cN (pB (tC h)) k + (if pB (tC h) k = true then 1 else 0) : Nat) : Int)
          rw [if_pos (iff.mp z)]
  have n6 : lk3 h ≤ 6 := by have f : R 0 6 (mI h 3 1) := GI_rd hG 3 1 rfl; have := f.2; unfold lk3; omega
  have p := p2_64 n6
  exact e_X8_fitting (L 66 0 0 0 (by decide) (Nat.zero_le _) (by omega) rfl)
/-- the i-th that fits -/
def NT (p : Nat → Bool) (N : Nat) (i r : Int32) : Prop := ∃ k : Nat, k < N ∧ p k = true ∧ (cN p k : Int) = i.toInt ∧ r.toInt = (k : Int)
theorem v_fittingAt {g : gT} {h : mh_T} {P : Int32 → mh_T → Prop} (l1 : Int32) (hG : GI h) (tz : TZ (tC h)) (h1 : ∀ r : Int32, NT (pB (tC h)) (2 ^ lk3 h) l1 r → P r h) (h0 : (∀ k, k < 2 ^ lk3 h → pB (tC h) k = true → ¬ (cN (pB (tC h)) k : Int) = l1.toInt) → P (-1) h) : MCi g yX8_fittingAt uX8_fittingAt [.ref 3, .int l1] h P := by
  have L : ∀ (n : Nat) (l2 l3 : Int32) (k : Nat), l3.toInt = (k : Int) → k ≤ 2 ^ lk3 h → 2 ^ lk3 h - k < n → l2.toInt = (cN (pB (tC h)) k : Int) → (∀ j, j < k → pB (tC h) j = true → ¬ (cN (pB (tC h)) j : Int) = l1.toInt) → ME g uX8_fittingAt 4 [.ref 3, .int l1, .int l2, .int l3] [] h (qI P) := by
    intro n
    induction n with
    | zero => intro l2 l3 k _ _ hn; exact absurd hn (Nat.not_lt_zero _)
    | succ n ih =>
      intro l2 l3 k e3 hk hn e2 inv
      refine r_X8_fittingAt_4 l1 l2 l3 (v_hiddenAnswers hG (fun v ev n6 => ⟨fun c => ?_, fun c => v_missed l3 tz (fun x hx => ?_)⟩))
      · have c := i_le.mp c
        have e : k = 2 ^ lk3 h := by omega
        rw [e] at inv
        exact h0 inv
      · have c := i_lt.mp (nle c)
        have p := (p2_64 n6).2
        have cl := cN_le (pB (tC h)) k
        have iff := ms_0 hx
        rw [i_of e3 (by omega)] at iff
        have sk : cN (pB (tC h)) (k + 1) = cN (pB (tC h)) k + (if pB (tC h) k = true then 1 else 0) := rfl
        refine ⟨fun z => ih l2 (l3 + 1) (k + 1) (i_inc e3 (by omega)) (by omega) (by omega) ?_ (fun j hj pj => ?_), fun z => ⟨fun y => ih (l2 + 1) (l3 + 1) (k + 1) (i_inc e3 (by omega)) (by omega) (by omega) ?_ (fun j hj pj => ?_), fun y => h1 l3 ⟨k, by omega, iff.mp z, by rw [← e2, y], e3⟩⟩⟩
        · rw [e2, sk, if_neg (fun w => z (iff.mpr w))]
          rfl
        · by_cases e : j = k
          · rw [e] at pj; exact absurd (iff.mpr pj) z
          · exact inv j (by omega) pj
        · rw [i_inc e2 (by omega), sk, if_pos (iff.mp z)]
        · by_cases e : j = k
          · rw [e]; exact fun w => y (Int32.toInt_inj.mp (by rw [e2, w]))
          · exact inv j (by omega) pj
  have n6 : lk3 h ≤ 6 := by have f : R 0 6 (mI h 3 1) := GI_rd hG 3 1 rfl; have := f.2; unfold lk3; omega
  have p := p2_64 n6
  exact e_X8_fittingAt l1 (L 66 0 0 0 (by decide) (Nat.zero_le _) (by omega) rfl (fun j hj => absurd hj (Nat.not_lt_zero _)))
theorem v_fittingAnswer {g : gT} {h : mh_T} {P : Int32 → mh_T → Prop} (l1 : Int32) (hG : GI h) (tz : TZ (h.1 45)) (h1 : ∀ r : Int32, NT (pB (h.1 45)) (2 ^ lk45 h) l1 r → P r h) (h0 : ∀ r : Int32, (∀ k, k < 2 ^ lk45 h → pB (h.1 45) k = true → ¬ (cN (pB (h.1 45)) k : Int) = l1.toInt) → r.toInt = (cN (pB (h.1 45)) (2 ^ lk45 h) : Int) - 1000 → cN (pB (h.1 45)) (2 ^ lk45 h) ≤ 64 → P r h) : MCi g yX11_fittingAnswer uX11_fittingAnswer [.ref 11, .int l1] h P := by
  have L : ∀ (n : Nat) (l2 l3 : Int32) (k : Nat), l3.toInt = (k : Int) → k ≤ 2 ^ lk45 h → 2 ^ lk45 h - k < n → l2.toInt = (cN (pB (h.1 45)) k : Int) → (∀ j, j < k → pB (h.1 45) j = true → ¬ (cN (pB (h.1 45)) j : Int) = l1.toInt) → ME g uX11_fittingAnswer 4 [.ref 11, .int l1, .int l2, .int l3] [] h (qI P) := by
    intro n
    induction n with
    | zero => intro l2 l3 k _ _ hn; exact absurd hn (Nat.not_lt_zero _)
    | succ n ih =>
      intro l2 l3 k e3 hk hn e2 inv
      refine r_X11_fittingAnswer_4 l1 l2 l3 (v_hiddenMany hG (fun v ev n6 => ⟨fun c => ?_, fun c => ?_⟩))
      · have c := i_le.mp c
        have e : k = 2 ^ lk45 h := by omega
        have p := (p2_64 n6).2
        have cl := cN_le (pB (h.1 45)) k
        rw [e] at inv e2 cl
        exact h0 _ inv (by rw [i_sub e2 (show (1000 : Int32).toInt = 1000 from by decide) (by omega)]) (by omega)
      · have c := i_lt.mp (nle c)
        have p := (p2_64 n6).2
        have cl := cN_le (pB (h.1 45)) k
        have iff : (∀ s : Nat, s < sn (h.1 45) → ¬ (s : Int) = (-1 : Int32).toInt → fB (h.1 45) s l3 = true) ↔ pB (h.1 45) k = true := by
          show _ ↔ aB (h.1 45) (Int32.ofNat k) (sn (h.1 45)) = true
          rw [aB_iff, ← i_of e3 (by omega)]
          exact ⟨fun q s hs => q s hs (by rw [show (-1 : Int32).toInt = -1 from by decide]; omega), fun q s hs _ => q s hs⟩
        have sk : cN (pB (h.1 45)) (k + 1) = cN (pB (h.1 45)) k + (if pB (h.1 45) k = true then 1 else 0) := rfl
        refine v_fitsAll l3 (-1) tz (fun z => ⟨fun _ => ⟨fun y => ih (l2 + 1) (l3 + 1) (k + 1) (i_inc e3 (by omega)) (by omega) (by omega) ?_ (fun j hj pj => ?_), fun y => h1 l3 ⟨k, by omega, iff.mp z, by rw [← e2, y], e3⟩⟩, fun y => absurd y (by decide)⟩) (fun z => ⟨fun y => absurd rfl y, fun _ => ih l2 (l3 + 1) (k + 1) (i_inc e3 (by omega)) (by omega) (by omega) ?_ (fun j hj pj => ?_)⟩)
        · rw [i_inc e2 (by omega), sk, if_pos (iff.mp z)]
        · by_cases e : j = k
          · rw [e]; exact fun w => y (Int32.toInt_inj.mp (by rw [e2, w]))
          · exact inv j (by omega) pj
        · rw [e2, sk, if_neg (fun w => z (iff.mpr w))]
          rfl
        · by_cases e : j = k
          · rw [e] at pj; exact absurd (iff.mpr pj) z
          · exact inv j (by omega) pj
  have n6 : lk45 h ≤ 6 := by have f : R 0 6 (mI h 45 50) := GI_rd hG 45 50 rfl; have := f.2; unfold lk45; omega
  have p := p2_64 n6
  exact e_X11_fittingAnswer l1 (L 66 0 0 0 (by decide) (Nat.zero_le _) (by omega) rfl (fun j hj => absurd hj (Nat.not_lt_zero _)))
-- disturbed
theorem v_firstDisturbed {g : gT} {h : mh_T} {P : Int32 → mh_T → Prop} (hG : GI h) (tz : TZ (tC h)) (hp : P (dsF (tC h) (sn (tC h)) (lk3 h) 7 0) h) : MCi g yX8_firstDisturbed uX8_firstDisturbed [.ref 3] h P := by
  have n8 : sn (tC h) ≤ 8 := by unfold sn; have := tz.2.1; omega
  have en : (mI h 3 2).toInt = (sn (tC h) : Int) := by show (tC h 0).toInt = _; unfold sn; have := tz.1; omega
  have f : R 0 6 (mI h 3 1) := GI_rd hG 3 1 rfl
  have f1 := f.1
  have f2 := f.2
  have el : (mI h 3 1).toInt = (lk3 h : Int) := by unfold lk3; omega
  have n6 : lk3 h ≤ 6 := by unfold lk3; omega
  have L : ∀ (m : Nat) (l1 : Int32) (i : Nat), l1.toInt = (i : Int) → i + m = 7 → P (dsF (tC h) (sn (tC h)) (lk3 h) m i) h → ME g uX8_firstDisturbed 2 [.ref 3, .int l1, .retAddr 0, .retAddr 0, .retAddr 0] [] h (qI P) := by
    intro m
    induction m with
    | zero =>
      intro l1 i e1 hm hq
      exact r_X8_firstDisturbed_2 l1 ⟨fun _ => hq, fun c => absurd (i_le.mpr (by omega)) c⟩
    | succ m ih =>
      intro l1 i e1 hm hq
      unfold dsF at hq
      refine r_X8_firstDisturbed_2 l1 ⟨fun c => ?_, fun c => ?_⟩
      · have c := i_le.mp c
        rw [if_pos (by omega)] at hq
        exact hq
      · have c := i_lt.mp (nle c)
        rw [if_neg (by omega)] at hq
        have ei := i_of e1 (by omega)
        rw [← ei] at hq
        have I : ∀ (k : Nat) (l2 l3 : Int32) (s : Nat), l3.toInt = (s : Int) → s + k = 9 → (diF (tC h) l1 (sn (tC h)) k s l2 = true → P l1 h) → (diF (tC h) l1 (sn (tC h)) k s l2 = false → P (dsF (tC h) (sn (tC h)) (lk3 h) m (i + 1)) h) → ME g uX8_firstDisturbed 14 [.ref 3, .int l1, .int l2, .int l3, .retAddr 0] [] h (qI P) := by
          intro k
          induction k with
          | zero =>
            intro l2 l3 s es hk q1 q0
            exact r_X8_firstDisturbed_14 l1 l2 l3 ⟨fun _ => ih (l1 + 1) (i + 1) (i_inc e1 (by omega)) (by omega) (q0 rfl), fun c => absurd (i_le.mpr (by omega)) c⟩
          | succ k ik =>
            intro l2 l3 s es hk q1 q0
            unfold diF at q1 q0
            refine r_X8_firstDisturbed_14 l1 l2 l3 ⟨fun c => ?_, fun c => ?_⟩
            · have c := i_le.mp c
              rw [if_pos (by omega)] at q0
              exact ih (l1 + 1) (i + 1) (i_inc e1 (by omega)) (by omega) (q0 rfl)
            · have c := i_lt.mp (nle c)
              rw [if_neg (by omega)] at q1 q0
              refine v_onesOfC l3 l1 s es tz (by omega) ?_
              have nx : ∀ o : Int32, (diF (tC h) l1 (sn (tC h)) k (s + 1) o = true → P l1 h) → (diF (tC h) l1 (sn (tC h)) k (s + 1) o = false → P (dsF (tC h) (sn (tC h)) (lk3 h) m (i + 1)) h) → ME g uX8_firstDisturbed 14 [.ref 3, .int l1, .int o, .int (l3 + 1), .retAddr 0] [] h (qI P) := fun o a b => ik o (l3 + 1) (s + 1) (i_inc es (by omega)) (by omega) a b
              refine ⟨fun z => ⟨fun _ => ?_, fun y => absurd z y⟩, fun z => ⟨fun y => ⟨fun w => absurd w z, fun _ => ?_⟩, fun y => ⟨fun w => ⟨fun v => absurd v z, fun _ => ?_⟩, fun w => ?_⟩⟩⟩
              · rw [if_pos z] at q1 q0
                exact nx l2 q1 q0
              · rw [if_neg z, if_pos y] at q1 q0
                exact nx _ q1 q0
              · rw [if_neg z, if_neg y, if_pos w] at q1 q0
                exact nx _ q1 q0
              · rw [if_neg z, if_neg y, if_neg w] at q1
                exact q1 rfl
        refine I 9 (-1) 0 0 (by decide) (by omega) (fun q => ?_) (fun q => ?_)
        · rw [if_pos q] at hq; exact hq
        · rw [if_neg (by rw [q]; decide)] at hq; exact hq
  exact e_X8_firstDisturbed (L 7 0 0 (by decide) (by omega) hp)
theorem v_disturbed {g : gT} {h : mh_T} {P : Int32 → mh_T → Prop} (hG : GI h) (tz : TZ (h.1 45)) (hp : P (dsF (h.1 45) (sn (h.1 45)) (lk45 h) 7 0) h) : ME g uX11_disturbed 19 [.ref 11, .int 0, .retAddr 0, .retAddr 0, .retAddr 0] [] h (qI P) := by
  have n8 : sn (h.1 45) ≤ 8 := by unfold sn; have := tz.2.1; omega
  have en : (mI h 45 (Int32.toNatClampNeg 0)).toInt = (sn (h.1 45) : Int) := by show (h.1 45 0).toInt = _; unfold sn; have := tz.1; omega
  have f : R 0 6 (mI h 45 50) := GI_rd hG 45 50 rfl
  have f1 := f.1
  have f2 := f.2
  have el : (mI h 45 (Int32.toNatClampNeg 50)).toInt = (lk45 h : Int) := by show (mI h 45 50).toInt = _; unfold lk45; omega
  have n6 : lk45 h ≤ 6 := by unfold lk45; omega
  have L : ∀ (m : Nat) (l1 : Int32) (i : Nat), l1.toInt = (i : Int) → i + m = 7 → P (dsF (h.1 45) (sn (h.1 45)) (lk45 h) m i) h → ME g uX11_disturbed 19 [.ref 11, .int l1, .retAddr 0, .retAddr 0, .retAddr 0] [] h (qI P) := by
    intro m
    induction m with
    | zero =>
      intro l1 i e1 hm hq
      exact r_X11_disturbed_19 l1 ⟨fun _ => hq, fun c => absurd (i_le.mpr (by omega)) c⟩
    | succ m ih =>
      intro l1 i e1 hm hq
      unfold dsF at hq
      refine r_X11_disturbed_19 l1 ⟨fun c => ?_, fun c => ?_⟩
      · have c := i_le.mp c
        rw [if_pos (by omega)] at hq
        exact hq
      · have c := i_lt.mp (nle c)
        rw [if_neg (by omega)] at hq
        have ei := i_of e1 (by omega)
        rw [← ei] at hq
        have I : ∀ (k : Nat) (l2 l3 : Int32) (s : Nat), l3.toInt = (s : Int) → s + k = 9 → (diF (h.1 45) l1 (sn (h.1 45)) k s l2 = true → P l1 h) → (diF (h.1 45) l1 (sn (h.1 45)) k s l2 = false → P (dsF (h.1 45) (sn (h.1 45)) (lk45 h) m (i + 1)) h) → ME g uX11_disturbed 34 [.ref 11, .int l1, .int l2, .int l3, .retAddr 0] [] h (qI P) := by
          intro k
          induction k with
          | zero =>
            intro l2 l3 s es hk q1 q0
            exact r_X11_disturbed_34 l1 l2 l3 ⟨fun _ => ih (l1 + 1) (i + 1) (i_inc e1 (by omega)) (by omega) (q0 rfl), fun c => absurd (i_le.mpr (by omega)) c⟩
          | succ k ik =>
            intro l2 l3 s es hk q1 q0
            unfold diF at q1 q0
            refine r_X11_disturbed_34 l1 l2 l3 ⟨fun c => ?_, fun c => ?_⟩
            · have c := i_le.mp c
              rw [if_pos (by omega)] at q0
              exact ih (l1 + 1) (i + 1) (i_inc e1 (by omega)) (by omega) (q0 rfl)
            · have c := i_lt.mp (nle c)
              rw [if_neg (by omega)] at q1 q0
              refine v_onesOfM l3 l1 s es (by omega) ?_
              have nx : ∀ o : Int32, (diF (h.1 45) l1 (sn (h.1 45)) k (s + 1) o = true → P l1 h) → (diF (h.1 45) l1 (sn (h.1 45)) k (s + 1) o = false → P (dsF (h.1 45) (sn (h.1 45)) (lk45 h) m (i + 1)) h) → ME g uX11_disturbed 34 [.ref 11, .int l1, .int o, .int (l3 + 1), .retAddr 0] [] h (qI P) := fun o a b => ik o (l3 + 1) (s + 1) (i_inc es (by omega)) (by omega) a b
              refine ⟨fun z => ⟨fun _ => ?_, fun y => absurd z y⟩, fun z => ⟨fun y => ⟨fun w => absurd w z, fun _ => ?_⟩, fun y => ⟨fun w => ⟨fun v => absurd v z, fun _ => ?_⟩, fun w => ?_⟩⟩⟩
              · rw [if_pos z] at q1 q0
                exact nx l2 q1 q0
              · rw [if_neg z, if_pos y] at q1 q0
                exact nx _ q1 q0
              · rw [if_neg z, if_neg y, if_pos w] at q1 q0
                exact nx _ q1 q0
              · rw [if_neg z, if_neg y, if_neg w] at q1
                exact q1 rfl
        refine I 9 (-1) 0 0 (by decide) (by omega) (fun q => ?_) (fun q => ?_)
        · rw [if_pos q] at hq; exact hq
        · rw [if_neg (by rw [q]; decide)] at hq; exact hq
  exact L 7 0 0 (by decide) (by omega) hp
