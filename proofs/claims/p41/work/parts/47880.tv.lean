/-! THE TABLE of both sides, as rows; the acts on rows -/
/-- the class's table as a row -/
def tC (h : mh_T) (j : Nat) : Int32 := if j = 0 then mI h 3 2 else if j < 9 then mI h 24 (j - 1) else if j < 17 then mI h 25 (j - 9) else mI h 26 (j - 17)
abbrev sn (a : Nat → Int32) : Nat := (a 0).toInt.toNat
/-- set s of one row is set q of the other -/
def sE (a : Nat → Int32) (s : Nat) (b : Nat → Int32) (q : Nat) : Prop := a (1 + s) = b (1 + q) ∧ a (9 + s) = b (9 + q) ∧ ∀ o, o < 4 → a (17 + 4 * s + o) = b (17 + 4 * q + o)
def cE (c : Nat → Int32) (s : Nat) (d : Nat → Int32) (q : Nat) : Prop := ∀ o, o < 4 → c (4 * s + o) = d (4 * q + o)
/-- a set's numbers -/
def TP (a : Nat → Int32) (s : Nat) : Prop := 0 ≤ (a (17 + 4 * s)).toInt ∧ 0 ≤ (a (17 + 4 * s + 1)).toInt ∧ 0 ≤ (a (17 + 4 * s + 2)).toInt ∧ 0 ≤ (a (17 + 4 * s + 3)).toInt ∧ (a (17 + 4 * s)).toInt + (a (17 + 4 * s + 1)).toInt + (a (17 + 4 * s + 2)).toInt + (a (17 + 4 * s + 3)).toInt ≤ 60
/-- a set of one look has two outcomes, and no more -/
def TS (a : Nat → Int32) (s : Nat) : Prop := ((a (9 + s) = -2 ∧ a (17 + 4 * s + 2) = 0 ∧ a (17 + 4 * s + 3) = 0) ∨ 0 ≤ (a (9 + s)).toInt) ∧ TP a s
def TZ (a : Nat → Int32) : Prop := 0 ≤ (a 0).toInt ∧ (a 0).toInt ≤ 8 ∧ ∀ s, s < sn a → TS a s
theorem TS_sE {a b : Nat → Int32} {s q : Nat} (h : sE a s b q) (t : TS b q) : TS a s := by
  have e0 := h.2.2 0 (by omega)
  rw [Nat.add_zero, Nat.add_zero] at e0
  unfold TS TP
  rw [h.2.1, e0, h.2.2 1 (by omega), h.2.2 2 (by omega), h.2.2 3 (by omega)]
  exact t
theorem TP_pm {f g : Nat → Int32} {s : Nat} {q : Nat → Nat} (t : TP f s) (hq : (q 0 = 0 ∧ q 1 = 1 ∧ q 2 = 2 ∧ q 3 = 3) ∨ (q 0 = 1 ∧ q 1 = 0 ∧ q 2 = 2 ∧ q 3 = 3) ∨ (q 0 = 1 ∧ q 1 = 0 ∧ q 2 = 3 ∧ q 3 = 2) ∨ (q 0 = 2 ∧ q 1 = 3 ∧ q 2 = 0 ∧ q 3 = 1)) (h : ∀ i, i < 4 → g (17 + 4 * s + i) = f (17 + 4 * s + q i)) : TP g s := by
  unfold TP at *
  have e0 := h 0 (by omega)
  have e1 := h 1 (by omega)
  have e2 := h 2 (by omega)
  have e3 := h 3 (by omega)
  rw [Nat.add_zero] at e0
  rcases hq with ⟨q0, q1, q2, q3⟩ | ⟨q0, q1, q2, q3⟩ | ⟨q0, q1, q2, q3⟩ | ⟨q0, q1, q2, q3⟩
  · rw [e0, e1, e2, e3, q0, q1, q2, q3]; simp only [Nat.add_zero]; omega
  · rw [e0, e1, e2, e3, q0, q1, q2, q3]; simp only [Nat.add_zero]; omega
  · rw [e0, e1, e2, e3, q0, q1, q2, q3]; simp only [Nat.add_zero]; omega
  · rw [e0, e1, e2, e3, q0, q1, q2, q3]; simp only [Nat.add_zero]; omega
def Rq (a b : Nat → Int32) : Prop := a 0 = b 0 ∧ TZ b ∧ ∀ s, s < sn b → sE a s b s
def Ce (b : Nat → Int32) (c d : Nat → Int32) : Prop := ∀ s, s < sn b → cE c s d s
theorem sE_rf (a : Nat → Int32) (s : Nat) : sE a s a s := ⟨rfl, rfl, fun _ _ => rfl⟩
theorem sE_tr {a b c : Nat → Int32} {s q r : Nat} (x : sE a s b q) (y : sE b q c r) : sE a s c r := ⟨x.1.trans y.1, x.2.1.trans y.2.1, fun o ho => (x.2.2 o ho).trans (y.2.2 o ho)⟩
theorem sE_sy {a b : Nat → Int32} {s q : Nat} (x : sE a s b q) : sE b q a s := ⟨x.1.symm, x.2.1.symm, fun o ho => (x.2.2 o ho).symm⟩
theorem cE_tr {a b c : Nat → Int32} {s q r : Nat} (x : cE a s b q) (y : cE b q c r) : cE a s c r := fun o ho => (x o ho).trans (y o ho)
theorem cE_sy {a b : Nat → Int32} {s q : Nat} (x : cE a s b q) : cE b q a s := fun o ho => (x o ho).symm
theorem Rq_rf {a : Nat → Int32} (h : TZ a) : Rq a a := ⟨rfl, h, fun s _ => sE_rf a s⟩
/-- rows that are the same up to 49 -/
theorem Rq_cg {a b a' b' : Nat → Int32} (h : Rq a b) (ha : ∀ j, j < 49 → a' j = a j) (hb : ∀ j, j < 49 → b' j = b j) : Rq a' b' := by
  obtain ⟨e, ⟨z0, z8, z⟩, hs⟩ := h
  have e0 : sn b' = sn b := by unfold sn; rw [hb 0 (by omega)]
  have s8 : sn b ≤ 8 := by unfold sn; omega
  refine ⟨by rw [ha 0 (by omega), hb 0 (by omega)]; exact e, ⟨by rw [hb 0 (by omega)]; exact z0, by rw [hb 0 (by omega)]; exact z8, fun s h => ?_⟩, fun s h => ?_⟩
  · rw [e0] at h
    exact TS_sE ⟨hb _ (by omega), hb _ (by omega), fun o ho => hb _ (by omega)⟩ (z s h)
  · rw [e0] at h
    obtain ⟨q1, q2, q3⟩ := hs s h
    refine ⟨?_, ?_, fun o ho => ?_⟩
    · rw [ha _ (by omega), hb _ (by omega)]; exact q1
    · rw [ha _ (by omega), hb _ (by omega)]; exact q2
    · rw [ha _ (by omega), hb _ (by omega)]; exact q3 o ho
/-- which outcome comes to place o when a look is turned -/
def pm (a : Nat → Int32) (L : Int32) (s o : Nat) : Nat :=
  if (a (9 + s)).toInt < 0 then (if a (1 + s) = L then (if o = 0 then 1 else if o = 1 then 0 else o) else o)
  else if a (1 + s) = L then (if o < 2 then o + 2 else o - 2)
  else if a (9 + s) = L then (if o = 0 then 1 else if o = 1 then 0 else if o = 2 then 3 else 2) else o
theorem pm_lt {a : Nat → Int32} {L : Int32} {s o : Nat} (h : o < 4) : pm a L s o < 4 := by
  unfold pm
  repeat' split
  all_goals omega
theorem pm_cg {a b : Nat → Int32} {L : Int32} {s o : Nat} (h : sE a s b s) : pm a L s o = pm b L s o := by
  unfold pm
  rw [h.1, h.2.1]
/-- nothing of the sets changes -/
def smS (a c a' c' : Nat → Int32) : Prop := a' 0 = a 0 ∧ ∀ s, s < sn a → sE a' s a s ∧ cE c' s c s
/-- FLIP -/
def flp (L : Int32) (a c a' c' : Nat → Int32) : Prop := a' 0 = a 0 ∧ ∀ s, s < sn a → (a' (1 + s) = a (1 + s) ∧ a' (9 + s) = a (9 + s)) ∧ ∀ o, o < 4 → a' (17 + 4 * s + o) = a (17 + 4 * s + pm a L s o) ∧ c' (4 * s + o) = c (4 * s + pm a L s o)
/-- DROP -/
def dq (S s : Nat) : Nat := if s < S then s else s + 1
def drp (S : Nat) (a c a' c' : Nat → Int32) : Prop := (a' 0).toInt = (a 0).toInt - 1 ∧ ∀ s, s + 1 < sn a → sE a' s a (dq S s) ∧ cE c' s c (dq S s)
/-- a set of two looks becomes one of the other look -/
def mgS (L : Int32) (S : Nat) (a c a' c' : Nat → Int32) : Prop := a' 0 = a 0 ∧ (∀ s, s < sn a → ¬ s = S → sE a' s a s ∧ cE c' s c s) ∧ a' (9 + S) = -2 ∧ ((a (1 + S) = L ∧ a' (1 + S) = a (9 + S) ∧ a' (17 + 4 * S) = a (17 + 4 * S) + a (17 + 4 * S + 2) ∧ a' (17 + 4 * S + 1) = a (17 + 4 * S + 1) + a (17 + 4 * S + 3)) ∨ (¬ a (1 + S) = L ∧ a' (1 + S) = a (1 + S) ∧ a' (17 + 4 * S) = a (17 + 4 * S) + a (17 + 4 * S + 1) ∧ a' (17 + 4 * S + 1) = a (17 + 4 * S + 2) + a (17 + 4 * S + 3))) ∧ a' (17 + 4 * S + 2) = 0 ∧ a' (17 + 4 * S + 3) = 0 ∧ ∀ o, o < 4 → c' (4 * S + o) = 0
/-- a step of FORGET -/
def stp (L : Int32) (S : Nat) (a c a' c' : Nat → Int32) : Prop := ((a (9 + S)).toInt < 0 ∧ a (1 + S) = L ∧ drp S a c a' c') ∨ (¬ (a (9 + S)).toInt < 0 ∧ (a (1 + S) = L ∨ a (9 + S) = L) ∧ mgS L S a c a' c') ∨ (¬ a (1 + S) = L ∧ ((a (9 + S)).toInt < 0 ∨ ¬ a (9 + S) = L) ∧ smS a c a' c')
def fgt (L : Int32) : Nat → (Nat → Int32) → (Nat → Int32) → (Nat → Int32) → (Nat → Int32) → Prop
  | 0, a, c, a', c' => smS a c a' c'
  | n + 1, a, c, a', c' => ∃ e m, stp L n a c e m ∧ fgt L n e m a' c'
/-- SHIFT -/
def shf (S o p : Nat) (n : Int32) (a c a' c' : Nat → Int32) : Prop := a' 0 = a 0 ∧ ∀ s, s < sn a → (a' (1 + s) = a (1 + s) ∧ a' (9 + s) = a (9 + s)) ∧ cE c' s c s ∧ ∀ i, i < 4 → a' (17 + 4 * s + i) = if s = S ∧ i = o then a (17 + 4 * s + i) - n else if s = S ∧ i = p then a (17 + 4 * s + i) + n else a (17 + 4 * s + i)
/-- both sides -/
def Rc (a c b d : Nat → Int32) : Prop := Rq a b ∧ Ce b c d
theorem Rc_sm {a c b d a' c' b' d' : Nat → Int32} (r : Rc a c b d) (x : smS a c a' c') (y : smS b d b' d') : Rc a' c' b' d' := by
  obtain ⟨⟨e, ⟨z0, z8, z⟩, hs⟩, hc⟩ := r
  have e0 : sn b' = sn b := by unfold sn; rw [y.1]
  have e1 : sn a = sn b := by unfold sn; rw [e]
  refine ⟨⟨by rw [x.1, y.1]; exact e, ⟨by rw [y.1]; exact z0, by rw [y.1]; exact z8, fun s h => ?_⟩, fun s h => ?_⟩, fun s h => ?_⟩
  · rw [e0] at h
    exact TS_sE (y.2 s h).1 (z s h)
  · rw [e0] at h
    exact sE_tr (x.2 s (by omega)).1 (sE_tr (hs s h) (sE_sy (y.2 s h).1))
  · rw [e0] at h
    exact cE_tr (x.2 s (by omega)).2 (cE_tr (hc s h) (cE_sy (y.2 s h).2))
theorem Rc_flp {L : Int32} {a c b d a' c' b' d' : Nat → Int32} (r : Rc a c b d) (x : flp L a c a' c') (y : flp L b d b' d') : Rc a' c' b' d' := by
  obtain ⟨⟨e, ⟨z0, z8, z⟩, hs⟩, hc⟩ := r
  have e0 : sn b' = sn b := by unfold sn; rw [y.1]
  have e1 : sn a = sn b := by unfold sn; rw [e]
  refine ⟨⟨by rw [x.1, y.1]; exact e, ⟨by rw [y.1]; exact z0, by rw [y.1]; exact z8, fun s h => ?_⟩, fun s h => ⟨?_, ?_, fun o ho => ?_⟩⟩, fun s h o ho => ?_⟩
  · rw [e0] at h
    obtain ⟨⟨q1, q2⟩, q3⟩ := y.2 s h
    refine ⟨?_, TP_pm (q := pm b L s) (z s h).2 ?_ (fun i hi => (q3 i hi).1)⟩
    · rw [q2, (q3 2 (by omega)).1, (q3 3 (by omega)).1]
      rcases (z s h).1 with w | w
      · refine Or.inl ⟨w.1, ?_, ?_⟩
        · rw [show pm b L s 2 = 2 by unfold pm; rw [w.1, if_pos (by decide)]; split <;> rfl]
          exact w.2.1
        · rw [show pm b L s 3 = 3 by unfold pm; rw [w.1, if_pos (by decide)]; split <;> rfl]
          exact w.2.2
      · exact Or.inr w
    · unfold pm
      by_cases w1 : (b (9 + s)).toInt < 0
      · simp only [if_pos w1]
        by_cases w2 : b (1 + s) = L
        · simp only [if_pos w2]; exact Or.inr (Or.inl ⟨rfl, rfl, rfl, rfl⟩)
        · simp only [if_neg w2]; exact Or.inl (by refine ⟨?_, ?_, ?_, ?_⟩ <;> first | trivial | rfl)
      · simp only [if_neg w1]
        by_cases w2 : b (1 + s) = L
        · simp only [if_pos w2]; exact Or.inr (Or.inr (Or.inr ⟨rfl, rfl, rfl, rfl⟩))
        · simp only [if_neg w2]
          by_cases w3 : b (9 + s) = L
          · simp only [if_pos w3]; exact Or.inr (Or.inr (Or.inl ⟨rfl, rfl, rfl, rfl⟩))
          · simp only [if_neg w3]; exact Or.inl (by refine ⟨?_, ?_, ?_, ?_⟩ <;> first | trivial | rfl)
  · rw [e0] at h
    rw [(x.2 s (by omega)).1.1, (y.2 s h).1.1]
    exact (hs s h).1
  · rw [e0] at h
    rw [(x.2 s (by omega)).1.2, (y.2 s h).1.2]
    exact (hs s h).2.1
  · rw [e0] at h
    rw [((x.2 s (by omega)).2 o ho).1, ((y.2 s h).2 o ho).1, pm_cg (hs s h)]
    exact (hs s h).2.2 _ (pm_lt ho)
  · rw [e0] at h
    rw [((x.2 s (by omega)).2 o ho).2, ((y.2 s h).2 o ho).2, pm_cg (hs s h)]
    exact hc s h _ (pm_lt ho)
theorem dq_lt {S s n : Nat} (h : s + 1 < n) : dq S s < n := by
  unfold dq
  split <;> omega
theorem Rc_drp {S : Nat} {a c b d a' c' b' d' : Nat → Int32} (r : Rc a c b d) (hp : 0 < sn b) (x : drp S a c a' c') (y : drp S b d b' d') : Rc a' c' b' d' := by
  obtain ⟨⟨e, ⟨z0, z8, z⟩, hs⟩, hc⟩ := r
  have e0 : sn b' + 1 = sn b := by unfold sn at *; rw [y.1]; omega
  have e1 : sn a = sn b := by unfold sn; rw [e]
  refine ⟨⟨Int32.toInt_inj.mp (by rw [x.1, y.1, e]), ⟨by unfold sn at hp; rw [y.1]; omega, by rw [y.1]; omega, fun s h => ?_⟩, fun s h => ?_⟩, fun s h => ?_⟩
  · have h1 : s + 1 < sn b := by omega
    exact TS_sE (y.2 s h1).1 (z _ (dq_lt h1))
  · have h1 : s + 1 < sn b := by omega
    exact sE_tr (x.2 s (by omega)).1 (sE_tr (hs _ (dq_lt h1)) (sE_sy (y.2 s h1).1))
  · have h1 : s + 1 < sn b := by omega
    exact cE_tr (x.2 s (by omega)).2 (cE_tr (hc _ (dq_lt h1)) (cE_sy (y.2 s h1).2))
theorem Rc_mg {L : Int32} {S : Nat} {a c b d a' c' b' d' : Nat → Int32} (r : Rc a c b d) (hS : S < sn b) (x : mgS L S a c a' c') (y : mgS L S b d b' d') : Rc a' c' b' d' := by
  obtain ⟨⟨e, ⟨z0, z8, z⟩, hs⟩, hc⟩ := r
  have e0 : sn b' = sn b := by unfold sn; rw [y.1]
  have e1 : sn a = sn b := by unfold sn; rw [e]
  obtain ⟨f1, f2, f3⟩ := hs S hS
  have g0 := f3 0 (by omega)
  rw [Nat.add_zero] at g0
  obtain ⟨x1, x2, x3, x4, x5, x6, x7⟩ := x
  obtain ⟨y1, y2, y3, y4, y5, y6, y7⟩ := y
  have cs : a' (1 + S) = b' (1 + S) ∧ a' (17 + 4 * S) = b' (17 + 4 * S) ∧ a' (17 + 4 * S + 1) = b' (17 + 4 * S + 1) := by
    rcases x4 with x4 | x4 <;> rcases y4 with y4 | y4
    · rw [x4.2.1, x4.2.2.1, x4.2.2.2, y4.2.1, y4.2.2.1, y4.2.2.2, f2, g0, f3 1 (by omega), f3 2 (by omega), f3 3 (by omega)]
      exact ⟨rfl, rfl, rfl⟩
    · exact absurd (f1.symm.trans x4.1) y4.1
    · exact absurd (f1.trans y4.1) x4.1
    · rw [x4.2.1, x4.2.2.1, x4.2.2.2, y4.2.1, y4.2.2.1, y4.2.2.2, f1, g0, f3 1 (by omega), f3 2 (by omega), f3 3 (by omega)]
      exact ⟨rfl, rfl, rfl⟩
  refine ⟨⟨by rw [x1, y1]; exact e, ⟨by rw [y1]; exact z0, by rw [y1]; exact z8, fun s h => ?_⟩, fun s h => ?_⟩, fun s h => ?_⟩
  · rw [e0] at h
    by_cases es : s = S
    · subst es
      refine ⟨Or.inl ⟨y3, y5, y6⟩, ?_⟩
      have zp := (z s hS).2
      unfold TP at zp ⊢
      have z0 : (0 : Int32).toInt = 0 := by decide
      have ad : ∀ p q : Nat, (0 ≤ (b p).toInt ∧ 0 ≤ (b q).toInt ∧ (b p).toInt + (b q).toInt ≤ 60) → (b p + b q).toInt = (b p).toInt + (b q).toInt := fun p q w => i_add rfl rfl (by omega)
      rcases y4 with y4 | y4
      · rw [y4.2.2.1, y4.2.2.2, y5, y6, z0, ad _ _ (by omega), ad _ _ (by omega)]; omega
      · rw [y4.2.2.1, y4.2.2.2, y5, y6, z0, ad _ _ (by omega), ad _ _ (by omega)]; omega
    · exact TS_sE (y2 s h es).1 (z s h)
  · rw [e0] at h
    by_cases es : s = S
    · subst es
      refine ⟨cs.1, by rw [x3, y3], fun o ho => ?_⟩
      have : o = 0 ∨ o = 1 ∨ o = 2 ∨ o = 3 := by omega
      rcases this with w | w | w | w <;> subst w
      · exact cs.2.1
      · exact cs.2.2
      · rw [x5, y5]
      · rw [x6, y6]
    · exact sE_tr (x2 s (by omega) es).1 (sE_tr (hs s h) (sE_sy (y2 s h es).1))
  · rw [e0] at h
    by_cases es : s = S
    · subst es
      exact fun o ho => by rw [x7 o ho, y7 o ho]
    · exact cE_tr (x2 s (by omega) es).2 (cE_tr (hc s h) (cE_sy (y2 s h es).2))
theorem stp_n {L : Int32} {S : Nat} {a c a' c' : Nat → Int32} (hS : S < sn a) (x : stp L S a c a' c') : S ≤ sn a' := by
  rcases x with x | x | x
  · have := x.2.2.1
    unfold sn at *
    omega
  · have : sn a' = sn a := by unfold sn; rw [x.2.2.1]
    omega
  · have : sn a' = sn a := by unfold sn; rw [x.2.2.1]
    omega
theorem Rc_st {L : Int32} {S : Nat} {a c b d a' c' b' d' : Nat → Int32} (r : Rc a c b d) (hS : S < sn b) (x : stp L S a c a' c') (y : stp L S b d b' d') : Rc a' c' b' d' := by
  obtain ⟨f1, f2, -⟩ := r.1.2.2 S hS
  unfold stp at x
  rw [f1, f2] at x
  rcases x with x | x | x <;> rcases y with y | y | y
  · exact Rc_drp r (by omega) x.2.2 y.2.2
  · exact absurd x.1 y.1
  · exact absurd x.2.1 y.1
  · exact absurd y.1 x.1
  · exact Rc_mg r hS x.2.2 y.2.2
  · rcases x.2.1 with w | w
    · exact absurd w y.1
    · rcases y.2.1 with v | v
      · exact absurd v x.1
      · exact absurd w v
  · exact absurd y.2.1 x.1
  · rcases y.2.1 with w | w
    · exact absurd w x.1
    · rcases x.2.1 with v | v
      · exact absurd v y.1
      · exact absurd w v
  · exact Rc_sm r x.2.2 y.2.2
theorem Rc_fg {L : Int32} : ∀ (n : Nat) {a c b d a' c' b' d' : Nat → Int32}, Rc a c b d → n ≤ sn b → fgt L n a c a' c' → fgt L n b d b' d' → Rc a' c' b' d'
  | 0, _, _, _, _, _, _, _, _, r, _, x, y => Rc_sm r x y
  | n + 1, _, _, _, _, _, _, _, _, r, hn, ⟨_, _, x1, x2⟩, ⟨_, _, y1, y2⟩ => Rc_fg n (Rc_st r (by omega) x1 y1) (stp_n (by omega) y1) x2 y2
theorem Rc_sh {S o p : Nat} {n : Int32} {a c b d a' c' b' d' : Nat → Int32} (r : Rc a c b d) (ho : o < (if (b (9 + S)).toInt < 0 then 2 else 4)) (hp : p < (if (b (9 + S)).toInt < 0 then 2 else 4)) (hop : ¬ o = p) (hn : 0 ≤ n.toInt ∧ n.toInt ≤ (b (17 + 4 * S + o)).toInt) (x : shf S o p n a c a' c') (y : shf S o p n b d b' d') : Rc a' c' b' d' := by
  obtain ⟨⟨e, ⟨z0, z8, z⟩, hs⟩, hc⟩ := r
  have e0 : sn b' = sn b := by unfold sn; rw [y.1]
  have e1 : sn a = sn b := by unfold sn; rw [e]
  refine ⟨⟨by rw [x.1, y.1]; exact e, ⟨by rw [y.1]; exact z0, by rw [y.1]; exact z8, fun s h => ?_⟩, fun s h => ⟨?_, ?_, fun i hi => ?_⟩⟩, fun s h => ?_⟩
  · rw [e0] at h
    obtain ⟨⟨q1, q2⟩, q3, q4⟩ := y.2 s h
    refine ⟨?_, ?_⟩
    · rw [q2, q4 2 (by omega), q4 3 (by omega)]
      rcases (z s h).1 with w | w
      · refine Or.inl ⟨w.1, ?_, ?_⟩
        · rw [if_neg (fun v => by rw [← v.1, w.1, if_pos (by decide)] at ho; omega), if_neg (fun v => by rw [← v.1, w.1, if_pos (by decide)] at hp; omega)]
          exact w.2.1
        · rw [if_neg (fun v => by rw [← v.1, w.1, if_pos (by decide)] at ho; omega), if_neg (fun v => by rw [← v.1, w.1, if_pos (by decide)] at hp; omega)]
          exact w.2.2
      · exact Or.inr w
    · have zp := (z s h).2
      by_cases es : s = S
      · subst es
        have o4 : o < 4 := by split at ho <;> omega
        have p4 : p < 4 := by split at hp <;> omega
        have t0 : ∀ i, i < 4 → 0 ≤ (b (17 + 4 * s + i)).toInt ∧ (b (17 + 4 * s + i)).toInt ≤ 60 := fun i hi => by
          unfold TP at zp
          have : i = 0 ∨ i = 1 ∨ i = 2 ∨ i = 3 := by omega
          rcases this with w | w | w | w <;> subst w <;> (try simp only [Nat.add_zero]) <;> omega
        have to := t0 o o4
        have tp := t0 p p4
        have so : (b (17 + 4 * s + o) - n).toInt = (b (17 + 4 * s + o)).toInt - n.toInt := i_sub rfl rfl (by omega)
        have sp : (b (17 + 4 * s + p) + n).toInt = (b (17 + 4 * s + p)).toInt + n.toInt := i_add rfl rfl (by omega)
        have vo : (b' (17 + 4 * s + o)).toInt = (b (17 + 4 * s + o)).toInt - n.toInt := by rw [q4 o o4, if_pos ⟨rfl, rfl⟩, so]
        have vp : (b' (17 + 4 * s + p)).toInt = (b (17 + 4 * s + p)).toInt + n.toInt := by rw [q4 p p4, if_neg (fun v => hop v.2.symm), if_pos ⟨rfl, rfl⟩, sp]
        have vi : ∀ i, i < 4 → ¬ i = o → ¬ i = p → b' (17 + 4 * s + i) = b (17 + 4 * s + i) := fun i hi h1 h2 => by rw [q4 i hi, if_neg (fun v => h1 v.2), if_neg (fun v => h2 v.2)]
        have hn1 := hn.1
        have hn2 : 0 ≤ (b' (17 + 4 * s + o)).toInt := by omega
        unfold TP at zp ⊢
        have v0 := vi 0 (by omega)
        have v1 := vi 1 (by omega)
        have v2 := vi 2 (by omega)
        have v3 := vi 3 (by omega)
        rw [Nat.add_zero] at v0
        have ho' : o = 0 ∨ o = 1 ∨ o = 2 ∨ o = 3 := by omega
        have hp' : p = 0 ∨ p = 1 ∨ p = 2 ∨ p = 3 := by omega
        clear x y q4 so sp to tp t0 hn ho hp
        rcases ho' with w | w | w | w <;> rcases hp' with v | v | v | v <;> subst w <;> subst v <;> first | exact absurd rfl hop | ((try simp only [Nat.add_zero] at vo vp hn2); first | (rw [v2 (by omega) (by omega), v3 (by omega) (by omega)]; omega) | (rw [v1 (by omega) (by omega), v3 (by omega) (by omega)]; omega) | (rw [v1 (by omega) (by omega), v2 (by omega) (by omega)]; omega) | (rw [v0 (by omega) (by omega), v3 (by omega) (by omega)]; omega) | (rw [v0 (by omega) (by omega), v2 (by omega) (by omega)]; omega) | (rw [v0 (by omega) (by omega), v1 (by omega) (by omega)]; omega))
      · refine (TS_sE (a := b') (b := b) (s := s) (q := s) ⟨q1, q2, fun i hi => ?_⟩ (z s h)).2
        rw [q4 i hi, if_neg (fun v => es v.1), if_neg (fun v => es v.1)]
  · rw [e0] at h
    rw [(x.2 s (by omega)).1.1, (y.2 s h).1.1]
    exact (hs s h).1
  · rw [e0] at h
    rw [(x.2 s (by omega)).1.2, (y.2 s h).1.2]
    exact (hs s h).2.1
  · rw [e0] at h
    rw [(x.2 s (by omega)).2.2 i hi, (y.2 s h).2.2 i hi, (hs s h).2.2 i hi]
  · rw [e0] at h
    exact cE_tr (x.2 s (by omega)).2.1 (cE_tr (hc s h) (cE_sy (y.2 s h).2.1))
