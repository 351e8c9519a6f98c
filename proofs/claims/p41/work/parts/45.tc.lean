/-! the columns of the table's simplex, and how large its numbers can be -/
def tc_st (oc : Nat → Nat) : Nat → Nat
  | 0 => 0
  | s + 1 => tc_st oc s + oc s
def tc_rs (oc : Nat → Nat) : Nat → Nat → Nat
  | 0, _ => 0
  | q + 1, l => if tc_st oc q ≤ l then q else tc_rs oc q l
theorem tc_mono (oc : Nat → Nat) : ∀ {s t : Nat}, s ≤ t → tc_st oc s ≤ tc_st oc t := by
  intro s t h
  induction t with
  | zero => rw [show s = 0 by omega]; exact Nat.le_refl _
  | succ t ih =>
    by_cases q : s = t + 1
    · rw [q]; exact Nat.le_refl _
    · have := ih (by omega)
      show _ ≤ tc_st oc t + oc t
      omega
theorem tc_rs_at (oc : Nat → Nat) : ∀ {q s o : Nat}, s < q → o < oc s → tc_rs oc q (tc_st oc s + o) = s := by
  intro q
  induction q with
  | zero => intro s o h; exact absurd h (Nat.not_lt_zero _)
  | succ q ih =>
    intro s o hs ho
    show (if tc_st oc q ≤ tc_st oc s + o then q else tc_rs oc q (tc_st oc s + o)) = s
    by_cases e : s = q
    · subst e
      rw [if_pos (Nat.le_add_right _ _)]
    · have h1 : tc_st oc (s + 1) ≤ tc_st oc q := tc_mono oc (by omega)
      have h1 : tc_st oc s + oc s ≤ tc_st oc q := h1
      rw [if_neg (by omega)]
      exact ih (by omega) ho
theorem tc_rs_lt (oc : Nat → Nat) (l : Nat) : ∀ {q : Nat}, 0 < q → tc_rs oc q l < q := by
  intro q
  induction q with
  | zero => intro h; exact absurd h (Nat.not_lt_zero _)
  | succ q ih =>
    intro _
    show (if tc_st oc q ≤ l then q else tc_rs oc q l) < q + 1
    split
    · omega
    · rename_i h
      cases q with
      | zero => exact absurd (Nat.zero_le l) h
      | succ q => have := ih (by omega); omega
theorem tc_rs_o (oc : Nat → Nat) (l : Nat) : ∀ {q : Nat}, l < tc_st oc q → tc_st oc (tc_rs oc q l) ≤ l ∧ l < tc_st oc (tc_rs oc q l) + oc (tc_rs oc q l) := by
  intro q
  induction q with
  | zero => intro h; exact absurd h (Nat.not_lt_zero _)
  | succ q ih =>
    intro h
    have h : l < tc_st oc q + oc q := h
    show tc_st oc (if tc_st oc q ≤ l then q else tc_rs oc q l) ≤ l ∧ l < tc_st oc (if tc_st oc q ≤ l then q else tc_rs oc q l) + oc (if tc_st oc q ≤ l then q else tc_rs oc q l)
    split
    · rename_i k; exact ⟨k, h⟩
    · rename_i k; exact ih (by omega)
def tc_b (g x : Nat) : Int := ((x / 2 ^ g) % 2 : Nat)
def tc_A (a : Int) (x : Nat) : Int := la_S 6 (fun g => tc_b g x * (if a = (g : Int) then 1 else 0))
def tc_f (two : Bool) (a b : Int) (x : Nat) : Int := if two = true then 2 * tc_A a x + tc_A b x else tc_A a x
def tc_oc (tw : Nat → Bool) (s : Nat) : Nat := if tw s = true then 4 else 2
theorem tc_b01 (g x : Nat) : tc_b g x = 0 ∨ tc_b g x = 1 := by
  unfold tc_b
  have := Nat.mod_two_eq_zero_or_one (x / 2 ^ g)
  omega
theorem tc_A01 (a : Int) (x : Nat) : tc_A a x = 0 ∨ tc_A a x = 1 := by
  unfold tc_A
  by_cases h : ∃ g : Nat, g < 6 ∧ a = (g : Int)
  · obtain ⟨g, hg, e⟩ := h
    rw [la_S_1 (g := fun _ => 0) (r := g) 6 hg (fun i _ hn => by rw [if_neg (by omega)]; exact Int.mul_zero _), la_S_0 6 (fun _ _ => rfl), if_pos e]
    have := tc_b01 g x
    omega
  · left
    exact la_S_0 6 (fun i hi => by rw [if_neg (fun z => h ⟨i, hi, z⟩)]; exact Int.mul_zero _)
/-- a hidden answer's column -/
def tc_N (q : Nat) (tw : Nat → Bool) (la lb : Nat → Int) (x l : Nat) : Int :=
  if tc_f (tw (tc_rs (tc_oc tw) q l)) (la (tc_rs (tc_oc tw) q l)) (lb (tc_rs (tc_oc tw) q l)) x = ((l - tc_st (tc_oc tw) (tc_rs (tc_oc tw) q l) : Nat) : Int) then 1 else 0
def tc_C (q many : Nat) (tw : Nat → Bool) (la lb : Nat → Int) (tm : Nat → Nat → Int) : Nat → Nat → Int := fun j l =>
  if j < many then tc_N q tw la lb j l
  else if j < many + tc_st (tc_oc tw) q then la_1 (j - many) l
  else tm (tc_rs (tc_oc tw) q l) (l - tc_st (tc_oc tw) (tc_rs (tc_oc tw) q l))
def tc_d (k o : Nat) : Int := if o = k then 1 else 0
def tc_V (tw : Nat → Bool) (la lb : Nat → Int) (s o : Nat) (f : Nat) : Int :=
  if f < 1 then tc_d 0 o
  else if f < 7 then (if tw s = true then (tc_d 2 o - tc_d 0 o) * (if la s = ((f - 1 : Nat) : Int) then 1 else 0) + (tc_d 1 o - tc_d 0 o) * (if lb s = ((f - 1 : Nat) : Int) then 1 else 0) else (tc_d 1 o - tc_d 0 o) * (if la s = ((f - 1 : Nat) : Int) then 1 else 0))
  else (if f - 7 = s ∧ tw s = true then tc_d 0 o - tc_d 1 o - tc_d 2 o + tc_d 3 o else 0)
def tc_U (q : Nat) (tw : Nat → Bool) (la lb : Nat → Int) (f l : Nat) : Int := tc_V tw la lb (tc_rs (tc_oc tw) q l) (l - tc_st (tc_oc tw) (tc_rs (tc_oc tw) q l)) f
def tc_phi (la lb : Nat → Int) (x f : Nat) : Int := if f < 1 then 1 else if f < 7 then tc_b (f - 1) x else tc_A (la (f - 7)) x * tc_A (lb (f - 7)) x
theorem la_S_a (f : Nat → Int) (a : Nat) : ∀ b : Nat, la_S (a + b) f = la_S a f + la_S b (fun i => f (a + i)) := by
  intro b
  induction b with
  | zero => show la_S a f = la_S a f + 0; omega
  | succ b ih =>
    show la_S (a + b) f + f (a + b) = la_S a f + (la_S b (fun i => f (a + i)) + f (a + b))
    rw [ih]
    omega
theorem tc_sum (tw : Nat → Bool) (la lb : Nat → Int) (x s o : Nat) (hs : s < 8) : la_S 15 (fun f => tc_phi la lb x f * tc_V tw la lb s o f) = (if tc_f (tw s) (la s) (lb s) x = (o : Int) then 1 else 0) := by
  have e1 : la_S 15 (fun f => tc_phi la lb x f * tc_V tw la lb s o f) = la_S 1 (fun f => tc_phi la lb x f * tc_V tw la lb s o f) + la_S 6 (fun g => tc_phi la lb x (1 + g) * tc_V tw la lb s o (1 + g)) + la_S 8 (fun g => tc_phi la lb x (7 + g) * tc_V tw la lb s o (7 + g)) := by
    have h1 := la_S_a (fun f => tc_phi la lb x f * tc_V tw la lb s o f) 7 8
    have h2 := la_S_a (fun f => tc_phi la lb x f * tc_V tw la lb s o f) 1 6
    rw [show 15 = 7 + 8 from rfl, h1, show 7 = 1 + 6 from rfl, h2]
  have e2 : la_S 1 (fun f => tc_phi la lb x f * tc_V tw la lb s o f) = tc_d 0 o := by
    show 0 + 1 * tc_d 0 o = tc_d 0 o
    omega
  have e3 : la_S 6 (fun g => tc_phi la lb x (1 + g) * tc_V tw la lb s o (1 + g)) = if tw s = true then (tc_d 2 o - tc_d 0 o) * tc_A (la s) x + (tc_d 1 o - tc_d 0 o) * tc_A (lb s) x else (tc_d 1 o - tc_d 0 o) * tc_A (la s) x + 0 * tc_A (la s) x := by
    split
    · rename_i ht
      unfold tc_A
      rw [← la_S_l]
      refine la_S_x 6 (fun g hg => ?_)
      unfold tc_phi tc_V
      rw [if_neg (by omega), if_pos (by omega), if_neg (by omega), if_pos (by omega), if_pos ht, show 1 + g - 1 = g by omega]
      grind
    · rename_i ht
      unfold tc_A
      rw [← la_S_l]
      refine la_S_x 6 (fun g hg => ?_)
      unfold tc_phi tc_V
      rw [if_neg (by omega), if_pos (by omega), if_neg (by omega), if_pos (by omega), if_neg ht, show 1 + g - 1 = g by omega]
      grind
  have e4 : la_S 8 (fun g => tc_phi la lb x (7 + g) * tc_V tw la lb s o (7 + g)) = if tw s = true then tc_A (la s) x * tc_A (lb s) x * (tc_d 0 o - tc_d 1 o - tc_d 2 o + tc_d 3 o) else 0 := by
    rw [la_S_1 (g := fun _ => 0) (r := s) 8 hs (fun i hi hn => by
      unfold tc_V
      rw [if_neg (by omega), if_neg (by omega), if_neg (fun z => hn (by omega))]
      exact Int.mul_zero _), la_S_0 8 (fun _ _ => rfl)]
    unfold tc_phi tc_V
    rw [if_neg (by omega), if_neg (by omega), if_neg (by omega), if_neg (by omega), show 7 + s - 7 = s by omega]
    split
    · rename_i ht
      rw [if_pos ht.2]
      omega
    · rename_i ht
      rw [if_neg (fun z => ht ⟨rfl, z⟩)]
      omega
  rw [e1, e2, e3, e4]
  have ho : o = 0 ∨ o = 1 ∨ o = 2 ∨ o = 3 ∨ 4 ≤ o := by omega
  unfold tc_f tc_d
  by_cases ht : tw s = true
  · rw [if_pos ht, if_pos ht, if_pos ht]
    rcases tc_A01 (la s) x with h1 | h1 <;> rcases tc_A01 (lb s) x with h2 | h2 <;> rw [h1, h2] <;> rcases ho with h | h | h | h | h
    all_goals first
      | (subst h; decide)
      | (rw [if_neg (show ¬ o = 0 by omega), if_neg (show ¬ o = 1 by omega), if_neg (show ¬ o = 2 by omega), if_neg (show ¬ o = 3 by omega), if_neg (by omega)]; decide)
  · rw [if_neg ht, if_neg ht, if_neg ht]
    rcases tc_A01 (la s) x with h1 | h1 <;> rw [h1] <;> rcases ho with h | h | h | h | h
    all_goals first
      | (subst h; decide)
      | (rw [if_neg (show ¬ o = 0 by omega), if_neg (show ¬ o = 1 by omega), if_neg (by omega)]; decide)
theorem tc_in (q : Nat) (tw : Nat → Bool) (la lb : Nat → Int) (x : Nat) (hq : q ≤ 8) : la_in 15 (tc_U q tw la lb) (tc_N q tw la lb x) := by
  refine ⟨tc_phi la lb x, fun l => ?_⟩
  have hs : tc_rs (tc_oc tw) q l < 8 := by
    by_cases h : 0 < q
    · have := tc_rs_lt (tc_oc tw) l h; omega
    · rw [show q = 0 by omega]; show 0 < 8; decide
  exact (tc_sum tw la lb x _ _ hs).symm
theorem tc_nN (q : Nat) (tw : Nat → Bool) (la lb : Nat → Int) (x : Nat) : ∀ s, s ≤ q → la_d (tc_N q tw la lb x) (tc_N q tw la lb x) (tc_st (tc_oc tw) s) ≤ s := by
  intro s
  induction s with
  | zero => intro _; exact Int.le_refl _
  | succ s ih =>
    intro hs
    have h0 := ih (by omega)
    have st : ∀ o, o ≤ tc_oc tw s → la_d (tc_N q tw la lb x) (tc_N q tw la lb x) (tc_st (tc_oc tw) s + o) ≤ s + (if tc_f (tw s) (la s) (lb s) x < (o : Int) then 1 else 0) := by
      intro o
      induction o with
      | zero =>
        intro _
        have : (0 : Int) ≤ (if tc_f (tw s) (la s) (lb s) x < ((0 : Nat) : Int) then 1 else 0) := by split <;> omega
        rw [Nat.add_zero]
        omega
      | succ o iho =>
        intro ho
        have h1 := iho (by omega)
        show la_d _ _ (tc_st (tc_oc tw) s + o) + tc_N q tw la lb x (tc_st (tc_oc tw) s + o) * tc_N q tw la lb x (tc_st (tc_oc tw) s + o) ≤ _
        have e : tc_N q tw la lb x (tc_st (tc_oc tw) s + o) = if tc_f (tw s) (la s) (lb s) x = (o : Int) then 1 else 0 := by
          unfold tc_N
          rw [tc_rs_at (tc_oc tw) (show s < q by omega) (show o < tc_oc tw s by omega), Nat.add_sub_cancel_left]
        rw [e]
        by_cases k : tc_f (tw s) (la s) (lb s) x = (o : Int)
        · rw [if_pos k]
          rw [if_neg (by omega)] at h1
          rw [if_pos (by omega)]
          omega
        · rw [if_neg k]
          by_cases k2 : tc_f (tw s) (la s) (lb s) x < (o : Int)
          · rw [if_pos k2] at h1
            rw [if_pos (by omega)]
            omega
          · rw [if_neg k2] at h1
            rw [if_neg (by omega)]
            omega
    have h2 := st (tc_oc tw s) (Nat.le_refl _)
    have : (if tc_f (tw s) (la s) (lb s) x < (tc_oc tw s : Int) then 1 else 0) ≤ (1 : Int) := by split <;> omega
    show la_d _ _ (tc_st (tc_oc tw) s + tc_oc tw s) ≤ _
    omega
theorem tc_n1 (k m : Nat) : la_d (la_1 k) (la_1 k) m ≤ 1 := by
  by_cases h : k < m
  · rw [la_d1 k _ m h]
    unfold la_1
    rw [if_pos rfl]
    exact Int.le_refl _
  · rw [la_d0 k _ m (by omega)]
    decide
theorem tc_nb {v : Nat → Int} {M : Int} : ∀ m : Nat, (∀ l, l < m → 0 ≤ v l ∧ v l ≤ M) → la_d v v m ≤ m * (M * M) := by
  intro m
  induction m with
  | zero => intro _; show (0 : Int) ≤ ((0 : Nat) : Int) * _; rw [Int.natCast_zero, Int.zero_mul]; exact Int.le_refl _
  | succ m ih =>
    intro h
    have h1 := ih (fun l hl => h l (by omega))
    obtain ⟨h2, h3⟩ := h m (by omega)
    have h4 : v m * v m ≤ M * M := Int.mul_le_mul h3 h3 h2 (by omega)
    show la_d v v m + v m * v m ≤ ((m + 1 : Nat) : Int) * (M * M)
    rw [Int.natCast_add, Int.add_mul]
    omega
theorem tc_st_le (tw : Nat → Bool) : ∀ q : Nat, tc_st (tc_oc tw) q ≤ 4 * q := by
  intro q
  induction q with
  | zero => exact Nat.le_refl _
  | succ q ih =>
    have : tc_oc tw q ≤ 4 := by unfold tc_oc; split <;> omega
    show tc_st (tc_oc tw) q + tc_oc tw q ≤ _
    omega
theorem tc_prod {f : Nat → Int} {S Q : Nat → Bool} {M : Int} (hM : 0 ≤ M) : ∀ k : Nat, (∀ i, i < k → 0 ≤ f i) → (∀ i, i < k → S i = true → f i ≤ 8) → (∀ i, i < k → Q i = true → f i ≤ M) → (∀ i, i < k → S i = false → Q i = false → f i ≤ 1) → la_P k f ≤ 8 ^ (la_n S k) * M ^ (la_n Q k) := by
  intro k
  induction k with
  | zero => intro _ _ _ _; show (1 : Int) ≤ 8 ^ 0 * M ^ 0; rw [Int.pow_zero, Int.pow_zero]; decide
  | succ k ih =>
    intro h0 h1 h2 h3
    have e := ih (fun i hi => h0 i (by omega)) (fun i hi => h1 i (by omega)) (fun i hi => h2 i (by omega)) (fun i hi => h3 i (by omega))
    have n1 : (0 : Int) ≤ 8 ^ (la_n S k) := Int.pow_nonneg (by decide)
    have n2 : (0 : Int) ≤ M ^ (la_n Q k) := Int.pow_nonneg hM
    have n3 : (0 : Int) ≤ 8 ^ (la_n S k) * M ^ (la_n Q k) := Int.mul_nonneg n1 n2
    have key : ∀ Y : Int, f k ≤ Y → la_P k f * f k ≤ 8 ^ (la_n S k) * M ^ (la_n Q k) * Y := fun Y hY => Int.mul_le_mul e hY (h0 k (by omega)) n3
    show la_P k f * f k ≤ 8 ^ (la_n S k + (if S k = true then 1 else 0)) * M ^ (la_n Q k + (if Q k = true then 1 else 0))
    cases hS : S k with
    | true =>
      have k1 := key 8 (h1 k (by omega) hS)
      rw [if_pos rfl, Int.pow_succ]
      cases hQ : Q k with
      | true =>
        have k2 := key M (h2 k (by omega) hQ)
        rw [if_pos rfl, Int.pow_succ]
        have m8 : 8 ^ (la_n S k) * M ^ (la_n Q k) * M ≤ 8 ^ (la_n S k) * M ^ (la_n Q k) * M * 8 := by
          have := Int.mul_nonneg n3 hM
          omega
        have m9 : 8 ^ (la_n S k) * 8 * (M ^ (la_n Q k) * M) = 8 ^ (la_n S k) * M ^ (la_n Q k) * M * 8 := by grind
        rw [m9]
        exact Int.le_trans k2 m8
      | false =>
        rw [if_neg (by decide), Nat.add_zero]
        have m9 : 8 ^ (la_n S k) * 8 * M ^ (la_n Q k) = 8 ^ (la_n S k) * M ^ (la_n Q k) * 8 := by grind
        rw [m9]
        exact k1
    | false =>
      rw [if_neg (by decide), Nat.add_zero]
      cases hQ : Q k with
      | true =>
        have k2 := key M (h2 k (by omega) hQ)
        rw [if_pos rfl, Int.pow_succ]
        have m9 : 8 ^ (la_n S k) * (M ^ (la_n Q k) * M) = 8 ^ (la_n S k) * M ^ (la_n Q k) * M := by grind
        rw [m9]
        exact k2
      | false =>
        have k3 := key 1 (h3 k (by omega) hS hQ)
        rw [if_neg (by decide), Nat.add_zero]
        omega
theorem sq_le {x y : Int} (hy : 0 ≤ y) (h : x * x ≤ y * y) : -y ≤ x ∧ x ≤ y := by
  constructor
  · refine Int.not_lt.mp (fun z => ?_)
    have h1 : (y + 1) * (y + 1) ≤ (-x) * (-x) := Int.mul_le_mul (by omega) (by omega) (by omega) (by omega)
    have h2 : (-x) * (-x) = x * x := by grind
    have h3 : (y + 1) * (y + 1) = y * y + 2 * y + 1 := by grind
    omega
  · refine Int.not_lt.mp (fun z => ?_)
    have h1 : (y + 1) * (y + 1) ≤ x * x := Int.mul_le_mul (by omega) (by omega) (by omega) (by omega)
    have h3 : (y + 1) * (y + 1) = y * y + 2 * y + 1 := by grind
    omega
theorem la_n_0 {S : Nat → Bool} : ∀ k, (∀ i, i < k → S i = false) → la_n S k = 0 := by
  intro k
  induction k with
  | zero => intro _; rfl
  | succ k ih =>
    intro h
    show la_n S k + (if S k = true then 1 else 0) = 0
    rw [ih (fun i hi => h i (by omega)), h k (by omega)]
    rfl
/-- how large a determinant of the columns is -/
theorem tc_Db {q many : Nat} {tw : Nat → Bool} {la lb : Nat → Int} {tm : Nat → Nat → Int} (hq : q ≤ 8) (ht : ∀ s o, s < q → o < tc_oc tw s → 0 ≤ tm s o ∧ tm s o ≤ 240) (b : Nat → Nat) : sx_D (tc_C q many tw la lb tm) (tc_st (tc_oc tw) q) b * sx_D (tc_C q many tw la lb tm) (tc_st (tc_oc tw) q) b ≤ 35184372088832 * 1843200 ^ (la_n (fun i => decide (many + tc_st (tc_oc tw) q ≤ b i)) (tc_st (tc_oc tw) q)) := by
  have hm := tc_st_le tw q
  generalize hmm : tc_st (tc_oc tw) q = m at hm ⊢
  have n2 : (0 : Int) ≤ 1843200 ^ (la_n (fun i => decide (many + m ≤ b i)) m) := Int.pow_nonneg (by decide)
  by_cases hn : 15 < la_n (fun i => decide (b i < many)) m
  · have z : sx_D (tc_C q many tw la lb tm) m b = 0 := by
      refine la_sp (tc_U q tw la lb) 15 _ (fun i => decide (b i < many)) m _ (fun i hi hs => ?_) hn
      have e : sx_V (tc_C q many tw la lb tm) b i = tc_N q tw la lb (b i) := by
        funext l
        unfold sx_V tc_C
        rw [if_pos (of_decide_eq_true hs)]
      rw [e]
      exact tc_in q tw la lb _ hq
    rw [z]
    have := Int.mul_nonneg (show (0 : Int) ≤ 35184372088832 by decide) n2
    omega
  · refine Int.le_trans (la_Db m (sx_V (tc_C q many tw la lb tm) b)) (Int.le_trans (tc_prod (S := fun i => decide (b i < many)) (Q := fun i => decide (many + m ≤ b i)) (M := 1843200) (by decide) m (fun i hi => la_dn _ m) (fun i hi hs => ?_) (fun i hi hs => ?_) (fun i hi hs hs2 => ?_)) ?_)
    · have e : sx_V (tc_C q many tw la lb tm) b i = tc_N q tw la lb (b i) := by
        funext l
        unfold sx_V tc_C
        rw [if_pos (of_decide_eq_true hs)]
      rw [e]
      have := tc_nN q tw la lb (b i) q (Nat.le_refl _)
      rw [hmm] at this
      omega
    · have hs := of_decide_eq_true hs
      have : la_d (sx_V (tc_C q many tw la lb tm) b i) (sx_V (tc_C q many tw la lb tm) b i) m ≤ m * (240 * 240) := by
        refine tc_nb m (fun l hl => ?_)
        unfold sx_V tc_C
        rw [if_neg (by omega), hmm, if_neg (by omega)]
        have k1 := tc_rs_o (tc_oc tw) l (q := q) (by omega)
        have k2 : 0 < q := by
          rcases Nat.eq_zero_or_pos q with z | z
          · rw [z] at hmm
            have : (0 : Nat) = m := hmm
            omega
          · exact z
        exact ht _ _ (tc_rs_lt _ l k2) (by omega)
      omega
    · have e : sx_V (tc_C q many tw la lb tm) b i = la_1 (b i - many) := by
        funext l
        have h1 := of_decide_eq_false hs
        have h2 := of_decide_eq_false hs2
        unfold sx_V tc_C
        rw [if_neg h1, hmm, if_pos (by omega)]
      rw [e]
      exact tc_n1 _ _
    · refine Int.mul_le_mul_of_nonneg_right ?_ n2
      have h8 : (8 : Nat) ^ (la_n (fun i => decide (b i < many)) m) ≤ 8 ^ 15 := Nat.pow_le_pow_right (by decide) (by omega)
      have h9 : ((8 : Nat) ^ (la_n (fun i => decide (b i < many)) m) : Nat) ≤ (35184372088832 : Nat) := h8
      have h10 : (((8 : Nat) ^ (la_n (fun i => decide (b i < many)) m) : Nat) : Int) ≤ 35184372088832 := by
        generalize (8 : Nat) ^ (la_n (fun i => decide (b i < many)) m) = X at h9 ⊢
        omega
      rw [Int.natCast_pow] at h10
      exact h10
theorem tc_b1 {q many : Nat} {tw : Nat → Bool} {la lb : Nat → Int} {tm : Nat → Nat → Int} (hq : q ≤ 8) (ht : ∀ s o, s < q → o < tc_oc tw s → 0 ≤ tm s o ∧ tm s o ≤ 240) {b : Nat → Nat} (hb : ∀ i, i < tc_st (tc_oc tw) q → b i < many + tc_st (tc_oc tw) q) : -8388608 ≤ sx_D (tc_C q many tw la lb tm) (tc_st (tc_oc tw) q) b ∧ sx_D (tc_C q many tw la lb tm) (tc_st (tc_oc tw) q) b ≤ 8388608 := by
  have h := tc_Db (many := many) (la := la) (lb := lb) hq ht b
  rw [la_n_0 (S := fun i => decide (many + tc_st (tc_oc tw) q ≤ b i)) _ (fun i hi => decide_eq_false (by have := hb i hi; omega)), Int.pow_zero] at h
  exact sq_le (by decide) (by omega)
theorem tc_b2 {q many : Nat} {tw : Nat → Bool} {la lb : Nat → Int} {tm : Nat → Nat → Int} (hq : q ≤ 8) (ht : ∀ s o, s < q → o < tc_oc tw s → 0 ≤ tm s o ∧ tm s o ≤ 240) {b : Nat → Nat} (hb : ∀ i, i < tc_st (tc_oc tw) q → b i < many + tc_st (tc_oc tw) q) (i j : Nat) : -8589934592 ≤ sx_t (tc_C q many tw la lb tm) (tc_st (tc_oc tw) q) b i j ∧ sx_t (tc_C q many tw la lb tm) (tc_st (tc_oc tw) q) b i j ≤ 8589934592 := by
  have h := tc_Db (many := many) (la := la) (lb := lb) hq ht (sx_u b i j)
  have h1 : la_n (fun k => decide (many + tc_st (tc_oc tw) q ≤ sx_u b i j k)) (tc_st (tc_oc tw) q) ≤ 1 := by
    have k1 := la_n_d (fun k => decide (many + tc_st (tc_oc tw) q ≤ sx_u b i j k)) i (tc_st (tc_oc tw) q)
    rw [la_n_0 (S := fun k => decide (many + tc_st (tc_oc tw) q ≤ sx_u b i j k) && !(k == i)) _ (fun k hk => by
      by_cases e : k = i
      · rw [e]; simp
      · have : decide (many + tc_st (tc_oc tw) q ≤ sx_u b i j k) = false := decide_eq_false (by rw [sx_u_ne b j e]; have := hb k hk; omega)
        rw [this]
        rfl)] at k1
    have : (if i < tc_st (tc_oc tw) q then 1 else 0) ≤ 1 := by split <;> omega
    omega
  have h2 : (1843200 : Int) ^ (la_n (fun k => decide (many + tc_st (tc_oc tw) q ≤ sx_u b i j k)) (tc_st (tc_oc tw) q)) ≤ 1843200 := by
    rcases (show la_n (fun k => decide (many + tc_st (tc_oc tw) q ≤ sx_u b i j k)) (tc_st (tc_oc tw) q) = 0 ∨ la_n (fun k => decide (many + tc_st (tc_oc tw) q ≤ sx_u b i j k)) (tc_st (tc_oc tw) q) = 1 by omega) with e | e <;> rw [e] <;> decide
  exact sq_le (by decide) (by unfold sx_t; omega)
theorem tc_b3 {q many : Nat} {tw : Nat → Bool} {la lb : Nat → Int} {tm : Nat → Nat → Int} (hq : q ≤ 8) (ht : ∀ s o, s < q → o < tc_oc tw s → 0 ≤ tm s o ∧ tm s o ≤ 240) {b : Nat → Nat} (hb : ∀ i, i < tc_st (tc_oc tw) q → b i < many + tc_st (tc_oc tw) q) (i : Nat) {j : Nat} (hj : j < many + tc_st (tc_oc tw) q) : -8388608 ≤ sx_t (tc_C q many tw la lb tm) (tc_st (tc_oc tw) q) b i j ∧ sx_t (tc_C q many tw la lb tm) (tc_st (tc_oc tw) q) b i j ≤ 8388608 :=
  tc_b1 hq ht (fun k hk => by unfold sx_u; split
                              · exact hj
                              · exact hb k hk)
theorem la_S_b {f : Nat → Int} {M : Int} : ∀ n : Nat, (∀ i, i < n → -M ≤ f i ∧ f i ≤ M) → -(n * M) ≤ la_S n f ∧ la_S n f ≤ n * M := by
  intro n
  induction n with
  | zero => intro _; show -(((0 : Nat) : Int) * M) ≤ 0 ∧ (0 : Int) ≤ ((0 : Nat) : Int) * M; rw [Int.natCast_zero, Int.zero_mul]; decide
  | succ n ih =>
    intro h
    have h1 := ih (fun i hi => h i (by omega))
    have h2 := h n (by omega)
    show -(((n + 1 : Nat) : Int) * M) ≤ la_S n f + f n ∧ la_S n f + f n ≤ ((n + 1 : Nat) : Int) * M
    rw [Int.natCast_add, Int.add_mul]
    omega
theorem w1_b {a x M : Int} (ha : a = 0 ∨ a = 1 ∨ a = -1) (hx : -M ≤ x ∧ x ≤ M) : -M ≤ a * x ∧ a * x ≤ M := by
  rcases ha with e | e | e <;> rw [e] <;> omega
theorem sx_ob_b {C : Nat → Nat → Int} {m : Nat} {w : Nat → Int} {b : Nat → Nat} {j : Nat} {M : Int} (hm : m ≤ 32) (hw : ∀ k, w k = 0 ∨ w k = 1 ∨ w k = -1) (h1 : ∀ i, -M ≤ sx_t C m b i j ∧ sx_t C m b i j ≤ M) (h2 : -M ≤ sx_D C m b ∧ sx_D C m b ≤ M) : -(33 * M) ≤ sx_o C m w b j ∧ sx_o C m w b j ≤ 33 * M := by
  have e1 := la_S_b (f := fun i => w (b i) * sx_t C m b i j) (M := M) m (fun i _ => w1_b (hw (b i)) (h1 i))
  have e2 := w1_b (hw j) h2
  have e3 : (m : Int) * M ≤ 32 * M := Int.mul_le_mul_of_nonneg_right (by omega) (by omega)
  unfold sx_o
  omega
