/-! bounds of determinants; vectors of a small span -/
def la_P : Nat → (Nat → Int) → Int
  | 0, _ => 1
  | n + 1, f => la_P n f * f n
theorem la_dn (v : Nat → Int) : ∀ m, 0 ≤ la_d v v m := by
  intro m
  induction m with
  | zero => exact Int.le_refl _
  | succ m ih =>
    have := la_sqn (v m)
    show 0 ≤ la_d v v m + v m * v m
    omega
theorem la_p0 : ∀ (m : Nat) (x y : List Bool → Int), (∀ t, x t = 0) → la_p m x y = 0 := by
  intro m x y h
  rw [la_pl m 0 0 x x x y (fun t _ => by rw [h t]; omega)]
  omega
theorem la_pu : ∀ m : Nat, la_p m la_u la_u = 1 := by
  intro m
  induction m with
  | zero => rfl
  | succ m ih =>
    have e1 : la_p m (fun t => la_u (false :: t)) (fun t => la_u (false :: t)) = la_p m la_u la_u := rfl
    have e2 : la_p m (fun t => la_u (true :: t)) (fun t => la_u (true :: t)) = 0 := la_p0 m _ _ (fun t => rfl)
    show la_p m _ _ + la_p m _ _ = 1
    rw [e1, e2, ih]
    rfl
theorem la_hp (V : Nat → Nat → Int) (m : Nat) : ∀ k : Nat, la_p m (la_e V k) (la_e V k) ≤ la_P k (fun i => la_d (V i) (V i) m) := by
  intro k
  induction k with
  | zero => show la_p m la_u la_u ≤ 1; rw [la_pu]; exact Int.le_refl _
  | succ k ih =>
    have e1 := la_had (V k) m (la_e V k)
    have e2 := Int.mul_le_mul_of_nonneg_left ih (la_dn (V k) m)
    show la_p m (la_w (V k) (la_e V k)) (la_w (V k) (la_e V k)) ≤ la_P k _ * la_d (V k) (V k) m
    rw [Int.mul_comm (la_P k _)]
    omega
theorem la_Db (m : Nat) (V : Nat → Nat → Int) : la_D m V * la_D m V ≤ la_P m (fun i => la_d (V i) (V i) m) := by
  have e1 := la_pg (la_tt m) (la_e V m)
  have e2 := la_hp V m m
  rw [la_tl] at e1
  exact Int.le_trans e1 e2
def la_n (S : Nat → Bool) : Nat → Nat
  | 0 => 0
  | k + 1 => la_n S k + (if S k = true then 1 else 0)
def la_in (d : Nat) (u : Nat → Nat → Int) (x : Nat → Int) : Prop := ∃ a : Nat → Int, ∀ l, x l = la_S d (fun f => a f * u f l)
theorem la_n_pos (S : Nat → Bool) : ∀ k, 0 < la_n S k → ∃ i, i < k ∧ S i = true := by
  intro k
  induction k with
  | zero => intro h; exact absurd h (Nat.lt_irrefl _)
  | succ k ih =>
    intro h
    by_cases hs : S k = true
    · exact ⟨k, by omega, hs⟩
    · have e : la_n S (k + 1) = la_n S k + (if S k = true then 1 else 0) := rfl
      rw [e, if_neg hs] at h
      obtain ⟨i, h1, h2⟩ := ih (by omega)
      exact ⟨i, by omega, h2⟩
theorem la_n_x {S S' : Nat → Bool} : ∀ k, (∀ i, i < k → S i = S' i) → la_n S k = la_n S' k := by
  intro k
  induction k with
  | zero => intro _; rfl
  | succ k ih =>
    intro h
    show la_n S k + (if S k = true then 1 else 0) = la_n S' k + (if S' k = true then 1 else 0)
    rw [ih (fun i hi => h i (by omega)), h k (by omega)]
theorem la_n_d (S : Nat → Bool) (j : Nat) : ∀ k, la_n S k ≤ la_n (fun i => S i && !(i == j)) k + (if j < k then 1 else 0) := by
  intro k
  induction k with
  | zero => exact Nat.zero_le _
  | succ k ih =>
    show la_n S k + (if S k = true then 1 else 0) ≤ (la_n (fun i => S i && !(i == j)) k + (if (S k && !(k == j)) = true then 1 else 0)) + (if j < k + 1 then 1 else 0)
    by_cases hk : k = j
    · subst hk
      rw [if_neg (Nat.lt_irrefl k)] at ih
      rw [if_pos (Nat.lt_succ_self k)]
      have : (if S k = true then 1 else 0) ≤ 1 := by split <;> omega
      omega
    · have e : (S k && !(k == j)) = S k := by
        have : (k == j) = false := by simp [hk]
        rw [this]
        simp
      rw [e]
      have : (if j < k then 1 else 0) ≤ (if j < k + 1 then 1 else 0) := by
        split
        · rw [if_pos (by omega)]; omega
        · omega
      omega
theorem la_self (V : Nat → Nat → Int) (i : Nat) : la_s V i (V i) = V := by
  funext k
  unfold la_s
  split
  · rename_i h; rw [h]
  · rfl
def la_r (V : Nat → Nat → Int) (S : Nat → Bool) (y : Nat → Nat → Int) (n : Nat) : Nat → Nat → Int := fun i => if i < n ∧ S i = true then y i else V i
theorem la_r_i (V : Nat → Nat → Int) (S : Nat → Bool) (y : Nat → Nat → Int) {n i : Nat} (h : i < n) (hs : S i = true) : la_r V S y n i = y i := if_pos ⟨h, hs⟩
theorem la_r_o (V : Nat → Nat → Int) (S : Nat → Bool) (y : Nat → Nat → Int) {n i : Nat} (h : ¬ (i < n ∧ S i = true)) : la_r V S y n i = V i := if_neg h
theorem la_r_0 (V : Nat → Nat → Int) (S : Nat → Bool) (y : Nat → Nat → Int) : la_r V S y 0 = V := by
  funext i
  exact la_r_o V S y (fun z => absurd z.1 (Nat.not_lt_zero _))
theorem la_r_n (V : Nat → Nat → Int) (S : Nat → Bool) (y : Nat → Nat → Int) (n : Nat) : la_r V S y n = la_s (la_r V S y n) n (V n) := by
  have e : la_r V S y n n = V n := la_r_o V S y (fun z => absurd z.1 (Nat.lt_irrefl _))
  rw [← e, la_self]
theorem la_r_t (V : Nat → Nat → Int) (S : Nat → Bool) (y : Nat → Nat → Int) {n : Nat} (hs : S n = true) : la_s (la_r V S y n) n (y n) = la_r V S y (n + 1) := by
  funext i
  by_cases q : i = n
  · rw [q, la_s_eq, la_r_i V S y (Nat.lt_succ_self n) hs]
  · rw [la_s_ne _ _ q]
    by_cases q2 : i < n ∧ S i = true
    · rw [la_r_i V S y q2.1 q2.2, la_r_i V S y (by omega) q2.2]
    · rw [la_r_o V S y q2, la_r_o V S y (fun z => q2 ⟨by omega, z.2⟩)]
theorem la_r_f (V : Nat → Nat → Int) (S : Nat → Bool) (y : Nat → Nat → Int) {n : Nat} (hs : ¬ S n = true) : la_r V S y n = la_r V S y (n + 1) := by
  funext i
  by_cases q2 : i < n ∧ S i = true
  · rw [la_r_i V S y q2.1 q2.2, la_r_i V S y (by omega) q2.2]
  · rw [la_r_o V S y q2, la_r_o V S y]
    intro z
    by_cases q : i = n
    · rw [q] at z; exact hs z.2
    · exact q2 ⟨by omega, z.2⟩
theorem la_rep (V : Nat → Nat → Int) (S : Nat → Bool) (y : Nat → Nat → Int) (c : Nat → Int) (u : Nat → Int) (k : Nat) (s : List Bool) (hV : ∀ i, i < k → S i = true → ∀ l, V i l = y i l + c i * u l) (hz : ∀ n, n < k → S n = true → la_e (la_s (la_r V S y n) n u) k s = 0) : ∀ n, n ≤ k → la_e V k s = la_e (la_r V S y n) k s := by
  intro n
  induction n with
  | zero => intro _; rw [la_r_0]
  | succ n ih =>
    intro hn
    rw [ih (by omega)]
    by_cases hs : S n = true
    · rw [la_r_n V S y n, la_el (x := y n) (y := u) (a := 1) (b := c n) _ k s (by omega) (fun l _ => by rw [hV n (by omega) hs l]; omega), hz n (by omega) hs, la_r_t V S y hs]
      omega
    · rw [la_r_f V S y hs]
theorem la_sp (u : Nat → Nat → Int) : ∀ (d : Nat) (V : Nat → Nat → Int) (S : Nat → Bool) (k : Nat) (s : List Bool), (∀ i, i < k → S i = true → la_in d u (V i)) → d < la_n S k → la_e V k s = 0 := by
  intro d
  induction d with
  | zero =>
    intro V S k s h hn
    obtain ⟨i, hi, hs⟩ := la_n_pos S k hn
    obtain ⟨a, ha⟩ := h i hi hs
    rw [← la_self V i, la_el V (x := V i) (y := V i) (a := 0) (b := 0) k s hi (fun l _ => by rw [ha l]; simp [la_S])]
    omega
  | succ d ih =>
    -- where u d itself stands among them
    have RA : ∀ (V : Nat → Nat → Int) (S : Nat → Bool) (k : Nat) (s : List Bool) (y : Nat → Nat → Int) (c : Nat → Int) (j : Nat), j < k → S j = false → V j = u d → (∀ i, i < k → S i = true → ∀ l, V i l = y i l + c i * u d l) → (∀ i, i < k → S i = true → la_in d u (y i)) → d < la_n S k → la_e V k s = 0 := by
      intro V S k s y c j hj hSj hVj hV hy hn
      rw [la_rep V S y c (u d) k s hV (fun n hn hs => by
        have hnj : n ≠ j := fun z => by rw [z, hSj] at hs; cases hs
        refine la_alt _ (i := n) (j := j) s hnj hn hj (fun l _ => ?_)
        rw [la_s_eq, la_s_ne _ _ (fun z => hnj z.symm), la_r_o V S y (fun z => by rw [hSj] at z; cases z.2), hVj]) k (Nat.le_refl _)]
      refine ih _ S k s (fun i hi hs => ?_) hn
      rw [la_r_i V S y hi hs]
      exact hy i hi hs
    intro V S k s h hn
    have hA : ∀ i, ∃ a : Nat → Int, i < k → S i = true → ∀ l, V i l = la_S (d + 1) (fun f => a f * u f l) := by
      intro i
      by_cases q : i < k ∧ S i = true
      · obtain ⟨a, ha⟩ := h i q.1 q.2
        exact ⟨a, fun _ _ => ha⟩
      · exact ⟨fun _ => 0, fun a b => absurd ⟨a, b⟩ q⟩
    obtain ⟨A, hA⟩ := Classical.axiomOfChoice hA
    have hV : ∀ i, i < k → S i = true → ∀ l, V i l = (fun i l => la_S d (fun f => A i f * u f l)) i l + A i d * u d l := fun i hi hs l => hA i hi hs l
    have hy : ∀ i, la_in d u ((fun i l => la_S d (fun f => A i f * u f l)) i) := fun i => ⟨A i, fun l => rfl⟩
    generalize (fun i l => la_S d (fun f => A i f * u f l)) = y at hV hy
    rw [la_rep V S y (fun i => A i d) (u d) k s hV (fun n hn' hs => by
      refine RA _ (fun i => S i && !(i == n)) k s y (fun i => if i < n then 0 else A i d) n hn' (by simp) (la_s_eq _ _ _) (fun i hi hs' l => ?_) (fun i _ _ => hy i) ?_
      · have hs2 : S i = true := by
          cases q : S i with
          | true => rfl
          | false => rw [q] at hs'; cases hs'
        have hin : i ≠ n := fun z => by rw [z] at hs'; simp at hs'
        rw [la_s_ne _ _ hin]
        by_cases q : i < n
        · rw [la_r_i V S y q hs2, if_pos q]
          omega
        · rw [la_r_o V S y (fun z => q z.1), if_neg q]
          exact hV i hi hs2 l
      · have := la_n_d S n k
        rw [if_pos hn'] at this
        omega) k (Nat.le_refl _)]
    refine ih _ S k s (fun i hi hs => ?_) (by omega)
    rw [la_r_i V S y hi hs]
    exact hy i
