/-! Bland: the choice of least names comes to its end -/
def sx_pk (C : Nat → Nat → Int) (m n : Nat) (al : Prop) (w1 w : Nat → Int) (b : Nat → Nat) (c r : Nat) : Prop :=
  c < n ∧ sx_o C m w b c < 0 ∧ (al → sx_o C m w1 b c = 0) ∧ (∀ j, j < c → (al → sx_o C m w1 b j = 0) → 0 ≤ sx_o C m w b j) ∧ r < m ∧ 0 < sx_t C m b r c
  ∧ (∀ i, i < m → 0 < sx_t C m b i c → sx_t C m b r n * sx_t C m b i c ≤ sx_t C m b i n * sx_t C m b r c ∧ (sx_t C m b r n * sx_t C m b i c = sx_t C m b i n * sx_t C m b r c → b r ≤ b i))
def sx_g (C : Nat → Nat → Int) (m n : Nat) (b : Nat → Nat) : Prop := 0 < sx_D C m b ∧ (∀ i, i < m → 0 ≤ sx_t C m b i n) ∧ ∀ i, i < m → b i < n
theorem sx_g_pk {C : Nat → Nat → Int} {m n : Nat} {al : Prop} {w1 w : Nat → Int} {b : Nat → Nat} {c r : Nat} (hg : sx_g C m n b) (hp : sx_pk C m n al w1 w b c r) : sx_g C m n (sx_u b r c) := by
  obtain ⟨g1, g2, g3⟩ := hg
  obtain ⟨p1, p2, p3, p4, p5, p6, p7⟩ := hp
  refine ⟨p6, fun i hi => ?_, fun i hi => ?_⟩
  · by_cases hir : i = r
    · subst hir
      rw [sx_pr]
      exact g2 i hi
    · have e := sx_pv (C := C) (b := b) c n hi p5 hir
      have a1 := g2 i hi
      have a2 := g2 r p5
      have key : 0 ≤ sx_t C m b i n * sx_t C m b r c - sx_t C m b i c * sx_t C m b r n := by
        rcases Int.lt_or_le 0 (sx_t C m b i c) with q | q
        · have := (p7 i hi q).1
          rw [Int.mul_comm (sx_t C m b i c)]
          omega
        · have h1 := Int.mul_nonneg a1 (Int.le_of_lt p6)
          have h2 : sx_t C m b i c * sx_t C m b r n ≤ 0 := Int.mul_nonpos_of_nonpos_of_nonneg q a2
          omega
      rw [← e] at key
      exact Int.nonneg_of_mul_nonneg_right key g1
  · unfold sx_u
    split
    · exact p1
    · exact g3 i hi
def sx_en (C : Nat → Nat → Int) (m n : Nat) (al : Prop) (w1 w : Nat → Int) : Nat → (Nat → Nat) → Prop
  | 0, _ => False
  | k + 1, b => ∀ c r, sx_pk C m n al w1 w b c r → sx_en C m n al w1 w k (sx_u b r c)
theorem sx_chain {C : Nat → Nat → Int} {m n : Nat} {al : Prop} {w1 w : Nat → Int} : ∀ (k : Nat) (b : Nat → Nat), ¬ sx_en C m n al w1 w k b → ∃ (B : Nat → Nat → Nat) (c r : Nat → Nat), B 0 = b ∧ ∀ t, t < k → sx_pk C m n al w1 w (B t) (c t) (r t) ∧ B (t + 1) = sx_u (B t) (r t) (c t) := by
  intro k
  induction k with
  | zero => intro b _; exact ⟨fun _ => b, fun _ => 0, fun _ => 0, rfl, fun t ht => absurd ht (Nat.not_lt_zero _)⟩
  | succ k ih =>
    intro b h
    have h' : ∃ c r, sx_pk C m n al w1 w b c r ∧ ¬ sx_en C m n al w1 w k (sx_u b r c) := by
      refine Classical.byContradiction (fun z => h ?_)
      intro c r hp
      exact Classical.byContradiction (fun z2 => z ⟨c, r, hp, z2⟩)
    obtain ⟨c0, r0, hp, hn⟩ := h'
    obtain ⟨B, c, r, hB, hs⟩ := ih _ hn
    refine ⟨fun t => match t with | 0 => b | t + 1 => B t, fun t => match t with | 0 => c0 | t + 1 => c t, fun t => match t with | 0 => r0 | t + 1 => r t, rfl, fun t ht => ?_⟩
    cases t with
    | zero => exact ⟨hp, hB⟩
    | succ t => exact hs t (by omega)
theorem pg_hole : ∀ (K : Nat) (f : Nat → Nat), (∀ t, t ≤ K → f t < K) → ∃ t1 t2, t1 < t2 ∧ t2 ≤ K ∧ f t1 = f t2 := by
  intro K
  induction K with
  | zero => intro f h; exact absurd (h 0 (Nat.le_refl _)) (Nat.not_lt_zero _)
  | succ K ih =>
    intro f h
    by_cases q : ∃ t, t < K + 1 ∧ f t = f (K + 1)
    · obtain ⟨t, h1, h2⟩ := q
      exact ⟨t, K + 1, h1, Nat.le_refl _, h2⟩
    · have hne : ∀ t, t < K + 1 → f t ≠ f (K + 1) := fun t ht e => q ⟨t, ht, e⟩
      have hK := h (K + 1) (Nat.le_refl _)
      obtain ⟨t1, t2, a1, a2, a3⟩ := ih (fun t => if f (K + 1) < f t then f t - 1 else f t) (fun t ht => by
        have b1 := hne t (by omega)
        have b2 := h t (by omega)
        show (if f (K + 1) < f t then f t - 1 else f t) < K
        split <;> omega)
      refine ⟨t1, t2, a1, by omega, ?_⟩
      have b1 := hne t1 (by omega)
      have b2 := hne t2 (by omega)
      have a3 : (if f (K + 1) < f t1 then f t1 - 1 else f t1) = (if f (K + 1) < f t2 then f t2 - 1 else f t2) := a3
      split at a3 <;> split at a3 <;> omega
def cd_n (n : Nat) (b : Nat → Nat) : Nat → Nat
  | 0 => 0
  | k + 1 => cd_n n b k * n + b k
theorem cd_lt (n : Nat) (b : Nat → Nat) : ∀ k, (∀ i, i < k → b i < n) → cd_n n b k < n ^ k := by
  intro k
  induction k with
  | zero => intro _; exact Nat.one_pos
  | succ k ih =>
    intro h
    have h1 := ih (fun i hi => h i (by omega))
    have h2 := h k (by omega)
    show cd_n n b k * n + b k < n ^ k * n
    have h3 : (cd_n n b k + 1) * n ≤ n ^ k * n := Nat.mul_le_mul_right n h1
    rw [Nat.add_mul] at h3
    omega
theorem cd_inj (n : Nat) (b b' : Nat → Nat) : ∀ k, (∀ i, i < k → b i < n) → (∀ i, i < k → b' i < n) → cd_n n b k = cd_n n b' k → ∀ i, i < k → b i = b' i := by
  intro k
  induction k with
  | zero => intro _ _ _ i hi; exact absurd hi (Nat.not_lt_zero _)
  | succ k ih =>
    intro h h' e i hi
    have h2 := h k (by omega)
    have h2' := h' k (by omega)
    have e : cd_n n b k * n + b k = cd_n n b' k * n + b' k := e
    have e1 : b k = b' k := by
      have := congrArg (· % n) e
      simp only [Nat.mul_add_mod_self_right, Nat.mod_eq_of_lt h2, Nat.mod_eq_of_lt h2'] at this
      exact this
    have e2 : cd_n n b k = cd_n n b' k := by
      rw [e1] at e
      exact Nat.eq_of_mul_eq_mul_right (by omega) (Nat.add_right_cancel e)
    by_cases hk : i = k
    · rw [hk]; exact e1
    · exact ih (fun i hi => h i (by omega)) (fun i hi => h' i (by omega)) e2 i (by omega)
theorem fr_tr {a b c d e f : Int} (hd : 0 < d) (hb : 0 < b) (hf : 0 < f) (h1 : a * d ≤ c * b) (h2 : c * f ≤ e * d) : a * f ≤ e * b := by
  have g1 : a * d * f ≤ c * b * f := Int.mul_le_mul_of_nonneg_right h1 (Int.le_of_lt hf)
  have g2 : c * f * b ≤ e * d * b := Int.mul_le_mul_of_nonneg_right h2 (Int.le_of_lt hb)
  have g3 : d * (a * f) ≤ d * (e * b) := by
    have i1 : a * d * f = d * (a * f) := by grind
    have i2 : e * d * b = d * (e * b) := by grind
    have i3 : c * b * f = c * f * b := by grind
    omega
  exact Int.le_of_mul_le_mul_left g3 hd
theorem fr_st {a b c d e f : Int} (hb : 0 < b) (hd : 0 < d) (hf : 0 < f) (h1 : a * d ≤ c * b) (h2 : c * f < e * d) (h3 : e * b ≤ a * f) : False := by
  have g1 := fr_tr hf hd hb (Int.le_of_lt h2) h3
  have g2 : a * d = c * b := by omega
  have i1 : c * f * b < e * d * b := Int.mul_lt_mul_of_pos_right h2 hb
  have i2 : e * b * d ≤ a * f * d := Int.mul_le_mul_of_nonneg_right h3 (Int.le_of_lt hd)
  have i3 : e * d * b = e * b * d := by grind
  have i4 : a * f * d = a * d * f := by grind
  have i5 : c * f * b = c * b * f := by grind
  rw [i5] at i1
  rw [i4, g2] at i2
  omega
theorem mx_at (f : Nat → Nat) (a : Nat) : ∀ d, ∃ t, a ≤ t ∧ t ≤ a + d ∧ ∀ u, a ≤ u → u ≤ a + d → f u ≤ f t := by
  intro d
  induction d with
  | zero => exact ⟨a, Nat.le_refl _, Nat.le_refl _, fun u h1 h2 => by rw [show u = a by omega]; exact Nat.le_refl _⟩
  | succ d ih =>
    obtain ⟨t, h1, h2, h3⟩ := ih
    by_cases q : f (a + (d + 1)) ≤ f t
    · refine ⟨t, h1, by omega, fun u hu1 hu2 => ?_⟩
      by_cases hu : u = a + (d + 1)
      · rw [hu]; exact q
      · exact h3 u hu1 (by omega)
    · refine ⟨a + (d + 1), by omega, by omega, fun u hu1 hu2 => ?_⟩
      by_cases hu : u = a + (d + 1)
      · rw [hu]; exact Nat.le_refl _
      · have := h3 u hu1 (by omega); omega
theorem la_S_ps {f : Nat → Int} : ∀ n : Nat, 0 < la_S n f → ∃ i, i < n ∧ 0 < f i := by
  intro n
  induction n with
  | zero => intro h; exact absurd h (Int.lt_irrefl 0)
  | succ n ih =>
    intro h
    have h : 0 < la_S n f + f n := h
    by_cases q : 0 < f n
    · exact ⟨n, by omega, q⟩
    · obtain ⟨i, h1, h2⟩ := ih (by omega)
      exact ⟨i, by omega, h2⟩
theorem sx_cyc {C : Nat → Nat → Int} {m n : Nat} {al : Prop} {w1 w : Nat → Int} {B : Nat → Nat → Nat} {c r : Nat → Nat} {t1 t2 : Nat} (h12 : t1 < t2) (hg : ∀ t, t ≤ t2 → sx_g C m n (B t)) (hs : ∀ t, t < t2 → sx_pk C m n al w1 w (B t) (c t) (r t) ∧ B (t + 1) = sx_u (B t) (r t) (c t)) (he : ∀ i, i < m → B t1 i = B t2 i) : False := by
  -- the aim never falls
  have a1 : ∀ t, t < t2 → sx_D C m (B t) * sx_o C m w (B (t + 1)) n = sx_o C m w (B t) n * sx_D C m (B (t + 1)) - sx_o C m w (B t) (c t) * sx_t C m (B t) (r t) n := by
    intro t ht
    obtain ⟨p, e⟩ := hs t ht
    rw [e]
    exact sx_po w (c t) n p.2.2.2.2.1
  have a2 : ∀ t, t < t2 → sx_o C m w (B t) n * sx_D C m (B (t + 1)) ≤ sx_o C m w (B (t + 1)) n * sx_D C m (B t) := by
    intro t ht
    have e := a1 t ht
    obtain ⟨p, _⟩ := hs t ht
    have h1 := (hg t (by omega)).2.1 (r t) p.2.2.2.2.1
    have h2 : sx_o C m w (B t) (c t) * sx_t C m (B t) (r t) n ≤ 0 := Int.mul_nonpos_of_nonpos_of_nonneg (Int.le_of_lt p.2.1) h1
    rw [Int.mul_comm (sx_o C m w (B (t + 1)) n)]
    omega
  have a3 : ∀ t d, t + d ≤ t2 → sx_o C m w (B t) n * sx_D C m (B (t + d)) ≤ sx_o C m w (B (t + d)) n * sx_D C m (B t) := by
    intro t d
    induction d with
    | zero => intro _; exact Int.le_refl _
    | succ d ih =>
      intro h
      exact fr_tr (hg (t + d) (by omega)).1 (hg t (by omega)).1 (hg (t + d + 1) (by omega)).1 (ih (by omega)) (a2 (t + d) (by omega))
  have a4 : ∀ t, t1 ≤ t → t < t2 → sx_t C m (B t) (r t) n = 0 := by
    intro t h1 h2
    obtain ⟨p, _⟩ := hs t h2
    have q0 := (hg t (by omega)).2.1 (r t) p.2.2.2.2.1
    refine Classical.byContradiction (fun z => ?_)
    have q1 : 0 < sx_t C m (B t) (r t) n := by omega
    have q2 : sx_o C m w (B t) (c t) * sx_t C m (B t) (r t) n < 0 := Int.mul_neg_of_neg_of_pos p.2.1 q1
    have e := a1 t h2
    have s1 := a3 t1 (t - t1) (by omega)
    have s2 := a3 (t + 1) (t2 - (t + 1)) (by omega)
    rw [show t1 + (t - t1) = t by omega] at s1
    rw [show t + 1 + (t2 - (t + 1)) = t2 by omega, ← sx_x he, ← sx_ox he] at s2
    refine fr_st (hg t1 (by omega)).1 (hg t (by omega)).1 (hg (t + 1) (by omega)).1 s1 ?_ s2
    rw [Int.mul_comm (sx_o C m w (B (t + 1)) n)]
    omega
  -- a row's last number stays nought
  have a5 : ∀ i, i < m → ∀ t, t1 ≤ t → t < t2 → (sx_t C m (B t) i n = 0 ↔ sx_t C m (B (t + 1)) i n = 0) := by
    intro i hi t h1 h2
    obtain ⟨p, e⟩ := hs t h2
    have z := a4 t h1 h2
    rw [e]
    by_cases hir : i = r t
    · rw [hir, sx_pr]
    · have q := sx_pv (C := C) (b := B t) (c t) n hi p.2.2.2.2.1 hir
      rw [z, Int.mul_zero, Int.sub_zero] at q
      have d1 := (hg t (by omega)).1
      have d2 := p.2.2.2.2.2.1
      constructor
      · intro y
        rw [y, Int.zero_mul] at q
        rcases Int.mul_eq_zero.mp q with k | k
        · omega
        · exact k
      · intro y
        rw [y, Int.mul_zero] at q
        rcases Int.mul_eq_zero.mp q.symm with k | k
        · exact k
        · omega
  have a6 : ∀ i, i < m → ∀ d, t1 + d ≤ t2 → (sx_t C m (B t1) i n = 0 ↔ sx_t C m (B (t1 + d)) i n = 0) := by
    intro i hi d
    induction d with
    | zero => intro _; exact Iff.rfl
    | succ d ih => intro h; exact (ih (by omega)).trans (a5 i hi (t1 + d) (by omega) (by omega))
  have a7 : ∀ i, i < m → ∀ u, t1 ≤ u → u < t2 → r u = i → ∀ t, t1 ≤ t → t ≤ t2 → sx_t C m (B t) i n = 0 := by
    intro i hi u h1 h2 hr t h3 h4
    have z := a4 u h1 h2
    rw [hr] at z
    have k1 := a6 i hi (u - t1) (by omega)
    have k2 := a6 i hi (t - t1) (by omega)
    rw [show t1 + (u - t1) = u by omega] at k1
    rw [show t1 + (t - t1) = t by omega] at k2
    exact k2.mp (k1.mpr z)
  -- what stands in a row
  have b1 : ∀ i, ∀ d, t1 + d ≤ t2 → (B (t1 + d) i = B t1 i ∧ ∀ u, t1 ≤ u → u < t1 + d → r u ≠ i) ∨ ∃ u, t1 ≤ u ∧ u < t1 + d ∧ B (t1 + d) i = c u := by
    intro i d
    induction d with
    | zero => intro _; exact Or.inl ⟨rfl, fun u h1 h2 => by omega⟩
    | succ d ih =>
      intro h
      obtain ⟨p, e⟩ := hs (t1 + d) (by omega)
      have e : B (t1 + (d + 1)) = sx_u (B (t1 + d)) (r (t1 + d)) (c (t1 + d)) := e
      by_cases q : r (t1 + d) = i
      · refine Or.inr ⟨t1 + d, by omega, by omega, ?_⟩
        rw [e, q, sx_u_eq]
      · rw [e, sx_u_ne _ _ (fun z => q z.symm)]
        rcases ih (by omega) with k | k
        · refine Or.inl ⟨k.1, fun u h1 h2 => ?_⟩
          by_cases hu : u = t1 + d
          · rw [hu]; exact q
          · exact k.2 u h1 (by omega)
        · obtain ⟨u, k1, k2, k3⟩ := k
          exact Or.inr ⟨u, k1, by omega, k3⟩
  have b2 : ∀ i, i < m → (∀ u, t1 ≤ u → u < t2 → r u ≠ i) ∨ ∀ t, t1 ≤ t → t ≤ t2 → ∃ u, t1 ≤ u ∧ u < t2 ∧ B t i = c u := by
    intro i hi
    have k := b1 i (t2 - t1) (by omega)
    rw [show t1 + (t2 - t1) = t2 by omega] at k
    rcases k with k | k
    · exact Or.inl k.2
    · obtain ⟨u0, k1, k2, k3⟩ := k
      refine Or.inr (fun t h1 h2 => ?_)
      have y := b1 i (t - t1) (by omega)
      rw [show t1 + (t - t1) = t by omega] at y
      rcases y with y | y
      · exact ⟨u0, k1, k2, by rw [y.1, he i hi]; exact k3⟩
      · obtain ⟨u, y1, y2, y3⟩ := y
        exact ⟨u, y1, by omega, y3⟩
  have b3 : ∀ i, (∀ u, t1 ≤ u → u < t2 → r u ≠ i) → ∀ t, t1 ≤ t → t ≤ t2 → B t i = B t1 i := by
    intro i h t h1 h2
    have y : ∀ d, t1 + d ≤ t2 → B (t1 + d) i = B t1 i := by
      intro d
      induction d with
      | zero => intro _; rfl
      | succ d ih =>
        intro hd
        obtain ⟨p, e⟩ := hs (t1 + d) (by omega)
        have e : B (t1 + (d + 1)) = sx_u (B (t1 + d)) (r (t1 + d)) (c (t1 + d)) := e
        rw [e, sx_u_ne _ _ (fun z => h (t1 + d) (by omega) (by omega) z.symm)]
        exact ih (by omega)
    have := y (t - t1) (by omega)
    rw [show t1 + (t - t1) = t by omega] at this
    exact this
  -- which columns may come
  have d1 : al → ∀ j t, t < t2 → (sx_o C m w1 (B t) j = 0 ↔ sx_o C m w1 (B (t + 1)) j = 0) := by
    intro ha j t ht
    obtain ⟨p, e⟩ := hs t ht
    have q := sx_po (C := C) (b := B t) w1 (c t) j p.2.2.2.2.1
    rw [← e, p.2.2.1 ha, Int.zero_mul, Int.sub_zero] at q
    have g1 := (hg t (by omega)).1
    have g2 := p.2.2.2.2.2.1
    constructor
    · intro y
      rw [y, Int.zero_mul] at q
      rcases Int.mul_eq_zero.mp q with k | k
      · omega
      · exact k
    · intro y
      rw [y, Int.mul_zero] at q
      rcases Int.mul_eq_zero.mp q.symm with k | k
      · exact k
      · omega
  have d2 : al → ∀ j d, t1 + d ≤ t2 → (sx_o C m w1 (B t1) j = 0 ↔ sx_o C m w1 (B (t1 + d)) j = 0) := by
    intro ha j d
    induction d with
    | zero => intro _; exact Iff.rfl
    | succ d ih => intro h; exact (ih (by omega)).trans (d1 ha j (t1 + d) (by omega))
  have d3 : al → ∀ j t u, t1 ≤ t → t ≤ t2 → t1 ≤ u → u ≤ t2 → sx_o C m w1 (B t) j = 0 → sx_o C m w1 (B u) j = 0 := by
    intro ha j t u h1 h2 h3 h4 hz
    have k1 := d2 ha j (t - t1) (by omega)
    have k2 := d2 ha j (u - t1) (by omega)
    rw [show t1 + (t - t1) = t by omega] at k1
    rw [show t1 + (u - t1) = u by omega] at k2
    exact k2.mp (k1.mpr hz)
  -- the greatest that comes
  obtain ⟨t', e1, e2, e3⟩ := mx_at c t1 (t2 - t1 - 1)
  obtain ⟨p', ep'⟩ := hs t' (by omega)
  have f1 : ∃ t, t1 ≤ t ∧ t < t2 ∧ B t (r t) = c t' := by
    refine Classical.byContradiction (fun z => ?_)
    have z : ∀ t, t1 ≤ t → t < t2 → B t (r t) ≠ c t' := fun t h1 h2 h3 => z ⟨t, h1, h2, h3⟩
    have st : ∀ t, t1 ≤ t → t < t2 → B t (r t') = c t' → B (t + 1) (r t') = c t' := by
      intro t h1 h2 h3
      rw [(hs t h2).2, sx_u_ne]
      · exact h3
      · intro y
        rw [y] at h3
        exact z t h1 h2 h3
    have u1 : ∀ d, t' + 1 + d ≤ t2 → B (t' + 1 + d) (r t') = c t' := by
      intro d
      induction d with
      | zero => intro _; rw [Nat.add_zero, ep', sx_u_eq]
      | succ d ih => intro h; exact st (t' + 1 + d) (by omega) (by omega) (ih (by omega))
    have u2 := u1 (t2 - (t' + 1)) (by omega)
    rw [show t' + 1 + (t2 - (t' + 1)) = t2 by omega, ← he _ p'.2.2.2.2.1] at u2
    have u3 : ∀ d, t1 + d ≤ t2 → B (t1 + d) (r t') = c t' := by
      intro d
      induction d with
      | zero => intro _; exact u2
      | succ d ih => intro h; exact st (t1 + d) (by omega) (by omega) (ih (by omega))
    have u4 := u3 (t' - t1) (by omega)
    rw [show t1 + (t' - t1) = t' by omega] at u4
    have u5 := sx_ob (C := C) (b := B t') w p'.2.2.2.2.1
    rw [u4] at u5
    have := p'.2.1
    omega
  obtain ⟨t, f2, f3, f4⟩ := f1
  obtain ⟨p, ep⟩ := hs t f3
  have g1 : c t ≤ c t' := e3 t f2 (by omega)
  have g2 : c t ≠ c t' := by
    intro y
    have u5 := sx_ob (C := C) (b := B t) w p.2.2.2.2.1
    rw [f4, ← y] at u5
    have := p.2.1
    omega
  have g3 : 0 ≤ sx_o C m w (B t') (c t) := p'.2.2.2.1 (c t) (by omega) (fun ha => d3 ha (c t) t t' f2 (by omega) (by omega) (by omega) (p.2.2.1 ha))
  have g4 := sx_bl C m w (B t) (B t') (c t)
  have g5 : 0 < la_S m (fun i => sx_t C m (B t) i (c t) * sx_o C m w (B t') (B t i)) := by
    have h1 := Int.mul_nonneg (Int.le_of_lt (hg t (by omega)).1) g3
    have h2 : sx_D C m (B t') * sx_o C m w (B t) (c t) < 0 := Int.mul_neg_of_pos_of_neg (hg t' (by omega)).1 p.2.1
    omega
  obtain ⟨i, i1, i2⟩ := la_S_ps m g5
  have i3 : ¬ sx_o C m w (B t') (B t i) = 0 := fun y => by rw [y, Int.mul_zero] at i2; omega
  rcases b2 i i1 with k | k
  · have y1 := b3 i k t f2 (by omega)
    have y2 := b3 i k t' (by omega) (by omega)
    apply i3
    rw [y1, ← y2]
    exact sx_ob w i1
  · obtain ⟨u, k1, k2, k3⟩ := k t f2 (by omega)
    have k4 : B t i ≤ c t' := by rw [k3]; exact e3 u k1 (by omega)
    have k5 : ∃ v, t1 ≤ v ∧ v < t2 ∧ r v = i := by
      refine Classical.byContradiction (fun z => ?_)
      have k : ∀ u, t1 ≤ u → u < t2 → r u ≠ i := fun u h1 h2 h3 => z ⟨u, h1, h2, h3⟩
      have y1 := b3 i k t f2 (by omega)
      have y2 := b3 i k t' (by omega) (by omega)
      apply i3
      rw [y1, ← y2]
      exact sx_ob w i1
    obtain ⟨v, v1, v2, v3⟩ := k5
    have z1 := a7 i i1 v v1 v2 v3 t f2 (by omega)
    have z2 := a4 t f2 f3
    by_cases k6 : B t i = c t'
    · by_cases k7 : i = r t
      · have h1 := p.2.2.2.2.2.1
        have h2 := p'.2.1
        rw [k6, k7] at i2
        have : sx_t C m (B t) (r t) (c t) * sx_o C m w (B t') (c t') < 0 := Int.mul_neg_of_pos_of_neg h1 h2
        omega
      · have := sx_al (C := C) k7 i1 p.2.2.2.2.1 (k6.trans f4.symm)
        have := (hg t (by omega)).1
        omega
    · have h1 : 0 ≤ sx_o C m w (B t') (B t i) := p'.2.2.2.1 (B t i) (by omega) (fun ha => d3 ha (B t i) t t' f2 (by omega) (by omega) (by omega) (sx_ob w1 i1))
      have h2 : 0 < sx_t C m (B t) i (c t) := by
        rcases Int.lt_or_le 0 (sx_t C m (B t) i (c t)) with y | y
        · exact y
        · have := Int.mul_nonpos_of_nonpos_of_nonneg y h1
          omega
      have h3 := (p.2.2.2.2.2.2 i i1 h2).2 (by rw [z1, z2]; omega)
      rw [f4] at h3
      omega
theorem sx_end {C : Nat → Nat → Int} {m n : Nat} {al : Prop} {w1 w : Nat → Int} {b : Nat → Nat} (hg : sx_g C m n b) : ∃ k, sx_en C m n al w1 w k b := by
  refine Classical.byContradiction (fun z => ?_)
  have z : ¬ sx_en C m n al w1 w (n ^ m) b := fun y => z ⟨_, y⟩
  obtain ⟨B, c, r, h0, hs⟩ := sx_chain (n ^ m) b z
  have hB : ∀ t, t ≤ n ^ m → sx_g C m n (B t) := by
    intro t
    induction t with
    | zero => intro _; rw [h0]; exact hg
    | succ t ih =>
      intro h
      obtain ⟨p, e⟩ := hs t (by omega)
      rw [e]
      exact sx_g_pk (ih (by omega)) p
  obtain ⟨t1, t2, h1, h2, h3⟩ := pg_hole (n ^ m) (fun t => cd_n n (B t) m) (fun t ht => cd_lt n (B t) m (hB t ht).2.2)
  exact sx_cyc h1 (fun t ht => hB t (by omega)) (fun t ht => hs t (by omega)) (cd_inj n (B t1) (B t2) m (hB t1 (by omega)).2.2 (hB t2 (by omega)).2.2 h3)
