/-! the simplex over whole numbers: a basis and its tableau -/
def sx_u (b : Nat → Nat) (i j : Nat) : Nat → Nat := fun k => if k = i then j else b k
def sx_V (C : Nat → Nat → Int) (b : Nat → Nat) : Nat → Nat → Int := fun k => C (b k)
def sx_D (C : Nat → Nat → Int) (m : Nat) (b : Nat → Nat) : Int := la_D m (sx_V C b)
def sx_t (C : Nat → Nat → Int) (m : Nat) (b : Nat → Nat) (i j : Nat) : Int := sx_D C m (sx_u b i j)
def sx_o (C : Nat → Nat → Int) (m : Nat) (c : Nat → Int) (b : Nat → Nat) (j : Nat) : Int := la_S m (fun i => c (b i) * sx_t C m b i j) - c j * sx_D C m b
theorem sx_u_eq (b : Nat → Nat) (i j : Nat) : sx_u b i j i = j := if_pos rfl
theorem sx_u_ne (b : Nat → Nat) {i k : Nat} (j : Nat) (h : k ≠ i) : sx_u b i j k = b k := if_neg h
theorem sx_uu (b : Nat → Nat) (i j l : Nat) : sx_u (sx_u b i j) i l = sx_u b i l := by
  funext k
  unfold sx_u
  split
  · rfl
  · rfl
theorem sx_Vu (C : Nat → Nat → Int) (b : Nat → Nat) (i j : Nat) : sx_V C (sx_u b i j) = la_s (sx_V C b) i (C j) := by
  funext k
  unfold sx_V sx_u la_s
  split
  · rfl
  · rfl
theorem sx_t_D (C : Nat → Nat → Int) (m : Nat) (b : Nat → Nat) (i j : Nat) : sx_t C m b i j = la_D m (la_s (sx_V C b) i (C j)) := by
  unfold sx_t sx_D
  rw [sx_Vu]
theorem sx_x {C : Nat → Nat → Int} {m : Nat} {b b' : Nat → Nat} (h : ∀ i, i < m → b i = b' i) : sx_D C m b = sx_D C m b' := la_Dx (fun i hi l _ => by unfold sx_V; rw [h i hi])
theorem sx_tx {C : Nat → Nat → Int} {m : Nat} {b b' : Nat → Nat} (h : ∀ i, i < m → b i = b' i) (i j : Nat) : sx_t C m b i j = sx_t C m b' i j := sx_x (fun k hk => by unfold sx_u; rw [h k hk])
theorem sx_ox {C : Nat → Nat → Int} {m : Nat} {c : Nat → Int} {b b' : Nat → Nat} (h : ∀ i, i < m → b i = b' i) (j : Nat) : sx_o C m c b j = sx_o C m c b' j := by
  unfold sx_o
  rw [sx_x h, la_S_x m (fun i hi => by rw [h i hi, sx_tx h i j])]
theorem sx_al {C : Nat → Nat → Int} {m : Nat} {b : Nat → Nat} {i k : Nat} (hik : i ≠ k) (hi : i < m) (hk : k < m) (h : b i = b k) : sx_D C m b = 0 := la_Da hik hi hk (fun l _ => by unfold sx_V; rw [h])
theorem sx_tb {C : Nat → Nat → Int} {m : Nat} {b : Nat → Nat} {i k : Nat} (hi : i < m) (hk : k < m) : sx_t C m b i (b k) = if i = k then sx_D C m b else 0 := by
  split
  · rename_i h
    subst h
    exact sx_x (fun q _ => by unfold sx_u; split
                              · rename_i z; rw [z]
                              · rfl)
  · rename_i h
    exact sx_al h hi hk (by rw [sx_u_eq, sx_u_ne b _ (fun z => h z.symm)])
theorem la_S_1 {f g : Nat → Int} {r : Nat} : ∀ m : Nat, r < m → (∀ i, i < m → i ≠ r → f i = g i) → la_S m f = la_S m g + (f r - g r) := by
  intro m
  induction m with
  | zero => intro h; exact absurd h (Nat.not_lt_zero _)
  | succ m ih =>
    intro hr h
    show la_S m f + f m = la_S m g + g m + (f r - g r)
    by_cases q : r = m
    · subst q
      rw [la_S_x r (fun i hi => h i (by omega) (by omega))]
      omega
    · rw [ih (by omega) (fun i hi hn => h i (by omega) hn), h m (by omega) (fun z => q z.symm)]
      omega
theorem la_S_2 {f : Nat → Int} {m r i : Nat} (hr : r < m) (hi : i < m) (hri : i ≠ r) (h : ∀ k, k < m → k ≠ r → k ≠ i → f k = 0) : la_S m f = f r + f i := by
  have e1 := la_S_1 (f := f) (g := fun k => if k = r then 0 else f k) m hr (fun k _ hk => by rw [if_neg hk])
  have e2 := la_S_1 (f := fun k => if k = r then 0 else f k) (g := fun _ => 0) m hi (fun k hk hn => by
    show (if k = r then 0 else f k) = 0
    split
    · rfl
    · rename_i q; exact h k hk q hn)
  have e3 : la_S m (fun _ => 0) = 0 := la_S_0 m (fun _ _ => rfl)
  rw [if_pos rfl] at e1
  rw [if_neg hri, e3] at e2
  omega
theorem la_S_c (f : Nat → Nat → Int) (n : Nat) : ∀ m : Nat, la_S m (fun i => la_S n (fun j => f i j)) = la_S n (fun j => la_S m (fun i => f i j)) := by
  intro m
  induction m with
  | zero => exact (la_S_0 n (fun _ _ => rfl)).symm
  | succ m ih =>
    show la_S m _ + la_S n _ = la_S n (fun j => la_S m (fun i => f i j) + f m j)
    rw [ih]
    have := la_S_l 1 1 (fun j => la_S m (fun i => f i j)) (fun j => f m j) n
    simp only [Int.one_mul] at this
    exact this.symm
theorem la_S_m (a : Int) (f : Nat → Int) (n : Nat) : a * la_S n f = la_S n (fun i => a * f i) := by
  have := la_S_l a 0 f f n
  simp only [Int.zero_mul, Int.add_zero] at this
  exact this.symm
/-- the turn -/
theorem sx_pv {C : Nat → Nat → Int} {m : Nat} {b : Nat → Nat} {i r : Nat} (c j : Nat) (hi : i < m) (hr : r < m) (hir : i ≠ r) : sx_D C m b * sx_t C m (sx_u b r c) i j = sx_t C m b i j * sx_t C m b r c - sx_t C m b i c * sx_t C m b r j := by
  have e1 := la_gen m (sx_V C b) (la_s (sx_V C b) i (C j)) (C c) hr
  have e2 : la_s (la_s (sx_V C b) i (C j)) r (C c) = la_s (sx_V C (sx_u b r c)) i (C j) := by
    rw [sx_Vu]
    funext k
    unfold la_s
    by_cases h1 : k = r
    · rw [if_pos h1, if_neg (by omega), if_pos h1]
    · rw [if_neg h1, if_neg h1]
  have e3 : la_s (la_s (sx_V C b) i (C j)) r (sx_V C b r) = la_s (sx_V C b) i (C j) := by
    funext k
    unfold la_s
    by_cases h1 : k = r
    · rw [if_pos h1, if_neg (by omega), h1]
    · rw [if_neg h1]
  have e4 : la_D m (la_s (la_s (sx_V C b) i (C j)) r (sx_V C b i)) = - la_D m (la_s (sx_V C b) r (C j)) := by
    rw [la_Ds _ _ _ hir hi hr, la_self]
  have e5 : ∀ k, k < m → k ≠ r → k ≠ i → la_D m (la_s (sx_V C b) k (C c)) * la_D m (la_s (la_s (sx_V C b) i (C j)) r (sx_V C b k)) = 0 := by
    intro k hk h1 h2
    rw [la_Da (V := la_s (la_s (sx_V C b) i (C j)) r (sx_V C b k)) (i := k) (j := r) h1 hk hr (fun l _ => by rw [la_s_eq, la_s_ne _ _ h1, la_s_ne _ _ h2])]
    exact Int.mul_zero _
  rw [la_S_2 (f := fun k => la_D m (la_s (sx_V C b) k (C c)) * la_D m (la_s (la_s (sx_V C b) i (C j)) r (sx_V C b k))) hr hi hir e5, e2, e3, e4] at e1
  rw [sx_t_D C m (sx_u b r c), sx_t_D, sx_t_D, sx_t_D, sx_t_D]
  show la_D m (sx_V C b) * _ = _
  rw [e1]
  grind
theorem sx_pr {C : Nat → Nat → Int} {m : Nat} {b : Nat → Nat} (r c j : Nat) : sx_t C m (sx_u b r c) r j = sx_t C m b r j := by
  unfold sx_t
  rw [sx_uu]
theorem sx_po {C : Nat → Nat → Int} {m : Nat} {b : Nat → Nat} (w : Nat → Int) {r : Nat} (c j : Nat) (hr : r < m) : sx_D C m b * sx_o C m w (sx_u b r c) j = sx_o C m w b j * sx_t C m b r c - sx_o C m w b c * sx_t C m b r j := by
  have e1 : la_S m (fun i => w (sx_u b r c i) * (sx_D C m b * sx_t C m (sx_u b r c) i j)) = la_S m (fun i => w (b i) * (sx_t C m b i j * sx_t C m b r c - sx_t C m b i c * sx_t C m b r j)) + w c * (sx_D C m b * sx_t C m b r j) := by
    rw [la_S_1 (g := fun i => w (b i) * (sx_t C m b i j * sx_t C m b r c - sx_t C m b i c * sx_t C m b r j)) m hr (fun i hi hn => by rw [sx_u_ne b c hn, sx_pv c j hi hr hn])]
    rw [sx_u_eq, sx_pr]
    grind
  have e2 : la_S m (fun i => w (sx_u b r c i) * (sx_D C m b * sx_t C m (sx_u b r c) i j)) = sx_D C m b * la_S m (fun i => w (sx_u b r c i) * sx_t C m (sx_u b r c) i j) := by
    rw [la_S_m]
    exact la_S_x m (fun i _ => by grind)
  have e3 : la_S m (fun i => w (b i) * (sx_t C m b i j * sx_t C m b r c - sx_t C m b i c * sx_t C m b r j)) = sx_t C m b r c * la_S m (fun i => w (b i) * sx_t C m b i j) + (- sx_t C m b r j) * la_S m (fun i => w (b i) * sx_t C m b i c) := by
    rw [← la_S_l]
    exact la_S_x m (fun i _ => by grind)
  have e4 : sx_D C m (sx_u b r c) = sx_t C m b r c := rfl
  unfold sx_o
  rw [e4]
  rw [e2, e3] at e1
  generalize la_S m (fun i => w (sx_u b r c i) * sx_t C m (sx_u b r c) i j) = X1 at e1 ⊢
  generalize la_S m (fun i => w (b i) * sx_t C m b i j) = X2 at e1 ⊢
  generalize la_S m (fun i => w (b i) * sx_t C m b i c) = X3 at e1 ⊢
  grind
/-- two bases -/
theorem sx_bl (C : Nat → Nat → Int) (m : Nat) (w : Nat → Int) (b b' : Nat → Nat) (p : Nat) : sx_D C m b * sx_o C m w b' p = la_S m (fun i => sx_t C m b i p * sx_o C m w b' (b i)) + sx_D C m b' * sx_o C m w b p := by
  have e1 : ∀ q, q < m → sx_D C m b * sx_t C m b' q p = la_S m (fun i => sx_t C m b i p * sx_t C m b' q (b i)) := by
    intro q hq
    have := la_gen m (sx_V C b) (sx_V C b') (C p) hq
    rw [sx_t_D C m b' q p]
    show la_D m (sx_V C b) * _ = _
    rw [this]
    exact la_S_x m (fun i _ => by rw [sx_t_D, sx_t_D]; rfl)
  have e2 : la_S m (fun i => sx_t C m b i p * sx_o C m w b' (b i)) = la_S m (fun i => la_S m (fun q => w (b' q) * (sx_t C m b i p * sx_t C m b' q (b i)))) + (- sx_D C m b') * la_S m (fun i => w (b i) * sx_t C m b i p) := by
    rw [la_S_m]
    have := la_S_l 1 1 (fun i => la_S m (fun q => w (b' q) * (sx_t C m b i p * sx_t C m b' q (b i)))) (fun i => (- sx_D C m b') * (w (b i) * sx_t C m b i p)) m
    simp only [Int.one_mul] at this
    rw [← this]
    refine la_S_x m (fun i _ => ?_)
    unfold sx_o
    have e : la_S m (fun q => w (b' q) * (sx_t C m b i p * sx_t C m b' q (b i))) = sx_t C m b i p * la_S m (fun q => w (b' q) * sx_t C m b' q (b i)) := by
      rw [la_S_m]
      exact la_S_x m (fun q _ => by grind)
    rw [e]
    generalize la_S m (fun q => w (b' q) * sx_t C m b' q (b i)) = X1
    grind
  have e3 : la_S m (fun i => la_S m (fun q => w (b' q) * (sx_t C m b i p * sx_t C m b' q (b i)))) = sx_D C m b * la_S m (fun q => w (b' q) * sx_t C m b' q p) := by
    rw [la_S_c, la_S_m]
    refine la_S_x m (fun q hq => ?_)
    rw [← la_S_m, ← e1 q hq]
    grind
  rw [e2, e3]
  unfold sx_o
  generalize la_S m (fun q => w (b' q) * sx_t C m b' q p) = X1
  generalize la_S m (fun i => w (b i) * sx_t C m b i p) = X2
  grind
theorem sx_ob {C : Nat → Nat → Int} {m : Nat} {b : Nat → Nat} (w : Nat → Int) {k : Nat} (hk : k < m) : sx_o C m w b (b k) = 0 := by
  unfold sx_o
  rw [la_S_1 (g := fun _ => 0) m hk (fun i hi hn => by rw [sx_tb hi hk, if_neg hn]; exact Int.mul_zero _), la_S_0 m (fun _ _ => rfl), sx_tb hk hk, if_pos rfl]
  omega
