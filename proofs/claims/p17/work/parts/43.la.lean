/-! linear algebra over the integers, by lists of bits: wedge, contraction, inner product, determinants -/
def la_w (v : Nat → Int) : (List Bool → Int) → List Bool → Int
  | _, [] => 0
  | x, false :: s => la_w v (fun t => x (false :: t)) s
  | x, true :: s => v s.length * x (false :: s) - la_w v (fun t => x (true :: t)) s
def la_i (v : Nat → Int) : (List Bool → Int) → List Bool → Int
  | _, [] => 0
  | x, false :: s => la_i v (fun t => x (false :: t)) s + v s.length * x (true :: s)
  | x, true :: s => - la_i v (fun t => x (true :: t)) s
def la_d (v w : Nat → Int) : Nat → Int
  | 0 => 0
  | m + 1 => la_d v w m + v m * w m
def la_p : Nat → (List Bool → Int) → (List Bool → Int) → Int
  | 0, x, y => x [] * y []
  | m + 1, x, y => la_p m (fun t => x (false :: t)) (fun t => y (false :: t)) + la_p m (fun t => x (true :: t)) (fun t => y (true :: t))
def la_S : Nat → (Nat → Int) → Int
  | 0, _ => 0
  | n + 1, f => la_S n f + f n
def la_u : List Bool → Int
  | [] => 1
  | false :: s => la_u s
  | true :: _ => 0
def la_c : List Bool → Nat
  | [] => 0
  | false :: s => la_c s
  | true :: s => la_c s + 1
def la_e (V : Nat → Nat → Int) : Nat → List Bool → Int
  | 0 => la_u
  | k + 1 => la_w (V k) (la_e V k)
def la_s (V : Nat → Nat → Int) (i : Nat) (x : Nat → Int) : Nat → Nat → Int := fun k => if k = i then x else V k
theorem la_w_f (v : Nat → Int) (x : List Bool → Int) (s : List Bool) : la_w v x (false :: s) = la_w v (fun t => x (false :: t)) s := rfl
theorem la_w_t (v : Nat → Int) (x : List Bool → Int) (s : List Bool) : la_w v x (true :: s) = v s.length * x (false :: s) - la_w v (fun t => x (true :: t)) s := rfl
theorem la_i_f (v : Nat → Int) (x : List Bool → Int) (s : List Bool) : la_i v x (false :: s) = la_i v (fun t => x (false :: t)) s + v s.length * x (true :: s) := rfl
theorem la_i_t (v : Nat → Int) (x : List Bool → Int) (s : List Bool) : la_i v x (true :: s) = - la_i v (fun t => x (true :: t)) s := rfl
theorem la_e_s (V : Nat → Nat → Int) (k : Nat) : la_e V (k + 1) = la_w (V k) (la_e V k) := rfl
theorem la_s_eq (V : Nat → Nat → Int) (i : Nat) (x : Nat → Int) : la_s V i x i = x := if_pos rfl
theorem la_s_ne (V : Nat → Nat → Int) {i k : Nat} (x : Nat → Int) (h : k ≠ i) : la_s V i x k = V k := if_neg h
/-- linear in the element -/
theorem la_w_l (v : Nat → Int) : ∀ (s : List Bool) (a b : Int) (x y z : List Bool → Int), (∀ t, t.length = s.length → z t = a * x t + b * y t) → la_w v z s = a * la_w v x s + b * la_w v y s := by
  intro s
  induction s with
  | nil => intro a b x y z _; simp [la_w]
  | cons c s ih =>
    intro a b x y z h
    cases c with
    | false => exact ih a b _ _ _ (fun t ht => h (false :: t) (by simp [ht]))
    | true =>
      have e1 := ih a b (fun t => x (true :: t)) (fun t => y (true :: t)) (fun t => z (true :: t)) (fun t ht => h (true :: t) (by simp [ht]))
      have e2 := h (false :: s) (by simp)
      rw [la_w_t, la_w_t, la_w_t, e1, e2]
      grind
theorem la_i_l (v : Nat → Int) : ∀ (s : List Bool) (a b : Int) (x y z : List Bool → Int), (∀ t, t.length = s.length → z t = a * x t + b * y t) → la_i v z s = a * la_i v x s + b * la_i v y s := by
  intro s
  induction s with
  | nil => intro a b x y z _; simp [la_i]
  | cons c s ih =>
    intro a b x y z h
    cases c with
    | false =>
      have e1 := ih a b (fun t => x (false :: t)) (fun t => y (false :: t)) (fun t => z (false :: t)) (fun t ht => h (false :: t) (by simp [ht]))
      have e2 := h (true :: s) (by simp)
      rw [la_i_f, la_i_f, la_i_f, e1, e2]
      grind
    | true =>
      have e1 := ih a b (fun t => x (true :: t)) (fun t => y (true :: t)) (fun t => z (true :: t)) (fun t ht => h (true :: t) (by simp [ht]))
      rw [la_i_t, la_i_t, la_i_t, e1]
      grind
/-- linear in the vector -/
theorem la_w_v : ∀ (s : List Bool) (u v w : Nat → Int) (a b : Int) (x : List Bool → Int), (∀ j, j < s.length → u j = a * v j + b * w j) → la_w u x s = a * la_w v x s + b * la_w w x s := by
  intro s
  induction s with
  | nil => intro u v w a b x _; simp [la_w]
  | cons c s ih =>
    intro u v w a b x h
    have h' : ∀ j, j < s.length → u j = a * v j + b * w j := fun j hj => h j (by simp; omega)
    cases c with
    | false => exact ih u v w a b _ h'
    | true =>
      have e1 := ih u v w a b (fun t => x (true :: t)) h'
      have e2 := h s.length (by simp)
      rw [la_w_t, la_w_t, la_w_t, e1, e2]
      grind
theorem la_w_x {s : List Bool} {v w : Nat → Int} {x y : List Bool → Int} (hv : ∀ j, j < s.length → v j = w j) (hx : ∀ t, t.length = s.length → x t = y t) : la_w v x s = la_w w y s := by
  rw [la_w_v s v w w 1 0 x (fun j hj => by rw [hv j hj]; omega), la_w_l w s 1 0 y y x (fun t ht => by rw [hx t ht]; omega)]
  omega
theorem la_w_0 {s : List Bool} {v : Nat → Int} {x : List Bool → Int} (hx : ∀ t, t.length = s.length → x t = 0) : la_w v x s = 0 := by
  rw [la_w_l v s 0 0 x x x (fun t ht => by rw [hx t ht]; omega)]
  omega
theorem la_i_0 {s : List Bool} {v : Nat → Int} {x : List Bool → Int} (hx : ∀ t, t.length = s.length → x t = 0) : la_i v x s = 0 := by
  rw [la_i_l v s 0 0 x x x (fun t ht => by rw [hx t ht]; omega)]
  omega
/-- two vectors change places -/
theorem la_an (v w : Nat → Int) : ∀ (s : List Bool) (x : List Bool → Int), la_w v (la_w w x) s = - la_w w (la_w v x) s := by
  intro s
  induction s with
  | nil => intro x; rfl
  | cons c s ih =>
    intro x
    cases c with
    | false => exact ih (fun t => x (false :: t))
    | true =>
      have e1 : la_w v (fun t => la_w w x (true :: t)) s = w s.length * la_w v (fun t => x (false :: t)) s + (-1) * la_w v (la_w w (fun t => x (true :: t))) s :=
        la_w_l v s _ _ _ _ _ (fun t ht => by rw [la_w_t, ht]; omega)
      have e2 : la_w w (fun t => la_w v x (true :: t)) s = v s.length * la_w w (fun t => x (false :: t)) s + (-1) * la_w w (la_w v (fun t => x (true :: t))) s :=
        la_w_l w s _ _ _ _ _ (fun t ht => by rw [la_w_t, ht]; omega)
      have e3 := ih (fun t => x (true :: t))
      rw [la_w_t v, la_w_t w, e1, e2, la_w_f, la_w_f, e3]
      omega
theorem la_sq (v : Nat → Int) (s : List Bool) (x : List Bool → Int) : la_w v (la_w v x) s = 0 := by
  have := la_an v v s x
  omega
/-- contraction of a wedge -/
theorem la_iw (v w : Nat → Int) : ∀ (s : List Bool) (x : List Bool → Int), la_i v (la_w w x) s + la_w w (la_i v x) s = la_d v w s.length * x s := by
  intro s
  induction s with
  | nil => intro x; simp [la_i, la_w, la_d]
  | cons c s ih =>
    intro x
    cases c with
    | false =>
      have e1 : la_w w (fun t => la_i v x (false :: t)) s = 1 * la_w w (la_i v (fun t => x (false :: t))) s + v s.length * la_w w (fun t => x (true :: t)) s :=
        la_w_l w s _ _ _ _ _ (fun t ht => by rw [la_i_f, ht]; omega)
      have e3 := ih (fun t => x (false :: t))
      have e4 : la_i v (fun t => la_w w x (false :: t)) s = la_i v (la_w w (fun t => x (false :: t))) s := rfl
      rw [la_i_f, la_w_f, e1, e4, la_w_t]
      show _ = (la_d v w s.length + v s.length * w s.length) * _
      grind
    | true =>
      have e1 : la_i v (fun t => la_w w x (true :: t)) s = w s.length * la_i v (fun t => x (false :: t)) s + (-1) * la_i v (la_w w (fun t => x (true :: t))) s :=
        la_i_l v s _ _ _ _ _ (fun t ht => by rw [la_w_t, ht]; omega)
      have e2 : la_w w (fun t => la_i v x (true :: t)) s = (-1) * la_w w (la_i v (fun t => x (true :: t))) s + 0 * la_w w (la_i v (fun t => x (true :: t))) s :=
        la_w_l w s _ _ _ _ _ (fun t ht => by rw [la_i_t]; omega)
      have e3 := ih (fun t => x (true :: t))
      rw [la_i_t, la_w_t, e1, e2, la_i_f]
      show _ = (la_d v w s.length + v s.length * w s.length) * _
      grind
/-- the inner product -/
theorem la_pl : ∀ (m : Nat) (a b : Int) (x y z u : List Bool → Int), (∀ t, t.length = m → z t = a * x t + b * y t) → la_p m z u = a * la_p m x u + b * la_p m y u := by
  intro m
  induction m with
  | zero =>
    intro a b x y z u h
    show z [] * u [] = a * (x [] * u []) + b * (y [] * u [])
    rw [h [] rfl]
    grind
  | succ m ih =>
    intro a b x y z u h
    have e1 := ih a b (fun t => x (false :: t)) (fun t => y (false :: t)) (fun t => z (false :: t)) (fun t => u (false :: t)) (fun t ht => h (false :: t) (by simp [ht]))
    have e2 := ih a b (fun t => x (true :: t)) (fun t => y (true :: t)) (fun t => z (true :: t)) (fun t => u (true :: t)) (fun t ht => h (true :: t) (by simp [ht]))
    show la_p m _ _ + la_p m _ _ = a * (la_p m _ _ + la_p m _ _) + b * (la_p m _ _ + la_p m _ _)
    rw [e1, e2]
    grind
theorem la_pc : ∀ (m : Nat) (x y : List Bool → Int), la_p m x y = la_p m y x := by
  intro m
  induction m with
  | zero => intro x y; exact Int.mul_comm ..
  | succ m ih =>
    intro x y
    show la_p m _ _ + la_p m _ _ = la_p m _ _ + la_p m _ _
    rw [ih (fun t => x (false :: t)), ih (fun t => x (true :: t))]
theorem la_pr (m : Nat) (a b : Int) (x y z u : List Bool → Int) (h : ∀ t, t.length = m → z t = a * x t + b * y t) : la_p m u z = a * la_p m u x + b * la_p m u y := by
  rw [la_pc m u z, la_pl m a b x y z u h, la_pc m x, la_pc m y]
theorem la_pad (w : Nat → Int) : ∀ (m : Nat) (x y : List Bool → Int), la_p m (la_w w x) y = la_p m x (la_i w y) := by
  intro m
  induction m with
  | zero => intro x y; show (0 : Int) * _ = _ * 0; omega
  | succ m ih =>
    intro x y
    have e1 : la_p m (fun t => la_w w x (true :: t)) (fun t => y (true :: t)) = w m * la_p m (fun t => x (false :: t)) (fun t => y (true :: t)) + (-1) * la_p m (la_w w (fun t => x (true :: t))) (fun t => y (true :: t)) :=
      la_pl m _ _ _ _ _ _ (fun t ht => by rw [la_w_t, ht]; omega)
    have e2 : la_p m (fun t => x (false :: t)) (fun t => la_i w y (false :: t)) = 1 * la_p m (fun t => x (false :: t)) (la_i w (fun t => y (false :: t))) + w m * la_p m (fun t => x (false :: t)) (fun t => y (true :: t)) :=
      la_pr m _ _ _ _ _ _ (fun t ht => by rw [la_i_f, ht]; omega)
    have e3 : la_p m (fun t => x (true :: t)) (fun t => la_i w y (true :: t)) = (-1) * la_p m (fun t => x (true :: t)) (la_i w (fun t => y (true :: t))) + 0 * la_p m (fun t => x (true :: t)) (la_i w (fun t => y (true :: t))) :=
      la_pr m _ _ _ _ _ _ (fun t ht => by rw [la_i_t]; omega)
    have e4 : la_p m (fun t => la_w w x (false :: t)) (fun t => y (false :: t)) = la_p m (fun t => x (false :: t)) (la_i w (fun t => y (false :: t))) := ih (fun t => x (false :: t)) (fun t => y (false :: t))
    have e5 := ih (fun t => x (true :: t)) (fun t => y (true :: t))
    show la_p m _ _ + la_p m _ _ = la_p m _ _ + la_p m _ _
    rw [e1, e2, e3, e4, e5]
    omega
theorem la_sqn (a : Int) : 0 ≤ a * a := by
  rcases Int.le_total 0 a with h | h
  · exact Int.mul_nonneg h h
  · exact Int.mul_nonneg_of_nonpos_of_nonpos h h
theorem la_pn : ∀ (m : Nat) (x : List Bool → Int), 0 ≤ la_p m x x := by
  intro m
  induction m with
  | zero => intro x; exact la_sqn _
  | succ m ih =>
    intro x
    have e1 := ih (fun t => x (false :: t))
    have e2 := ih (fun t => x (true :: t))
    show 0 ≤ la_p m _ _ + la_p m _ _
    omega
theorem la_pg : ∀ (s : List Bool) (x : List Bool → Int), x s * x s ≤ la_p s.length x x := by
  intro s
  induction s with
  | nil => intro x; exact Int.le_refl _
  | cons c s ih =>
    intro x
    have e1 := la_pn s.length (fun t => x (false :: t))
    have e2 := la_pn s.length (fun t => x (true :: t))
    show _ ≤ la_p s.length (fun t => x (false :: t)) (fun t => x (false :: t)) + la_p s.length (fun t => x (true :: t)) (fun t => x (true :: t))
    cases c with
    | false => have := ih (fun t => x (false :: t)); omega
    | true => have := ih (fun t => x (true :: t)); omega
theorem la_had (v : Nat → Int) (m : Nat) (x : List Bool → Int) : la_p m (la_w v x) (la_w v x) ≤ la_d v v m * la_p m x x := by
  have e1 : la_p m x (la_i v (la_w v x)) = la_d v v m * la_p m x x + (-1) * la_p m x (la_w v (la_i v x)) :=
    la_pr m _ _ _ _ _ _ (fun t ht => by have := la_iw v v t x; rw [ht] at this; omega)
  have e2 : la_p m x (la_w v (la_i v x)) = la_p m (la_i v x) (la_i v x) := by rw [la_pc, la_pad]
  have e3 := la_pn m (la_i v x)
  rw [la_pad, e1, e2]
  omega
/-- degrees -/
theorem la_c_le : ∀ s : List Bool, la_c s ≤ s.length := by
  intro s
  induction s with
  | nil => exact Nat.le_refl _
  | cons c s ih =>
    cases c with
    | false => show la_c s ≤ s.length + 1; omega
    | true => show la_c s + 1 ≤ s.length + 1; omega
theorem la_gw (v : Nat → Int) : ∀ (s : List Bool) (k : Nat) (x : List Bool → Int), (∀ t, t.length = s.length → la_c t ≠ k → x t = 0) → la_c s ≠ k + 1 → la_w v x s = 0 := by
  intro s
  induction s with
  | nil => intro k x _ _; rfl
  | cons c s ih =>
    intro k x h hc
    cases c with
    | false => exact ih k _ (fun t ht hq => h (false :: t) (by simp [ht]) hq) hc
    | true =>
      have hc : la_c s + 1 ≠ k + 1 := hc
      have e1 : x (false :: s) = 0 := h (false :: s) (by simp) (show la_c s ≠ k by omega)
      have e2 : la_w v (fun t => x (true :: t)) s = 0 := by
        cases k with
        | zero => exact la_w_0 (fun t ht => h (true :: t) (by simp [ht]) (show la_c t + 1 ≠ 0 by omega))
        | succ k => exact ih k _ (fun t ht hq => h (true :: t) (by simp [ht]) (show la_c t + 1 ≠ k + 1 by omega)) (by omega)
      rw [la_w_t, e1, e2]
      omega
theorem la_ge (V : Nat → Nat → Int) : ∀ (k : Nat) (s : List Bool), la_c s ≠ k → la_e V k s = 0 := by
  intro k
  induction k with
  | zero =>
    intro s
    show la_c s ≠ 0 → la_u s = 0
    induction s with
    | nil => intro h; exact absurd rfl h
    | cons c s ih =>
      intro h
      cases c with
      | false => exact ih h
      | true => rfl
  | succ k ih => intro s hs; exact la_gw (V k) s k _ (fun t _ hq => ih t hq) hs
theorem la_ex {V V' : Nat → Nat → Int} : ∀ (k : Nat) (s : List Bool), (∀ i, i < k → ∀ l, l < s.length → V i l = V' i l) → la_e V k s = la_e V' k s := by
  intro k
  induction k with
  | zero => intro s _; rfl
  | succ k ih =>
    intro s h
    exact la_w_x (fun j hj => h k (by omega) j hj) (fun t ht => ih t (fun i hi l hl => h i (by omega) l (by omega)))
theorem la_el (V : Nat → Nat → Int) {i : Nat} {a b : Int} {x y z : Nat → Int} : ∀ (k : Nat) (s : List Bool), i < k → (∀ l, l < s.length → z l = a * x l + b * y l) → la_e (la_s V i z) k s = a * la_e (la_s V i x) k s + b * la_e (la_s V i y) k s := by
  intro k
  induction k with
  | zero => intro s h; exact absurd h (Nat.not_lt_zero _)
  | succ k ih =>
    intro s hi hz
    by_cases hk : i = k
    · subst hk
      have q : ∀ (u : Nat → Int) (t : List Bool), la_e (la_s V i u) i t = la_e V i t := fun u t => la_ex i t (fun j hj l _ => by rw [la_s_ne V u (by omega)])
      have e : ∀ u : Nat → Int, la_e (la_s V i u) (i + 1) s = la_w u (la_e V i) s := fun u => by
        rw [la_e_s, la_s_eq]
        exact la_w_x (fun _ _ => rfl) (fun t _ => q u t)
      rw [e z, e x, e y]
      exact la_w_v s z x y a b _ hz
    · have e : ∀ u : Nat → Int, la_e (la_s V i u) (k + 1) = la_w (V k) (la_e (la_s V i u) k) := fun u => by
        rw [la_e_s, la_s_ne V u (by omega)]
      rw [e z, e x, e y]
      exact la_w_l (V k) s a b _ _ _ (fun t ht => ih t (by omega) (fun l hl => hz l (by omega)))
theorem la_we (V : Nat → Nat → Int) {i : Nat} : ∀ (k : Nat) (s : List Bool), i < k → la_w (V i) (la_e V k) s = 0 := by
  intro k
  induction k with
  | zero => intro s h; exact absurd h (Nat.not_lt_zero _)
  | succ k ih =>
    intro s hi
    rw [la_e_s]
    by_cases hk : i = k
    · subst hk
      exact la_sq _ _ _
    · rw [la_an, la_w_0 (fun t _ => ih t (by omega))]
      rfl
theorem la_al (V : Nat → Nat → Int) {i j : Nat} (hij : i < j) : ∀ (k : Nat) (s : List Bool), j < k → (∀ l, l < s.length → V i l = V j l) → la_e V k s = 0 := by
  intro k
  induction k with
  | zero => intro s h; exact absurd h (Nat.not_lt_zero _)
  | succ k ih =>
    intro s hj hv
    rw [la_e_s]
    by_cases hk : j = k
    · subst hk
      rw [← la_w_x (v := V i) (x := la_e V j) hv (fun _ _ => rfl)]
      exact la_we V j s hij
    · exact la_w_0 (fun t ht => ih t (by omega) (fun l hl => hv l (by omega)))
theorem la_alt (V : Nat → Nat → Int) {i j k : Nat} (s : List Bool) (hij : i ≠ j) (hi : i < k) (hj : j < k) (hv : ∀ l, l < s.length → V i l = V j l) : la_e V k s = 0 := by
  rcases Nat.lt_or_ge i j with h | h
  · exact la_al V h k s hj hv
  · exact la_al V (show j < i by omega) k s hi (fun l hl => (hv l hl).symm)
/-- sums -/
theorem la_S_x {f f' : Nat → Int} : ∀ n : Nat, (∀ i, i < n → f i = f' i) → la_S n f = la_S n f' := by
  intro n
  induction n with
  | zero => intro _; rfl
  | succ n ih =>
    intro h
    show la_S n f + f n = la_S n f' + f' n
    rw [ih (fun i hi => h i (by omega)), h n (by omega)]
theorem la_S_0 {f : Nat → Int} : ∀ n : Nat, (∀ i, i < n → f i = 0) → la_S n f = 0 := by
  intro n
  induction n with
  | zero => intro _; rfl
  | succ n ih =>
    intro h
    show la_S n f + f n = 0
    rw [ih (fun i hi => h i (by omega)), h n (by omega)]
    rfl
theorem la_S_l (a b : Int) (f g : Nat → Int) : ∀ n : Nat, la_S n (fun i => a * f i + b * g i) = a * la_S n f + b * la_S n g := by
  intro n
  induction n with
  | zero => simp [la_S]
  | succ n ih =>
    show la_S n (fun i => a * f i + b * g i) + (a * f n + b * g n) = a * (la_S n f + f n) + b * (la_S n g + g n)
    rw [ih]
    grind
theorem la_w_S (v : Nat → Int) (c : Nat → Int) (x : Nat → List Bool → Int) (s : List Bool) : ∀ (n : Nat) (z : List Bool → Int), (∀ t, t.length = s.length → z t = la_S n (fun i => c i * x i t)) → la_w v z s = la_S n (fun i => c i * la_w v (x i) s) := by
  intro n
  induction n with
  | zero => intro z h; exact la_w_0 h
  | succ n ih =>
    intro z h
    rw [la_w_l v s 1 (c n) (fun t => la_S n (fun i => c i * x i t)) (x n) z (fun t ht => by rw [h t ht]; show la_S n (fun i => c i * x i t) + c n * x n t = 1 * la_S n (fun i => c i * x i t) + c n * x n t; omega), ih _ (fun _ _ => rfl)]
    show 1 * la_S n (fun i => c i * la_w v (x i) s) + c n * la_w v (x n) s = la_S n (fun i => c i * la_w v (x i) s) + c n * la_w v (x n) s
    omega
theorem la_e_S (W : Nat → Nat → Int) {i k : Nat} (hi : i < k) (s : List Bool) (c : Nat → Int) (y : Nat → Nat → Int) : ∀ (n : Nat) (z : Nat → Int), (∀ l, l < s.length → z l = la_S n (fun q => c q * y q l)) → la_e (la_s W i z) k s = la_S n (fun q => c q * la_e (la_s W i (y q)) k s) := by
  intro n
  induction n with
  | zero =>
    intro z h
    rw [la_el W (x := z) (y := z) (a := 0) (b := 0) k s hi (fun l hl => by rw [h l hl]; simp [la_S])]
    simp [la_S]
  | succ n ih =>
    intro z h
    rw [la_el W (x := fun l => la_S n (fun q => c q * y q l)) (y := y n) (a := 1) (b := c n) k s hi (fun l hl => by rw [h l hl]; show la_S n (fun q => c q * y q l) + c n * y n l = 1 * la_S n (fun q => c q * y q l) + c n * y n l; omega), ih _ (fun _ _ => rfl)]
    show 1 * la_S n (fun q => c q * la_e (la_s W i (y q)) k s) + c n * la_e (la_s W i (y n)) k s = la_S n (fun q => c q * la_e (la_s W i (y q)) k s) + c n * la_e (la_s W i (y n)) k s
    omega
theorem la_i_u (v : Nat → Int) : ∀ s : List Bool, la_i v la_u s = 0 := by
  intro s
  induction s with
  | nil => rfl
  | cons c s ih =>
    cases c with
    | false =>
      rw [la_i_f]
      have e : la_i v (fun t => la_u (false :: t)) s = la_i v la_u s := rfl
      rw [e, ih]
      show 0 + v s.length * 0 = 0
      omega
    | true =>
      rw [la_i_t, la_i_0 (x := fun t => la_u (true :: t)) (fun t _ => rfl)]
      rfl
theorem la_cr (V : Nat → Nat → Int) (x e : Nat → Int) : ∀ (k : Nat) (s : List Bool), la_w x (la_i e (la_e V k)) s = la_S k (fun i => la_d e (V i) s.length * la_e (la_s V i x) k s) := by
  intro k
  induction k with
  | zero => intro s; exact la_w_0 (fun t _ => la_i_u e t)
  | succ k ih =>
    intro s
    have e1 : la_w x (la_i e (la_e V (k + 1))) s = la_d e (V k) s.length * la_w x (la_e V k) s + (-1) * la_w x (la_w (V k) (la_i e (la_e V k))) s :=
      la_w_l x s _ _ _ _ _ (fun t ht => by have := la_iw e (V k) t (la_e V k); rw [ht] at this; rw [la_e_s]; omega)
    have e2 : la_w (V k) (la_w x (la_i e (la_e V k))) s = la_S k (fun i => la_d e (V i) s.length * la_w (V k) (la_e (la_s V i x) k) s) :=
      la_w_S (V k) _ _ s k _ (fun t ht => by rw [ih t, ht])
    have e3 : la_S k (fun i => la_d e (V i) s.length * la_w (V k) (la_e (la_s V i x) k) s) = la_S k (fun i => la_d e (V i) s.length * la_e (la_s V i x) (k + 1) s) :=
      la_S_x k (fun i hi => by rw [la_e_s (la_s V i x), la_s_ne V x (by omega)])
    have e4 : la_e (la_s V k x) (k + 1) s = la_w x (la_e V k) s := by
      rw [la_e_s, la_s_eq]
      exact la_w_x (fun _ _ => rfl) (fun t _ => la_ex k t (fun j hj l _ => by rw [la_s_ne V x (by omega)]))
    rw [e1, la_an, e2, e3]
    show _ = la_S k _ + la_d e (V k) s.length * la_e (la_s V k x) (k + 1) s
    rw [e4]
    omega
/-- the determinant -/
def la_tt (m : Nat) : List Bool := List.replicate m true
def la_D (m : Nat) (V : Nat → Nat → Int) : Int := la_e V m (la_tt m)
theorem la_tl (m : Nat) : (la_tt m).length = m := List.length_replicate
theorem la_cram (m : Nat) (V : Nat → Nat → Int) (x e : Nat → Int) : la_d e x m * la_D m V = la_S m (fun i => la_d e (V i) m * la_D m (la_s V i x)) := by
  have e1 := la_iw e x (la_tt m) (la_e V m)
  have e2 : la_i e (la_w x (la_e V m)) (la_tt m) = 0 := la_i_0 (fun t ht => la_gw x t m _ (fun q _ hq => la_ge V m q hq) (by have := la_c_le t; rw [ht, la_tl] at this; omega))
  have e3 := la_cr V x e m (la_tt m)
  rw [la_tl] at e1 e3
  unfold la_D
  rw [← e3]
  omega
def la_1 (l : Nat) : Nat → Int := fun j => if j = l then 1 else 0
theorem la_d0 (l : Nat) (x : Nat → Int) : ∀ m, m ≤ l → la_d (la_1 l) x m = 0 := by
  intro m
  induction m with
  | zero => intro _; rfl
  | succ m ih =>
    intro h
    show la_d _ _ m + la_1 l m * x m = 0
    rw [ih (by omega), show la_1 l m = 0 from if_neg (by omega)]
    omega
theorem la_d1 (l : Nat) (x : Nat → Int) : ∀ m, l < m → la_d (la_1 l) x m = x l := by
  intro m
  induction m with
  | zero => intro h; exact absurd h (Nat.not_lt_zero _)
  | succ m ih =>
    intro h
    show la_d _ _ m + la_1 l m * x m = x l
    by_cases hl : l = m
    · subst hl
      rw [la_d0 l x l (Nat.le_refl _), show la_1 l l = 1 from if_pos rfl]
      omega
    · rw [ih (by omega), show la_1 l m = 0 from if_neg (by omega)]
      omega
/-- any list of vectors at one place: the general relation -/
theorem la_gen (m : Nat) (V W : Nat → Nat → Int) (x : Nat → Int) {q : Nat} (hq : q < m) : la_D m V * la_D m (la_s W q x) = la_S m (fun i => la_D m (la_s V i x) * la_D m (la_s W q (V i))) := by
  have e1 : la_D m (la_s W q (fun l => la_D m V * x l)) = la_S m (fun i => la_D m (la_s V i x) * la_D m (la_s W q (V i))) := by
    refine la_e_S W hq (la_tt m) _ V m _ (fun l hl => ?_)
    rw [la_tl] at hl
    have := la_cram m V x (la_1 l)
    rw [la_d1 l x m hl] at this
    rw [Int.mul_comm, this]
    exact la_S_x m (fun i hi => by rw [la_d1 l (V i) m hl, Int.mul_comm])
  rw [← e1]
  have e2 : la_D m (la_s W q (fun l => la_D m V * x l)) = la_D m V * la_D m (la_s W q x) + 0 * la_D m (la_s W q x) := la_el W m (la_tt m) hq (fun l _ => by omega)
  rw [e2]
  omega
theorem la_Dx {m : Nat} {V V' : Nat → Nat → Int} (h : ∀ i, i < m → ∀ l, l < m → V i l = V' i l) : la_D m V = la_D m V' := la_ex m (la_tt m) (fun i hi l hl => h i hi l (by rw [la_tl] at hl; exact hl))
theorem la_Da {m : Nat} {V : Nat → Nat → Int} {i j : Nat} (hij : i ≠ j) (hi : i < m) (hj : j < m) (hv : ∀ l, l < m → V i l = V j l) : la_D m V = 0 := la_alt V (la_tt m) hij hi hj (fun l hl => hv l (by rw [la_tl] at hl; exact hl))
theorem la_Dl {m : Nat} (V : Nat → Nat → Int) {i : Nat} {a b : Int} {x y z : Nat → Int} (hi : i < m) (hz : ∀ l, l < m → z l = a * x l + b * y l) : la_D m (la_s V i z) = a * la_D m (la_s V i x) + b * la_D m (la_s V i y) := la_el V m (la_tt m) hi (fun l hl => hz l (by rw [la_tl] at hl; exact hl))
/-- two vectors change places -/
theorem la_Ds {m : Nat} (V : Nat → Nat → Int) {i j : Nat} (x y : Nat → Int) (hij : i ≠ j) (hi : i < m) (hj : j < m) : la_D m (la_s (la_s V i x) j y) = - la_D m (la_s (la_s V i y) j x) := by
  have z : ∀ u : Nat → Int, la_D m (la_s (la_s V i u) j u) = 0 := fun u => la_Da hij hi hj (fun l _ => by rw [la_s_eq, la_s_ne _ u hij, la_s_eq])
  have c : ∀ u v : Nat → Int, la_s (la_s V i u) j v = la_s (la_s V j v) i u := fun u v => by
    funext k
    unfold la_s
    by_cases h1 : k = j
    · rw [if_pos h1, if_neg (by omega), if_pos h1]
    · rw [if_neg h1, if_neg h1]
  have e0 := z (fun l => x l + y l)
  have e1 := la_Dl (la_s V i (fun l => x l + y l)) (i := j) (a := 1) (b := 1) (x := x) (y := y) (z := fun l => x l + y l) hj (fun l _ => by omega)
  have e2 : ∀ v : Nat → Int, la_D m (la_s (la_s V i (fun l => x l + y l)) j v) = 1 * la_D m (la_s (la_s V i x) j v) + 1 * la_D m (la_s (la_s V i y) j v) := fun v => by
    rw [c, c, c]
    exact la_Dl (la_s V j v) hi (fun l _ => by omega)
  have e3 := z x
  have e4 := z y
  rw [e2 x, e2 y] at e1
  omega
/-! bounds of determinants; vectors of a small span -/
def la_P : Nat → (Nat → Int) → Int
  | 0, _ => 1
  | n + 1, f => la_P n f * f n
theorem la_dn (v : Nat → Int) : ∀ m, 0 ≤ la_d v v m := by
  intro m
  induction m with
  | zero => exact Int.le_refl _
  | succ m ih =>
    have := la_sqn (v m)
    show 0 ≤ la_d v v m + v m * v m
    omega
theorem la_p0 : ∀ (m : Nat) (x y : List Bool → Int), (∀ t, x t = 0) → la_p m x y = 0 := by
  intro m x y h
  rw [la_pl m 0 0 x x x y (fun t _ => by rw [h t]; omega)]
  omega
theorem la_pu : ∀ m : Nat, la_p m la_u la_u = 1 := by
  intro m
  induction m with
  | zero => rfl
  | succ m ih =>
    have e1 : la_p m (fun t => la_u (false :: t)) (fun t => la_u (false :: t)) = la_p m la_u la_u := rfl
    have e2 : la_p m (fun t => la_u (true :: t)) (fun t => la_u (true :: t)) = 0 := la_p0 m _ _ (fun t => rfl)
    show la_p m _ _ + la_p m _ _ = 1
    rw [e1, e2, ih]
    rfl
theorem la_hp (V : Nat → Nat → Int) (m : Nat) : ∀ k : Nat, la_p m (la_e V k) (la_e V k) ≤ la_P k (fun i => la_d (V i) (V i) m) := by
  intro k
  induction k with
  | zero => show la_p m la_u la_u ≤ 1; rw [la_pu]; exact Int.le_refl _
  | succ k ih =>
    have e1 := la_had (V k) m (la_e V k)
    have e2 := Int.mul_le_mul_of_nonneg_left ih (la_dn (V k) m)
    show la_p m (la_w (V k) (la_e V k)) (la_w (V k) (la_e V k)) ≤ la_P k _ * la_d (V k) (V k) m
    rw [Int.mul_comm (la_P k _)]
    omega
theorem la_Db (m : Nat) (V : Nat → Nat → Int) : la_D m V * la_D m V ≤ la_P m (fun i => la_d (V i) (V i) m) := by
  have e1 := la_pg (la_tt m) (la_e V m)
  have e2 := la_hp V m m
  rw [la_tl] at e1
  exact Int.le_trans e1 e2
def la_n (S : Nat → Bool) : Nat → Nat
  | 0 => 0
  | k + 1 => la_n S k + (if S k = true then 1 else 0)
def la_in (d : Nat) (u : Nat → Nat → Int) (x : Nat → Int) : Prop := ∃ a : Nat → Int, ∀ l, x l = la_S d (fun f => a f * u f l)
theorem la_n_pos (S : Nat → Bool) : ∀ k, 0 < la_n S k → ∃ i, i < k ∧ S i = true := by
  intro k
  induction k with
  | zero => intro h; exact absurd h (Nat.lt_irrefl _)
  | succ k ih =>
    intro h
    by_cases hs : S k = true
    · exact ⟨k, by omega, hs⟩
    · have e : la_n S (k + 1) = la_n S k + (if S k = true then 1 else 0) := rfl
      rw [e, if_neg hs] at h
      obtain ⟨i, h1, h2⟩ := ih (by omega)
      exact ⟨i, by omega, h2⟩
theorem la_n_d (S : Nat → Bool) (j : Nat) : ∀ k, la_n S k ≤ la_n (fun i => S i && !(i == j)) k + (if j < k then 1 else 0) := by
  intro k
  induction k with
  | zero => exact Nat.zero_le _
  | succ k ih =>
    show la_n S k + (if S k = true then 1 else 0) ≤ (la_n (fun i => S i && !(i == j)) k + (if (S k && !(k == j)) = true then 1 else 0)) + (if j < k + 1 then 1 else 0)
    by_cases hk : k = j
    · subst hk
      rw [if_neg (Nat.lt_irrefl k)] at ih
      rw [if_pos (Nat.lt_succ_self k)]
      have : (if S k = true then 1 else 0) ≤ 1 := by split <;> omega
      omega
    · have e : (S k && !(k == j)) = S k := by
        have : (k == j) = false := by simp [hk]
        rw [this]
        simp
      rw [e]
      have : (if j < k then 1 else 0) ≤ (if j < k + 1 then 1 else 0) := by
        split
        · rw [if_pos (by omega)]; omega
        · omega
      omega
theorem la_self (V : Nat → Nat → Int) (i : Nat) : la_s V i (V i) = V := by
  funext k
  unfold la_s
  split
  · rename_i h; rw [h]
  · rfl
def la_r (V : Nat → Nat → Int) (S : Nat → Bool) (y : Nat → Nat → Int) (n : Nat) : Nat → Nat → Int := fun i => if i < n ∧ S i = true then y i else V i
theorem la_r_i (V : Nat → Nat → Int) (S : Nat → Bool) (y : Nat → Nat → Int) {n i : Nat} (h : i < n) (hs : S i = true) : la_r V S y n i = y i := if_pos ⟨h, hs⟩
theorem la_r_o (V : Nat → Nat → Int) (S : Nat → Bool) (y : Nat → Nat → Int) {n i : Nat} (h : ¬ (i < n ∧ S i = true)) : la_r V S y n i = V i := if_neg h
theorem la_r_0 (V : Nat → Nat → Int) (S : Nat → Bool) (y : Nat → Nat → Int) : la_r V S y 0 = V := by
  funext i
  exact la_r_o V S y (fun z => absurd z.1 (Nat.not_lt_zero _))
theorem la_r_n (V : Nat → Nat → Int) (S : Nat → Bool) (y : Nat → Nat → Int) (n : Nat) : la_r V S y n = la_s (la_r V S y n) n (V n) := by
  have e : la_r V S y n n = V n := la_r_o V S y (fun z => absurd z.1 (Nat.lt_irrefl _))
  rw [← e, la_self]
theorem la_r_t (V : Nat → Nat → Int) (S : Nat → Bool) (y : Nat → Nat → Int) {n : Nat} (hs : S n = true) : la_s (la_r V S y n) n (y n) = la_r V S y (n + 1) := by
  funext i
  by_cases q : i = n
  · rw [q, la_s_eq, la_r_i V S y (Nat.lt_succ_self n) hs]
  · rw [la_s_ne _ _ q]
    by_cases q2 : i < n ∧ S i = true
    · rw [la_r_i V S y q2.1 q2.2, la_r_i V S y (by omega) q2.2]
    · rw [la_r_o V S y q2, la_r_o V S y (fun z => q2 ⟨by omega, z.2⟩)]
theorem la_r_f (V : Nat → Nat → Int) (S : Nat → Bool) (y : Nat → Nat → Int) {n : Nat} (hs : ¬ S n = true) : la_r V S y n = la_r V S y (n + 1) := by
  funext i
  by_cases q2 : i < n ∧ S i = true
  · rw [la_r_i V S y q2.1 q2.2, la_r_i V S y (by omega) q2.2]
  · rw [la_r_o V S y q2, la_r_o V S y]
    intro z
    by_cases q : i = n
    · rw [q] at z; exact hs z.2
    · exact q2 ⟨by omega, z.2⟩
theorem la_rep (V : Nat → Nat → Int) (S : Nat → Bool) (y : Nat → Nat → Int) (c : Nat → Int) (u : Nat → Int) (k : Nat) (s : List Bool) (hV : ∀ i, i < k → S i = true → ∀ l, V i l = y i l + c i * u l) (hz : ∀ n, n < k → S n = true → la_e (la_s (la_r V S y n) n u) k s = 0) : ∀ n, n ≤ k → la_e V k s = la_e (la_r V S y n) k s := by
  intro n
  induction n with
  | zero => intro _; rw [la_r_0]
  | succ n ih =>
    intro hn
    rw [ih (by omega)]
    by_cases hs : S n = true
    · rw [la_r_n V S y n, la_el (x := y n) (y := u) (a := 1) (b := c n) _ k s (by omega) (fun l _ => by rw [hV n (by omega) hs l]; omega), hz n (by omega) hs, la_r_t V S y hs]
      omega
    · rw [la_r_f V S y hs]
theorem la_sp (u : Nat → Nat → Int) : ∀ (d : Nat) (V : Nat → Nat → Int) (S : Nat → Bool) (k : Nat) (s : List Bool), (∀ i, i < k → S i = true → la_in d u (V i)) → d < la_n S k → la_e V k s = 0 := by
  intro d
  induction d with
  | zero =>
    intro V S k s h hn
    obtain ⟨i, hi, hs⟩ := la_n_pos S k hn
    obtain ⟨a, ha⟩ := h i hi hs
    rw [← la_self V i, la_el V (x := V i) (y := V i) (a := 0) (b := 0) k s hi (fun l _ => by rw [ha l]; simp [la_S])]
    omega
  | succ d ih =>
    -- where u d itself stands among them
    have RA : ∀ (V : Nat → Nat → Int) (S : Nat → Bool) (k : Nat) (s : List Bool) (y : Nat → Nat → Int) (c : Nat → Int) (j : Nat), j < k → S j = false → V j = u d → (∀ i, i < k → S i = true → ∀ l, V i l = y i l + c i * u d l) → (∀ i, i < k → S i = true → la_in d u (y i)) → d < la_n S k → la_e V k s = 0 := by
      intro V S k s y c j hj hSj hVj hV hy hn
      rw [la_rep V S y c (u d) k s hV (fun n hn hs => by
        have hnj : n ≠ j := fun z => by rw [z, hSj] at hs; cases hs
        refine la_alt _ (i := n) (j := j) s hnj hn hj (fun l _ => ?_)
        rw [la_s_eq, la_s_ne _ _ (fun z => hnj z.symm), la_r_o V S y (fun z => by rw [hSj] at z; cases z.2), hVj]) k (Nat.le_refl _)]
      refine ih _ S k s (fun i hi hs => ?_) hn
      rw [la_r_i V S y hi hs]
      exact hy i hi hs
    intro V S k s h hn
    have hA : ∀ i, ∃ a : Nat → Int, i < k → S i = true → ∀ l, V i l = la_S (d + 1) (fun f => a f * u f l) := by
      intro i
      by_cases q : i < k ∧ S i = true
      · obtain ⟨a, ha⟩ := h i q.1 q.2
        exact ⟨a, fun _ _ => ha⟩
      · exact ⟨fun _ => 0, fun a b => absurd ⟨a, b⟩ q⟩
    obtain ⟨A, hA⟩ := Classical.axiomOfChoice hA
    have hV : ∀ i, i < k → S i = true → ∀ l, V i l = (fun i l => la_S d (fun f => A i f * u f l)) i l + A i d * u d l := fun i hi hs l => hA i hi hs l
    have hy : ∀ i, la_in d u ((fun i l => la_S d (fun f => A i f * u f l)) i) := fun i => ⟨A i, fun l => rfl⟩
    generalize (fun i l => la_S d (fun f => A i f * u f l)) = y at hV hy
    rw [la_rep V S y (fun i => A i d) (u d) k s hV (fun n hn' hs => by
      refine RA _ (fun i => S i && !(i == n)) k s y (fun i => if i < n then 0 else A i d) n hn' (by simp) (la_s_eq _ _ _) (fun i hi hs' l => ?_) (fun i _ _ => hy i) ?_
      · have hs2 : S i = true := by
          cases q : S i with
          | true => rfl
          | false => rw [q] at hs'; cases hs'
        have hin : i ≠ n := fun z => by rw [z] at hs'; simp at hs'
        rw [la_s_ne _ _ hin]
        by_cases q : i < n
        · rw [la_r_i V S y q hs2, if_pos q]
          omega
        · rw [la_r_o V S y (fun z => q z.1), if_neg q]
          exact hV i hi hs2 l
      · have := la_n_d S n k
        rw [if_pos hn'] at this
        omega) k (Nat.le_refl _)]
    refine ih _ S k s (fun i hi hs => ?_) (by omega)
    rw [la_r_i V S y hi hs]
    exact hy i
/-! the simplex over whole numbers: a basis and its tableau -/
def sx_u (b : Nat → Nat) (i j : Nat) : Nat → Nat := fun k => if k = i then j else b k
def sx_V (C : Nat → Nat → Int) (b : Nat → Nat) : Nat → Nat → Int := fun k => C (b k)
def sx_D (C : Nat → Nat → Int) (m : Nat) (b : Nat → Nat) : Int := la_D m (sx_V C b)
def sx_t (C : Nat → Nat → Int) (m : Nat) (b : Nat → Nat) (i j : Nat) : Int := sx_D C m (sx_u b i j)
def sx_o (C : Nat → Nat → Int) (m : Nat) (c : Nat → Int) (b : Nat → Nat) (j : Nat) : Int := la_S m (fun i => c (b i) * sx_t C m b i j) - c j * sx_D C m b
theorem sx_u_eq (b : Nat → Nat) (i j : Nat) : sx_u b i j i = j := if_pos rfl
theorem sx_u_ne (b : Nat → Nat) {i k : Nat} (j : Nat) (h : k ≠ i) : sx_u b i j k = b k := if_neg h
theorem sx_uu (b : Nat → Nat) (i j l : Nat) : sx_u (sx_u b i j) i l = sx_u b i l := by
  funext k
  unfold sx_u
  split
  · rfl
  · rfl
theorem sx_Vu (C : Nat → Nat → Int) (b : Nat → Nat) (i j : Nat) : sx_V C (sx_u b i j) = la_s (sx_V C b) i (C j) := by
  funext k
  unfold sx_V sx_u la_s
  split
  · rfl
  · rfl
theorem sx_t_D (C : Nat → Nat → Int) (m : Nat) (b : Nat → Nat) (i j : Nat) : sx_t C m b i j = la_D m (la_s (sx_V C b) i (C j)) := by
  unfold sx_t sx_D
  rw [sx_Vu]
theorem sx_x {C : Nat → Nat → Int} {m : Nat} {b b' : Nat → Nat} (h : ∀ i, i < m → b i = b' i) : sx_D C m b = sx_D C m b' := la_Dx (fun i hi l _ => by unfold sx_V; rw [h i hi])
theorem sx_tx {C : Nat → Nat → Int} {m : Nat} {b b' : Nat → Nat} (h : ∀ i, i < m → b i = b' i) (i j : Nat) : sx_t C m b i j = sx_t C m b' i j := sx_x (fun k hk => by unfold sx_u; rw [h k hk])
theorem sx_ox {C : Nat → Nat → Int} {m : Nat} {c : Nat → Int} {b b' : Nat → Nat} (h : ∀ i, i < m → b i = b' i) (j : Nat) : sx_o C m c b j = sx_o C m c b' j := by
  unfold sx_o
  rw [sx_x h, la_S_x m (fun i hi => by rw [h i hi, sx_tx h i j])]
theorem sx_al {C : Nat → Nat → Int} {m : Nat} {b : Nat → Nat} {i k : Nat} (hik : i ≠ k) (hi : i < m) (hk : k < m) (h : b i = b k) : sx_D C m b = 0 := la_Da hik hi hk (fun l _ => by unfold sx_V; rw [h])
theorem sx_tb {C : Nat → Nat → Int} {m : Nat} {b : Nat → Nat} {i k : Nat} (hi : i < m) (hk : k < m) : sx_t C m b i (b k) = if i = k then sx_D C m b else 0 := by
  split
  · rename_i h
    subst h
    exact sx_x (fun q _ => by unfold sx_u; split
                              · rename_i z; rw [z]
                              · rfl)
  · rename_i h
    exact sx_al h hi hk (by rw [sx_u_eq, sx_u_ne b _ (fun z => h z.symm)])
theorem la_S_1 {f g : Nat → Int} {r : Nat} : ∀ m : Nat, r < m → (∀ i, i < m → i ≠ r → f i = g i) → la_S m f = la_S m g + (f r - g r) := by
  intro m
  induction m with
  | zero => intro h; exact absurd h (Nat.not_lt_zero _)
  | succ m ih =>
    intro hr h
    show la_S m f + f m = la_S m g + g m + (f r - g r)
    by_cases q : r = m
    · subst q
      rw [la_S_x r (fun i hi => h i (by omega) (by omega))]
      omega
    · rw [ih (by omega) (fun i hi hn => h i (by omega) hn), h m (by omega) (fun z => q z.symm)]
      omega
theorem la_S_2 {f : Nat → Int} {m r i : Nat} (hr : r < m) (hi : i < m) (hri : i ≠ r) (h : ∀ k, k < m → k ≠ r → k ≠ i → f k = 0) : la_S m f = f r + f i := by
  have e1 := la_S_1 (f := f) (g := fun k => if k = r then 0 else f k) m hr (fun k _ hk => by rw [if_neg hk])
  have e2 := la_S_1 (f := fun k => if k = r then 0 else f k) (g := fun _ => 0) m hi (fun k hk hn => by
    show (if k = r then 0 else f k) = 0
    split
    · rfl
    · rename_i q; exact h k hk q hn)
  have e3 : la_S m (fun _ => 0) = 0 := la_S_0 m (fun _ _ => rfl)
  rw [if_pos rfl] at e1
  rw [if_neg hri, e3] at e2
  omega
theorem la_S_c (f : Nat → Nat → Int) (n : Nat) : ∀ m : Nat, la_S m (fun i => la_S n (fun j => f i j)) = la_S n (fun j => la_S m (fun i => f i j)) := by
  intro m
  induction m with
  | zero => exact (la_S_0 n (fun _ _ => rfl)).symm
  | succ m ih =>
    show la_S m _ + la_S n _ = la_S n (fun j => la_S m (fun i => f i j) + f m j)
    rw [ih]
    have := la_S_l 1 1 (fun j => la_S m (fun i => f i j)) (fun j => f m j) n
    simp only [Int.one_mul] at this
    exact this.symm
theorem la_S_m (a : Int) (f : Nat → Int) (n : Nat) : a * la_S n f = la_S n (fun i => a * f i) := by
  have := la_S_l a 0 f f n
  simp only [Int.zero_mul, Int.add_zero] at this
  exact this.symm
/-- the turn -/
theorem sx_pv {C : Nat → Nat → Int} {m : Nat} {b : Nat → Nat} {i r : Nat} (c j : Nat) (hi : i < m) (hr : r < m) (hir : i ≠ r) : sx_D C m b * sx_t C m (sx_u b r c) i j = sx_t C m b i j * sx_t C m b r c - sx_t C m b i c * sx_t C m b r j := by
  have e1 := la_gen m (sx_V C b) (la_s (sx_V C b) i (C j)) (C c) hr
  have e2 : la_s (la_s (sx_V C b) i (C j)) r (C c) = la_s (sx_V C (sx_u b r c)) i (C j) := by
    rw [sx_Vu]
    funext k
    unfold la_s
    by_cases h1 : k = r
    · rw [if_pos h1, if_neg (by omega), if_pos h1]
    · rw [if_neg h1, if_neg h1]
  have e3 : la_s (la_s (sx_V C b) i (C j)) r (sx_V C b r) = la_s (sx_V C b) i (C j) := by
    funext k
    unfold la_s
    by_cases h1 : k = r
    · rw [if_pos h1, if_neg (by omega), h1]
    · rw [if_neg h1]
  have e4 : la_D m (la_s (la_s (sx_V C b) i (C j)) r (sx_V C b i)) = - la_D m (la_s (sx_V C b) r (C j)) := by
    rw [la_Ds _ _ _ hir hi hr, la_self]
  have e5 : ∀ k, k < m → k ≠ r → k ≠ i → la_D m (la_s (sx_V C b) k (C c)) * la_D m (la_s (la_s (sx_V C b) i (C j)) r (sx_V C b k)) = 0 := by
    intro k hk h1 h2
    rw [la_Da (V := la_s (la_s (sx_V C b) i (C j)) r (sx_V C b k)) (i := k) (j := r) h1 hk hr (fun l _ => by rw [la_s_eq, la_s_ne _ _ h1, la_s_ne _ _ h2])]
    exact Int.mul_zero _
  rw [la_S_2 (f := fun k => la_D m (la_s (sx_V C b) k (C c)) * la_D m (la_s (la_s (sx_V C b) i (C j)) r (sx_V C b k))) hr hi hir e5, e2, e3, e4] at e1
  rw [sx_t_D C m (sx_u b r c), sx_t_D, sx_t_D, sx_t_D, sx_t_D]
  show la_D m (sx_V C b) * _ = _
  rw [e1]
  grind
theorem sx_pr {C : Nat → Nat → Int} {m : Nat} {b : Nat → Nat} (r c j : Nat) : sx_t C m (sx_u b r c) r j = sx_t C m b r j := by
  unfold sx_t
  rw [sx_uu]
theorem sx_po {C : Nat → Nat → Int} {m : Nat} {b : Nat → Nat} (w : Nat → Int) {r : Nat} (c j : Nat) (hr : r < m) : sx_D C m b * sx_o C m w (sx_u b r c) j = sx_o C m w b j * sx_t C m b r c - sx_o C m w b c * sx_t C m b r j := by
  have e1 : la_S m (fun i => w (sx_u b r c i) * (sx_D C m b * sx_t C m (sx_u b r c) i j)) = la_S m (fun i => w (b i) * (sx_t C m b i j * sx_t C m b r c - sx_t C m b i c * sx_t C m b r j)) + w c * (sx_D C m b * sx_t C m b r j) := by
    rw [la_S_1 (g := fun i => w (b i) * (sx_t C m b i j * sx_t C m b r c - sx_t C m b i c * sx_t C m b r j)) m hr (fun i hi hn => by rw [sx_u_ne b c hn, sx_pv c j hi hr hn])]
    rw [sx_u_eq, sx_pr]
    grind
  have e2 : la_S m (fun i => w (sx_u b r c i) * (sx_D C m b * sx_t C m (sx_u b r c) i j)) = sx_D C m b * la_S m (fun i => w (sx_u b r c i) * sx_t C m (sx_u b r c) i j) := by
    rw [la_S_m]
    exact la_S_x m (fun i _ => by grind)
  have e3 : la_S m (fun i => w (b i) * (sx_t C m b i j * sx_t C m b r c - sx_t C m b i c * sx_t C m b r j)) = sx_t C m b r c * la_S m (fun i => w (b i) * sx_t C m b i j) + (- sx_t C m b r j) * la_S m (fun i => w (b i) * sx_t C m b i c) := by
    rw [← la_S_l]
    exact la_S_x m (fun i _ => by grind)
  have e4 : sx_D C m (sx_u b r c) = sx_t C m b r c := rfl
  unfold sx_o
  rw [e4]
  rw [e2, e3] at e1
  generalize la_S m (fun i => w (sx_u b r c i) * sx_t C m (sx_u b r c) i j) = X1 at e1 ⊢
  generalize la_S m (fun i => w (b i) * sx_t C m b i j) = X2 at e1 ⊢
  generalize la_S m (fun i => w (b i) * sx_t C m b i c) = X3 at e1 ⊢
  grind
/-- two bases -/
theorem sx_bl (C : Nat → Nat → Int) (m : Nat) (w : Nat → Int) (b b' : Nat → Nat) (p : Nat) : sx_D C m b * sx_o C m w b' p = la_S m (fun i => sx_t C m b i p * sx_o C m w b' (b i)) + sx_D C m b' * sx_o C m w b p := by
  have e1 : ∀ q, q < m → sx_D C m b * sx_t C m b' q p = la_S m (fun i => sx_t C m b i p * sx_t C m b' q (b i)) := by
    intro q hq
    have := la_gen m (sx_V C b) (sx_V C b') (C p) hq
    rw [sx_t_D C m b' q p]
    show la_D m (sx_V C b) * _ = _
    rw [this]
    exact la_S_x m (fun i _ => by rw [sx_t_D, sx_t_D]; rfl)
  have e2 : la_S m (fun i => sx_t C m b i p * sx_o C m w b' (b i)) = la_S m (fun i => la_S m (fun q => w (b' q) * (sx_t C m b i p * sx_t C m b' q (b i)))) + (- sx_D C m b') * la_S m (fun i => w (b i) * sx_t C m b i p) := by
    rw [la_S_m]
    have := la_S_l 1 1 (fun i => la_S m (fun q => w (b' q) * (sx_t C m b i p * sx_t C m b' q (b i)))) (fun i => (- sx_D C m b') * (w (b i) * sx_t C m b i p)) m
    simp only [Int.one_mul] at this
    rw [← this]
    refine la_S_x m (fun i _ => ?_)
    unfold sx_o
    have e : la_S m (fun q => w (b' q) * (sx_t C m b i p * sx_t C m b' q (b i))) = sx_t C m b i p * la_S m (fun q => w (b' q) * sx_t C m b' q (b i)) := by
      rw [la_S_m]
      exact la_S_x m (fun q _ => by grind)
    rw [e]
    generalize la_S m (fun q => w (b' q) * sx_t C m b' q (b i)) = X1
    grind
  have e3 : la_S m (fun i => la_S m (fun q => w (b' q) * (sx_t C m b i p * sx_t C m b' q (b i)))) = sx_D C m b * la_S m (fun q => w (b' q) * sx_t C m b' q p) := by
    rw [la_S_c, la_S_m]
    refine la_S_x m (fun q hq => ?_)
    rw [← la_S_m, ← e1 q hq]
    grind
  rw [e2, e3]
  unfold sx_o
  generalize la_S m (fun q => w (b' q) * sx_t C m b' q p) = X1
  generalize la_S m (fun i => w (b i) * sx_t C m b i p) = X2
  grind
theorem sx_ob {C : Nat → Nat → Int} {m : Nat} {b : Nat → Nat} (w : Nat → Int) {k : Nat} (hk : k < m) : sx_o C m w b (b k) = 0 := by
  unfold sx_o
  rw [la_S_1 (g := fun _ => 0) m hk (fun i hi hn => by rw [sx_tb hi hk, if_neg hn]; exact Int.mul_zero _), la_S_0 m (fun _ _ => rfl), sx_tb hk hk, if_pos rfl]
  omega
/-! Bland: the choice of least names comes to its end -/
def sx_pk (C : Nat → Nat → Int) (m n : Nat) (al : Prop) (w1 w : Nat → Int) (b : Nat → Nat) (c r : Nat) : Prop :=
  c < n ∧ sx_o C m w b c < 0 ∧ (al → sx_o C m w1 b c = 0) ∧ (∀ j, j < c → (al → sx_o C m w1 b j = 0) → 0 ≤ sx_o C m w b j) ∧ r < m ∧ 0 < sx_t C m b r c
  ∧ (∀ i, i < m → 0 < sx_t C m b i c → sx_t C m b r n * sx_t C m b i c ≤ sx_t C m b i n * sx_t C m b r c ∧ (sx_t C m b r n * sx_t C m b i c = sx_t C m b i n * sx_t C m b r c → b r ≤ b i))
def sx_g (C : Nat → Nat → Int) (m n : Nat) (b : Nat → Nat) : Prop := 0 < sx_D C m b ∧ (∀ i, i < m → 0 ≤ sx_t C m b i n) ∧ ∀ i, i < m → b i < n
theorem sx_g_pk {C : Nat → Nat → Int} {m n : Nat} {al : Prop} {w1 w : Nat → Int} {b : Nat → Nat} {c r : Nat} (hg : sx_g C m n b) (hp : sx_pk C m n al w1 w b c r) : sx_g C m n (sx_u b r c) := by
  obtain ⟨g1, g2, g3⟩ := hg
  obtain ⟨p1, p2, p3, p4, p5, p6, p7⟩ := hp
  refine ⟨p6, fun i hi => ?_, fun i hi => ?_⟩
  · by_cases hir : i = r
    · subst hir
      rw [sx_pr]
      exact g2 i hi
    · have e := sx_pv (C := C) (b := b) c n hi p5 hir
      have a1 := g2 i hi
      have a2 := g2 r p5
      have key : 0 ≤ sx_t C m b i n * sx_t C m b r c - sx_t C m b i c * sx_t C m b r n := by
        rcases Int.lt_or_le 0 (sx_t C m b i c) with q | q
        · have := (p7 i hi q).1
          rw [Int.mul_comm (sx_t C m b i c)]
          omega
        · have h1 := Int.mul_nonneg a1 (Int.le_of_lt p6)
          have h2 : sx_t C m b i c * sx_t C m b r n ≤ 0 := Int.mul_nonpos_of_nonpos_of_nonneg q a2
          omega
      rw [← e] at key
      exact Int.nonneg_of_mul_nonneg_right key g1
  · unfold sx_u
    split
    · exact p1
    · exact g3 i hi
def sx_en (C : Nat → Nat → Int) (m n : Nat) (al : Prop) (w1 w : Nat → Int) : Nat → (Nat → Nat) → Prop
  | 0, _ => False
  | k + 1, b => ∀ c r, sx_pk C m n al w1 w b c r → sx_en C m n al w1 w k (sx_u b r c)
theorem sx_chain {C : Nat → Nat → Int} {m n : Nat} {al : Prop} {w1 w : Nat → Int} : ∀ (k : Nat) (b : Nat → Nat), ¬ sx_en C m n al w1 w k b → ∃ (B : Nat → Nat → Nat) (c r : Nat → Nat), B 0 = b ∧ ∀ t, t < k → sx_pk C m n al w1 w (B t) (c t) (r t) ∧ B (t + 1) = sx_u (B t) (r t) (c t) := by
  intro k
  induction k with
  | zero => intro b _; exact ⟨fun _ => b, fun _ => 0, fun _ => 0, rfl, fun t ht => absurd ht (Nat.not_lt_zero _)⟩
  | succ k ih =>
    intro b h
    have h' : ∃ c r, sx_pk C m n al w1 w b c r ∧ ¬ sx_en C m n al w1 w k (sx_u b r c) := by
      refine Classical.byContradiction (fun z => h ?_)
      intro c r hp
      exact Classical.byContradiction (fun z2 => z ⟨c, r, hp, z2⟩)
    obtain ⟨c0, r0, hp, hn⟩ := h'
    obtain ⟨B, c, r, hB, hs⟩ := ih _ hn
    refine ⟨fun t => match t with | 0 => b | t + 1 => B t, fun t => match t with | 0 => c0 | t + 1 => c t, fun t => match t with | 0 => r0 | t + 1 => r t, rfl, fun t ht => ?_⟩
    cases t with
    | zero => exact ⟨hp, hB⟩
    | succ t => exact hs t (by omega)
theorem pg_hole : ∀ (K : Nat) (f : Nat → Nat), (∀ t, t ≤ K → f t < K) → ∃ t1 t2, t1 < t2 ∧ t2 ≤ K ∧ f t1 = f t2 := by
  intro K
  induction K with
  | zero => intro f h; exact absurd (h 0 (Nat.le_refl _)) (Nat.not_lt_zero _)
  | succ K ih =>
    intro f h
    by_cases q : ∃ t, t < K + 1 ∧ f t = f (K + 1)
    · obtain ⟨t, h1, h2⟩ := q
      exact ⟨t, K + 1, h1, Nat.le_refl _, h2⟩
    · have hne : ∀ t, t < K + 1 → f t ≠ f (K + 1) := fun t ht e => q ⟨t, ht, e⟩
      have hK := h (K + 1) (Nat.le_refl _)
      obtain ⟨t1, t2, a1, a2, a3⟩ := ih (fun t => if f (K + 1) < f t then f t - 1 else f t) (fun t ht => by
        have b1 := hne t (by omega)
        have b2 := h t (by omega)
        show (if f (K + 1) < f t then f t - 1 else f t) < K
        split <;> omega)
      refine ⟨t1, t2, a1, by omega, ?_⟩
      have b1 := hne t1 (by omega)
      have b2 := hne t2 (by omega)
      have a3 : (if f (K + 1) < f t1 then f t1 - 1 else f t1) = (if f (K + 1) < f t2 then f t2 - 1 else f t2) := a3
      split at a3 <;> split at a3 <;> omega
def cd_n (n : Nat) (b : Nat → Nat) : Nat → Nat
  | 0 => 0
  | k + 1 => cd_n n b k * n + b k
theorem cd_lt (n : Nat) (b : Nat → Nat) : ∀ k, (∀ i, i < k → b i < n) → cd_n n b k < n ^ k := by
  intro k
  induction k with
  | zero => intro _; exact Nat.one_pos
  | succ k ih =>
    intro h
    have h1 := ih (fun i hi => h i (by omega))
    have h2 := h k (by omega)
    show cd_n n b k * n + b k < n ^ k * n
    have h3 : (cd_n n b k + 1) * n ≤ n ^ k * n := Nat.mul_le_mul_right n h1
    rw [Nat.add_mul] at h3
    omega
theorem cd_inj (n : Nat) (b b' : Nat → Nat) : ∀ k, (∀ i, i < k → b i < n) → (∀ i, i < k → b' i < n) → cd_n n b k = cd_n n b' k → ∀ i, i < k → b i = b' i := by
  intro k
  induction k with
  | zero => intro _ _ _ i hi; exact absurd hi (Nat.not_lt_zero _)
  | succ k ih =>
    intro h h' e i hi
    have h2 := h k (by omega)
    have h2' := h' k (by omega)
    have e : cd_n n b k * n + b k = cd_n n b' k * n + b' k := e
    have e1 : b k = b' k := by
      have := congrArg (· % n) e
      simp only [Nat.mul_add_mod_self_right, Nat.mod_eq_of_lt h2, Nat.mod_eq_of_lt h2'] at this
      exact this
    have e2 : cd_n n b k = cd_n n b' k := by
      rw [e1] at e
      exact Nat.eq_of_mul_eq_mul_right (by omega) (Nat.add_right_cancel e)
    by_cases hk : i = k
    · rw [hk]; exact e1
    · exact ih (fun i hi => h i (by omega)) (fun i hi => h' i (by omega)) e2 i (by omega)
theorem fr_tr {a b c d e f : Int} (hd : 0 < d) (hb : 0 < b) (hf : 0 < f) (h1 : a * d ≤ c * b) (h2 : c * f ≤ e * d) : a * f ≤ e * b := by
  have g1 : a * d * f ≤ c * b * f := Int.mul_le_mul_of_nonneg_right h1 (Int.le_of_lt hf)
  have g2 : c * f * b ≤ e * d * b := Int.mul_le_mul_of_nonneg_right h2 (Int.le_of_lt hb)
  have g3 : d * (a * f) ≤ d * (e * b) := by
    have i1 : a * d * f = d * (a * f) := by grind
    have i2 : e * d * b = d * (e * b) := by grind
    have i3 : c * b * f = c * f * b := by grind
    omega
  exact Int.le_of_mul_le_mul_left g3 hd
theorem fr_st {a b c d e f : Int} (hb : 0 < b) (hd : 0 < d) (hf : 0 < f) (h1 : a * d ≤ c * b) (h2 : c * f < e * d) (h3 : e * b ≤ a * f) : False := by
  have g1 := fr_tr hf hd hb (Int.le_of_lt h2) h3
  have g2 : a * d = c * b := by omega
  have i1 : c * f * b < e * d * b := Int.mul_lt_mul_of_pos_right h2 hb
  have i2 : e * b * d ≤ a * f * d := Int.mul_le_mul_of_nonneg_right h3 (Int.le_of_lt hd)
  have i3 : e * d * b = e * b * d := by grind
  have i4 : a * f * d = a * d * f := by grind
  have i5 : c * f * b = c * b * f := by grind
  rw [i5] at i1
  rw [i4, g2] at i2
  omega
theorem mx_at (f : Nat → Nat) (a : Nat) : ∀ d, ∃ t, a ≤ t ∧ t ≤ a + d ∧ ∀ u, a ≤ u → u ≤ a + d → f u ≤ f t := by
  intro d
  induction d with
  | zero => exact ⟨a, Nat.le_refl _, Nat.le_refl _, fun u h1 h2 => by rw [show u = a by omega]; exact Nat.le_refl _⟩
  | succ d ih =>
    obtain ⟨t, h1, h2, h3⟩ := ih
    by_cases q : f (a + (d + 1)) ≤ f t
    · refine ⟨t, h1, by omega, fun u hu1 hu2 => ?_⟩
      by_cases hu : u = a + (d + 1)
      · rw [hu]; exact q
      · exact h3 u hu1 (by omega)
    · refine ⟨a + (d + 1), by omega, by omega, fun u hu1 hu2 => ?_⟩
      by_cases hu : u = a + (d + 1)
      · rw [hu]; exact Nat.le_refl _
      · have := h3 u hu1 (by omega); omega
theorem la_S_ps {f : Nat → Int} : ∀ n : Nat, 0 < la_S n f → ∃ i, i < n ∧ 0 < f i := by
  intro n
  induction n with
  | zero => intro h; exact absurd h (Int.lt_irrefl 0)
  | succ n ih =>
    intro h
    have h : 0 < la_S n f + f n := h
    by_cases q : 0 < f n
    · exact ⟨n, by omega, q⟩
    · obtain ⟨i, h1, h2⟩ := ih (by omega)
      exact ⟨i, by omega, h2⟩
theorem sx_cyc {C : Nat → Nat → Int} {m n : Nat} {al : Prop} {w1 w : Nat → Int} {B : Nat → Nat → Nat} {c r : Nat → Nat} {t1 t2 : Nat} (h12 : t1 < t2) (hg : ∀ t, t ≤ t2 → sx_g C m n (B t)) (hs : ∀ t, t < t2 → sx_pk C m n al w1 w (B t) (c t) (r t) ∧ B (t + 1) = sx_u (B t) (r t) (c t)) (he : ∀ i, i < m → B t1 i = B t2 i) : False := by
  -- the aim never falls
  have a1 : ∀ t, t < t2 → sx_D C m (B t) * sx_o C m w (B (t + 1)) n = sx_o C m w (B t) n * sx_D C m (B (t + 1)) - sx_o C m w (B t) (c t) * sx_t C m (B t) (r t) n := by
    intro t ht
    obtain ⟨p, e⟩ := hs t ht
    rw [e]
    exact sx_po w (c t) n p.2.2.2.2.1
  have a2 : ∀ t, t < t2 → sx_o C m w (B t) n * sx_D C m (B (t + 1)) ≤ sx_o C m w (B (t + 1)) n * sx_D C m (B t) := by
    intro t ht
    have e := a1 t ht
    obtain ⟨p, _⟩ := hs t ht
    have h1 := (hg t (by omega)).2.1 (r t) p.2.2.2.2.1
    have h2 : sx_o C m w (B t) (c t) * sx_t C m (B t) (r t) n ≤ 0 := Int.mul_nonpos_of_nonpos_of_nonneg (Int.le_of_lt p.2.1) h1
    rw [Int.mul_comm (sx_o C m w (B (t + 1)) n)]
    omega
  have a3 : ∀ t d, t + d ≤ t2 → sx_o C m w (B t) n * sx_D C m (B (t + d)) ≤ sx_o C m w (B (t + d)) n * sx_D C m (B t) := by
    intro t d
    induction d with
    | zero => intro _; exact Int.le_refl _
    | succ d ih =>
      intro h
      exact fr_tr (hg (t + d) (by omega)).1 (hg t (by omega)).1 (hg (t + d + 1) (by omega)).1 (ih (by omega)) (a2 (t + d) (by omega))
  have a4 : ∀ t, t1 ≤ t → t < t2 → sx_t C m (B t) (r t) n = 0 := by
    intro t h1 h2
    obtain ⟨p, _⟩ := hs t h2
    have q0 := (hg t (by omega)).2.1 (r t) p.2.2.2.2.1
    refine Classical.byContradiction (fun z => ?_)
    have q1 : 0 < sx_t C m (B t) (r t) n := by omega
    have q2 : sx_o C m w (B t) (c t) * sx_t C m (B t) (r t) n < 0 := Int.mul_neg_of_neg_of_pos p.2.1 q1
    have e := a1 t h2
    have s1 := a3 t1 (t - t1) (by omega)
    have s2 := a3 (t + 1) (t2 - (t + 1)) (by omega)
    rw [show t1 + (t - t1) = t by omega] at s1
    rw [show t + 1 + (t2 - (t + 1)) = t2 by omega, ← sx_x he, ← sx_ox he] at s2
    refine fr_st (hg t1 (by omega)).1 (hg t (by omega)).1 (hg (t + 1) (by omega)).1 s1 ?_ s2
    rw [Int.mul_comm (sx_o C m w (B (t + 1)) n)]
    omega
  -- a row's last number stays nought
  have a5 : ∀ i, i < m → ∀ t, t1 ≤ t → t < t2 → (sx_t C m (B t) i n = 0 ↔ sx_t C m (B (t + 1)) i n = 0) := by
    intro i hi t h1 h2
    obtain ⟨p, e⟩ := hs t h2
    have z := a4 t h1 h2
    rw [e]
    by_cases hir : i = r t
    · rw [hir, sx_pr]
    · have q := sx_pv (C := C) (b := B t) (c t) n hi p.2.2.2.2.1 hir
      rw [z, Int.mul_zero, Int.sub_zero] at q
      have d1 := (hg t (by omega)).1
      have d2 := p.2.2.2.2.2.1
      constructor
      · intro y
        rw [y, Int.zero_mul] at q
        rcases Int.mul_eq_zero.mp q with k | k
        · omega
        · exact k
      · intro y
        rw [y, Int.mul_zero] at q
        rcases Int.mul_eq_zero.mp q.symm with k | k
        · exact k
        · omega
  have a6 : ∀ i, i < m → ∀ d, t1 + d ≤ t2 → (sx_t C m (B t1) i n = 0 ↔ sx_t C m (B (t1 + d)) i n = 0) := by
    intro i hi d
    induction d with
    | zero => intro _; exact Iff.rfl
    | succ d ih => intro h; exact (ih (by omega)).trans (a5 i hi (t1 + d) (by omega) (by omega))
  have a7 : ∀ i, i < m → ∀ u, t1 ≤ u → u < t2 → r u = i → ∀ t, t1 ≤ t → t ≤ t2 → sx_t C m (B t) i n = 0 := by
    intro i hi u h1 h2 hr t h3 h4
    have z := a4 u h1 h2
    rw [hr] at z
    have k1 := a6 i hi (u - t1) (by omega)
    have k2 := a6 i hi (t - t1) (by omega)
    rw [show t1 + (u - t1) = u by omega] at k1
    rw [show t1 + (t - t1) = t by omega] at k2
    exact k2.mp (k1.mpr z)
  -- what stands in a row
  have b1 : ∀ i, ∀ d, t1 + d ≤ t2 → (B (t1 + d) i = B t1 i ∧ ∀ u, t1 ≤ u → u < t1 + d → r u ≠ i) ∨ ∃ u, t1 ≤ u ∧ u < t1 + d ∧ B (t1 + d) i = c u := by
    intro i d
    induction d with
    | zero => intro _; exact Or.inl ⟨rfl, fun u h1 h2 => by omega⟩
    | succ d ih =>
      intro h
      obtain ⟨p, e⟩ := hs (t1 + d) (by omega)
      have e : B (t1 + (d + 1)) = sx_u (B (t1 + d)) (r (t1 + d)) (c (t1 + d)) := e
      by_cases q : r (t1 + d) = i
      · refine Or.inr ⟨t1 + d, by omega, by omega, ?_⟩
        rw [e, q, sx_u_eq]
      · rw [e, sx_u_ne _ _ (fun z => q z.symm)]
        rcases ih (by omega) with k | k
        · refine Or.inl ⟨k.1, fun u h1 h2 => ?_⟩
          by_cases hu : u = t1 + d
          · rw [hu]; exact q
          · exact k.2 u h1 (by omega)
        · obtain ⟨u, k1, k2, k3⟩ := k
          exact Or.inr ⟨u, k1, by omega, k3⟩
  have b2 : ∀ i, i < m → (∀ u, t1 ≤ u → u < t2 → r u ≠ i) ∨ ∀ t, t1 ≤ t → t ≤ t2 → ∃ u, t1 ≤ u ∧ u < t2 ∧ B t i = c u := by
    intro i hi
    have k := b1 i (t2 - t1) (by omega)
    rw [show t1 + (t2 - t1) = t2 by omega] at k
    rcases k with k | k
    · exact Or.inl k.2
    · obtain ⟨u0, k1, k2, k3⟩ := k
      refine Or.inr (fun t h1 h2 => ?_)
      have y := b1 i (t - t1) (by omega)
      rw [show t1 + (t - t1) = t by omega] at y
      rcases y with y | y
      · exact ⟨u0, k1, k2, by rw [y.1, he i hi]; exact k3⟩
      · obtain ⟨u, y1, y2, y3⟩ := y
        exact ⟨u, y1, by omega, y3⟩
  have b3 : ∀ i, (∀ u, t1 ≤ u → u < t2 → r u ≠ i) → ∀ t, t1 ≤ t → t ≤ t2 → B t i = B t1 i := by
    intro i h t h1 h2
    have y : ∀ d, t1 + d ≤ t2 → B (t1 + d) i = B t1 i := by
      intro d
      induction d with
      | zero => intro _; rfl
      | succ d ih =>
        intro hd
        obtain ⟨p, e⟩ := hs (t1 + d) (by omega)
        have e : B (t1 + (d + 1)) = sx_u (B (t1 + d)) (r (t1 + d)) (c (t1 + d)) := e
        rw [e, sx_u_ne _ _ (fun z => h (t1 + d) (by omega) (by omega) z.symm)]
        exact ih (by omega)
    have := y (t - t1) (by omega)
    rw [show t1 + (t - t1) = t by omega] at this
    exact this
  -- which columns may come
  have d1 : al → ∀ j t, t < t2 → (sx_o C m w1 (B t) j = 0 ↔ sx_o C m w1 (B (t + 1)) j = 0) := by
    intro ha j t ht
    obtain ⟨p, e⟩ := hs t ht
    have q := sx_po (C := C) (b := B t) w1 (c t) j p.2.2.2.2.1
    rw [← e, p.2.2.1 ha, Int.zero_mul, Int.sub_zero] at q
    have g1 := (hg t (by omega)).1
    have g2 := p.2.2.2.2.2.1
    constructor
    · intro y
      rw [y, Int.zero_mul] at q
      rcases Int.mul_eq_zero.mp q with k | k
      · omega
      · exact k
    · intro y
      rw [y, Int.mul_zero] at q
      rcases Int.mul_eq_zero.mp q.symm with k | k
      · exact k
      · omega
  have d2 : al → ∀ j d, t1 + d ≤ t2 → (sx_o C m w1 (B t1) j = 0 ↔ sx_o C m w1 (B (t1 + d)) j = 0) := by
    intro ha j d
    induction d with
    | zero => intro _; exact Iff.rfl
    | succ d ih => intro h; exact (ih (by omega)).trans (d1 ha j (t1 + d) (by omega))
  have d3 : al → ∀ j t u, t1 ≤ t → t ≤ t2 → t1 ≤ u → u ≤ t2 → sx_o C m w1 (B t) j = 0 → sx_o C m w1 (B u) j = 0 := by
    intro ha j t u h1 h2 h3 h4 hz
    have k1 := d2 ha j (t - t1) (by omega)
    have k2 := d2 ha j (u - t1) (by omega)
    rw [show t1 + (t - t1) = t by omega] at k1
    rw [show t1 + (u - t1) = u by omega] at k2
    exact k2.mp (k1.mpr hz)
  -- the greatest that comes
  obtain ⟨t', e1, e2, e3⟩ := mx_at c t1 (t2 - t1 - 1)
  obtain ⟨p', ep'⟩ := hs t' (by omega)
  have f1 : ∃ t, t1 ≤ t ∧ t < t2 ∧ B t (r t) = c t' := by
    refine Classical.byContradiction (fun z => ?_)
    have z : ∀ t, t1 ≤ t → t < t2 → B t (r t) ≠ c t' := fun t h1 h2 h3 => z ⟨t, h1, h2, h3⟩
    have st : ∀ t, t1 ≤ t → t < t2 → B t (r t') = c t' → B (t + 1) (r t') = c t' := by
      intro t h1 h2 h3
      rw [(hs t h2).2, sx_u_ne]
      · exact h3
      · intro y
        rw [y] at h3
        exact z t h1 h2 h3
    have u1 : ∀ d, t' + 1 + d ≤ t2 → B (t' + 1 + d) (r t') = c t' := by
      intro d
      induction d with
      | zero => intro _; rw [Nat.add_zero, ep', sx_u_eq]
      | succ d ih => intro h; exact st (t' + 1 + d) (by omega) (by omega) (ih (by omega))
    have u2 := u1 (t2 - (t' + 1)) (by omega)
    rw [show t' + 1 + (t2 - (t' + 1)) = t2 by omega, ← he _ p'.2.2.2.2.1] at u2
    have u3 : ∀ d, t1 + d ≤ t2 → B (t1 + d) (r t') = c t' := by
      intro d
      induction d with
      | zero => intro _; exact u2
      | succ d ih => intro h; exact st (t1 + d) (by omega) (by omega) (ih (by omega))
    have u4 := u3 (t' - t1) (by omega)
    rw [show t1 + (t' - t1) = t' by omega] at u4
    have u5 := sx_ob (C := C) (b := B t') w p'.2.2.2.2.1
    rw [u4] at u5
    have := p'.2.1
    omega
  obtain ⟨t, f2, f3, f4⟩ := f1
  obtain ⟨p, ep⟩ := hs t f3
  have g1 : c t ≤ c t' := e3 t f2 (by omega)
  have g2 : c t ≠ c t' := by
    intro y
    have u5 := sx_ob (C := C) (b := B t) w p.2.2.2.2.1
    rw [f4, ← y] at u5
    have := p.2.1
    omega
  have g3 : 0 ≤ sx_o C m w (B t') (c t) := p'.2.2.2.1 (c t) (by omega) (fun ha => d3 ha (c t) t t' f2 (by omega) (by omega) (by omega) (p.2.2.1 ha))
  have g4 := sx_bl C m w (B t) (B t') (c t)
  have g5 : 0 < la_S m (fun i => sx_t C m (B t) i (c t) * sx_o C m w (B t') (B t i)) := by
    have h1 := Int.mul_nonneg (Int.le_of_lt (hg t (by omega)).1) g3
    have h2 : sx_D C m (B t') * sx_o C m w (B t) (c t) < 0 := Int.mul_neg_of_pos_of_neg (hg t' (by omega)).1 p.2.1
    omega
  obtain ⟨i, i1, i2⟩ := la_S_ps m g5
  have i3 : ¬ sx_o C m w (B t') (B t i) = 0 := fun y => by rw [y, Int.mul_zero] at i2; omega
  rcases b2 i i1 with k | k
  · have y1 := b3 i k t f2 (by omega)
    have y2 := b3 i k t' (by omega) (by omega)
    apply i3
    rw [y1, ← y2]
    exact sx_ob w i1
  · obtain ⟨u, k1, k2, k3⟩ := k t f2 (by omega)
    have k4 : B t i ≤ c t' := by rw [k3]; exact e3 u k1 (by omega)
    have k5 : ∃ v, t1 ≤ v ∧ v < t2 ∧ r v = i := by
      refine Classical.byContradiction (fun z => ?_)
      have k : ∀ u, t1 ≤ u → u < t2 → r u ≠ i := fun u h1 h2 h3 => z ⟨u, h1, h2, h3⟩
      have y1 := b3 i k t f2 (by omega)
      have y2 := b3 i k t' (by omega) (by omega)
      apply i3
      rw [y1, ← y2]
      exact sx_ob w i1
    obtain ⟨v, v1, v2, v3⟩ := k5
    have z1 := a7 i i1 v v1 v2 v3 t f2 (by omega)
    have z2 := a4 t f2 f3
    by_cases k6 : B t i = c t'
    · by_cases k7 : i = r t
      · have h1 := p.2.2.2.2.2.1
        have h2 := p'.2.1
        rw [k6, k7] at i2
        have : sx_t C m (B t) (r t) (c t) * sx_o C m w (B t') (c t') < 0 := Int.mul_neg_of_pos_of_neg h1 h2
        omega
      · have := sx_al (C := C) k7 i1 p.2.2.2.2.1 (k6.trans f4.symm)
        have := (hg t (by omega)).1
        omega
    · have h1 : 0 ≤ sx_o C m w (B t') (B t i) := p'.2.2.2.1 (B t i) (by omega) (fun ha => d3 ha (B t i) t t' f2 (by omega) (by omega) (by omega) (sx_ob w1 i1))
      have h2 : 0 < sx_t C m (B t) i (c t) := by
        rcases Int.lt_or_le 0 (sx_t C m (B t) i (c t)) with y | y
        · exact y
        · have := Int.mul_nonpos_of_nonpos_of_nonneg y h1
          omega
      have h3 := (p.2.2.2.2.2.2 i i1 h2).2 (by rw [z1, z2]; omega)
      rw [f4] at h3
      omega
theorem sx_end {C : Nat → Nat → Int} {m n : Nat} {al : Prop} {w1 w : Nat → Int} {b : Nat → Nat} (hg : sx_g C m n b) : ∃ k, sx_en C m n al w1 w k b := by
  refine Classical.byContradiction (fun z => ?_)
  have z : ¬ sx_en C m n al w1 w (n ^ m) b := fun y => z ⟨_, y⟩
  obtain ⟨B, c, r, h0, hs⟩ := sx_chain (n ^ m) b z
  have hB : ∀ t, t ≤ n ^ m → sx_g C m n (B t) := by
    intro t
    induction t with
    | zero => intro _; rw [h0]; exact hg
    | succ t ih =>
      intro h
      obtain ⟨p, e⟩ := hs t (by omega)
      rw [e]
      exact sx_g_pk (ih (by omega)) p
  obtain ⟨t1, t2, h1, h2, h3⟩ := pg_hole (n ^ m) (fun t => cd_n n (B t) m) (fun t ht => cd_lt n (B t) m (hB t ht).2.2)
  exact sx_cyc h1 (fun t ht => hB t (by omega)) (fun t ht => hs t (by omega)) (cd_inj n (B t1) (B t2) m (hB t1 (by omega)).2.2 (hB t2 (by omega)).2.2 h3)
/-! the columns of the table's simplex, and how large its numbers can be -/
def tc_st (oc : Nat → Nat) : Nat → Nat
  | 0 => 0
  | s + 1 => tc_st oc s + oc s
def tc_rs (oc : Nat → Nat) : Nat → Nat → Nat
  | 0, _ => 0
  | q + 1, l => if tc_st oc q ≤ l then q else tc_rs oc q l
theorem tc_mono (oc : Nat → Nat) : ∀ {s t : Nat}, s ≤ t → tc_st oc s ≤ tc_st oc t := by
  intro s t h
  induction t with
  | zero => rw [show s = 0 by omega]; exact Nat.le_refl _
  | succ t ih =>
    by_cases q : s = t + 1
    · rw [q]; exact Nat.le_refl _
    · have := ih (by omega)
      show _ ≤ tc_st oc t + oc t
      omega
theorem tc_rs_at (oc : Nat → Nat) : ∀ {q s o : Nat}, s < q → o < oc s → tc_rs oc q (tc_st oc s + o) = s := by
  intro q
  induction q with
  | zero => intro s o h; exact absurd h (Nat.not_lt_zero _)
  | succ q ih =>
    intro s o hs ho
    show (if tc_st oc q ≤ tc_st oc s + o then q else tc_rs oc q (tc_st oc s + o)) = s
    by_cases e : s = q
    · subst e
      rw [if_pos (Nat.le_add_right _ _)]
    · have h1 : tc_st oc (s + 1) ≤ tc_st oc q := tc_mono oc (by omega)
      have h1 : tc_st oc s + oc s ≤ tc_st oc q := h1
      rw [if_neg (by omega)]
      exact ih (by omega) ho
theorem tc_rs_lt (oc : Nat → Nat) (l : Nat) : ∀ {q : Nat}, 0 < q → tc_rs oc q l < q := by
  intro q
  induction q with
  | zero => intro h; exact absurd h (Nat.not_lt_zero _)
  | succ q ih =>
    intro _
    show (if tc_st oc q ≤ l then q else tc_rs oc q l) < q + 1
    split
    · omega
    · rename_i h
      cases q with
      | zero => exact absurd (Nat.zero_le l) h
      | succ q => have := ih (by omega); omega
theorem tc_rs_o (oc : Nat → Nat) (l : Nat) : ∀ {q : Nat}, l < tc_st oc q → tc_st oc (tc_rs oc q l) ≤ l ∧ l < tc_st oc (tc_rs oc q l) + oc (tc_rs oc q l) := by
  intro q
  induction q with
  | zero => intro h; exact absurd h (Nat.not_lt_zero _)
  | succ q ih =>
    intro h
    have h : l < tc_st oc q + oc q := h
    show tc_st oc (if tc_st oc q ≤ l then q else tc_rs oc q l) ≤ l ∧ l < tc_st oc (if tc_st oc q ≤ l then q else tc_rs oc q l) + oc (if tc_st oc q ≤ l then q else tc_rs oc q l)
    split
    · rename_i k; exact ⟨k, h⟩
    · rename_i k; exact ih (by omega)
def tc_b (g x : Nat) : Int := ((x / 2 ^ g) % 2 : Nat)
def tc_A (a : Int) (x : Nat) : Int := la_S 6 (fun g => tc_b g x * (if a = (g : Int) then 1 else 0))
def tc_f (two : Bool) (a b : Int) (x : Nat) : Int := if two = true then 2 * tc_A a x + tc_A b x else tc_A a x
def tc_oc (tw : Nat → Bool) (s : Nat) : Nat := if tw s = true then 4 else 2
theorem tc_b01 (g x : Nat) : tc_b g x = 0 ∨ tc_b g x = 1 := by
  unfold tc_b
  have := Nat.mod_two_eq_zero_or_one (x / 2 ^ g)
  omega
theorem tc_A01 (a : Int) (x : Nat) : tc_A a x = 0 ∨ tc_A a x = 1 := by
  unfold tc_A
  by_cases h : ∃ g : Nat, g < 6 ∧ a = (g : Int)
  · obtain ⟨g, hg, e⟩ := h
    rw [la_S_1 (g := fun _ => 0) (r := g) 6 hg (fun i _ hn => by rw [if_neg (by omega)]; exact Int.mul_zero _), la_S_0 6 (fun _ _ => rfl), if_pos e]
    have := tc_b01 g x
    omega
  · left
    exact la_S_0 6 (fun i hi => by rw [if_neg (fun z => h ⟨i, hi, z⟩)]; exact Int.mul_zero _)
/-- a hidden answer's column -/
def tc_N (q : Nat) (tw : Nat → Bool) (la lb : Nat → Int) (x l : Nat) : Int :=
  if tc_f (tw (tc_rs (tc_oc tw) q l)) (la (tc_rs (tc_oc tw) q l)) (lb (tc_rs (tc_oc tw) q l)) x = ((l - tc_st (tc_oc tw) (tc_rs (tc_oc tw) q l) : Nat) : Int) then 1 else 0
def tc_C (q many : Nat) (tw : Nat → Bool) (la lb : Nat → Int) (tm : Nat → Nat → Int) : Nat → Nat → Int := fun j l =>
  if j < many then tc_N q tw la lb j l
  else if j < many + tc_st (tc_oc tw) q then la_1 (j - many) l
  else tm (tc_rs (tc_oc tw) q l) (l - tc_st (tc_oc tw) (tc_rs (tc_oc tw) q l))
def tc_d (k o : Nat) : Int := if o = k then 1 else 0
def tc_V (tw : Nat → Bool) (la lb : Nat → Int) (s o : Nat) (f : Nat) : Int :=
  if f < 1 then tc_d 0 o
  else if f < 7 then (if tw s = true then (tc_d 2 o - tc_d 0 o) * (if la s = ((f - 1 : Nat) : Int) then 1 else 0) + (tc_d 1 o - tc_d 0 o) * (if lb s = ((f - 1 : Nat) : Int) then 1 else 0) else (tc_d 1 o - tc_d 0 o) * (if la s = ((f - 1 : Nat) : Int) then 1 else 0))
  else (if f - 7 = s ∧ tw s = true then tc_d 0 o - tc_d 1 o - tc_d 2 o + tc_d 3 o else 0)
def tc_U (q : Nat) (tw : Nat → Bool) (la lb : Nat → Int) (f l : Nat) : Int := tc_V tw la lb (tc_rs (tc_oc tw) q l) (l - tc_st (tc_oc tw) (tc_rs (tc_oc tw) q l)) f
def tc_phi (la lb : Nat → Int) (x f : Nat) : Int := if f < 1 then 1 else if f < 7 then tc_b (f - 1) x else tc_A (la (f - 7)) x * tc_A (lb (f - 7)) x
theorem la_S_a (f : Nat → Int) (a : Nat) : ∀ b : Nat, la_S (a + b) f = la_S a f + la_S b (fun i => f (a + i)) := by
  intro b
  induction b with
  | zero => show la_S a f = la_S a f + 0; omega
  | succ b ih =>
    show la_S (a + b) f + f (a + b) = la_S a f + (la_S b (fun i => f (a + i)) + f (a + b))
    rw [ih]
    omega
theorem tc_sum (tw : Nat → Bool) (la lb : Nat → Int) (x s o : Nat) (hs : s < 8) : la_S 15 (fun f => tc_phi la lb x f * tc_V tw la lb s o f) = (if tc_f (tw s) (la s) (lb s) x = (o : Int) then 1 else 0) := by
  have e1 : la_S 15 (fun f => tc_phi la lb x f * tc_V tw la lb s o f) = la_S 1 (fun f => tc_phi la lb x f * tc_V tw la lb s o f) + la_S 6 (fun g => tc_phi la lb x (1 + g) * tc_V tw la lb s o (1 + g)) + la_S 8 (fun g => tc_phi la lb x (7 + g) * tc_V tw la lb s o (7 + g)) := by
    have h1 := la_S_a (fun f => tc_phi la lb x f * tc_V tw la lb s o f) 7 8
    have h2 := la_S_a (fun f => tc_phi la lb x f * tc_V tw la lb s o f) 1 6
    rw [show 15 = 7 + 8 from rfl, h1, show 7 = 1 + 6 from rfl, h2]
  have e2 : la_S 1 (fun f => tc_phi la lb x f * tc_V tw la lb s o f) = tc_d 0 o := by
    show 0 + 1 * tc_d 0 o = tc_d 0 o
    omega
  have e3 : la_S 6 (fun g => tc_phi la lb x (1 + g) * tc_V tw la lb s o (1 + g)) = if tw s = true then (tc_d 2 o - tc_d 0 o) * tc_A (la s) x + (tc_d 1 o - tc_d 0 o) * tc_A (lb s) x else (tc_d 1 o - tc_d 0 o) * tc_A (la s) x + 0 * tc_A (la s) x := by
    split
    · rename_i ht
      unfold tc_A
      rw [← la_S_l]
      refine la_S_x 6 (fun g hg => ?_)
      unfold tc_phi tc_V
      rw [if_neg (by omega), if_pos (by omega), if_neg (by omega), if_pos (by omega), if_pos ht, show 1 + g - 1 = g by omega]
      grind
    · rename_i ht
      unfold tc_A
      rw [← la_S_l]
      refine la_S_x 6 (fun g hg => ?_)
      unfold tc_phi tc_V
      rw [if_neg (by omega), if_pos (by omega), if_neg (by omega), if_pos (by omega), if_neg ht, show 1 + g - 1 = g by omega]
      grind
  have e4 : la_S 8 (fun g => tc_phi la lb x (7 + g) * tc_V tw la lb s o (7 + g)) = if tw s = true then tc_A (la s) x * tc_A (lb s) x * (tc_d 0 o - tc_d 1 o - tc_d 2 o + tc_d 3 o) else 0 := by
    rw [la_S_1 (g := fun _ => 0) (r := s) 8 hs (fun i hi hn => by
      unfold tc_V
      rw [if_neg (by omega), if_neg (by omega), if_neg (fun z => hn (by omega))]
      exact Int.mul_zero _), la_S_0 8 (fun _ _ => rfl)]
    unfold tc_phi tc_V
    rw [if_neg (by omega), if_neg (by omega), if_neg (by omega), if_neg (by omega), show 7 + s - 7 = s by omega]
    split
    · rename_i ht
      rw [if_pos ht.2]
      omega
    · rename_i ht
      rw [if_neg (fun z => ht ⟨rfl, z⟩)]
      omega
  rw [e1, e2, e3, e4]
  have ho : o = 0 ∨ o = 1 ∨ o = 2 ∨ o = 3 ∨ 4 ≤ o := by omega
  unfold tc_f tc_d
  by_cases ht : tw s = true
  · rw [if_pos ht, if_pos ht, if_pos ht]
    rcases tc_A01 (la s) x with h1 | h1 <;> rcases tc_A01 (lb s) x with h2 | h2 <;> rw [h1, h2] <;> rcases ho with h | h | h | h | h
    all_goals first
      | (subst h; decide)
      | (rw [if_neg (show ¬ o = 0 by omega), if_neg (show ¬ o = 1 by omega), if_neg (show ¬ o = 2 by omega), if_neg (show ¬ o = 3 by omega), if_neg (by omega)]; decide)
  · rw [if_neg ht, if_neg ht, if_neg ht]
    rcases tc_A01 (la s) x with h1 | h1 <;> rw [h1] <;> rcases ho with h | h | h | h | h
    all_goals first
      | (subst h; decide)
      | (rw [if_neg (show ¬ o = 0 by omega), if_neg (show ¬ o = 1 by omega), if_neg (by omega)]; decide)
theorem tc_in (q : Nat) (tw : Nat → Bool) (la lb : Nat → Int) (x : Nat) (hq : q ≤ 8) : la_in 15 (tc_U q tw la lb) (tc_N q tw la lb x) := by
  refine ⟨tc_phi la lb x, fun l => ?_⟩
  have hs : tc_rs (tc_oc tw) q l < 8 := by
    by_cases h : 0 < q
    · have := tc_rs_lt (tc_oc tw) l h; omega
    · rw [show q = 0 by omega]; show 0 < 8; decide
  exact (tc_sum tw la lb x _ _ hs).symm
theorem tc_nN (q : Nat) (tw : Nat → Bool) (la lb : Nat → Int) (x : Nat) : ∀ s, s ≤ q → la_d (tc_N q tw la lb x) (tc_N q tw la lb x) (tc_st (tc_oc tw) s) ≤ s := by
  intro s
  induction s with
  | zero => intro _; exact Int.le_refl _
  | succ s ih =>
    intro hs
    have h0 := ih (by omega)
    have st : ∀ o, o ≤ tc_oc tw s → la_d (tc_N q tw la lb x) (tc_N q tw la lb x) (tc_st (tc_oc tw) s + o) ≤ s + (if tc_f (tw s) (la s) (lb s) x < (o : Int) then 1 else 0) := by
      intro o
      induction o with
      | zero =>
        intro _
        have : (0 : Int) ≤ (if tc_f (tw s) (la s) (lb s) x < ((0 : Nat) : Int) then 1 else 0) := by split <;> omega
        rw [Nat.add_zero]
        omega
      | succ o iho =>
        intro ho
        have h1 := iho (by omega)
        show la_d _ _ (tc_st (tc_oc tw) s + o) + tc_N q tw la lb x (tc_st (tc_oc tw) s + o) * tc_N q tw la lb x (tc_st (tc_oc tw) s + o) ≤ _
        have e : tc_N q tw la lb x (tc_st (tc_oc tw) s + o) = if tc_f (tw s) (la s) (lb s) x = (o : Int) then 1 else 0 := by
          unfold tc_N
          rw [tc_rs_at (tc_oc tw) (show s < q by omega) (show o < tc_oc tw s by omega), Nat.add_sub_cancel_left]
        rw [e]
        by_cases k : tc_f (tw s) (la s) (lb s) x = (o : Int)
        · rw [if_pos k]
          rw [if_neg (by omega)] at h1
          rw [if_pos (by omega)]
          omega
        · rw [if_neg k]
          by_cases k2 : tc_f (tw s) (la s) (lb s) x < (o : Int)
          · rw [if_pos k2] at h1
            rw [if_pos (by omega)]
            omega
          · rw [if_neg k2] at h1
            rw [if_neg (by omega)]
            omega
    have h2 := st (tc_oc tw s) (Nat.le_refl _)
    have : (if tc_f (tw s) (la s) (lb s) x < (tc_oc tw s : Int) then 1 else 0) ≤ (1 : Int) := by split <;> omega
    show la_d _ _ (tc_st (tc_oc tw) s + tc_oc tw s) ≤ _
    omega
theorem tc_n1 (k m : Nat) : la_d (la_1 k) (la_1 k) m ≤ 1 := by
  by_cases h : k < m
  · rw [la_d1 k _ m h]
    unfold la_1
    rw [if_pos rfl]
    exact Int.le_refl _
  · rw [la_d0 k _ m (by omega)]
    decide
theorem tc_nb {v : Nat → Int} {M : Int} : ∀ m : Nat, (∀ l, l < m → 0 ≤ v l ∧ v l ≤ M) → la_d v v m ≤ m * (M * M) := by
  intro m
  induction m with
  | zero => intro _; show (0 : Int) ≤ ((0 : Nat) : Int) * _; rw [Int.natCast_zero, Int.zero_mul]; exact Int.le_refl _
  | succ m ih =>
    intro h
    have h1 := ih (fun l hl => h l (by omega))
    obtain ⟨h2, h3⟩ := h m (by omega)
    have h4 : v m * v m ≤ M * M := Int.mul_le_mul h3 h3 h2 (by omega)
    show la_d v v m + v m * v m ≤ ((m + 1 : Nat) : Int) * (M * M)
    rw [Int.natCast_add, Int.add_mul]
    omega
theorem tc_st_le (tw : Nat → Bool) : ∀ q : Nat, tc_st (tc_oc tw) q ≤ 4 * q := by
  intro q
  induction q with
  | zero => exact Nat.le_refl _
  | succ q ih =>
    have : tc_oc tw q ≤ 4 := by unfold tc_oc; split <;> omega
    show tc_st (tc_oc tw) q + tc_oc tw q ≤ _
    omega
theorem tc_prod {f : Nat → Int} {S Q : Nat → Bool} {M : Int} (hM : 0 ≤ M) : ∀ k : Nat, (∀ i, i < k → 0 ≤ f i) → (∀ i, i < k → S i = true → f i ≤ 8) → (∀ i, i < k → Q i = true → f i ≤ M) → (∀ i, i < k → S i = false → Q i = false → f i ≤ 1) → la_P k f ≤ 8 ^ (la_n S k) * M ^ (la_n Q k) := by
  intro k
  induction k with
  | zero => intro _ _ _ _; show (1 : Int) ≤ 8 ^ 0 * M ^ 0; rw [Int.pow_zero, Int.pow_zero]; decide
  | succ k ih =>
    intro h0 h1 h2 h3
    have e := ih (fun i hi => h0 i (by omega)) (fun i hi => h1 i (by omega)) (fun i hi => h2 i (by omega)) (fun i hi => h3 i (by omega))
    have n1 : (0 : Int) ≤ 8 ^ (la_n S k) := Int.pow_nonneg (by decide)
    have n2 : (0 : Int) ≤ M ^ (la_n Q k) := Int.pow_nonneg hM
    have n3 : (0 : Int) ≤ 8 ^ (la_n S k) * M ^ (la_n Q k) := Int.mul_nonneg n1 n2
    have key : ∀ Y : Int, f k ≤ Y → la_P k f * f k ≤ 8 ^ (la_n S k) * M ^ (la_n Q k) * Y := fun Y hY => Int.mul_le_mul e hY (h0 k (by omega)) n3
    show la_P k f * f k ≤ 8 ^ (la_n S k + (if S k = true then 1 else 0)) * M ^ (la_n Q k + (if Q k = true then 1 else 0))
    cases hS : S k with
    | true =>
      have k1 := key 8 (h1 k (by omega) hS)
      rw [if_pos rfl, Int.pow_succ]
      cases hQ : Q k with
      | true =>
        have k2 := key M (h2 k (by omega) hQ)
        rw [if_pos rfl, Int.pow_succ]
        have m8 : 8 ^ (la_n S k) * M ^ (la_n Q k) * M ≤ 8 ^ (la_n S k) * M ^ (la_n Q k) * M * 8 := by
          have := Int.mul_nonneg n3 hM
          omega
        have m9 : 8 ^ (la_n S k) * 8 * (M ^ (la_n Q k) * M) = 8 ^ (la_n S k) * M ^ (la_n Q k) * M * 8 := by grind
        rw [m9]
        exact Int.le_trans k2 m8
      | false =>
        rw [if_neg (by decide), Nat.add_zero]
        have m9 : 8 ^ (la_n S k) * 8 * M ^ (la_n Q k) = 8 ^ (la_n S k) * M ^ (la_n Q k) * 8 := by grind
        rw [m9]
        exact k1
    | false =>
      rw [if_neg (by decide), Nat.add_zero]
      cases hQ : Q k with
      | true =>
        have k2 := key M (h2 k (by omega) hQ)
        rw [if_pos rfl, Int.pow_succ]
        have m9 : 8 ^ (la_n S k) * (M ^ (la_n Q k) * M) = 8 ^ (la_n S k) * M ^ (la_n Q k) * M := by grind
        rw [m9]
        exact k2
      | false =>
        have k3 := key 1 (h3 k (by omega) hS hQ)
        rw [if_neg (by decide), Nat.add_zero]
        omega
theorem sq_le {x y : Int} (hy : 0 ≤ y) (h : x * x ≤ y * y) : -y ≤ x ∧ x ≤ y := by
  constructor
  · refine Int.not_lt.mp (fun z => ?_)
    have h1 : (y + 1) * (y + 1) ≤ (-x) * (-x) := Int.mul_le_mul (by omega) (by omega) (by omega) (by omega)
    have h2 : (-x) * (-x) = x * x := by grind
    have h3 : (y + 1) * (y + 1) = y * y + 2 * y + 1 := by grind
    omega
  · refine Int.not_lt.mp (fun z => ?_)
    have h1 : (y + 1) * (y + 1) ≤ x * x := Int.mul_le_mul (by omega) (by omega) (by omega) (by omega)
    have h3 : (y + 1) * (y + 1) = y * y + 2 * y + 1 := by grind
    omega
theorem la_n_0 {S : Nat → Bool} : ∀ k, (∀ i, i < k → S i = false) → la_n S k = 0 := by
  intro k
  induction k with
  | zero => intro _; rfl
  | succ k ih =>
    intro h
    show la_n S k + (if S k = true then 1 else 0) = 0
    rw [ih (fun i hi => h i (by omega)), h k (by omega)]
    rfl
/-- how large a determinant of the columns is -/
theorem tc_Db {q many : Nat} {tw : Nat → Bool} {la lb : Nat → Int} {tm : Nat → Nat → Int} (hq : q ≤ 8) (ht : ∀ s o, s < q → o < tc_oc tw s → 0 ≤ tm s o ∧ tm s o ≤ 240) (b : Nat → Nat) : sx_D (tc_C q many tw la lb tm) (tc_st (tc_oc tw) q) b * sx_D (tc_C q many tw la lb tm) (tc_st (tc_oc tw) q) b ≤ 35184372088832 * 1843200 ^ (la_n (fun i => decide (many + tc_st (tc_oc tw) q ≤ b i)) (tc_st (tc_oc tw) q)) := by
  have hm := tc_st_le tw q
  generalize hmm : tc_st (tc_oc tw) q = m at hm ⊢
  have n2 : (0 : Int) ≤ 1843200 ^ (la_n (fun i => decide (many + m ≤ b i)) m) := Int.pow_nonneg (by decide)
  by_cases hn : 15 < la_n (fun i => decide (b i < many)) m
  · have z : sx_D (tc_C q many tw la lb tm) m b = 0 := by
      refine la_sp (tc_U q tw la lb) 15 _ (fun i => decide (b i < many)) m _ (fun i hi hs => ?_) hn
      have e : sx_V (tc_C q many tw la lb tm) b i = tc_N q tw la lb (b i) := by
        funext l
        unfold sx_V tc_C
        rw [if_pos (of_decide_eq_true hs)]
      rw [e]
      exact tc_in q tw la lb _ hq
    rw [z]
    have := Int.mul_nonneg (show (0 : Int) ≤ 35184372088832 by decide) n2
    omega
  · refine Int.le_trans (la_Db m (sx_V (tc_C q many tw la lb tm) b)) (Int.le_trans (tc_prod (S := fun i => decide (b i < many)) (Q := fun i => decide (many + m ≤ b i)) (M := 1843200) (by decide) m (fun i hi => la_dn _ m) (fun i hi hs => ?_) (fun i hi hs => ?_) (fun i hi hs hs2 => ?_)) ?_)
    · have e : sx_V (tc_C q many tw la lb tm) b i = tc_N q tw la lb (b i) := by
        funext l
        unfold sx_V tc_C
        rw [if_pos (of_decide_eq_true hs)]
      rw [e]
      have := tc_nN q tw la lb (b i) q (Nat.le_refl _)
      rw [hmm] at this
      omega
    · have hs := of_decide_eq_true hs
      have : la_d (sx_V (tc_C q many tw la lb tm) b i) (sx_V (tc_C q many tw la lb tm) b i) m ≤ m * (240 * 240) := by
        refine tc_nb m (fun l hl => ?_)
        unfold sx_V tc_C
        rw [if_neg (by omega), hmm, if_neg (by omega)]
        have k1 := tc_rs_o (tc_oc tw) l (q := q) (by omega)
        have k2 : 0 < q := by
          rcases Nat.eq_zero_or_pos q with z | z
          · rw [z] at hmm
            have : (0 : Nat) = m := hmm
            omega
          · exact z
        exact ht _ _ (tc_rs_lt _ l k2) (by omega)
      omega
    · have e : sx_V (tc_C q many tw la lb tm) b i = la_1 (b i - many) := by
        funext l
        have h1 := of_decide_eq_false hs
        have h2 := of_decide_eq_false hs2
        unfold sx_V tc_C
        rw [if_neg h1, hmm, if_pos (by omega)]
      rw [e]
      exact tc_n1 _ _
    · refine Int.mul_le_mul_of_nonneg_right ?_ n2
      have h8 : (8 : Nat) ^ (la_n (fun i => decide (b i < many)) m) ≤ 8 ^ 15 := Nat.pow_le_pow_right (by decide) (by omega)
      have h9 : ((8 : Nat) ^ (la_n (fun i => decide (b i < many)) m) : Nat) ≤ (35184372088832 : Nat) := h8
      have h10 : (((8 : Nat) ^ (la_n (fun i => decide (b i < many)) m) : Nat) : Int) ≤ 35184372088832 := by
        generalize (8 : Nat) ^ (la_n (fun i => decide (b i < many)) m) = X at h9 ⊢
        omega
      rw [Int.natCast_pow] at h10
      exact h10
theorem tc_b1 {q many : Nat} {tw : Nat → Bool} {la lb : Nat → Int} {tm : Nat → Nat → Int} (hq : q ≤ 8) (ht : ∀ s o, s < q → o < tc_oc tw s → 0 ≤ tm s o ∧ tm s o ≤ 240) {b : Nat → Nat} (hb : ∀ i, i < tc_st (tc_oc tw) q → b i < many + tc_st (tc_oc tw) q) : -8388608 ≤ sx_D (tc_C q many tw la lb tm) (tc_st (tc_oc tw) q) b ∧ sx_D (tc_C q many tw la lb tm) (tc_st (tc_oc tw) q) b ≤ 8388608 := by
  have h := tc_Db (many := many) (la := la) (lb := lb) hq ht b
  rw [la_n_0 (S := fun i => decide (many + tc_st (tc_oc tw) q ≤ b i)) _ (fun i hi => decide_eq_false (by have := hb i hi; omega)), Int.pow_zero] at h
  exact sq_le (by decide) (by omega)
theorem tc_b2 {q many : Nat} {tw : Nat → Bool} {la lb : Nat → Int} {tm : Nat → Nat → Int} (hq : q ≤ 8) (ht : ∀ s o, s < q → o < tc_oc tw s → 0 ≤ tm s o ∧ tm s o ≤ 240) {b : Nat → Nat} (hb : ∀ i, i < tc_st (tc_oc tw) q → b i < many + tc_st (tc_oc tw) q) (i j : Nat) : -8589934592 ≤ sx_t (tc_C q many tw la lb tm) (tc_st (tc_oc tw) q) b i j ∧ sx_t (tc_C q many tw la lb tm) (tc_st (tc_oc tw) q) b i j ≤ 8589934592 := by
  have h := tc_Db (many := many) (la := la) (lb := lb) hq ht (sx_u b i j)
  have h1 : la_n (fun k => decide (many + tc_st (tc_oc tw) q ≤ sx_u b i j k)) (tc_st (tc_oc tw) q) ≤ 1 := by
    have k1 := la_n_d (fun k => decide (many + tc_st (tc_oc tw) q ≤ sx_u b i j k)) i (tc_st (tc_oc tw) q)
    rw [la_n_0 (S := fun k => decide (many + tc_st (tc_oc tw) q ≤ sx_u b i j k) && !(k == i)) _ (fun k hk => by
      by_cases e : k = i
      · rw [e]; simp
      · have : decide (many + tc_st (tc_oc tw) q ≤ sx_u b i j k) = false := decide_eq_false (by rw [sx_u_ne b j e]; have := hb k hk; omega)
        rw [this]
        rfl)] at k1
    have : (if i < tc_st (tc_oc tw) q then 1 else 0) ≤ 1 := by split <;> omega
    omega
  have h2 : (1843200 : Int) ^ (la_n (fun k => decide (many + tc_st (tc_oc tw) q ≤ sx_u b i j k)) (tc_st (tc_oc tw) q)) ≤ 1843200 := by
    rcases (show la_n (fun k => decide (many + tc_st (tc_oc tw) q ≤ sx_u b i j k)) (tc_st (tc_oc tw) q) = 0 ∨ la_n (fun k => decide (many + tc_st (tc_oc tw) q ≤ sx_u b i j k)) (tc_st (tc_oc tw) q) = 1 by omega) with e | e <;> rw [e] <;> decide
  exact sq_le (by decide) (by unfold sx_t; omega)
theorem tc_b3 {q many : Nat} {tw : Nat → Bool} {la lb : Nat → Int} {tm : Nat → Nat → Int} (hq : q ≤ 8) (ht : ∀ s o, s < q → o < tc_oc tw s → 0 ≤ tm s o ∧ tm s o ≤ 240) {b : Nat → Nat} (hb : ∀ i, i < tc_st (tc_oc tw) q → b i < many + tc_st (tc_oc tw) q) (i : Nat) {j : Nat} (hj : j < many + tc_st (tc_oc tw) q) : -8388608 ≤ sx_t (tc_C q many tw la lb tm) (tc_st (tc_oc tw) q) b i j ∧ sx_t (tc_C q many tw la lb tm) (tc_st (tc_oc tw) q) b i j ≤ 8388608 :=
  tc_b1 hq ht (fun k hk => by unfold sx_u; split
                              · exact hj
                              · exact hb k hk)
theorem la_S_b {f : Nat → Int} {M : Int} : ∀ n : Nat, (∀ i, i < n → -M ≤ f i ∧ f i ≤ M) → -(n * M) ≤ la_S n f ∧ la_S n f ≤ n * M := by
  intro n
  induction n with
  | zero => intro _; show -(((0 : Nat) : Int) * M) ≤ 0 ∧ (0 : Int) ≤ ((0 : Nat) : Int) * M; rw [Int.natCast_zero, Int.zero_mul]; decide
  | succ n ih =>
    intro h
    have h1 := ih (fun i hi => h i (by omega))
    have h2 := h n (by omega)
    show -(((n + 1 : Nat) : Int) * M) ≤ la_S n f + f n ∧ la_S n f + f n ≤ ((n + 1 : Nat) : Int) * M
    rw [Int.natCast_add, Int.add_mul]
    omega
theorem w1_b {a x M : Int} (ha : a = 0 ∨ a = 1 ∨ a = -1) (hx : -M ≤ x ∧ x ≤ M) : -M ≤ a * x ∧ a * x ≤ M := by
  rcases ha with e | e | e <;> rw [e] <;> omega
theorem sx_ob_b {C : Nat → Nat → Int} {m : Nat} {w : Nat → Int} {b : Nat → Nat} {j : Nat} {M : Int} (hm : m ≤ 32) (hw : ∀ k, w k = 0 ∨ w k = 1 ∨ w k = -1) (h1 : ∀ i, -M ≤ sx_t C m b i j ∧ sx_t C m b i j ≤ M) (h2 : -M ≤ sx_D C m b ∧ sx_D C m b ≤ M) : -(33 * M) ≤ sx_o C m w b j ∧ sx_o C m w b j ≤ 33 * M := by
  have e1 := la_S_b (f := fun i => w (b i) * sx_t C m b i j) (M := M) m (fun i _ => w1_b (hw (b i)) (h1 i))
  have e2 := w1_b (hw j) h2
  have e3 : (m : Int) * M ≤ 32 * M := Int.mul_le_mul_of_nonneg_right (by omega) (by omega)
  unfold sx_o
  omega
/-! the first tableau; the tableau in the cells -/
theorem la_ef (V : Nat → Nat → Int) : ∀ (k : Nat) (s : List Bool), la_e V k (false :: s) = la_e V k s := by
  intro k
  induction k with
  | zero => intro s; rfl
  | succ k ih => intro s; exact la_w_x (fun _ _ => rfl) (fun t _ => ih t)
theorem la_D1 : ∀ (m : Nat) (V : Nat → Nat → Int), (∀ i, i < m → ∀ l, l < m → V i l = la_1 i l) → la_D m V = 1 := by
  intro m
  induction m with
  | zero => intro V _; rfl
  | succ m ih =>
    intro V h
    have e1 : la_D (m + 1) V = V m (la_tt m).length * la_e V m (false :: la_tt m) - la_w (V m) (fun t => la_e V m (true :: t)) (la_tt m) := rfl
    have e2 : la_w (V m) (fun t => la_e V m (true :: t)) (la_tt m) = 0 := by
      rw [la_w_v (la_tt m) (V m) (V m) (V m) 0 0 _ (fun j hj => by rw [la_tl] at hj; rw [h m (by omega) j (by omega)]; unfold la_1; rw [if_neg (by omega)]; omega)]
      omega
    have e3 : la_e V m (la_tt m) = 1 := ih V (fun i hi l hl => h i (by omega) l (by omega))
    rw [e1, e2, la_ef, e3, la_tl, h m (by omega) m (by omega)]
    unfold la_1
    rw [if_pos rfl]
    decide
theorem la_Di {m : Nat} {V : Nat → Nat → Int} (h : ∀ i, i < m → ∀ l, l < m → V i l = la_1 i l) {i : Nat} (hi : i < m) (x : Nat → Int) : la_D m (la_s V i x) = x i := by
  have e := la_cram m V x (la_1 i)
  rw [la_d1 i x m hi, la_D1 m V h, la_S_1 (g := fun _ => 0) (r := i) m hi (fun k hk hn => by
    rw [la_d1 i (V k) m hi, h k hk i hi]
    unfold la_1
    rw [if_neg (fun z => hn z.symm)]
    exact Int.zero_mul _), la_S_0 m (fun _ _ => rfl), la_d1 i (V i) m hi, h i hi i hi] at e
  unfold la_1 at e
  rw [if_pos rfl] at e
  omega
theorem sx_D0 {C : Nat → Nat → Int} {m many : Nat} (h : ∀ i, i < m → ∀ l, l < m → C (many + i) l = la_1 i l) : sx_D C m (fun i => many + i) = 1 := la_D1 m _ h
theorem sx_t0 {C : Nat → Nat → Int} {m many : Nat} (h : ∀ i, i < m → ∀ l, l < m → C (many + i) l = la_1 i l) {i : Nat} (hi : i < m) (j : Nat) : sx_t C m (fun i => many + i) i j = C j i := by
  rw [sx_t_D]
  exact la_Di h hi (C j)
theorem sx_o0 {C : Nat → Nat → Int} {m many : Nat} (h : ∀ i, i < m → ∀ l, l < m → C (many + i) l = la_1 i l) {w : Nat → Int} (hw : ∀ i, i < m → w (many + i) = 0) (j : Nat) : sx_o C m w (fun i => many + i) j = - w j := by
  unfold sx_o
  rw [sx_D0 h, la_S_0 m (fun i hi => by rw [hw i hi]; exact Int.zero_mul _)]
  omega
/-- what the row of THE TABLE says -/
def tx_q (r : Nat → Int32) : Nat := (r 0).toNatClampNeg
def tx_tw (r : Nat → Int32) (s : Nat) : Bool := decide (¬ r (9 + s) = -2)
def tx_la (r : Nat → Int32) (s : Nat) : Int := (r (1 + s)).toInt
def tx_lb (r : Nat → Int32) (s : Nat) : Int := (r (9 + s)).toInt
def tx_tm (r : Nat → Int32) (s o : Nat) : Int := (r (17 + 4 * s + o)).toInt
def tx_many (r : Nat → Int32) : Nat := 2 ^ (r 50).toNatClampNeg
def tx_m (r : Nat → Int32) : Nat := tc_st (tc_oc (tx_tw r)) (tx_q r)
def tx_n (r : Nat → Int32) : Nat := tx_many r + tx_m r
def tx_C (r : Nat → Int32) : Nat → Nat → Int := tc_C (tx_q r) (tx_many r) (tx_tw r) (tx_la r) (tx_lb r) (tx_tm r)
def tx_R (r : Nat → Int32) : Prop := R 0 8 (r 0) ∧ (∀ s, s < 8 → R (-1) 5 (r (1 + s)) ∧ R (-2) 5 (r (9 + s))) ∧ R 0 6 (r 50) ∧ ∀ s o, s < 8 → o < 4 → 0 ≤ tx_tm r s o ∧ tx_tm r s o ≤ 240
def tx_D (r : Nat → Int32) (b : Nat → Nat) : Int := sx_D (tx_C r) (tx_m r) b
def tx_t (r : Nat → Int32) (b : Nat → Nat) (i j : Nat) : Int := sx_t (tx_C r) (tx_m r) b i j
def tx_o (r : Nat → Int32) (w : Nat → Int) (b : Nat → Nat) (j : Nat) : Int := sx_o (tx_C r) (tx_m r) w b j
def tx_g (r : Nat → Int32) (b : Nat → Nat) : Prop := sx_g (tx_C r) (tx_m r) (tx_n r) b
def tx_T (r : Nat → Int32) (w1 w2 : Nat → Int) (b : Nat → Nat) (i j : Nat) : Int := if i < tx_m r then tx_t r b i j else if i = tx_m r then tx_o r w1 b j else tx_o r w2 b j
def tx_w (w : Nat → Int) : Prop := ∀ k, w k = 0 ∨ w k = 1 ∨ w k = -1
def TB (r : Nat → Int32) (w1 w2 : Nat → Int) (b : Nat → Nat) (h : mh_T) : Prop :=
  h.1 45 = r ∧ (mI h 11 30).toInt = (tx_m r : Int) ∧ (mI h 11 31).toInt = (tx_n r : Int) + 1 ∧ (∀ i, i < tx_m r → (mI h 55 i).toInt = (b i : Int)) ∧ (mL h 11 29).toInt = tx_D r b
  ∧ ∀ i j, i < tx_m r + 2 → j ≤ tx_n r → (mL h 54 (97 * i + j)).toInt = tx_T r w1 w2 b i j
theorem tx_q8 {r : Nat → Int32} (h : tx_R r) : tx_q r ≤ 8 := ix_le h.1 (by decide)
theorem tx_m32 {r : Nat → Int32} (h : tx_R r) : tx_m r ≤ 32 := by
  have h1 := tc_st_le (tx_tw r) (tx_q r)
  have h2 := tx_q8 h
  show tc_st (tc_oc (tx_tw r)) (tx_q r) ≤ 32
  omega
theorem tx_y64 {r : Nat → Int32} (h : tx_R r) : tx_many r ≤ 64 ∧ 1 ≤ tx_many r := by
  have h1 : (r 50).toNatClampNeg ≤ 6 := ix_le h.2.2.1 (by decide)
  have h2 : 2 ^ (r 50).toNatClampNeg ≤ 2 ^ 6 := Nat.pow_le_pow_right (by decide) h1
  exact ⟨h2, Nat.one_le_two_pow⟩
theorem tx_n96 {r : Nat → Int32} (h : tx_R r) : tx_n r ≤ 96 ∧ 1 ≤ tx_n r := by
  have h1 := tx_m32 h
  have h2 := tx_y64 h
  unfold tx_n
  omega
theorem tc_oc4 (tw : Nat → Bool) (s : Nat) : tc_oc tw s ≤ 4 := by unfold tc_oc; split <;> omega
theorem tx_tmb {r : Nat → Int32} (h : tx_R r) : ∀ s o, s < tx_q r → o < tc_oc (tx_tw r) s → 0 ≤ tx_tm r s o ∧ tx_tm r s o ≤ 240 := by
  intro s o hs ho
  have h1 := tx_q8 h
  have h2 := tc_oc4 (tx_tw r) s
  exact h.2.2.2 s o (by omega) (by omega)
theorem tx_b1 {r : Nat → Int32} (h : tx_R r) {b : Nat → Nat} (hg : tx_g r b) : -8388608 ≤ tx_D r b ∧ tx_D r b ≤ 8388608 := tc_b1 (tx_q8 h) (tx_tmb h) hg.2.2
theorem tx_b2 {r : Nat → Int32} (h : tx_R r) {b : Nat → Nat} (hg : tx_g r b) (i j : Nat) : -8589934592 ≤ tx_t r b i j ∧ tx_t r b i j ≤ 8589934592 := tc_b2 (tx_q8 h) (tx_tmb h) hg.2.2 i j
theorem tx_b3 {r : Nat → Int32} (h : tx_R r) {b : Nat → Nat} (hg : tx_g r b) (i : Nat) {j : Nat} (hj : j < tx_n r) : -8388608 ≤ tx_t r b i j ∧ tx_t r b i j ≤ 8388608 := tc_b3 (tx_q8 h) (tx_tmb h) hg.2.2 i hj
theorem tx_T3 {r : Nat → Int32} (h : tx_R r) {b : Nat → Nat} (hg : tx_g r b) {w1 w2 : Nat → Int} (h1 : tx_w w1) (h2 : tx_w w2) (i : Nat) {j : Nat} (hj : j < tx_n r) : -276824064 ≤ tx_T r w1 w2 b i j ∧ tx_T r w1 w2 b i j ≤ 276824064 := by
  have e1 := sx_ob_b (C := tx_C r) (m := tx_m r) (w := w1) (b := b) (j := j) (M := 8388608) (tx_m32 h) h1 (fun i => tx_b3 h hg i hj) (tx_b1 h hg)
  have e2 := sx_ob_b (C := tx_C r) (m := tx_m r) (w := w2) (b := b) (j := j) (M := 8388608) (tx_m32 h) h2 (fun i => tx_b3 h hg i hj) (tx_b1 h hg)
  have e3 := tx_b3 h hg i hj
  unfold tx_T tx_o
  split
  · omega
  · split <;> omega
theorem tx_T2 {r : Nat → Int32} (h : tx_R r) {b : Nat → Nat} (hg : tx_g r b) {w1 w2 : Nat → Int} (h1 : tx_w w1) (h2 : tx_w w2) (i j : Nat) : -283467841536 ≤ tx_T r w1 w2 b i j ∧ tx_T r w1 w2 b i j ≤ 283467841536 := by
  have e0 := tx_b1 h hg
  have e1 := sx_ob_b (C := tx_C r) (m := tx_m r) (w := w1) (b := b) (j := j) (M := 8589934592) (tx_m32 h) h1 (fun i => tx_b2 h hg i j) (by unfold tx_D at e0; omega)
  have e2 := sx_ob_b (C := tx_C r) (m := tx_m r) (w := w2) (b := b) (j := j) (M := 8589934592) (tx_m32 h) h2 (fun i => tx_b2 h hg i j) (by unfold tx_D at e0; omega)
  have e3 := tx_b2 h hg i j
  unfold tx_T tx_o
  split
  · omega
  · split <;> omega
theorem tx_pv {r : Nat → Int32} {w1 w2 : Nat → Int} {b : Nat → Nat} {i k : Nat} (c j : Nat) (hk : k < tx_m r) (hik : i ≠ k) : tx_D r b * tx_T r w1 w2 (sx_u b k c) i j = tx_T r w1 w2 b i j * tx_t r b k c - tx_T r w1 w2 b i c * tx_t r b k j := by
  unfold tx_T
  split
  · rename_i hi; exact sx_pv c j hi hk hik
  · split
    · exact sx_po w1 c j hk
    · exact sx_po w2 c j hk
theorem tx_pr {r : Nat → Int32} {w1 w2 : Nat → Int} {b : Nat → Nat} {k : Nat} (c j : Nat) (hk : k < tx_m r) : tx_T r w1 w2 (sx_u b k c) k j = tx_T r w1 w2 b k j := by
  unfold tx_T
  rw [if_pos hk, if_pos hk]
  exact sx_pr k c j
/-- longs that stay within -/
theorem ab_mul {x y A B : Int} (hx : -A ≤ x ∧ x ≤ A) (hy : -B ≤ y ∧ y ≤ B) : -(A * B) ≤ x * y ∧ x * y ≤ A * B := by
  have k : ∀ u v : Int, 0 ≤ u → u ≤ A → 0 ≤ v → v ≤ B → u * v ≤ A * B := fun u v h1 h2 h3 h4 => Int.mul_le_mul h2 h4 h3 (by omega)
  have z : ∀ u v : Int, 0 ≤ u → 0 ≤ v → 0 ≤ u * v := fun u v h1 h2 => Int.mul_nonneg h1 h2
  rcases Int.le_total 0 x with a | a <;> rcases Int.le_total 0 y with c | c
  · have := k x y a hx.2 c hy.2; have := z x y a c; omega
  · have := k x (-y) a hx.2 (by omega) (by omega); have := z x (-y) a (by omega); rw [Int.mul_neg] at *; omega
  · have := k (-x) y (by omega) (by omega) c hy.2; have := z (-x) y (by omega) c; rw [Int.neg_mul] at *; omega
  · have := k (-x) (-y) (by omega) (by omega) (by omega) (by omega); have := z (-x) (-y) (by omega) (by omega); rw [Int.neg_mul_neg] at *; omega
theorem bm64 {z : Int} (h : -9223372036854775808 ≤ z ∧ z ≤ 9223372036854775807) : z.bmod (2 ^ 64) = z := Int.bmod_eq_of_le (by omega) (by omega)
theorem l_mul {x y : Int64} (h : -9223372036854775808 ≤ x.toInt * y.toInt ∧ x.toInt * y.toInt ≤ 9223372036854775807) : (x * y).toInt = x.toInt * y.toInt := by rw [Int64.toInt_mul, bm64 h]
theorem l_sub {x y : Int64} (h : -9223372036854775808 ≤ x.toInt - y.toInt ∧ x.toInt - y.toInt ≤ 9223372036854775807) : (x - y).toInt = x.toInt - y.toInt := by rw [Int64.toInt_sub, bm64 h]
theorem l_div {x y : Int64} {z : Int} (hy : y.toInt ≠ 0) (e : x.toInt = y.toInt * z) (h : -9223372036854775808 ≤ z ∧ z ≤ 9223372036854775807) : (x / y).toInt = z := by rw [Int64.toInt_div, e, Int.mul_tdiv_cancel_left z hy, bm64 h]
theorem lg_c (x y : Int64) : (lg_cmp x y = 1 ∧ y.toInt < x.toInt) ∨ (lg_cmp x y = 0 ∧ x.toInt = y.toInt) ∨ (lg_cmp x y = -1 ∧ x.toInt < y.toInt) := by
  unfold lg_cmp
  split
  · rename_i c; exact Or.inl ⟨rfl, Int64.lt_iff_toInt_lt.mp c⟩
  · rename_i c
    split
    · rename_i d; exact Or.inr (Or.inl ⟨rfl, by rw [d]⟩)
    · rename_i d
      refine Or.inr (Or.inr ⟨rfl, ?_⟩)
      have h1 : ¬ y.toInt < x.toInt := fun z => c (Int64.lt_iff_toInt_lt.mpr z)
      have h2 : x.toInt ≠ y.toInt := fun z => d (Int64.toInt_inj.mp z)
      omega
theorem lg_gt {x y : Int64} : 0 < lg_cmp x y ↔ y.toInt < x.toInt := by
  rcases lg_c x y with ⟨e, h⟩ | ⟨e, h⟩ | ⟨e, h⟩ <;> rw [e]
  · exact ⟨fun _ => h, fun _ => by decide⟩
  · exact ⟨fun z => absurd z (by decide), fun z => by omega⟩
  · exact ⟨fun z => absurd z (by decide), fun z => by omega⟩
theorem lg_lt {x y : Int64} : lg_cmp x y < 0 ↔ x.toInt < y.toInt := by
  rcases lg_c x y with ⟨e, h⟩ | ⟨e, h⟩ | ⟨e, h⟩ <;> rw [e]
  · exact ⟨fun z => absurd z (by decide), fun z => by omega⟩
  · exact ⟨fun z => absurd z (by decide), fun z => by omega⟩
  · exact ⟨fun _ => h, fun _ => by decide⟩
theorem lg_0 {x y : Int64} : lg_cmp x y = 0 ↔ x.toInt = y.toInt := by
  rcases lg_c x y with ⟨e, h⟩ | ⟨e, h⟩ | ⟨e, h⟩ <;> rw [e]
  · exact ⟨fun z => absurd z (by decide), fun z => by omega⟩
  · exact ⟨fun _ => h, fun _ => rfl⟩
  · exact ⟨fun z => absurd z (by decide), fun z => by omega⟩
theorem lg_ge {x y : Int64} : 0 ≤ lg_cmp x y ↔ y.toInt ≤ x.toInt := by
  rcases lg_c x y with ⟨e, h⟩ | ⟨e, h⟩ | ⟨e, h⟩ <;> rw [e]
  · exact ⟨fun _ => by omega, fun _ => by decide⟩
  · exact ⟨fun _ => by omega, fun _ => by decide⟩
  · exact ⟨fun z => absurd z (by decide), fun z => by omega⟩
theorem ti_0 : (0 : Int64).toInt = 0 := by decide
theorem i_0 : (0 : Int32).toInt = 0 := by decide
theorem i_le {x y : Int32} : x ≤ y ↔ x.toInt ≤ y.toInt := Int32.le_iff_toInt_le
theorem i_lt {x y : Int32} : x < y ↔ x.toInt < y.toInt := Int32.lt_iff_toInt_lt
theorem i_inc {x : Int32} {k : Nat} (h : x.toInt = (k : Int)) (hk : k < 2147483647) : (x + 1).toInt = ((k + 1 : Nat) : Int) := by
  rw [Int32.toInt_add, show (1 : Int32).toInt = 1 from by decide, bm (by omega) (by omega), h]
  omega
theorem i_add {x y : Int32} {a b : Int} (h : x.toInt = a) (k : y.toInt = b) (hk : -2147483648 ≤ a + b ∧ a + b ≤ 2147483647) : (x + y).toInt = a + b := by
  rw [Int32.toInt_add, h, k, bm hk.1 hk.2]
theorem i_sub {x y : Int32} {a b : Int} (h : x.toInt = a) (k : y.toInt = b) (hk : -2147483648 ≤ a - b ∧ a - b ≤ 2147483647) : (x - y).toInt = a - b := by
  rw [Int32.toInt_sub, h, k, bm hk.1 hk.2]
theorem i_nat {x : Int32} {k : Nat} (h : x.toInt = (k : Int)) : x.toNatClampNeg = k := by
  show x.toInt.toNat = k
  omega
theorem i_vp {x : Int32} {k n : Nat} (h : x.toInt = (k : Int)) (hk : k < n) : vp_in x n := vp_in_iff.mpr ⟨by omega, by omega⟩
/-- the place of a cell -/
theorem ce_v {x y : Int32} {i j : Nat} (hx : x.toInt = (i : Int)) (hy : y.toInt = (j : Int)) (hi : i ≤ 33) (hj : j ≤ 96) : ((97 * x) + y).toInt = ((97 * i + j : Nat) : Int) := by
  have e : (97 * x).toInt = 97 * (i : Int) := by
    rw [Int32.toInt_mul, show (97 : Int32).toInt = 97 from by decide, hx, bm (by omega) (by omega)]
  rw [i_add e hy (by omega)]
  omega
theorem ce_p {x y : Int32} {i j : Nat} (hx : x.toInt = (i : Int)) (hy : y.toInt = (j : Int)) (hi : i ≤ 33) (hj : j ≤ 96) : vp_in ((97 * x) + y) 3298 := i_vp (ce_v hx hy hi hj) (by omega)
theorem ce_n {x y : Int32} {i j : Nat} (hx : x.toInt = (i : Int)) (hy : y.toInt = (j : Int)) (hi : i ≤ 33) (hj : j ≤ 96) : ((97 * x) + y).toNatClampNeg = 97 * i + j := i_nat (ce_v hx hy hi hj)
theorem ce_ne {i j i' j' : Nat} (hj : j ≤ 96) (hj' : j' ≤ 96) (h : ¬ (i' = i ∧ j' = j)) : 97 * i' + j' ≠ 97 * i + j := by
  intro e
  apply h
  omega
/-! the reference's bounding, turnOver and goesUp, as they are -/
def tx_bd (r : Nat → Int32) (b : Nat → Nat) (c K : Nat) (v : Int32) : Prop :=
  (v.toInt = -1 ∧ ∀ i, i < K → tx_t r b i c ≤ 0) ∨ ∃ k : Nat, k < K ∧ v.toInt = (k : Int) ∧ 0 < tx_t r b k c ∧ ∀ i, i < K → 0 < tx_t r b i c → tx_t r b k (tx_n r) * tx_t r b i c ≤ tx_t r b i (tx_n r) * tx_t r b k c ∧ (tx_t r b k (tx_n r) * tx_t r b i c = tx_t r b i (tx_n r) * tx_t r b k c → b k ≤ b i)
theorem fr_lt {a b c d e f : Int} (hd : 0 < d) (hb : 0 < b) (hf : 0 < f) (h1 : a * d < c * b) (h2 : c * f ≤ e * d) : a * f < e * b := by
  have g1 : a * d * f < c * b * f := Int.mul_lt_mul_of_pos_right h1 hf
  have g2 : c * f * b ≤ e * d * b := Int.mul_le_mul_of_nonneg_right h2 (Int.le_of_lt hb)
  have g3 : d * (a * f) < d * (e * b) := by
    have i1 : a * d * f = d * (a * f) := by grind
    have i2 : e * d * b = d * (e * b) := by grind
    have i3 : c * b * f = c * f * b := by grind
    omega
  exact Int.lt_of_mul_lt_mul_left g3 (Int.le_of_lt hd)
theorem fr_eq {a b c d e f : Int} (hd : 0 < d) (h1 : a * d = c * b) (h2 : a * f = e * b) (hb : 0 < b) : c * f = e * d := by
  have g : b * (c * f) = b * (e * d) := by
    have i1 : b * (c * f) = c * b * f := by grind
    have i2 : b * (e * d) = e * b * d := by grind
    have i3 : a * d * f = a * f * d := by grind
    rw [i1, i2, ← h1, ← h2, i3]
  exact Int.eq_of_mul_eq_mul_left (by omega) g
/-- a further row is no better -/
theorem bd_keep {r : Nat → Int32} {b : Nat → Nat} {c K k : Nat} {v : Int32} (hk : k < K) (hv : v.toInt = (k : Int)) (h0 : 0 < tx_t r b k c) (h : ∀ i, i < K → 0 < tx_t r b i c → tx_t r b k (tx_n r) * tx_t r b i c ≤ tx_t r b i (tx_n r) * tx_t r b k c ∧ (tx_t r b k (tx_n r) * tx_t r b i c = tx_t r b i (tx_n r) * tx_t r b k c → b k ≤ b i)) (hK : 0 < tx_t r b K c → tx_t r b k (tx_n r) * tx_t r b K c ≤ tx_t r b K (tx_n r) * tx_t r b k c ∧ (tx_t r b k (tx_n r) * tx_t r b K c = tx_t r b K (tx_n r) * tx_t r b k c → b k ≤ b K)) : tx_bd r b c (K + 1) v := by
  refine Or.inr ⟨k, by omega, hv, h0, fun i hi hp => ?_⟩
  by_cases e : i = K
  · subst e; exact hK hp
  · exact h i (by omega) hp
theorem bd_new {r : Nat → Int32} {b : Nat → Nat} {c K k : Nat} {v : Int32} (hv : v.toInt = (K : Int)) (hK : 0 < tx_t r b K c) (h0 : 0 < tx_t r b k c) (h : ∀ i, i < K → 0 < tx_t r b i c → tx_t r b k (tx_n r) * tx_t r b i c ≤ tx_t r b i (tx_n r) * tx_t r b k c ∧ (tx_t r b k (tx_n r) * tx_t r b i c = tx_t r b i (tx_n r) * tx_t r b k c → b k ≤ b i)) (hn : tx_t r b K (tx_n r) * tx_t r b k c < tx_t r b k (tx_n r) * tx_t r b K c ∨ (tx_t r b K (tx_n r) * tx_t r b k c = tx_t r b k (tx_n r) * tx_t r b K c ∧ b K < b k)) : tx_bd r b c (K + 1) v := by
  refine Or.inr ⟨K, by omega, hv, hK, fun i hi hp => ?_⟩
  by_cases e : i = K
  · subst e; exact ⟨Int.le_refl _, fun _ => Nat.le_refl _⟩
  · obtain ⟨h1, h2⟩ := h i (by omega) hp
    rcases hn with q | ⟨q, qb⟩
    · have := fr_lt h0 hK hp q h1
      exact ⟨Int.le_of_lt this, fun z => by omega⟩
    · refine ⟨fr_tr h0 hK hp (Int.le_of_eq q) h1, fun z => ?_⟩
      have := h2 (fr_eq h0 q z hK)
      omega
set_option maxRecDepth 100000 in
set_option maxHeartbeats 4000000 in
theorem t_bounding_4 {g : gT} {h : mh_T} {P : Int32 → mh_T → Prop} {r : Nat → Int32} {w1 w2 : Nat → Int} {b : Nat → Nat} (hT : TB r w1 w2 b h) (hR : tx_R r) (hg : tx_g r b) (l1 : Int32) (c : Nat) (hc : l1.toInt = (c : Int)) (hcn : c < tx_n r) (hp : ∀ v : Int32, tx_bd r b c (tx_m r) v → P v h) : ∀ (n : Nat) (l2 l3 : Int32) (k : Nat), l3.toInt = (k : Int) → k ≤ tx_m r → tx_m r - k < n → tx_bd r b c k l2 → ME g uX11_bounding 4 [.ref 11, .int l1, .int l2, .int l3, .retAddr 0, .retAddr 0, .retAddr 0, .retAddr 0, .retAddr 0, .retAddr 0, .retAddr 0, .retAddr 0] [] h (qI P) := by
  intro n
  induction n with
  | zero => intro l2 l3 k _ _ hn _; exact absurd hn (Nat.not_lt_zero _)
  | succ n ih =>
    intro l2 l3 k hk hkm hn hb
    obtain ⟨t1, t2, t3, t4, t5, t6⟩ := hT
    have m32 := tx_m32 hR
    have n96 := tx_n96 hR
    have hw : ((mI h 11 31) - 1).toInt = (tx_n r : Int) := by
      rw [i_sub t3 (show (1 : Int32).toInt = 1 from by decide) (by omega)]
      omega
    refine r_X11_bounding_4 l1 l2 l3 ⟨fun q => ?_, fun q => ?_⟩
    · have q := i_le.mp q
      have : k = tx_m r := by omega
      subst this
      exact hp l2 hb
    · have q : k < tx_m r := by have := i_lt.mp (nle q); omega
      have TT : ∀ j, j ≤ tx_n r → ∀ i, i < tx_m r → (mL h 54 (97 * i + j)).toInt = tx_t r b i j := fun j hj i hi => by
        rw [t6 i j (by omega) hj]
        unfold tx_T
        rw [if_pos hi]
      refine e_X11_cell _ _ ⟨ce_p hk hc (by omega) (by omega), fun x5 e5 => ?_⟩
      rw [ce_n hk hc (by omega) (by omega)] at e5
      have v5 : x5.toInt = tx_t r b k c := by rw [e5]; exact TT c (by omega) k q
      have go : ∀ l2 : Int32, tx_bd r b c (k + 1) l2 → ME g uX11_bounding 4 [.ref 11, .int l1, .int l2, .int (l3 + 1), .retAddr 0, .retAddr 0, .retAddr 0, .retAddr 0, .retAddr 0, .retAddr 0, .retAddr 0, .retAddr 0] [] h (qI P) := fun l2 hb2 => ih l2 (l3 + 1) (k + 1) (i_inc hk (by omega)) (by omega) (by omega) hb2
      refine ⟨fun pos => ⟨fun nn => ?_, fun neg => ?_⟩, fun npos => ?_⟩
      · have pos : 0 < tx_t r b k c := by have := lg_gt.mp pos; rw [v5, ti_0] at this; exact this
        rcases hb with ⟨z, _⟩ | ⟨k0, b1, b2, b3, b4⟩
        · exfalso
          have := i_le.mp nn
          rw [z, i_0] at this
          omega
        · refine e_X11_cell _ _ ⟨ce_p b2 hc (by omega) (by omega), fun x11 e11 => ?_⟩
          rw [ce_n b2 hc (by omega) (by omega)] at e11
          have v11 : x11.toInt = tx_t r b k0 c := by rw [e11]; exact TT c (by omega) k0 (by omega)
          refine e_X11_cell _ _ ⟨ce_p hk hw (by omega) (by omega), fun x15 e15 => ?_⟩
          rw [ce_n hk hw (by omega) (by omega)] at e15
          refine e_X11_cell _ _ ⟨ce_p b2 hw (by omega) (by omega), fun x19 e19 => ?_⟩
          rw [ce_n b2 hw (by omega) (by omega)] at e19
          have B1 := tx_b2 hR hg k (tx_n r)
          have B2 := tx_b2 hR hg k0 (tx_n r)
          have B3 := tx_b3 hR hg k hcn
          have B4 := tx_b3 hR hg k0 hcn
          have v15 : x15.toInt = tx_t r b k (tx_n r) * tx_t r b k0 c := by
            have u := TT (tx_n r) (Nat.le_refl _) k q
            have := ab_mul B1 B4
            rw [e15, l_mul (by rw [u, v11]; omega), u, v11]
          have v19 : x19.toInt = tx_t r b k0 (tx_n r) * tx_t r b k c := by
            have u := TT (tx_n r) (Nat.le_refl _) k0 (by omega)
            have := ab_mul B2 B3
            rw [e19, l_mul (by rw [u, v5]; omega), u, v5]
          refine ⟨fun lt => ?_, fun nlt => ⟨fun ne => ?_, fun eq => ⟨i_vp hk (by omega), i_vp b2 (by omega), fun le => ?_, fun nle' => ?_⟩⟩⟩
          · have lt := lg_lt.mp lt
            rw [v15, v19] at lt
            exact go l3 (bd_new hk pos b3 b4 (Or.inl lt))
          · have h1 : ¬ x15.toInt < x19.toInt := fun z => nlt (lg_lt.mpr z)
            have h2 : ¬ x15.toInt = x19.toInt := fun z => ne (lg_0.mpr z)
            rw [v15, v19] at h1 h2
            exact go l2 (bd_keep b1 b2 b3 b4 (fun _ => ⟨by omega, fun z => absurd z.symm h2⟩))
          · have h2 := lg_0.mp eq
            rw [v15, v19] at h2
            have le := i_le.mp le
            rw [i_nat hk, i_nat b2, t4 k q, t4 k0 (by omega)] at le
            exact go l2 (bd_keep b1 b2 b3 b4 (fun _ => ⟨by omega, fun _ => by omega⟩))
          · have h2 := lg_0.mp eq
            rw [v15, v19] at h2
            have le := i_lt.mp (nle nle')
            rw [i_nat hk, i_nat b2, t4 k q, t4 k0 (by omega)] at le
            exact go l3 (bd_new hk pos b3 b4 (Or.inr ⟨h2, by omega⟩))
      · have pos : 0 < tx_t r b k c := by have := lg_gt.mp pos; rw [v5, ti_0] at this; exact this
        rcases hb with ⟨z, z2⟩ | ⟨k0, b1, b2, b3, b4⟩
        · refine go l3 (Or.inr ⟨k, by omega, hk, pos, fun i hi hp => ?_⟩)
          by_cases e : i = k
          · subst e; exact ⟨Int.le_refl _, fun _ => Nat.le_refl _⟩
          · have := z2 i (by omega); omega
        · exfalso
          have := i_lt.mp (nle neg)
          rw [b2, i_0] at this
          omega
      · have np : tx_t r b k c ≤ 0 := by
          refine Int.not_lt.mp (fun z => npos (lg_gt.mpr ?_))
          rw [v5, ti_0]
          exact z
        rcases hb with ⟨z, z2⟩ | ⟨k0, b1, b2, b3, b4⟩
        · refine go l2 (Or.inl ⟨z, fun i hi => ?_⟩)
          by_cases e : i = k
          · subst e; exact np
          · exact z2 i (by omega)
        · exact go l2 (bd_keep b1 b2 b3 b4 (fun z => absurd z (by omega)))
theorem t_bounding {g : gT} {h : mh_T} {P : Int32 → mh_T → Prop} {r : Nat → Int32} {w1 w2 : Nat → Int} {b : Nat → Nat} (hT : TB r w1 w2 b h) (hR : tx_R r) (hg : tx_g r b) (l1 : Int32) (c : Nat) (hc : l1.toInt = (c : Int)) (hcn : c < tx_n r) (hp : ∀ v : Int32, tx_bd r b c (tx_m r) v → P v h) : MCi g yX11_bounding uX11_bounding [.ref 11, .int l1] h P :=
  e_X11_bounding l1 (t_bounding_4 hT hR hg l1 c hc hcn hp (tx_m r + 1) (-1) 0 0 (by decide) (Nat.zero_le _) (by omega) (Or.inl ⟨by decide, fun i hi => absurd hi (Nat.not_lt_zero _)⟩))
/-! turnOver and goesUp of the reference -/
def TM (r : Nat → Int32) (w1 w2 : Nat → Int) (b : Nat → Nat) (k c : Nat) (i j : Nat) (h : mh_T) : Prop :=
  h.1 45 = r ∧ (mI h 11 30).toInt = (tx_m r : Int) ∧ (mI h 11 31).toInt = (tx_n r : Int) + 1 ∧ (∀ i, i < tx_m r → (mI h 55 i).toInt = (b i : Int)) ∧ (mL h 11 29).toInt = tx_D r b
  ∧ ∀ i' j', i' < tx_m r + 2 → j' ≤ tx_n r → (mL h 54 (97 * i' + j')).toInt = if i' < i ∨ (i' = i ∧ j' < j) then tx_T r w1 w2 (sx_u b k c) i' j' else tx_T r w1 w2 b i' j'
theorem TM_0 {r : Nat → Int32} {w1 w2 : Nat → Int} {b : Nat → Nat} {k c : Nat} {h : mh_T} (hT : TB r w1 w2 b h) : TM r w1 w2 b k c 0 0 h := by
  obtain ⟨t1, t2, t3, t4, t5, t6⟩ := hT
  refine ⟨t1, t2, t3, t4, t5, fun i' j' h1 h2 => ?_⟩
  rw [if_neg (by omega)]
  exact t6 i' j' h1 h2
theorem TM_s {r : Nat → Int32} {w1 w2 : Nat → Int} {b : Nat → Nat} {k c i : Nat} {h : mh_T} (hT : TM r w1 w2 b k c i (tx_n r + 1) h) : TM r w1 w2 b k c (i + 1) 0 h := by
  obtain ⟨t1, t2, t3, t4, t5, t6⟩ := hT
  refine ⟨t1, t2, t3, t4, t5, fun i' j' h1 h2 => ?_⟩
  rw [t6 i' j' h1 h2]
  by_cases q : i' < i ∨ (i' = i ∧ j' < tx_n r + 1)
  · rw [if_pos q, if_pos (by omega)]
  · rw [if_neg q, if_neg (by omega)]
theorem TM_r {r : Nat → Int32} {w1 w2 : Nat → Int} {b : Nat → Nat} {k c : Nat} {h : mh_T} (hk : k < tx_m r) (hT : TM r w1 w2 b k c k 0 h) : TM r w1 w2 b k c (k + 1) 0 h := by
  obtain ⟨t1, t2, t3, t4, t5, t6⟩ := hT
  refine ⟨t1, t2, t3, t4, t5, fun i' j' h1 h2 => ?_⟩
  rw [t6 i' j' h1 h2]
  by_cases q : i' < k ∨ (i' = k ∧ j' < 0)
  · rw [if_pos q, if_pos (by omega)]
  · rw [if_neg q]
    by_cases e : i' = k
    · rw [if_pos (by omega), e, tx_pr c j' hk]
    · rw [if_neg (by omega)]
set_option maxRecDepth 100000 in
set_option maxHeartbeats 4000000 in
theorem t_turnOver_50 {g : gT} {h0 : mh_T} {P : mh_T → Prop} {r : Nat → Int32} {w1 w2 : Nat → Int} {b : Nat → Nat} (hR : tx_R r) (hg : tx_g r b) (hw1 : tx_w w1) (hw2 : tx_w w2) (l1 l2 : Int32) (l3 : Int64) (k c : Nat) (hk : l1.toInt = (k : Int)) (hkm : k < tx_m r) (hcn : c < tx_n r) (hpos : 0 < tx_t r b k c) (h3 : l3.toInt = tx_t r b k c) (l5 : Int32) (l6 : Int64) (i : Nat) (hi : l5.toInt = (i : Int)) (him : i < tx_m r + 2) (hik : i ≠ k) (h6 : l6.toInt = tx_T r w1 w2 b i c) (K : ∀ h : mh_T, Ok [300, 11, 54, 55] h0 h → TM r w1 w2 b k c (i + 1) 0 h → ME g uX11_turnOver 14 [.ref 11, .int l1, .int l2, .long l3, .retAddr 0, .int (l5 + 1), .retAddr 0, .retAddr 0, .retAddr 0] [] h (qV P)) : ∀ (n : Nat) (l8 : Int32) (j : Nat) (h : mh_T), l8.toInt = (j : Int) → j ≤ tx_n r + 1 → tx_n r + 1 - j < n → Ok [300, 11, 54, 55] h0 h → TM r w1 w2 b k c i j h → ME g uX11_turnOver 50 [.ref 11, .int l1, .int l2, .long l3, .retAddr 0, .int l5, .long l6, .retAddr 0, .int l8] [] h (qV P) := by
  intro n
  induction n with
  | zero => intro l8 j h _ _ hn; exact absurd hn (Nat.not_lt_zero _)
  | succ n ih =>
    intro l8 j h hj hjn hn ok hT
    have hT0 := hT
    obtain ⟨t1, t2, t3, t4, t5, t6⟩ := hT
    have m32 := tx_m32 hR
    have n96 := tx_n96 hR
    refine r_X11_turnOver_50 l1 l2 l3 l5 l6 l8 ⟨fun q => ?_, fun q => ?_⟩
    · have q := i_le.mp q
      have : j = tx_n r + 1 := by omega
      subst this
      exact K h ok (TM_s hT0)
    · have q : j ≤ tx_n r := by have := i_lt.mp (nle q); omega
      have d1 := hg.1
      have d1 : 0 < tx_D r b := d1
      refine e_X11_cell _ _ (e_X11_cell _ _ ⟨ce_p hi hj (by omega) (by omega), e_X11_cell _ _ ⟨ce_p hk hj (by omega) (by omega), ?_, ce_p hi hj (by omega) (by omega), ?_⟩⟩)
      · intro z
        rw [z, ti_0] at t5
        omega
      · rw [ce_n hi hj (by omega) (by omega), ce_n hk hj (by omega) (by omega)]
        have v1 : (mL h 54 (97 * i + j)).toInt = tx_T r w1 w2 b i j := by rw [t6 i j him q, if_neg (by omega)]
        have v2 : (mL h 54 (97 * k + j)).toInt = tx_t r b k j := by
          have e : tx_T r w1 w2 b k j = tx_t r b k j := by unfold tx_T; rw [if_pos hkm]
          rw [t6 k j (by omega) q]
          split
          · rw [tx_pr c j hkm, e]
          · exact e
        have B1 := tx_T2 hR hg hw1 hw2 i j
        have B2 := tx_b3 hR hg k hcn
        have B3 := tx_T3 hR hg hw1 hw2 i hcn
        have B4 := tx_b2 hR hg k j
        have M1 := ab_mul B1 B2
        have M2 := ab_mul B3 B4
        have e1 : ((mL h 54 (97 * i + j)) * l3).toInt = tx_T r w1 w2 b i j * tx_t r b k c := by rw [l_mul (by rw [v1, h3]; omega), v1, h3]
        have e2 : (l6 * (mL h 54 (97 * k + j))).toInt = tx_T r w1 w2 b i c * tx_t r b k j := by rw [l_mul (by rw [h6, v2]; omega), h6, v2]
        have e3 : (((mL h 54 (97 * i + j)) * l3) - (l6 * (mL h 54 (97 * k + j)))).toInt = tx_D r b * tx_T r w1 w2 (sx_u b k c) i j := by rw [l_sub (by rw [e1, e2]; omega), e1, e2, tx_pv c j hkm hik]
        have hbd : -9223372036854775808 ≤ tx_T r w1 w2 (sx_u b k c) i j ∧ tx_T r w1 w2 (sx_u b k c) i j ≤ 9223372036854775807 := by
          have e4 := tx_pv (r := r) (w1 := w1) (w2 := w2) (b := b) (i := i) c j hkm hik
          have e5 : -9223372036854775808 ≤ tx_D r b * tx_T r w1 w2 (sx_u b k c) i j ∧ tx_D r b * tx_T r w1 w2 (sx_u b k c) i j ≤ 9223372036854775807 := by omega
          generalize tx_T r w1 w2 (sx_u b k c) i j = X at e5
          rcases Int.le_total 0 X with z | z
          · have : 1 * X ≤ tx_D r b * X := Int.mul_le_mul_of_nonneg_right (by omega) z
            omega
          · have : 1 * (-X) ≤ tx_D r b * (-X) := Int.mul_le_mul_of_nonneg_right (by omega) (by omega)
            have e7 : tx_D r b * (-X) = -(tx_D r b * X) := Int.mul_neg _ _
            omega
        have e6 : ((((mL h 54 (97 * i + j)) * l3) - (l6 * (mL h 54 (97 * k + j)))) / (mL h 11 29)).toInt = tx_T r w1 w2 (sx_u b k c) i j := l_div (by rw [t5]; omega) (by rw [e3, t5]) hbd
        refine ih (l8 + 1) (j + 1) _ (i_inc hj (by omega)) (by omega) (by omega) (Ok_wL ok (by decide)) ⟨t1, t2, t3, t4, t5, fun i' j' h1 h2 => ?_⟩
        rw [mL_wL]
        by_cases e : i' = i ∧ j' = j
        · rw [if_pos ⟨rfl, by rw [e.1, e.2]⟩, if_pos (by omega), e.1, e.2]
          exact e6
        · rw [if_neg (fun z => ce_ne (by omega) (by omega) e z.2), t6 i' j' h1 h2]
          by_cases q2 : i' < i ∨ (i' = i ∧ j' < j)
          · rw [if_pos q2, if_pos (by omega)]
          · rw [if_neg q2, if_neg (by omega)]
set_option maxRecDepth 100000 in
set_option maxHeartbeats 4000000 in
theorem t_turnOver_14 {g : gT} {h0 : mh_T} {P : mh_T → Prop} {r : Nat → Int32} {w1 w2 : Nat → Int} {b : Nat → Nat} (hR : tx_R r) (hg : tx_g r b) (hw1 : tx_w w1) (hw2 : tx_w w2) (l1 l2 : Int32) (l3 : Int64) (k c : Nat) (hk : l1.toInt = (k : Int)) (hc : l2.toInt = (c : Int)) (hkm : k < tx_m r) (hcn : c < tx_n r) (hpos : 0 < tx_t r b k c) (h3 : l3.toInt = tx_t r b k c) (hp : ∀ h : mh_T, Ok [300, 11, 54, 55] h0 h → TB r w1 w2 (sx_u b k c) h → P h) : ∀ (n : Nat) (l5 : Int32) (i : Nat) (h : mh_T), l5.toInt = (i : Int) → i ≤ tx_m r + 2 → tx_m r + 2 - i < n → Ok [300, 11, 54, 55] h0 h → TM r w1 w2 b k c i 0 h → ME g uX11_turnOver 14 [.ref 11, .int l1, .int l2, .long l3, .retAddr 0, .int l5, .retAddr 0, .retAddr 0, .retAddr 0] [] h (qV P) := by
  intro n
  induction n with
  | zero => intro l5 i h _ _ hn; exact absurd hn (Nat.not_lt_zero _)
  | succ n ih =>
    intro l5 i h hi him hn ok hT
    have hT0 := hT
    obtain ⟨t1, t2, t3, t4, t5, t6⟩ := hT
    have m32 := tx_m32 hR
    have n96 := tx_n96 hR
    have e1 : ((mI h 11 30) + 1).toInt = (tx_m r : Int) + 1 := i_add t2 (by decide) (by omega)
    refine r_X11_turnOver_14 l1 l2 l3 l5 ⟨fun q => ?_, fun q => ⟨fun ne => ?_, fun eq => ?_⟩⟩
    · have q := i_lt.mp q
      have : i = tx_m r + 2 := by omega
      subst this
      refine ⟨i_vp hk (by omega), hp _ ?_ ?_⟩
      · refine Ok_w (Ok_wL ok (by decide)) (lo := 0) (hi := 96) rfl ⟨by omega, by omega⟩ (by decide) (nt_k (by decide))
      · refine ⟨t1, t2, t3, fun i' h1 => ?_, h3, fun i' j' h1 h2 => ?_⟩
        · rw [mI_wI, i_nat hk]
          by_cases e : i' = k
          · rw [if_pos ⟨rfl, e⟩, e, sx_u_eq]
            exact hc
          · rw [if_neg (fun z => e z.2), sx_u_ne b c e]
            exact t4 i' h1
        · have := t6 i' j' h1 h2
          rw [if_pos (by omega)] at this
          exact this
    · have q : i < tx_m r + 2 := by
        have : ¬ ((mI h 11 30) + 1).toInt < l5.toInt := fun z => q (i_lt.mpr z)
        omega
      have hik : i ≠ k := fun z => ne (Int32.toInt_inj.mp (by rw [hi, hk, z]))
      refine e_X11_cell _ _ ⟨ce_p hi hc (by omega) (by omega), fun x7 e7 => ?_⟩
      rw [ce_n hi hc (by omega) (by omega)] at e7
      have v7 : x7.toInt = tx_T r w1 w2 b i c := by rw [e7, t6 i c q (by omega), if_neg (by omega)]
      exact t_turnOver_50 hR hg hw1 hw2 l1 l2 l3 k c hk hkm hcn hpos h3 l5 x7 i hi q hik v7 (fun h' ok' hT' => ih (l5 + 1) (i + 1) h' (i_inc hi (by omega)) (by omega) (by omega) ok' hT') (tx_n r + 2) 0 0 h (by decide) (Nat.zero_le _) (by omega) ok hT0
    · have hik : i = k := by rw [eq, hk] at hi; omega
      subst hik
      exact ih (l5 + 1) (i + 1) h (i_inc hi (by omega)) (by omega) (by omega) ok (TM_r hkm hT0)
theorem t_turnOver {g : gT} {h0 h : mh_T} {P : mh_T → Prop} {r : Nat → Int32} {w1 w2 : Nat → Int} {b : Nat → Nat} (ok : Ok [300, 11, 54, 55] h0 h) (hT : TB r w1 w2 b h) (hR : tx_R r) (hg : tx_g r b) (hw1 : tx_w w1) (hw2 : tx_w w2) (l1 l2 : Int32) (k c : Nat) (hk : l1.toInt = (k : Int)) (hc : l2.toInt = (c : Int)) (hkm : k < tx_m r) (hcn : c < tx_n r) (hpos : 0 < tx_t r b k c) (hp : ∀ h : mh_T, Ok [300, 11, 54, 55] h0 h → TB r w1 w2 (sx_u b k c) h → P h) : MCv g yX11_turnOver uX11_turnOver [.ref 11, .int l1, .int l2] h P := by
  have m32 := tx_m32 hR
  have n96 := tx_n96 hR
  refine e_X11_turnOver l1 l2 (e_X11_cell _ _ ⟨ce_p hk hc (by omega) (by omega), fun x4 e4 => ?_⟩)
  rw [ce_n hk hc (by omega) (by omega)] at e4
  have v4 : x4.toInt = tx_t r b k c := by
    rw [e4, hT.2.2.2.2.2 k c (by omega) (by omega)]
    unfold tx_T
    rw [if_pos hkm]
  exact t_turnOver_14 hR hg hw1 hw2 l1 l2 x4 k c hk hc hkm hcn hpos v4 hp (tx_m r + 3) 0 0 h (by decide) (Nat.zero_le _) (by omega) ok (TM_0 hT)
/-- goesUp: the aim is row m (which = 0) or row m + 1 -/
def tx_al (a : Nat) : Prop := a = 1
def tx_en (r : Nat → Int32) (a : Nat) (w1 w2 : Nat → Int) (n : Nat) (b : Nat → Nat) : Prop := sx_en (tx_C r) (tx_m r) (tx_n r) (tx_al a) w1 (if a = 0 then w1 else w2) n b
def tx_el (r : Nat → Int32) (a : Nat) (w1 w2 : Nat → Int) (b : Nat → Nat) (j : Nat) : Prop := tx_o r (if a = 0 then w1 else w2) b j < 0 ∧ (tx_al a → tx_o r w1 b j = 0)
set_option maxRecDepth 100000 in
set_option maxHeartbeats 4000000 in
theorem t_goesUp_11 {g : gT} {h0 : mh_T} {P : mh_T → Prop} {r : Nat → Int32} {w1 w2 : Nat → Int} (hR : tx_R r) (hw1 : tx_w w1) (hw2 : tx_w w2) (l1 : Int32) (a : Nat) (ha : a = 0 ∨ a = 1) (hl : l1.toInt = (tx_m r : Int) + a) {b : Nat → Nat} (hg : tx_g r b) (h : mh_T) (ok : Ok [300, 11, 54, 55] h0 h) (hT : TB r w1 w2 b h) (hp : P h) (K : ∀ (k c : Nat) (h' : mh_T), Ok [300, 11, 54, 55] h0 h' → sx_pk (tx_C r) (tx_m r) (tx_n r) (tx_al a) w1 (if a = 0 then w1 else w2) b c k → TB r w1 w2 (sx_u b k c) h' → ME g uX11_goesUp 2 [.ref 11, .int l1, .int 1, .retAddr 0, .retAddr 0] [] h' (qV P)) : ∀ (n : Nat) (l3 l4 : Int32) (j : Nat), l4.toInt = (j : Int) → j ≤ tx_n r → tx_n r - j < n → ((l3.toInt = -1 ∧ ∀ q, q < j → ¬ tx_el r a w1 w2 b q) ∨ (∃ c : Nat, l3.toInt = (c : Int) ∧ c < tx_n r ∧ tx_el r a w1 w2 b c ∧ ∀ q, q < c → ¬ tx_el r a w1 w2 b q)) → ME g uX11_goesUp 11 [.ref 11, .int l1, .int 1, .int l3, .int l4] [] h (qV P) := by
  have hT0 := hT
  obtain ⟨t1, t2, t3, t4, t5, t6⟩ := hT
  have m32 := tx_m32 hR
  have n96 := tx_n96 hR
  have hw : ((mI h 11 31) - 1).toInt = (tx_n r : Int) := by
    rw [i_sub t3 (show (1 : Int32).toInt = 1 from by decide) (by omega)]
    omega
  have hl' : l1.toInt = ((tx_m r + a : Nat) : Int) := by omega
  have stop : ME g uX11_goesUp 2 [.ref 11, .int l1, .int 0, .retAddr 0, .retAddr 0] [] h (qV P) := r_X11_goesUp_2 l1 0 ⟨fun _ => hp, fun z => absurd rfl z⟩
  have aimv : ∀ j, j ≤ tx_n r → (mL h 54 (97 * (tx_m r + a) + j)).toInt = tx_o r (if a = 0 then w1 else w2) b j := by
    intro j hj
    rw [t6 (tx_m r + a) j (by omega) hj]
    unfold tx_T
    rw [if_neg (by omega)]
    rcases ha with e | e
    · rw [if_pos (by omega), if_pos e]
    · rw [if_neg (by omega), if_neg (by omega)]
  have sumv : ∀ j, j ≤ tx_n r → (mL h 54 (97 * (tx_m r) + j)).toInt = tx_o r w1 b j := by
    intro j hj
    rw [t6 (tx_m r) j (by omega) hj]
    unfold tx_T
    rw [if_neg (by omega), if_pos rfl]
  have turn : ∀ (l3 : Int32) (c : Nat), l3.toInt = (c : Int) → c < tx_n r → tx_el r a w1 w2 b c → (∀ q, q < c → ¬ tx_el r a w1 w2 b q) → MCi g yX11_bounding uX11_bounding [.ref 11, .int l3] h (fun r4 h3 => (r4 < 0 → ME g uX11_goesUp 2 [.ref 11, .int l1, .int 0, .retAddr 0, .retAddr 0] [] h3 (qV P)) ∧ (¬ r4 < 0 → MCv g yX11_turnOver uX11_turnOver [.ref 11, .int r4, .int l3] h3 (fun h8 => ME g uX11_goesUp 2 [.ref 11, .int l1, .int 1, .retAddr 0, .retAddr 0] [] h8 (qV P)))) := by
    intro l3 c h1 h2 h3 h4
    refine t_bounding hT0 hR hg l3 c h1 h2 (fun v hv => ⟨fun _ => stop, fun nn => ?_⟩)
    rcases hv with ⟨z, _⟩ | ⟨k, b1, b2, b3, b4⟩
    · exfalso
      exact nn (i_lt.mpr (by rw [z, i_0]; decide))
    · refine t_turnOver ok hT0 hR hg hw1 hw2 v l3 k c b2 h1 b1 h2 b3 (fun h' ok' hT' => K k c h' ok' ?_ hT')
      refine ⟨h2, h3.1, h3.2, fun q hq hal => ?_, b1, b3, b4⟩
      refine Int.not_lt.mp (fun z => h4 q hq ⟨z, hal⟩)
  intro n
  induction n with
  | zero => intro l3 l4 j _ _ hn; exact absurd hn (Nat.not_lt_zero _)
  | succ n ih =>
    intro l3 l4 j hj hjn hn hs
    have fin : (0 ≤ l3 → MCi g yX11_bounding uX11_bounding [.ref 11, .int l3] h (fun r4 h3 => (r4 < 0 → ME g uX11_goesUp 2 [.ref 11, .int l1, .int 0, .retAddr 0, .retAddr 0] [] h3 (qV P)) ∧ (¬ r4 < 0 → MCv g yX11_turnOver uX11_turnOver [.ref 11, .int r4, .int l3] h3 (fun h8 => ME g uX11_goesUp 2 [.ref 11, .int l1, .int 1, .retAddr 0, .retAddr 0] [] h8 (qV P))))) ∧ (¬ 0 ≤ l3 → ME g uX11_goesUp 2 [.ref 11, .int l1, .int 0, .retAddr 0, .retAddr 0] [] h (qV P)) := by
      refine ⟨fun nn => ?_, fun _ => stop⟩
      rcases hs with ⟨z, _⟩ | ⟨c, c1, c2, c3, c4⟩
      · exfalso
        have := i_le.mp nn
        rw [z, i_0] at this
        omega
      · exact turn l3 c c1 c2 c3 c4
    refine r_X11_goesUp_11 l1 1 l3 l4 ⟨fun _ => fin, fun q => ⟨fun _ => fin, fun nn => ?_⟩⟩
    have q : j < tx_n r := by have := i_lt.mp (nle q); omega
    rcases hs with ⟨z, z2⟩ | ⟨c, c1, c2, c3, c4⟩
    · have skip : ¬ tx_el r a w1 w2 b j → ME g uX11_goesUp 11 [.ref 11, .int l1, .int 1, .int l3, .int (l4 + 1)] [] h (qV P) := fun ne => ih l3 (l4 + 1) (j + 1) (i_inc hj (by omega)) (by omega) (by omega) (Or.inl ⟨z, fun q hq => by
          by_cases e : q = j
          · rw [e]; exact ne
          · exact z2 q (by omega)⟩)
      have take : tx_el r a w1 w2 b j → ME g uX11_goesUp 11 [.ref 11, .int l1, .int 1, .int l4, .int (l4 + 1)] [] h (qV P) := fun el => ih l4 (l4 + 1) (j + 1) (i_inc hj (by omega)) (by omega) (by omega) (Or.inr ⟨j, hj, q, el, z2⟩)
      refine e_X11_cell _ _ ⟨ce_p hl' hj (by omega) (by omega), fun ge => ?_, fun lt => ⟨fun eq => ?_, fun ne => ?_⟩⟩
      · refine skip (fun el => ?_)
        have ge := lg_ge.mp ge
        rw [ce_n hl' hj (by omega) (by omega), aimv j (by omega), ti_0] at ge
        have := el.1
        omega
      · refine take ⟨?_, fun al => ?_⟩
        · refine Int.not_le.mp (fun z => lt (lg_ge.mpr ?_))
          rw [ce_n hl' hj (by omega) (by omega), aimv j (by omega), ti_0]
          exact z
        · exfalso
          have al : a = 1 := al
          rw [eq, t2] at hl
          omega
      · have ht2 : (mI h 11 30).toInt = ((tx_m r : Nat) : Int) := t2
        refine e_X11_cell _ _ ⟨ce_p ht2 hj (by omega) (by omega), fun nz => ?_, fun ez => ?_⟩
        · refine skip (fun el => nz (lg_0.mpr ?_))
          rw [ce_n ht2 hj (by omega) (by omega), sumv j (by omega), ti_0]
          refine el.2 ?_
          rcases ha with e | e
          · exfalso
            apply ne
            apply Int32.toInt_inj.mp
            rw [hl, t2]
            omega
          · exact e
        · refine take ⟨?_, fun _ => ?_⟩
          · refine Int.not_le.mp (fun z => lt (lg_ge.mpr ?_))
            rw [ce_n hl' hj (by omega) (by omega), aimv j (by omega), ti_0]
            exact z
          · have := lg_0.mp ez
            rw [ce_n ht2 hj (by omega) (by omega), sumv j (by omega), ti_0] at this
            exact this
    · exfalso
      apply nn
      rw [i_le, c1, i_0]
      omega
theorem t_goesUp_2 {g : gT} {h0 : mh_T} {P : mh_T → Prop} {r : Nat → Int32} {w1 w2 : Nat → Int} (hR : tx_R r) (hw1 : tx_w w1) (hw2 : tx_w w2) (l1 : Int32) (a : Nat) (ha : a = 0 ∨ a = 1) (hl : l1.toInt = (tx_m r : Int) + a) (hp : ∀ (h : mh_T) (b : Nat → Nat), Ok [300, 11, 54, 55] h0 h → tx_g r b → TB r w1 w2 b h → P h) : ∀ (n : Nat) (b : Nat → Nat) (h : mh_T), tx_g r b → tx_en r a w1 w2 n b → Ok [300, 11, 54, 55] h0 h → TB r w1 w2 b h → ME g uX11_goesUp 2 [.ref 11, .int l1, .int 1, .retAddr 0, .retAddr 0] [] h (qV P) := by
  intro n
  induction n with
  | zero => intro b h _ he; exact absurd he (fun z => z)
  | succ n ih =>
    intro b h hg he ok hT
    exact r_X11_goesUp_2 l1 1 ⟨fun z => absurd z (by decide), fun _ => t_goesUp_11 hR hw1 hw2 l1 a ha hl hg h ok hT (hp h b ok hg hT) (fun k c h' ok' pk hT' => ih _ h' (sx_g_pk hg pk) (he c k pk) ok' hT') (tx_n r + 1) (-1) 0 0 (by decide) (Nat.zero_le _) (by omega) (Or.inl ⟨by decide, fun q hq => absurd hq (Nat.not_lt_zero _)⟩)⟩
theorem t_goesUp {g : gT} {h0 h : mh_T} {P : mh_T → Prop} {r : Nat → Int32} {w1 w2 : Nat → Int} {b : Nat → Nat} (ok : Ok [300, 11, 54, 55] h0 h) (hT : TB r w1 w2 b h) (hR : tx_R r) (hg : tx_g r b) (hw1 : tx_w w1) (hw2 : tx_w w2) (l1 : Int32) (a : Nat) (ha : a = 0 ∨ a = 1) (hl : l1.toInt = (tx_m r : Int) + a) (hp : ∀ (h : mh_T) (b : Nat → Nat), Ok [300, 11, 54, 55] h0 h → tx_g r b → TB r w1 w2 b h → P h) : MCv g yX11_goesUp uX11_goesUp [.ref 11, .int l1] h P := by
  obtain ⟨n, hn⟩ := sx_end (C := tx_C r) (m := tx_m r) (n := tx_n r) (al := tx_al a) (w1 := w1) (w := if a = 0 then w1 else w2) hg
  exact e_X11_goesUp l1 (t_goesUp_2 hR hw1 hw2 l1 a ha hl hp n b h hg hn ok hT)
