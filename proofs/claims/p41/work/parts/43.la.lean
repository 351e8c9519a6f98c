/-! linear algebra over the integers, by lists of bits: wedge, contraction, inner product, determinants -/
def la_w (v : Nat → Int) : (List Bool → Int) → List Bool → Int
  | _, [] => 0
  | x, false :: s => la_w v (fun t => x (false :: t)) s
  | x, true :: s => v s.length * x (false :: s) - la_w v (fun t => x (true :: t)) s
def la_i (v : Nat → Int) : (List Bool → Int) → List Bool → Int
  | _, [] => 0
  | x, false :: s => la_i v (fun t => x (false :: t)) s + v s.length * x (true :: s)
  | x, true :: s => - la_i v (fun t => x (true :: t)) s
def la_d (v w : Nat → Int) : Nat → Int
  | 0 => 0
  | m + 1 => la_d v w m + v m * w m
def la_p : Nat → (List Bool → Int) → (List Bool → Int) → Int
  | 0, x, y => x [] * y []
  | m + 1, x, y => la_p m (fun t => x (false :: t)) (fun t => y (false :: t)) + la_p m (fun t => x (true :: t)) (fun t => y (true :: t))
def la_S : Nat → (Nat → Int) → Int
  | 0, _ => 0
  | n + 1, f => la_S n f + f n
def la_u : List Bool → Int
  | [] => 1
  | false :: s => la_u s
  | true :: _ => 0
def la_c : List Bool → Nat
  | [] => 0
  | false :: s => la_c s
  | true :: s => la_c s + 1
def la_e (V : Nat → Nat → Int) : Nat → List Bool → Int
  | 0 => la_u
  | k + 1 => la_w (V k) (la_e V k)
def la_s (V : Nat → Nat → Int) (i : Nat) (x : Nat → Int) : Nat → Nat → Int := fun k => if k = i then x else V k
theorem la_w_f (v : Nat → Int) (x : List Bool → Int) (s : List Bool) : la_w v x (false :: s) = la_w v (fun t => x (false :: t)) s := rfl
theorem la_w_t (v : Nat → Int) (x : List Bool → Int) (s : List Bool) : la_w v x (true :: s) = v s.length * x (false :: s) - la_w v (fun t => x (true :: t)) s := rfl
theorem la_i_f (v : Nat → Int) (x : List Bool → Int) (s : List Bool) : la_i v x (false :: s) = la_i v (fun t => x (false :: t)) s + v s.length * x (true :: s) := rfl
theorem la_i_t (v : Nat → Int) (x : List Bool → Int) (s : List Bool) : la_i v x (true :: s) = - la_i v (fun t => x (true :: t)) s := rfl
theorem la_e_s (V : Nat → Nat → Int) (k : Nat) : la_e V (k + 1) = la_w (V k) (la_e V k) := rfl
theorem la_s_eq (V : Nat → Nat → Int) (i : Nat) (x : Nat → Int) : la_s V i x i = x := if_pos rfl
theorem la_s_ne (V : Nat → Nat → Int) {i k : Nat} (x : Nat → Int) (h : k ≠ i) : la_s V i x k = V k := if_neg h
/-- linear in the element -/
theorem la_w_l (v : Nat → Int) : ∀ (s : List Bool) (a b : Int) (x y z : List Bool → Int), (∀ t, t.length = s.length → z t = a * x t + b * y t) → la_w v z s = a * la_w v x s + b * la_w v y s := by
  intro s
  induction s with
  | nil => intro a b x y z _; simp [la_w]
  | cons c s ih =>
    intro a b x y z h
    cases c with
    | false => exact ih a b _ _ _ (fun t ht => h (false :: t) (by simp [ht]))
    | true =>
      have e1 := ih a b (fun t => x (true :: t)) (fun t => y (true :: t)) (fun t => z (true :: t)) (fun t ht => h (true :: t) (by simp [ht]))
      have e2 := h (false :: s) (by simp)
      rw [la_w_t, la_w_t, la_w_t, e1, e2]
      grind
theorem la_i_l (v : Nat → Int) : ∀ (s : List Bool) (a b : Int) (x y z : List Bool → Int), (∀ t, t.length = s.length → z t = a * x t + b * y t) → la_i v z s = a * la_i v x s + b * la_i v y s := by
  intro s
  induction s with
  | nil => intro a b x y z _; simp [la_i]
  | cons c s ih =>
    intro a b x y z h
    cases c with
    | false =>
      have e1 := ih a b (fun t => x (false :: t)) (fun t => y (false :: t)) (fun t => z (false :: t)) (fun t ht => h (false :: t) (by simp [ht]))
      have e2 := h (true :: s) (by simp)
      rw [la_i_f, la_i_f, la_i_f, e1, e2]
      grind
    | true =>
      have e1 := ih a b (fun t => x (true :: t)) (fun t => y (true :: t)) (fun t => z (true :: t)) (fun t ht => h (true :: t) (by simp [ht]))
      rw [la_i_t, la_i_t, la_i_t, e1]
      grind
/-- linear in the vector -/
theorem la_w_v : ∀ (s : List Bool) (u v w : Nat → Int) (a b : Int) (x : List Bool → Int), (∀ j, j < s.length → u j = a * v j + b * w j) → la_w u x s = a * la_w v x s + b * la_w w x s := by
  intro s
  induction s with
  | nil => intro u v w a b x _; simp [la_w]
  | cons c s ih =>
    intro u v w a b x h
    have h' : ∀ j, j < s.length → u j = a * v j + b * w j := fun j hj => h j (by simp; omega)
    cases c with
    | false => exact ih u v w a b _ h'
    | true =>
      have e1 := ih u v w a b (fun t => x (true :: t)) h'
      have e2 := h s.length (by simp)
      rw [la_w_t, la_w_t, la_w_t, e1, e2]
      grind
theorem la_w_x {s : List Bool} {v w : Nat → Int} {x y : List Bool → Int} (hv : ∀ j, j < s.length → v j = w j) (hx : ∀ t, t.length = s.length → x t = y t) : la_w v x s = la_w w y s := by
  rw [la_w_v s v w w 1 0 x (fun j hj => by rw [hv j hj]; omega), la_w_l w s 1 0 y y x (fun t ht => by rw [hx t ht]; omega)]
  omega
theorem la_w_0 {s : List Bool} {v : Nat → Int} {x : List Bool → Int} (hx : ∀ t, t.length = s.length → x t = 0) : la_w v x s = 0 := by
  rw [la_w_l v s 0 0 x x x (fun t ht => by rw [hx t ht]; omega)]
  omega
theorem la_i_0 {s : List Bool} {v : Nat → Int} {x : List Bool → Int} (hx : ∀ t, t.length = s.length → x t = 0) : la_i v x s = 0 := by
  rw [la_i_l v s 0 0 x x x (fun t ht => by rw [hx t ht]; omega)]
  omega
/-- two vectors change places -/
theorem la_an (v w : Nat → Int) : ∀ (s : List Bool) (x : List Bool → Int), la_w v (la_w w x) s = - la_w w (la_w v x) s := by
  intro s
  induction s with
  | nil => intro x; rfl
  | cons c s ih =>
    intro x
    cases c with
    | false => exact ih (fun t => x (false :: t))
    | true =>
      have e1 : la_w v (fun t => la_w w x (true :: t)) s = w s.length * la_w v (fun t => x (false :: t)) s + (-1) * la_w v (la_w w (fun t => x (true :: t))) s :=
        la_w_l v s _ _ _ _ _ (fun t ht => by rw [la_w_t, ht]; omega)
      have e2 : la_w w (fun t => la_w v x (true :: t)) s = v s.length * la_w w (fun t => x (false :: t)) s + (-1) * la_w w (la_w v (fun t => x (true :: t))) s :=
        la_w_l w s _ _ _ _ _ (fun t ht => by rw [la_w_t, ht]; omega)
      have e3 := ih (fun t => x (true :: t))
      rw [la_w_t v, la_w_t w, e1, e2, la_w_f, la_w_f, e3]
      omega
theorem la_sq (v : Nat → Int) (s : List Bool) (x : List Bool → Int) : la_w v (la_w v x) s = 0 := by
  have := la_an v v s x
  omega
/-- contraction of a wedge -/
theorem la_iw (v w : Nat → Int) : ∀ (s : List Bool) (x : List Bool → Int), la_i v (la_w w x) s + la_w w (la_i v x) s = la_d v w s.length * x s := by
  intro s
  induction s with
  | nil => intro x; simp [la_i, la_w, la_d]
  | cons c s ih =>
    intro x
    cases c with
    | false =>
      have e1 : la_w w (fun t => la_i v x (false :: t)) s = 1 * la_w w (la_i v (fun t => x (false :: t))) s + v s.length * la_w w (fun t => x (true :: t)) s :=
        la_w_l w s _ _ _ _ _ (fun t ht => by rw [la_i_f, ht]; omega)
      have e3 := ih (fun t => x (false :: t))
      have e4 : la_i v (fun t => la_w w x (false :: t)) s = la_i v (la_w w (fun t => x (false :: t))) s := rfl
      rw [la_i_f, la_w_f, e1, e4, la_w_t]
      show _ = (la_d v w s.length + v s.length * w s.length) * _
      grind
    | true =>
      have e1 : la_i v (fun t => la_w w x (true :: t)) s = w s.length * la_i v (fun t => x (false :: t)) s + (-1) * la_i v (la_w w (fun t => x (true :: t))) s :=
        la_i_l v s _ _ _ _ _ (fun t ht => by rw [la_w_t, ht]; omega)
      have e2 : la_w w (fun t => la_i v x (true :: t)) s = (-1) * la_w w (la_i v (fun t => x (true :: t))) s + 0 * la_w w (la_i v (fun t => x (true :: t))) s :=
        la_w_l w s _ _ _ _ _ (fun t ht => by rw [la_i_t]; omega)
      have e3 := ih (fun t => x (true :: t))
      rw [la_i_t, la_w_t, e1, e2, la_i_f]
      show _ = (la_d v w s.length + v s.length * w s.length) * _
      grind
/-- the inner product -/
theorem la_pl : ∀ (m : Nat) (a b : Int) (x y z u : List Bool → Int), (∀ t, t.length = m → z t = a * x t + b * y t) → la_p m z u = a * la_p m x u + b * la_p m y u := by
  intro m
  induction m with
  | zero =>
    intro a b x y z u h
    show z [] * u [] = a * (x [] * u []) + b * (y [] * u [])
    rw [h [] rfl]
    grind
  | succ m ih =>
    intro a b x y z u h
    have e1 := ih a b (fun t => x (false :: t)) (fun t => y (false :: t)) (fun t => z (false :: t)) (fun t => u (false :: t)) (fun t ht => h (false :: t) (by simp [ht]))
    have e2 := ih a b (fun t => x (true :: t)) (fun t => y (true :: t)) (fun t => z (true :: t)) (fun t => u (true :: t)) (fun t ht => h (true :: t) (by simp [ht]))
    show la_p m _ _ + la_p m _ _ = a * (la_p m _ _ + la_p m _ _) + b * (la_p m _ _ + la_p m _ _)
    rw [e1, e2]
    grind
theorem la_pc : ∀ (m : Nat) (x y : List Bool → Int), la_p m x y = la_p m y x := by
  intro m
  induction m with
  | zero => intro x y; exact Int.mul_comm ..
  | succ m ih =>
    intro x y
    show la_p m _ _ + la_p m _ _ = la_p m _ _ + la_p m _ _
    rw [ih (fun t => x (false :: t)), ih (fun t => x (true :: t))]
theorem la_pr (m : Nat) (a b : Int) (x y z u : List Bool → Int) (h : ∀ t, t.length = m → z t = a * x t + b * y t) : la_p m u z = a * la_p m u x + b * la_p m u y := by
  rw [la_pc m u z, la_pl m a b x y z u h, la_pc m x, la_pc m y]
theorem la_pad (w : Nat → Int) : ∀ (m : Nat) (x y : List Bool → Int), la_p m (la_w w x) y = la_p m x (la_i w y) := by
  intro m
  induction m with
  | zero => intro x y; show (0 : Int) * _ = _ * 0; omega
  | succ m ih =>
    intro x y
    have e1 : la_p m (fun t => la_w w x (true :: t)) (fun t => y (true :: t)) = w m * la_p m (fun t => x (false :: t)) (fun t => y (true :: t)) + (-1) * la_p m (la_w w (fun t => x (true :: t))) (fun t => y (true :: t)) :=
      la_pl m _ _ _ _ _ _ (fun t ht => by rw [la_w_t, ht]; omega)
    have e2 : la_p m (fun t => x (false :: t)) (fun t => la_i w y (false :: t)) = 1 * la_p m (fun t => x (false :: t)) (la_i w (fun t => y (false :: t))) + w m * la_p m (fun t => x (false :: t)) (fun t => y (true :: t)) :=
      la_pr m _ _ _ _ _ _ (fun t ht => by rw [la_i_f, ht]; omega)
    have e3 : la_p m (fun t => x (true :: t)) (fun t => la_i w y (true :: t)) = (-1) * la_p m (fun t => x (true :: t)) (la_i w (fun t => y (true :: t))) + 0 * la_p m (fun t => x (true :: t)) (la_i w (fun t => y (true :: t))) :=
      la_pr m _ _ _ _ _ _ (fun t ht => by rw [la_i_t]; omega)
    have e4 : la_p m (fun t => la_w w x (false :: t)) (fun t => y (false :: t)) = la_p m (fun t => x (false :: t)) (la_i w (fun t => y (false :: t))) := ih (fun t => x (false :: t)) (fun t => y (false :: t))
    have e5 := ih (fun t => x (true :: t)) (fun t => y (true :: t))
    show la_p m _ _ + la_p m _ _ = la_p m _ _ + la_p m _ _
    rw [e1, e2, e3, e4, e5]
    omega
theorem la_sqn (a : Int) : 0 ≤ a * a := by
  rcases Int.le_total 0 a with h | h
  · exact Int.mul_nonneg h h
  · exact Int.mul_nonneg_of_nonpos_of_nonpos h h
theorem la_pn : ∀ (m : Nat) (x : List Bool → Int), 0 ≤ la_p m x x := by
  intro m
  induction m with
  | zero => intro x; exact la_sqn _
  | succ m ih =>
    intro x
    have e1 := ih (fun t => x (false :: t))
    have e2 := ih (fun t => x (true :: t))
    show 0 ≤ la_p m _ _ + la_p m _ _
    omega
theorem la_pg : ∀ (s : List Bool) (x : List Bool → Int), x s * x s ≤ la_p s.length x x := by
  intro s
  induction s with
  | nil => intro x; exact Int.le_refl _
  | cons c s ih =>
    intro x
    have e1 := la_pn s.length (fun t => x (false :: t))
    have e2 := la_pn s.length (fun t => x (true :: t))
    show _ ≤ la_p s.length (fun t => x (false :: t)) (fun t => x (false :: t)) + la_p s.length (fun t => x (true :: t)) (fun t => x (true :: t))
    cases c with
    | false => have := ih (fun t => x (false :: t)); omega
    | true => have := ih (fun t => x (true :: t)); omega
theorem la_had (v : Nat → Int) (m : Nat) (x : List Bool → Int) : la_p m (la_w v x) (la_w v x) ≤ la_d v v m * la_p m x x := by
  have e1 : la_p m x (la_i v (la_w v x)) = la_d v v m * la_p m x x + (-1) * la_p m x (la_w v (la_i v x)) :=
    la_pr m _ _ _ _ _ _ (fun t ht => by have := la_iw v v t x; rw [ht] at this; omega)
  have e2 : la_p m x (la_w v (la_i v x)) = la_p m (la_i v x) (la_i v x) := by rw [la_pc, la_pad]
  have e3 := la_pn m (la_i v x)
  rw [la_pad, e1, e2]
  omega
/-- degrees -/
theorem la_c_le : ∀ s : List Bool, la_c s ≤ s.length := by
  intro s
  induction s with
  | nil => exact Nat.le_refl _
  | cons c s ih =>
    cases c with
    | false => show la_c s ≤ s.length + 1; omega
    | true => show la_c s + 1 ≤ s.length + 1; omega
theorem la_gw (v : Nat → Int) : ∀ (s : List Bool) (k : Nat) (x : List Bool → Int), (∀ t, t.length = s.length → la_c t ≠ k → x t = 0) → la_c s ≠ k + 1 → la_w v x s = 0 := by
  intro s
  induction s with
  | nil => intro k x _ _; rfl
  | cons c s ih =>
    intro k x h hc
    cases c with
    | false => exact ih k _ (fun t ht hq => h (false :: t) (by simp [ht]) hq) hc
    | true =>
      have hc : la_c s + 1 ≠ k + 1 := hc
      have e1 : x (false :: s) = 0 := h (false :: s) (by simp) (show la_c s ≠ k by omega)
      have e2 : la_w v (fun t => x (true :: t)) s = 0 := by
        cases k with
        | zero => exact la_w_0 (fun t ht => h (true :: t) (by simp [ht]) (show la_c t + 1 ≠ 0 by omega))
        | succ k => exact ih k _ (fun t ht hq => h (true :: t) (by simp [ht]) (show la_c t + 1 ≠ k + 1 by omega)) (by omega)
      rw [la_w_t, e1, e2]
      omega
theorem la_ge (V : Nat → Nat → Int) : ∀ (k : Nat) (s : List Bool), la_c s ≠ k → la_e V k s = 0 := by
  intro k
  induction k with
  | zero =>
    intro s
    show la_c s ≠ 0 → la_u s = 0
    induction s with
    | nil => intro h; exact absurd rfl h
    | cons c s ih =>
      intro h
      cases c with
      | false => exact ih h
      | true => rfl
  | succ k ih => intro s hs; exact la_gw (V k) s k _ (fun t _ hq => ih t hq) hs
theorem la_ex {V V' : Nat → Nat → Int} : ∀ (k : Nat) (s : List Bool), (∀ i, i < k → ∀ l, l < s.length → V i l = V' i l) → la_e V k s = la_e V' k s := by
  intro k
  induction k with
  | zero => intro s _; rfl
  | succ k ih =>
    intro s h
    exact la_w_x (fun j hj => h k (by omega) j hj) (fun t ht => ih t (fun i hi l hl => h i (by omega) l (by omega)))
theorem la_el (V : Nat → Nat → Int) {i : Nat} {a b : Int} {x y z : Nat → Int} : ∀ (k : Nat) (s : List Bool), i < k → (∀ l, l < s.length → z l = a * x l + b * y l) → la_e (la_s V i z) k s = a * la_e (la_s V i x) k s + b * la_e (la_s V i y) k s := by
  intro k
  induction k with
  | zero => intro s h; exact absurd h (Nat.not_lt_zero _)
  | succ k ih =>
    intro s hi hz
    by_cases hk : i = k
    · subst hk
      have q : ∀ (u : Nat → Int) (t : List Bool), la_e (la_s V i u) i t = la_e V i t := fun u t => la_ex i t (fun j hj l _ => by rw [la_s_ne V u (by omega)])
      have e : ∀ u : Nat → Int, la_e (la_s V i u) (i + 1) s = la_w u (la_e V i) s := fun u => by
        rw [la_e_s, la_s_eq]
        exact la_w_x (fun _ _ => rfl) (fun t _ => q u t)
      rw [e z, e x, e y]
      exact la_w_v s z x y a b _ hz
    · have e : ∀ u : Nat → Int, la_e (la_s V i u) (k + 1) = la_w (V k) (la_e (la_s V i u) k) := fun u => by
        rw [la_e_s, la_s_ne V u (by omega)]
      rw [e z, e x, e y]
      exact la_w_l (V k) s a b _ _ _ (fun t ht => ih t (by omega) (fun l hl => hz l (by omega)))
theorem la_we (V : Nat → Nat → Int) {i : Nat} : ∀ (k : Nat) (s : List Bool), i < k → la_w (V i) (la_e V k) s = 0 := by
  intro k
  induction k with
  | zero => intro s h; exact absurd h (Nat.not_lt_zero _)
  | succ k ih =>
    intro s hi
    rw [la_e_s]
    by_cases hk : i = k
    · subst hk
      exact la_sq _ _ _
    · rw [la_an, la_w_0 (fun t _ => ih t (by omega))]
      rfl
theorem la_al (V : Nat → Nat → Int) {i j : Nat} (hij : i < j) : ∀ (k : Nat) (s : List Bool), j < k → (∀ l, l < s.length → V i l = V j l) → la_e V k s = 0 := by
  intro k
  induction k with
  | zero => intro s h; exact absurd h (Nat.not_lt_zero _)
  | succ k ih =>
    intro s hj hv
    rw [la_e_s]
    by_cases hk : j = k
    · subst hk
      rw [← la_w_x (v := V i) (x := la_e V j) hv (fun _ _ => rfl)]
      exact la_we V j s hij
    · exact la_w_0 (fun t ht => ih t (by omega) (fun l hl => hv l (by omega)))
theorem la_alt (V : Nat → Nat → Int) {i j k : Nat} (s : List Bool) (hij : i ≠ j) (hi : i < k) (hj : j < k) (hv : ∀ l, l < s.length → V i l = V j l) : la_e V k s = 0 := by
  rcases Nat.lt_or_ge i j with h | h
  · exact la_al V h k s hj hv
  · exact la_al V (show j < i by omega) k s hi (fun l hl => (hv l hl).symm)
/-- sums -/
theorem la_S_x {f f' : Nat → Int} : ∀ n : Nat, (∀ i, i < n → f i = f' i) → la_S n f = la_S n f' := by
  intro n
  induction n with
  | zero => intro _; rfl
  | succ n ih =>
    intro h
    show la_S n f + f n = la_S n f' + f' n
    rw [ih (fun i hi => h i (by omega)), h n (by omega)]
theorem la_S_0 {f : Nat → Int} : ∀ n : Nat, (∀ i, i < n → f i = 0) → la_S n f = 0 := by
  intro n
  induction n with
  | zero => intro _; rfl
  | succ n ih =>
    intro h
    show la_S n f + f n = 0
    rw [ih (fun i hi => h i (by omega)), h n (by omega)]
    rfl
theorem la_S_l (a b : Int) (f g : Nat → Int) : ∀ n : Nat, la_S n (fun i => a * f i + b * g i) = a * la_S n f + b * la_S n g := by
  intro n
  induction n with
  | zero => simp [la_S]
  | succ n ih =>
    show la_S n (fun i => a * f i + b * g i) + (a * f n + b * g n) = a * (la_S n f + f n) + b * (la_S n g + g n)
    rw [ih]
    grind
theorem la_w_S (v : Nat → Int) (c : Nat → Int) (x : Nat → List Bool → Int) (s : List Bool) : ∀ (n : Nat) (z : List Bool → Int), (∀ t, t.length = s.length → z t = la_S n (fun i => c i * x i t)) → la_w v z s = la_S n (fun i => c i * la_w v (x i) s) := by
  intro n
  induction n with
  | zero => intro z h; exact la_w_0 h
  | succ n ih =>
    intro z h
    rw [la_w_l v s 1 (c n) (fun t => la_S n (fun i => c i * x i t)) (x n) z (fun t ht => by rw [h t ht]; show la_S n (fun i => c i * x i t) + c n * x n t = 1 * la_S n (fun i => c i * x i t) + c n * x n t; omega), ih _ (fun _ _ => rfl)]
    show 1 * la_S n (fun i => c i * la_w v (x i) s) + c n * la_w v (x n) s = la_S n (fun i => c i * la_w v (x i) s) + c n * la_w v (x n) s
    omega
theorem la_e_S (W : Nat → Nat → Int) {i k : Nat} (hi : i < k) (s : List Bool) (c : Nat → Int) (y : Nat → Nat → Int) : ∀ (n : Nat) (z : Nat → Int), (∀ l, l < s.length → z l = la_S n (fun q => c q * y q l)) → la_e (la_s W i z) k s = la_S n (fun q => c q * la_e (la_s W i (y q)) k s) := by
  intro n
  induction n with
  | zero =>
    intro z h
    rw [la_el W (x := z) (y := z) (a := 0) (b := 0) k s hi (fun l hl => by rw [h l hl]; simp [la_S])]
    simp [la_S]
  | succ n ih =>
    intro z h
    rw [la_el W (x := fun l => la_S n (fun q => c q * y q l)) (y := y n) (a := 1) (b := c n) k s hi (fun l hl => by rw [h l hl]; show la_S n (fun q => c q * y q l) + c n * y n l = 1 * la_S n (fun q => c q * y q l) + c n * y n l; omega), ih _ (fun _ _ => rfl)]
    show 1 * la_S n (fun q => c q * la_e (la_s W i (y q)) k s) + c n * la_e (la_s W i (y n)) k s = la_S n (fun q => c q * la_e (la_s W i (y q)) k s) + c n * la_e (la_s W i (y n)) k s
    omega
theorem la_i_u (v : Nat → Int) : ∀ s : List Bool, la_i v la_u s = 0 := by
  intro s
  induction s with
  | nil => rfl
  | cons c s ih =>
    cases c with
    | false =>
      rw [la_i_f]
      have e : la_i v (fun t => la_u (false :: t)) s = la_i v la_u s := rfl
      rw [e, ih]
      show 0 + v s.length * 0 = 0
      omega
    | true =>
      rw [la_i_t, la_i_0 (x := fun t => la_u (true :: t)) (fun t _ => rfl)]
      rfl
theorem la_cr (V : Nat → Nat → Int) (x e : Nat → Int) : ∀ (k : Nat) (s : List Bool), la_w x (la_i e (la_e V k)) s = la_S k (fun i => la_d e (V i) s.length * la_e (la_s V i x) k s) := by
  intro k
  induction k with
  | zero => intro s; exact la_w_0 (fun t _ => la_i_u e t)
  | succ k ih =>
    intro s
    have e1 : la_w x (la_i e (la_e V (k + 1))) s = la_d e (V k) s.length * la_w x (la_e V k) s + (-1) * la_w x (la_w (V k) (la_i e (la_e V k))) s :=
      la_w_l x s _ _ _ _ _ (fun t ht => by have := la_iw e (V k) t (la_e V k); rw [ht] at this; rw [la_e_s]; omega)
    have e2 : la_w (V k) (la_w x (la_i e (la_e V k))) s = la_S k (fun i => la_d e (V i) s.length * la_w (V k) (la_e (la_s V i x) k) s) :=
      la_w_S (V k) _ _ s k _ (fun t ht => by rw [ih t, ht])
    have e3 : la_S k (fun i => la_d e (V i) s.length * la_w (V k) (la_e (la_s V i x) k) s) = la_S k (fun i => la_d e (V i) s.length * la_e (la_s V i x) (k + 1) s) :=
      la_S_x k (fun i hi => by rw [la_e_s (la_s V i x), la_s_ne V x (by omega)])
    have e4 : la_e (la_s V k x) (k + 1) s = la_w x (la_e V k) s := by
      rw [la_e_s, la_s_eq]
      exact la_w_x (fun _ _ => rfl) (fun t _ => la_ex k t (fun j hj l _ => by rw [la_s_ne V x (by omega)]))
    rw [e1, la_an, e2, e3]
    show _ = la_S k _ + la_d e (V k) s.length * la_e (la_s V k x) (k + 1) s
    rw [e4]
    omega
/-- the determinant -/
def la_tt (m : Nat) : List Bool := List.replicate m true
def la_D (m : Nat) (V : Nat → Nat → Int) : Int := la_e V m (la_tt m)
theorem la_tl (m : Nat) : (la_tt m).length = m := List.length_replicate
theorem la_cram (m : Nat) (V : Nat → Nat → Int) (x e : Nat → Int) : la_d e x m * la_D m V = la_S m (fun i => la_d e (V i) m * la_D m (la_s V i x)) := by
  have e1 := la_iw e x (la_tt m) (la_e V m)
  have e2 : la_i e (la_w x (la_e V m)) (la_tt m) = 0 := la_i_0 (fun t ht => la_gw x t m _ (fun q _ hq => la_ge V m q hq) (by have := la_c_le t; rw [ht, la_tl] at this; omega))
  have e3 := la_cr V x e m (la_tt m)
  rw [la_tl] at e1 e3
  unfold la_D
  rw [← e3]
  omega
def la_1 (l : Nat) : Nat → Int := fun j => if j = l then 1 else 0
theorem la_d0 (l : Nat) (x : Nat → Int) : ∀ m, m ≤ l → la_d (la_1 l) x m = 0 := by
  intro m
  induction m with
  | zero => intro _; rfl
  | succ m ih =>
    intro h
    show la_d _ _ m + la_1 l m * x m = 0
    rw [ih (by omega), show la_1 l m = 0 from if_neg (by omega)]
    omega
theorem la_d1 (l : Nat) (x : Nat → Int) : ∀ m, l < m → la_d (la_1 l) x m = x l := by
  intro m
  induction m with
  | zero => intro h; exact absurd h (Nat.not_lt_zero _)
  | succ m ih =>
    intro h
    show la_d _ _ m + la_1 l m * x m = x l
    by_cases hl : l = m
    · subst hl
      rw [la_d0 l x l (Nat.le_refl _), show la_1 l l = 1 from if_pos rfl]
      omega
    · rw [ih (by omega), show la_1 l m = 0 from if_neg (by omega)]
      omega
/-- any list of vectors at one place: the general relation -/
theorem la_gen (m : Nat) (V W : Nat → Nat → Int) (x : Nat → Int) {q : Nat} (hq : q < m) : la_D m V * la_D m (la_s W q x) = la_S m (fun i => la_D m (la_s V i x) * la_D m (la_s W q (V i))) := by
  have e1 : la_D m (la_s W q (fun l => la_D m V * x l)) = la_S m (fun i => la_D m (la_s V i x) * la_D m (la_s W q (V i))) := by
    refine la_e_S W hq (la_tt m) _ V m _ (fun l hl => ?_)
    rw [la_tl] at hl
    have := la_cram m V x (la_1 l)
    rw [la_d1 l x m hl] at this
    rw [Int.mul_comm, this]
    exact la_S_x m (fun i hi => by rw [la_d1 l (V i) m hl, Int.mul_comm])
  rw [← e1]
  have e2 : la_D m (la_s W q (fun l => la_D m V * x l)) = la_D m V * la_D m (la_s W q x) + 0 * la_D m (la_s W q x) := la_el W m (la_tt m) hq (fun l _ => by omega)
  rw [e2]
  omega
theorem la_Dx {m : Nat} {V V' : Nat → Nat → Int} (h : ∀ i, i < m → ∀ l, l < m → V i l = V' i l) : la_D m V = la_D m V' := la_ex m (la_tt m) (fun i hi l hl => h i hi l (by rw [la_tl] at hl; exact hl))
theorem la_Da {m : Nat} {V : Nat → Nat → Int} {i j : Nat} (hij : i ≠ j) (hi : i < m) (hj : j < m) (hv : ∀ l, l < m → V i l = V j l) : la_D m V = 0 := la_alt V (la_tt m) hij hi hj (fun l hl => hv l (by rw [la_tl] at hl; exact hl))
theorem la_Dl {m : Nat} (V : Nat → Nat → Int) {i : Nat} {a b : Int} {x y z : Nat → Int} (hi : i < m) (hz : ∀ l, l < m → z l = a * x l + b * y l) : la_D m (la_s V i z) = a * la_D m (la_s V i x) + b * la_D m (la_s V i y) := la_el V m (la_tt m) hi (fun l hl => hz l (by rw [la_tl] at hl; exact hl))
/-- two vectors change places -/
theorem la_Ds {m : Nat} (V : Nat → Nat → Int) {i j : Nat} (x y : Nat → Int) (hij : i ≠ j) (hi : i < m) (hj : j < m) : la_D m (la_s (la_s V i x) j y) = - la_D m (la_s (la_s V i y) j x) := by
  have z : ∀ u : Nat → Int, la_D m (la_s (la_s V i u) j u) = 0 := fun u => la_Da hij hi hj (fun l _ => by rw [la_s_eq, la_s_ne _ u hij, la_s_eq])
  have c : ∀ u v : Nat → Int, la_s (la_s V i u) j v = la_s (la_s V j v) i u := fun u v => by
    funext k
    unfold la_s
    by_cases h1 : k = j
    · rw [if_pos h1, if_neg (by omega), if_pos h1]
    · rw [if_neg h1, if_neg h1]
  have e0 := z (fun l => x l + y l)
  have e1 := la_Dl (la_s V i (fun l => x l + y l)) (i := j) (a := 1) (b := 1) (x := x) (y := y) (z := fun l => x l + y l) hj (fun l _ => by omega)
  have e2 : ∀ v : Nat → Int, la_D m (la_s (la_s V i (fun l => x l + y l)) j v) = 1 * la_D m (la_s (la_s V i x) j v) + 1 * la_D m (la_s (la_s V i y) j v) := fun v => by
    rw [c, c, c]
    exact la_Dl (la_s V j v) hi (fun l _ => by omega)
  have e3 := z x
  have e4 := z y
  rw [e2 x, e2 y] at e1
  omega
