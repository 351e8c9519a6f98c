/-! the first tableau; the tableau in the cells -/
theorem la_ef (V : Nat → Nat → Int) : ∀ (k : Nat) (s : List Bool), la_e V k (false :: s) = la_e V k s := by
  intro k
  induction k with
  | zero => intro s; rfl
  | succ k ih => intro s; exact la_w_x (fun _ _ => rfl) (fun t _ => ih t)
theorem la_D1 : ∀ (m : Nat) (V : Nat → Nat → Int), (∀ i, i < m → ∀ l, l < m → V i l = la_1 i l) → la_D m V = 1 := by
  intro m
  induction m with
  | zero => intro V _; rfl
  | succ m ih =>
    intro V h
    have e1 : la_D (m + 1) V = V m (la_tt m).length * la_e V m (false :: la_tt m) - la_w (V m) (fun t => la_e V m (true :: t)) (la_tt m) := rfl
    have e2 : la_w (V m) (fun t => la_e V m (true :: t)) (la_tt m) = 0 := by
      rw [la_w_v (la_tt m) (V m) (V m) (V m) 0 0 _ (fun j hj => by rw [la_tl] at hj; rw [h m (by omega) j (by omega)]; unfold la_1; rw [if_neg (by omega)]; omega)]
      omega
    have e3 : la_e V m (la_tt m) = 1 := ih V (fun i hi l hl => h i (by omega) l (by omega))
    rw [e1, e2, la_ef, e3, la_tl, h m (by omega) m (by omega)]
    unfold la_1
    rw [if_pos rfl]
    decide
theorem la_Di {m : Nat} {V : Nat → Nat → Int} (h : ∀ i, i < m → ∀ l, l < m → V i l = la_1 i l) {i : Nat} (hi : i < m) (x : Nat → Int) : la_D m (la_s V i x) = x i := by
  have e := la_cram m V x (la_1 i)
  rw [la_d1 i x m hi, la_D1 m V h, la_S_1 (g := fun _ => 0) (r := i) m hi (fun k hk hn => by
    rw [la_d1 i (V k) m hi, h k hk i hi]
    unfold la_1
    rw [if_neg (fun z => hn z.symm)]
    exact Int.zero_mul _), la_S_0 m (fun _ _ => rfl), la_d1 i (V i) m hi, h i hi i hi] at e
  unfold la_1 at e
  rw [if_pos rfl] at e
  omega
theorem sx_D0 {C : Nat → Nat → Int} {m many : Nat} (h : ∀ i, i < m → ∀ l, l < m → C (many + i) l = la_1 i l) : sx_D C m (fun i => many + i) = 1 := la_D1 m _ h
theorem sx_t0 {C : Nat → Nat → Int} {m many : Nat} (h : ∀ i, i < m → ∀ l, l < m → C (many + i) l = la_1 i l) {i : Nat} (hi : i < m) (j : Nat) : sx_t C m (fun i => many + i) i j = C j i := by
  rw [sx_t_D]
  exact la_Di h hi (C j)
theorem sx_o0 {C : Nat → Nat → Int} {m many : Nat} (h : ∀ i, i < m → ∀ l, l < m → C (many + i) l = la_1 i l) {w : Nat → Int} (hw : ∀ i, i < m → w (many + i) = 0) (j : Nat) : sx_o C m w (fun i => many + i) j = - w j := by
  unfold sx_o
  rw [sx_D0 h, la_S_0 m (fun i hi => by rw [hw i hi]; exact Int.zero_mul _)]
  omega
/-- what the row of THE TABLE says -/
def tx_q (r : Nat → Int32) : Nat := (r 0).toNatClampNeg
def tx_tw (r : Nat → Int32) (s : Nat) : Bool := decide (¬ r (9 + s) = -2)
def tx_la (r : Nat → Int32) (s : Nat) : Int := (r (1 + s)).toInt
def tx_lb (r : Nat → Int32) (s : Nat) : Int := (r (9 + s)).toInt
def tx_tm (r : Nat → Int32) (s o : Nat) : Int := (r (17 + 4 * s + o)).toInt
def tx_many (r : Nat → Int32) : Nat := 2 ^ (r 50).toNatClampNeg
def tx_m (r : Nat → Int32) : Nat := tc_st (tc_oc (tx_tw r)) (tx_q r)
def tx_n (r : Nat → Int32) : Nat := tx_many r + tx_m r
def tx_C (r : Nat → Int32) : Nat → Nat → Int := tc_C (tx_q r) (tx_many r) (tx_tw r) (tx_la r) (tx_lb r) (tx_tm r)
def tx_R (r : Nat → Int32) : Prop := R 0 8 (r 0) ∧ (∀ s, s < 8 → R (-1) 5 (r (1 + s)) ∧ R (-2) 5 (r (9 + s))) ∧ R 0 6 (r 50) ∧ ∀ s o, s < 8 → o < 4 → 0 ≤ tx_tm r s o ∧ tx_tm r s o ≤ 240
def tx_D (r : Nat → Int32) (b : Nat → Nat) : Int := sx_D (tx_C r) (tx_m r) b
def tx_t (r : Nat → Int32) (b : Nat → Nat) (i j : Nat) : Int := sx_t (tx_C r) (tx_m r) b i j
def tx_o (r : Nat → Int32) (w : Nat → Int) (b : Nat → Nat) (j : Nat) : Int := sx_o (tx_C r) (tx_m r) w b j
def tx_g (r : Nat → Int32) (b : Nat → Nat) : Prop := sx_g (tx_C r) (tx_m r) (tx_n r) b
def tx_T (r : Nat → Int32) (w1 w2 : Nat → Int) (b : Nat → Nat) (i j : Nat) : Int := if i < tx_m r then tx_t r b i j else if i = tx_m r then tx_o r w1 b j else tx_o r w2 b j
def tx_w (w : Nat → Int) : Prop := ∀ k, w k = 0 ∨ w k = 1 ∨ w k = -1
def TB (r : Nat → Int32) (w1 w2 : Nat → Int) (b : Nat → Nat) (h : mh_T) : Prop :=
  h.1 45 = r ∧ (mI h 11 30).toInt = (tx_m r : Int) ∧ (mI h 11 31).toInt = (tx_n r : Int) + 1 ∧ (∀ i, i < tx_m r → (mI h 55 i).toInt = (b i : Int)) ∧ (mL h 11 29).toInt = tx_D r b
  ∧ ∀ i j, i < tx_m r + 2 → j ≤ tx_n r → (mL h 54 (97 * i + j)).toInt = tx_T r w1 w2 b i j
theorem tx_q8 {r : Nat → Int32} (h : tx_R r) : tx_q r ≤ 8 := ix_le h.1 (by decide)
theorem tx_m32 {r : Nat → Int32} (h : tx_R r) : tx_m r ≤ 32 := by
  have h1 := tc_st_le (tx_tw r) (tx_q r)
  have h2 := tx_q8 h
  show tc_st (tc_oc (tx_tw r)) (tx_q r) ≤ 32
  omega
theorem tx_y64 {r : Nat → Int32} (h : tx_R r) : tx_many r ≤ 64 ∧ 1 ≤ tx_many r := by
  have h1 : (r 50).toNatClampNeg ≤ 6 := ix_le h.2.2.1 (by decide)
  have h2 : 2 ^ (r 50).toNatClampNeg ≤ 2 ^ 6 := Nat.pow_le_pow_right (by decide) h1
  exact ⟨h2, Nat.one_le_two_pow⟩
theorem tx_n96 {r : Nat → Int32} (h : tx_R r) : tx_n r ≤ 96 ∧ 1 ≤ tx_n r := by
  have h1 := tx_m32 h
  have h2 := tx_y64 h
  unfold tx_n
  omega
theorem tc_oc4 (tw : Nat → Bool) (s : Nat) : tc_oc tw s ≤ 4 := by unfold tc_oc; split <;> omega
theorem tx_tmb {r : Nat → Int32} (h : tx_R r) : ∀ s o, s < tx_q r → o < tc_oc (tx_tw r) s → 0 ≤ tx_tm r s o ∧ tx_tm r s o ≤ 240 := by
  intro s o hs ho
  have h1 := tx_q8 h
  have h2 := tc_oc4 (tx_tw r) s
  exact h.2.2.2 s o (by omega) (by omega)
theorem tx_b1 {r : Nat → Int32} (h : tx_R r) {b : Nat → Nat} (hg : tx_g r b) : -8388608 ≤ tx_D r b ∧ tx_D r b ≤ 8388608 := tc_b1 (tx_q8 h) (tx_tmb h) hg.2.2
theorem tx_b2 {r : Nat → Int32} (h : tx_R r) {b : Nat → Nat} (hg : tx_g r b) (i j : Nat) : -8589934592 ≤ tx_t r b i j ∧ tx_t r b i j ≤ 8589934592 := tc_b2 (tx_q8 h) (tx_tmb h) hg.2.2 i j
theorem tx_b3 {r : Nat → Int32} (h : tx_R r) {b : Nat → Nat} (hg : tx_g r b) (i : Nat) {j : Nat} (hj : j < tx_n r) : -8388608 ≤ tx_t r b i j ∧ tx_t r b i j ≤ 8388608 := tc_b3 (tx_q8 h) (tx_tmb h) hg.2.2 i hj
theorem tx_T3 {r : Nat → Int32} (h : tx_R r) {b : Nat → Nat} (hg : tx_g r b) {w1 w2 : Nat → Int} (h1 : tx_w w1) (h2 : tx_w w2) (i : Nat) {j : Nat} (hj : j < tx_n r) : -276824064 ≤ tx_T r w1 w2 b i j ∧ tx_T r w1 w2 b i j ≤ 276824064 := by
  have e1 := sx_ob_b (C := tx_C r) (m := tx_m r) (w := w1) (b := b) (j := j) (M := 8388608) (tx_m32 h) h1 (fun i => tx_b3 h hg i hj) (tx_b1 h hg)
  have e2 := sx_ob_b (C := tx_C r) (m := tx_m r) (w := w2) (b := b) (j := j) (M := 8388608) (tx_m32 h) h2 (fun i => tx_b3 h hg i hj) (tx_b1 h hg)
  have e3 := tx_b3 h hg i hj
  unfold tx_T tx_o
  split
  · omega
  · split <;> omega
theorem tx_T2 {r : Nat → Int32} (h : tx_R r) {b : Nat → Nat} (hg : tx_g r b) {w1 w2 : Nat → Int} (h1 : tx_w w1) (h2 : tx_w w2) (i j : Nat) : -283467841536 ≤ tx_T r w1 w2 b i j ∧ tx_T r w1 w2 b i j ≤ 283467841536 := by
  have e0 := tx_b1 h hg
  have e1 := sx_ob_b (C := tx_C r) (m := tx_m r) (w := w1) (b := b) (j := j) (M := 8589934592) (tx_m32 h) h1 (fun i => tx_b2 h hg i j) (by unfold tx_D at e0; omega)
  have e2 := sx_ob_b (C := tx_C r) (m := tx_m r) (w := w2) (b := b) (j := j) (M := 8589934592) (tx_m32 h) h2 (fun i => tx_b2 h hg i j) (by unfold tx_D at e0; omega)
  have e3 := tx_b2 h hg i j
  unfold tx_T tx_o
  split
  · omega
  · split <;> omega
theorem tx_pv {r : Nat → Int32} {w1 w2 : Nat → Int} {b : Nat → Nat} {i k : Nat} (c j : Nat) (hk : k < tx_m r) (hik : i ≠ k) : tx_D r b * tx_T r w1 w2 (sx_u b k c) i j = tx_T r w1 w2 b i j * tx_t r b k c - tx_T r w1 w2 b i c * tx_t r b k j := by
  unfold tx_T
  split
  · rename_i hi; exact sx_pv c j hi hk hik
  · split
    · exact sx_po w1 c j hk
    · exact sx_po w2 c j hk
theorem tx_pr {r : Nat → Int32} {w1 w2 : Nat → Int} {b : Nat → Nat} {k : Nat} (c j : Nat) (hk : k < tx_m r) : tx_T r w1 w2 (sx_u b k c) k j = tx_T r w1 w2 b k j := by
  unfold tx_T
  rw [if_pos hk, if_pos hk]
  exact sx_pr k c j
/-- longs that stay within -/
theorem ab_mul {x y A B : Int} (hx : -A ≤ x ∧ x ≤ A) (hy : -B ≤ y ∧ y ≤ B) : -(A * B) ≤ x * y ∧ x * y ≤ A * B := by
  have k : ∀ u v : Int, 0 ≤ u → u ≤ A → 0 ≤ v → v ≤ B → u * v ≤ A * B := fun u v h1 h2 h3 h4 => Int.mul_le_mul h2 h4 h3 (by omega)
  have z : ∀ u v : Int, 0 ≤ u → 0 ≤ v → 0 ≤ u * v := fun u v h1 h2 => Int.mul_nonneg h1 h2
  rcases Int.le_total 0 x with a | a <;> rcases Int.le_total 0 y with c | c
  · have := k x y a hx.2 c hy.2; have := z x y a c; omega
  · have := k x (-y) a hx.2 (by omega) (by omega); have := z x (-y) a (by omega); rw [Int.mul_neg] at *; omega
  · have := k (-x) y (by omega) (by omega) c hy.2; have := z (-x) y (by omega) c; rw [Int.neg_mul] at *; omega
  · have := k (-x) (-y) (by omega) (by omega) (by omega) (by omega); have := z (-x) (-y) (by omega) (by omega); rw [Int.neg_mul_neg] at *; omega
theorem bm64 {z : Int} (h : -9223372036854775808 ≤ z ∧ z ≤ 9223372036854775807) : z.bmod (2 ^ 64) = z := Int.bmod_eq_of_le (by omega) (by omega)
theorem l_mul {x y : Int64} (h : -9223372036854775808 ≤ x.toInt * y.toInt ∧ x.toInt * y.toInt ≤ 9223372036854775807) : (x * y).toInt = x.toInt * y.toInt := by rw [Int64.toInt_mul, bm64 h]
theorem l_sub {x y : Int64} (h : -9223372036854775808 ≤ x.toInt - y.toInt ∧ x.toInt - y.toInt ≤ 9223372036854775807) : (x - y).toInt = x.toInt - y.toInt := by rw [Int64.toInt_sub, bm64 h]
theorem l_div {x y : Int64} {z : Int} (hy : y.toInt ≠ 0) (e : x.toInt = y.toInt * z) (h : -9223372036854775808 ≤ z ∧ z ≤ 9223372036854775807) : (x / y).toInt = z := by rw [Int64.toInt_div, e, Int.mul_tdiv_cancel_left z hy, bm64 h]
theorem lg_c (x y : Int64) : (lg_cmp x y = 1 ∧ y.toInt < x.toInt) ∨ (lg_cmp x y = 0 ∧ x.toInt = y.toInt) ∨ (lg_cmp x y = -1 ∧ x.toInt < y.toInt) := by
  unfold lg_cmp
  split
  · rename_i c; exact Or.inl ⟨rfl, Int64.lt_iff_toInt_lt.mp c⟩
  · rename_i c
    split
    · rename_i d; exact Or.inr (Or.inl ⟨rfl, by rw [d]⟩)
    · rename_i d
      refine Or.inr (Or.inr ⟨rfl, ?_⟩)
      have h1 : ¬ y.toInt < x.toInt := fun z => c (Int64.lt_iff_toInt_lt.mpr z)
      have h2 : x.toInt ≠ y.toInt := fun z => d (Int64.toInt_inj.mp z)
      omega
theorem lg_gt {x y : Int64} : 0 < lg_cmp x y ↔ y.toInt < x.toInt := by
  rcases lg_c x y with ⟨e, h⟩ | ⟨e, h⟩ | ⟨e, h⟩ <;> rw [e]
  · exact ⟨fun _ => h, fun _ => by decide⟩
  · exact ⟨fun z => absurd z (by decide), fun z => by omega⟩
  · exact ⟨fun z => absurd z (by decide), fun z => by omega⟩
theorem lg_lt {x y : Int64} : lg_cmp x y < 0 ↔ x.toInt < y.toInt := by
  rcases lg_c x y with ⟨e, h⟩ | ⟨e, h⟩ | ⟨e, h⟩ <;> rw [e]
  · exact ⟨fun z => absurd z (by decide), fun z => by omega⟩
  · exact ⟨fun z => absurd z (by decide), fun z => by omega⟩
  · exact ⟨fun _ => h, fun _ => by decide⟩
theorem lg_0 {x y : Int64} : lg_cmp x y = 0 ↔ x.toInt = y.toInt := by
  rcases lg_c x y with ⟨e, h⟩ | ⟨e, h⟩ | ⟨e, h⟩ <;> rw [e]
  · exact ⟨fun z => absurd z (by decide), fun z => by omega⟩
  · exact ⟨fun _ => h, fun _ => rfl⟩
  · exact ⟨fun z => absurd z (by decide), fun z => by omega⟩
theorem lg_ge {x y : Int64} : 0 ≤ lg_cmp x y ↔ y.toInt ≤ x.toInt := by
  rcases lg_c x y with ⟨e, h⟩ | ⟨e, h⟩ | ⟨e, h⟩ <;> rw [e]
  · exact ⟨fun _ => by omega, fun _ => by decide⟩
  · exact ⟨fun _ => by omega, fun _ => by decide⟩
  · exact ⟨fun z => absurd z (by decide), fun z => by omega⟩
theorem ti_0 : (0 : Int64).toInt = 0 := by decide
theorem i_0 : (0 : Int32).toInt = 0 := by decide
theorem i_le {x y : Int32} : x ≤ y ↔ x.toInt ≤ y.toInt := Int32.le_iff_toInt_le
theorem i_lt {x y : Int32} : x < y ↔ x.toInt < y.toInt := Int32.lt_iff_toInt_lt
theorem i_inc {x : Int32} {k : Nat} (h : x.toInt = (k : Int)) (hk : k < 2147483647) : (x + 1).toInt = ((k + 1 : Nat) : Int) := by
  rw [Int32.toInt_add, show (1 : Int32).toInt = 1 from by decide, bm (by omega) (by omega), h]
  omega
theorem i_add {x y : Int32} {a b : Int} (h : x.toInt = a) (k : y.toInt = b) (hk : -2147483648 ≤ a + b ∧ a + b ≤ 2147483647) : (x + y).toInt = a + b := by
  rw [Int32.toInt_add, h, k, bm hk.1 hk.2]
theorem i_sub {x y : Int32} {a b : Int} (h : x.toInt = a) (k : y.toInt = b) (hk : -2147483648 ≤ a - b ∧ a - b ≤ 2147483647) : (x - y).toInt = a - b := by
  rw [Int32.toInt_sub, h, k, bm hk.1 hk.2]
theorem i_nat {x : Int32} {k : Nat} (h : x.toInt = (k : Int)) : x.toNatClampNeg = k := by
  show x.toInt.toNat = k
  omega
theorem i_vp {x : Int32} {k n : Nat} (h : x.toInt = (k : Int)) (hk : k < n) : vp_in x n := vp_in_iff.mpr ⟨by omega, by omega⟩
/-- the place of a cell -/
theorem ce_v {x y : Int32} {i j : Nat} (hx : x.toInt = (i : Int)) (hy : y.toInt = (j : Int)) (hi : i ≤ 33) (hj : j ≤ 96) : ((97 * x) + y).toInt = ((97 * i + j : Nat) : Int) := by
  have e : (97 * x).toInt = 97 * (i : Int) := by
    rw [Int32.toInt_mul, show (97 : Int32).toInt = 97 from by decide, hx, bm (by omega) (by omega)]
  rw [i_add e hy (by omega)]
  omega
theorem ce_p {x y : Int32} {i j : Nat} (hx : x.toInt = (i : Int)) (hy : y.toInt = (j : Int)) (hi : i ≤ 33) (hj : j ≤ 96) : vp_in ((97 * x) + y) 3298 := i_vp (ce_v hx hy hi hj) (by omega)
theorem ce_n {x y : Int32} {i j : Nat} (hx : x.toInt = (i : Int)) (hy : y.toInt = (j : Int)) (hi : i ≤ 33) (hj : j ≤ 96) : ((97 * x) + y).toNatClampNeg = 97 * i + j := i_nat (ce_v hx hy hi hj)
theorem ce_ne {i j i' j' : Nat} (hj : j ≤ 96) (hj' : j' ≤ 96) (h : ¬ (i' = i ∧ j' = j)) : 97 * i' + j' ≠ 97 * i + j := by
  intro e
  apply h
  omega
