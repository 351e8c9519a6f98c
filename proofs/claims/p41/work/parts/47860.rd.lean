/-! THE TEXT as a function of the tape: tokens, words, numbers; what both readers compute -/
def rx_sf (q : Int32 → Bool) (T : Nat → Int32) (n : Nat) : Nat → Nat → Nat
  | 0, p => p
  | k + 1, p => if p < n ∧ q (T p) = true then rx_sf q T n k (p + 1) else p
/-- the first place from p on that isn't of the kind q, or n -/
def rx_sc (q : Int32 → Bool) (T : Nat → Int32) (n p : Nat) : Nat := rx_sf q T n (n - p) p
theorem rx_stop {q : Int32 → Bool} {T : Nat → Int32} {n p : Nat} (h : ¬ (p < n ∧ q (T p) = true)) : rx_sc q T n p = p := by
  unfold rx_sc
  cases n - p with
  | zero => rfl
  | succ k => exact if_neg h
theorem rx_step {q : Int32 → Bool} {T : Nat → Int32} {n p : Nat} (h : p < n ∧ q (T p) = true) : rx_sc q T n p = rx_sc q T n (p + 1) := by
  unfold rx_sc
  have e : n - p = (n - (p + 1)) + 1 := by omega
  rw [e]
  exact if_pos h
theorem rx_sf_ge {q : Int32 → Bool} {T : Nat → Int32} {n : Nat} : ∀ k p, p ≤ rx_sf q T n k p
  | 0, p => Nat.le_refl p
  | k + 1, p => by
    show p ≤ (if p < n ∧ q (T p) = true then rx_sf q T n k (p + 1) else p)
    split
    · exact Nat.le_trans (Nat.le_succ p) (rx_sf_ge k (p + 1))
    · exact Nat.le_refl p
theorem rx_sf_le {q : Int32 → Bool} {T : Nat → Int32} {n : Nat} : ∀ k p, p ≤ n → rx_sf q T n k p ≤ n
  | 0, p, h => h
  | k + 1, p, h => by
    show (if p < n ∧ q (T p) = true then rx_sf q T n k (p + 1) else p) ≤ n
    split
    · rename_i c
      exact rx_sf_le k (p + 1) c.1
    · exact h
theorem rx_ge (q : Int32 → Bool) (T : Nat → Int32) (n p : Nat) : p ≤ rx_sc q T n p := rx_sf_ge _ p
theorem rx_le {q : Int32 → Bool} {T : Nat → Int32} {n p : Nat} (h : p ≤ n) : rx_sc q T n p ≤ n := rx_sf_le _ p h
/-- what stands between is of the kind -/
theorem rx_sf_in {q : Int32 → Bool} {T : Nat → Int32} {n : Nat} : ∀ k p i, p ≤ i → i < rx_sf q T n k p → i < n ∧ q (T i) = true
  | 0, p, i, h1, h2 => absurd h1 (Nat.not_le.mpr h2)
  | k + 1, p, i, h1, h2 => by
    change i < (if p < n ∧ q (T p) = true then rx_sf q T n k (p + 1) else p) at h2
    split at h2
    · rename_i c
      rcases Nat.eq_or_lt_of_le h1 with e | e
      · subst e; exact c
      · exact rx_sf_in k (p + 1) i e h2
    · exact absurd h1 (Nat.not_le.mpr h2)
theorem rx_in {q : Int32 → Bool} {T : Nat → Int32} {n p i : Nat} (h1 : p ≤ i) (h2 : i < rx_sc q T n p) : i < n ∧ q (T i) = true := rx_sf_in _ p i h1 h2
theorem rx_sf_at {q : Int32 → Bool} {T : Nat → Int32} {n : Nat} : ∀ k p, n - p ≤ k → ¬ (rx_sf q T n k p < n ∧ q (T (rx_sf q T n k p)) = true)
  | 0, p, h => fun c => by
    have : p < n := c.1
    omega
  | k + 1, p, h => by
    show ¬ ((if p < n ∧ q (T p) = true then rx_sf q T n k (p + 1) else p) < n ∧ q (T (if p < n ∧ q (T p) = true then rx_sf q T n k (p + 1) else p)) = true)
    split
    · exact rx_sf_at k (p + 1) (by omega)
    · rename_i c
      exact c
/-- where it stops, it isn't -/
theorem rx_at (q : Int32 → Bool) (T : Nat → Int32) (n p : Nat) : ¬ (rx_sc q T n p < n ∧ q (T (rx_sc q T n p)) = true) := rx_sf_at _ p (Nat.le_refl _)
def rx_b (c : Int32) : Bool := c == 32
def rx_l (c : Int32) : Bool := decide (97 ≤ c ∧ c ≤ 122)
def rx_d (c : Int32) : Bool := decide (48 ≤ c ∧ c ≤ 57)
/-- the token that is found from e on: its start, its end, its kind, its number (at k digits), its word (at k letters) -/
def rx_s (T : Nat → Int32) (n e : Nat) : Nat := rx_sc rx_b T n e
def rx_e (T : Nat → Int32) (n e : Nat) : Nat := if rx_s T n e < n then (if rx_l (T (rx_s T n e)) = true then rx_sc rx_l T n (rx_s T n e) else if rx_d (T (rx_s T n e)) = true then rx_sc rx_d T n (rx_s T n e) else rx_s T n e + 1) else rx_s T n e
def rx_k (T : Nat → Int32) (n e : Nat) : Int32 := if rx_s T n e < n then (if rx_l (T (rx_s T n e)) = true then (if rx_e T n e - rx_s T n e ≤ 8 then 2 else 1) else if rx_d (T (rx_s T n e)) = true then (if rx_e T n e - rx_s T n e ≤ 3 then 3 else 1) else if T (rx_s T n e) = 59 ∨ T (rx_s T n e) = 44 ∨ T (rx_s T n e) = 45 then T (rx_s T n e) else 1) else 0
def rx_vs (T : Nat → Int32) (s : Nat) : Nat → Int32
  | 0 => 0
  | k + 1 => 10 * rx_vs T s k + T (s + k) - 48
def rx_ws (T : Nat → Int32) (s : Nat) : Nat → Int64
  | 0 => 0
  | k + 1 => rx_ws T s k <<< 5 ||| (T (s + k) - 97 + 1).toInt64
def rx_v (T : Nat → Int32) (n e : Nat) : Int32 := rx_vs T (rx_s T n e) (rx_e T n e - rx_s T n e)
def rx_w (T : Nat → Int32) (n e : Nat) : Int64 := rx_ws T (rx_s T n e) (rx_e T n e - rx_s T n e)
theorem rx_s_ge (T : Nat → Int32) (n e : Nat) : e ≤ rx_s T n e := rx_ge _ _ _ _
theorem rx_s_le {T : Nat → Int32} {n e : Nat} (h : e ≤ n) : rx_s T n e ≤ n := rx_le h
theorem rx_e_ge (T : Nat → Int32) (n e : Nat) : rx_s T n e ≤ rx_e T n e := by
  unfold rx_e
  split
  · split
    · exact rx_ge _ _ _ _
    · split
      · exact rx_ge _ _ _ _
      · exact Nat.le_succ _
  · exact Nat.le_refl _
theorem rx_e_le {T : Nat → Int32} {n e : Nat} (h : e ≤ n) : rx_e T n e ≤ n := by
  have h0 := rx_s_le (T := T) h
  unfold rx_e
  split
  · rename_i c
    split
    · exact rx_le h0
    · split
      · exact rx_le h0
      · exact c
  · exact h0
/-- a token that isn't the end takes at least a sign -/
theorem rx_e_gt {T : Nat → Int32} {n e : Nat} (h : rx_s T n e < n) : rx_s T n e < rx_e T n e := by
  unfold rx_e
  rw [if_pos h]
  split
  · rename_i c
    rw [rx_step ⟨h, c⟩]
    exact rx_ge _ _ _ _
  · split
    · rename_i c
      rw [rx_step ⟨h, c⟩]
      exact rx_ge _ _ _ _
    · exact Nat.lt_succ_self _
theorem rx_k0 {T : Nat → Int32} {n e : Nat} (h : rx_s T n e < n) : ¬ rx_k T n e = 0 := by
  unfold rx_k
  rw [if_pos h]
  split
  · split <;> decide
  · split
    · split <;> decide
    · split
      · rename_i c
        rcases c with c | c | c <;> rw [c] <;> decide
      · decide
def rx_wd (T : Nat → Int32) (n e : Nat) (w : List Int32) : Bool := decide (rx_k T n e = 2 ∧ rx_e T n e - rx_s T n e = w.length) && (List.range w.length).all (fun i => T (rx_s T n e + i) == w.getD i 0)
def rx_bar (T : Nat → Int32) (n e : Nat) : Bool := (List.range 7).any (fun i => rx_wd T n e (bytJS.getD i []))
def rx_nm (T : Nat → Int32) (n e : Nat) : Bool := decide (rx_k T n e = 2) && !rx_bar T n e
/-- names, in the layout of the reference's lists: sizes from 211, letters from 226 -/
def rx_is (T : Nat → Int32) (n e : Nat) (f : Nat → Int32) (j : Nat) : Bool := decide (0 < f (211 + j) ∧ f (211 + j) = Int32.ofNat (rx_e T n e - rx_s T n e)) && (List.range (rx_e T n e - rx_s T n e)).all (fun i => f (226 + 8 * j + i) == T (rx_s T n e + i))
def rx_fd (T : Nat → Int32) (n e : Nat) (f : Nat → Int32) : Option Nat := (List.range 15).find? (fun j => rx_is T n e f j)
def rx_set (f : Nat → Int32) (j : Nat) (v : Int32) : Nat → Int32 := fun i => if i = j then v else f i
def rx_put (T : Nat → Int32) (n e : Nat) (f : Nat → Int32) (j : Nat) : Nat → Int32 := fun i => if i = 211 + j then Int32.ofNat (rx_e T n e - rx_s T n e) else if 226 + 8 * j ≤ i ∧ i < 226 + 8 * j + (rx_e T n e - rx_s T n e) then T (rx_s T n e + (i - (226 + 8 * j))) else f i
/-- what a piece of the text comes to: a FAULT's number and place, or an answer, the place behind it, and the draft -/
abbrev rx_O (α : Type) : Type := (Int32 × Nat) ⊕ (α × Nat × (Nat → Int32))
def rx_bind {α β : Type} (x : rx_O α) (k : α → Nat → (Nat → Int32) → rx_O β) : rx_O β := match x with
  | .inl q => .inl q
  | .inr (a, e, f) => k a e f
def rx_no {α : Type} (T : Nat → Int32) (n e : Nat) (w : Int32) : rx_O α := .inl (w, rx_s T n e)
def rx_word (T : Nat → Int32) (n : Nat) (i e : Nat) (f : Nat → Int32) : rx_O Unit := if rx_wd T n e (bytJS.getD i []) = true then .inr ((), rx_e T n e, f) else rx_no T n e 1
def rx_sign (T : Nat → Int32) (n : Nat) (c : Int32) (e : Nat) (f : Nat → Int32) : rx_O Unit := if rx_k T n e = c then .inr ((), rx_e T n e, f) else rx_no T n e 1
def rx_num (T : Nat → Int32) (n : Nat) (lo hi : Int32) (e : Nat) (f : Nat → Int32) : rx_O Int32 := if ¬ rx_k T n e = 3 then rx_no T n e 1 else if lo ≤ rx_v T n e ∧ rx_v T n e ≤ hi then .inr (rx_v T n e, rx_e T n e, f) else rx_no T n e 4
/-- a NAME that is there already, of its sort (looks from 0, points from 6) -/
def rx_name (T : Nat → Int32) (n : Nat) (look : Bool) (e : Nat) (f : Nat → Int32) : rx_O Nat := if rx_nm T n e = true then (match rx_fd T n e f with
  | none => rx_no T n e 2
  | some j => if decide (j < 6) = look then .inr ((if look = true then j else j - 6), rx_e T n e, f) else rx_no T n e 2) else rx_no T n e 1
