/-! THE TEXT as a function of the tape: tokens, words, numbers; what both readers compute -/
def rx_sf (q : Int32 → Bool) (T : Nat → Int32) (n : Nat) : Nat → Nat → Nat
  | 0, p => p
  | k + 1, p => if p < n ∧ q (T p) = true then rx_sf q T n k (p + 1) else p
/-- the first place from p on that isn't of the kind q, or n -/
def rx_sc (q : Int32 → Bool) (T : Nat → Int32) (n p : Nat) : Nat := rx_sf q T n (n - p) p
theorem rx_stop {q : Int32 → Bool} {T : Nat → Int32} {n p : Nat} (h : ¬ (p < n ∧ q (T p) = true)) : rx_sc q T n p = p := by
  unfold rx_sc
  cases n - p with
  | zero => rfl
  | succ k => exact if_neg h
theorem rx_step {q : Int32 → Bool} {T : Nat → Int32} {n p : Nat} (h : p < n ∧ q (T p) = true) : rx_sc q T n p = rx_sc q T n (p + 1) := by
  unfold rx_sc
  have e : n - p = (n - (p + 1)) + 1 := by omega
  rw [e]
  exact if_pos h
theorem rx_sf_ge {q : Int32 → Bool} {T : Nat → Int32} {n : Nat} : ∀ k p, p ≤ rx_sf q T n k p
  | 0, p => Nat.le_refl p
  | k + 1, p => by
    show p ≤ (if p < n ∧ q (T p) = true then rx_sf q T n k (p + 1) else p)
    split
    · exact Nat.le_trans (Nat.le_succ p) (rx_sf_ge k (p + 1))
    · exact Nat.le_refl p
theorem rx_sf_le {q : Int32 → Bool} {T : Nat → Int32} {n : Nat} : ∀ k p, p ≤ n → rx_sf q T n k p ≤ n
  | 0, p, h => h
  | k + 1, p, h => by
    show (if p < n ∧ q (T p) = true then rx_sf q T n k (p + 1) else p) ≤ n
    split
    · rename_i c
      exact rx_sf_le k (p + 1) c.1
    · exact h
theorem rx_ge (q : Int32 → Bool) (T : Nat → Int32) (n p : Nat) : p ≤ rx_sc q T n p := rx_sf_ge _ p
theorem rx_le {q : Int32 → Bool} {T : Nat → Int32} {n p : Nat} (h : p ≤ n) : rx_sc q T n p ≤ n := rx_sf_le _ p h
/-- what stands between is of the kind -/
theorem rx_sf_in {q : Int32 → Bool} {T : Nat → Int32} {n : Nat} : ∀ k p i, p ≤ i → i < rx_sf q T n k p → i < n ∧ q (T i) = true
  | 0, p, i, h1, h2 => absurd h1 (Nat.not_le.mpr h2)
  | k + 1, p, i, h1, h2 => by
    change i < (if p < n ∧ q (T p) = true then rx_sf q T n k (p + 1) else p) at h2
    split at h2
    · rename_i c
      rcases Nat.eq_or_lt_of_le h1 with e | e
      · subst e; exact c
      · exact rx_sf_in k (p + 1) i e h2
    · exact absurd h1 (Nat.not_le.mpr h2)
theorem rx_in {q : Int32 → Bool} {T : Nat → Int32} {n p i : Nat} (h1 : p ≤ i) (h2 : i < rx_sc q T n p) : i < n ∧ q (T i) = true := rx_sf_in _ p i h1 h2
def rx_b (c : Int32) : Bool := c == 32
def rx_l (c : Int32) : Bool := decide (97 ≤ c ∧ c ≤ 122)
def rx_d (c : Int32) : Bool := decide (48 ≤ c ∧ c ≤ 57)
/-- the token that is found from e on: its start, its end, its kind, its number (at k digits), its word (at k letters) -/
def rx_s (T : Nat → Int32) (n e : Nat) : Nat := rx_sc rx_b T n e
def rx_e (T : Nat → Int32) (n e : Nat) : Nat := if rx_s T n e < n then (if rx_l (T (rx_s T n e)) = true then rx_sc rx_l T n (rx_s T n e) else if rx_d (T (rx_s T n e)) = true then rx_sc rx_d T n (rx_s T n e) else rx_s T n e + 1) else rx_s T n e
def rx_k (T : Nat → Int32) (n e : Nat) : Int32 := if rx_s T n e < n then (if rx_l (T (rx_s T n e)) = true then (if rx_e T n e - rx_s T n e ≤ 8 then 2 else 1) else if rx_d (T (rx_s T n e)) = true then (if rx_e T n e - rx_s T n e ≤ 3 then 3 else 1) else if T (rx_s T n e) = 59 ∨ T (rx_s T n e) = 44 ∨ T (rx_s T n e) = 45 then T (rx_s T n e) else 1) else 0
def rx_vs (T : Nat → Int32) (s : Nat) : Nat → Int32
  | 0 => 0
  | k + 1 => 10 * rx_vs T s k + T (s + k) - 48
def rx_ws (T : Nat → Int32) (s : Nat) : Nat → Int64
  | 0 => 0
  | k + 1 => rx_ws T s k <<< 5 ||| (T (s + k) - 97 + 1).toInt64
def rx_v (T : Nat → Int32) (n e : Nat) : Int32 := rx_vs T (rx_s T n e) (rx_e T n e - rx_s T n e)
def rx_w (T : Nat → Int32) (n e : Nat) : Int64 := rx_ws T (rx_s T n e) (rx_e T n e - rx_s T n e)
theorem rx_s_ge (T : Nat → Int32) (n e : Nat) : e ≤ rx_s T n e := rx_ge _ _ _ _
theorem rx_s_le {T : Nat → Int32} {n e : Nat} (h : e ≤ n) : rx_s T n e ≤ n := rx_le h
theorem rx_e_ge (T : Nat → Int32) (n e : Nat) : rx_s T n e ≤ rx_e T n e := by
  unfold rx_e
  split
  · split
    · exact rx_ge _ _ _ _
    · split
      · exact rx_ge _ _ _ _
      · exact Nat.le_succ _
  · exact Nat.le_refl _
theorem rx_e_le {T : Nat → Int32} {n e : Nat} (h : e ≤ n) : rx_e T n e ≤ n := by
  have h0 := rx_s_le (T := T) h
  unfold rx_e
  split
  · rename_i c
    split
    · exact rx_le h0
    · split
      · exact rx_le h0
      · exact c
  · exact h0
/-- a token that isn't the end takes at least a sign -/
theorem rx_e_gt {T : Nat → Int32} {n e : Nat} (h : rx_s T n e < n) : rx_s T n e < rx_e T n e := by
  unfold rx_e
  rw [if_pos h]
  split
  · rename_i c
    rw [rx_step ⟨h, c⟩]
    exact rx_ge _ _ _ _
  · split
    · rename_i c
      rw [rx_step ⟨h, c⟩]
      exact rx_ge _ _ _ _
    · exact Nat.lt_succ_self _
def rx_wd (T : Nat → Int32) (n e : Nat) (w : List Int32) : Bool := decide (rx_k T n e = 2 ∧ rx_e T n e - rx_s T n e = w.length) && (List.range w.length).all (fun i => T (rx_s T n e + i) == w.getD i 0)
def rx_bar (T : Nat → Int32) (n e : Nat) : Bool := (List.range 7).any (fun i => rx_wd T n e (bytJS.getD i []))
def rx_nm (T : Nat → Int32) (n e : Nat) : Bool := decide (rx_k T n e = 2) && !rx_bar T n e
/-- names, in the layout of the reference's lists: sizes from 211, letters from 226 -/
def rx_is (T : Nat → Int32) (n e : Nat) (f : Nat → Int32) (j : Nat) : Bool := decide (0 < f (211 + j) ∧ f (211 + j) = Int32.ofNat (rx_e T n e - rx_s T n e)) && (List.range (rx_e T n e - rx_s T n e)).all (fun i => f (226 + 8 * j + i) == T (rx_s T n e + i))
def rx_fd (T : Nat → Int32) (n e : Nat) (f : Nat → Int32) : Option Nat := (List.range 15).find? (fun j => rx_is T n e f j)
def rx_set (f : Nat → Int32) (j : Nat) (v : Int32) : Nat → Int32 := fun i => if i = j then v else f i
def rx_put (T : Nat → Int32) (n e : Nat) (f : Nat → Int32) (j : Nat) : Nat → Int32 := fun i => if i = 211 + j then Int32.ofNat (rx_e T n e - rx_s T n e) else if 226 + 8 * j ≤ i ∧ i < 226 + 8 * j + (rx_e T n e - rx_s T n e) then T (rx_s T n e + (i - (226 + 8 * j))) else f i
/-- what a piece of the text comes to: a FAULT's number and place, or an answer, the place behind it, and the draft -/
abbrev rx_O (α : Type) : Type := (Int32 × Nat) ⊕ (α × Nat × (Nat → Int32))
def rx_bind {α β : Type} (x : rx_O α) (k : α → Nat → (Nat → Int32) → rx_O β) : rx_O β := match x with
  | .inl q => .inl q
  | .inr (a, e, f) => k a e f
def rx_no {α : Type} (T : Nat → Int32) (n e : Nat) (w : Int32) : rx_O α := .inl (w, rx_s T n e)
def rx_word (T : Nat → Int32) (n : Nat) (i e : Nat) (f : Nat → Int32) : rx_O Unit := if rx_wd T n e (bytJS.getD i []) = true then .inr ((), rx_e T n e, f) else rx_no T n e 1
def rx_sign (T : Nat → Int32) (n : Nat) (c : Int32) (e : Nat) (f : Nat → Int32) : rx_O Unit := if rx_k T n e = c then .inr ((), rx_e T n e, f) else rx_no T n e 1
def rx_num (T : Nat → Int32) (n : Nat) (lo hi : Int32) (e : Nat) (f : Nat → Int32) : rx_O Int32 := if ¬ rx_k T n e = 3 then rx_no T n e 1 else if lo ≤ rx_v T n e ∧ rx_v T n e ≤ hi then .inr (rx_v T n e, rx_e T n e, f) else rx_no T n e 4
/-- a NAME that is there already, of its sort (looks from 0, points from 6) -/
def rx_name (T : Nat → Int32) (n : Nat) (look : Bool) (e : Nat) (f : Nat → Int32) : rx_O Nat := if rx_nm T n e = true then (match rx_fd T n e f with
  | none => rx_no T n e 2
  | some j => if decide (j < 6) = look then .inr ((if look = true then j else j - 6), rx_e T n e, f) else rx_no T n e 2) else rx_no T n e 1
/-! the class's next() finds the token -/
theorem rx_eq {q : Int32 → Bool} {T : Nat → Int32} {n : Nat} : ∀ (k s p : Nat), p - s = k → s ≤ p → (∀ i, s ≤ i → i < p → i < n ∧ q (T i) = true) → ¬ (p < n ∧ q (T p) = true) → rx_sc q T n s = p
  | 0, s, p, hk, hsp, _, hx => by
    have : s = p := by omega
    subst this
    exact rx_stop hx
  | k + 1, s, p, hk, hsp, hi, hx => by
    rw [rx_step (hi s (Nat.le_refl _) (by omega))]
    exact rx_eq k (s + 1) p (by omega) (by omega) (fun i h1 h2 => hi i (by omega) h2) hx
def Tp (h : mh_T) (T : Nat → Int32) (n : Nat) : Prop := (mI h 1 6).toInt = (n : Int) ∧ n ≤ 900 ∧ ∀ j, j < n → mI h 12 j = T j
def Tk (h : mh_T) (T : Nat → Int32) (n e : Nat) : Prop := (mI h 1 9).toInt = (rx_s T n e : Int) ∧ (mI h 1 7).toInt = (rx_e T n e : Int) ∧ mI h 1 8 = rx_k T n e ∧ (rx_k T n e = 3 → mI h 1 11 = rx_v T n e) ∧ (rx_k T n e = 2 → mL h 1 10 = rx_w T n e)
def Kp (h h' : mh_T) : Prop := Ok [1] h h' ∧ ∀ j, j < 7 → mI h' 1 j = mI h 1 j
theorem Kp_rf {h : mh_T} (hG : GI h) : Kp h h := ⟨Ok_rf hG, fun _ _ => rfl⟩
theorem Kp_tr {h h1 h2 : mh_T} (a : Kp h h1) (b : Kp h1 h2) : Kp h h2 := ⟨Ok_tr a.1 b.1 (by decide), fun j hj => (b.2 j hj).trans (a.2 j hj)⟩
theorem Kp_w {h0 h : mh_T} (a : Kp h0 h) {j : Nat} {v : Int32} (hj : 7 ≤ j) {lo hi : Int} (e : rgT 1 j = (lo, hi)) (f : R lo hi v) : Kp h0 (wI h 1 j v) :=
  ⟨Ok_w a.1 e f (by decide) (by omega), fun i hi => by rw [mI_wI, if_neg (by omega)]; exact a.2 i hi⟩
theorem Kp_wL {h0 h : mh_T} (a : Kp h0 h) {j : Nat} {v : Int64} : Kp h0 (wL h 1 j v) := ⟨Ok_wL a.1 (by decide), fun i hi => a.2 i hi⟩
theorem Tp_k {h h' : mh_T} {T : Nat → Int32} {n : Nat} (a : Kp h h') (t : Tp h T n) : Tp h' T n :=
  ⟨by rw [a.2 6 (by decide)]; exact t.1, t.2.1, fun j hj => by
    have := (a.1.2.1 12 (by decide) (by decide)).1
    show h'.1 12 j = T j
    rw [this]
    exact t.2.2 j hj⟩
theorem rx_li {c : Int32} : rx_l c = true ↔ ¬ c < 97 ∧ ¬ 122 < c := by
  unfold rx_l
  rw [decide_eq_true_iff, i_le, i_le, i_lt, i_lt]
  omega
theorem rx_di {c : Int32} : rx_d c = true ↔ ¬ c < 48 ∧ ¬ 57 < c := by
  unfold rx_d
  rw [decide_eq_true_iff, i_le, i_le, i_lt, i_lt]
  omega
theorem c_isLetter {g : gT} {h : mh_T} {P : Int32 → mh_T → Prop} (c : Int32) (h1 : rx_l c = true → P 1 h) (h0 : ¬ rx_l c = true → P 0 h) : MCi g yX6_isLetter uX6_isLetter [.int c] h P :=
  e_X6_isLetter c ⟨fun a => h0 (fun b => (rx_li.mp b).1 a), fun a => ⟨fun b => h0 (fun d => (rx_li.mp d).2 b), fun b => h1 (rx_li.mpr ⟨a, b⟩)⟩⟩
theorem c_isDigit {g : gT} {h : mh_T} {P : Int32 → mh_T → Prop} (c : Int32) (h1 : rx_d c = true → P 1 h) (h0 : ¬ rx_d c = true → P 0 h) : MCi g yX6_isDigit uX6_isDigit [.int c] h P :=
  e_X6_isDigit c ⟨fun a => h0 (fun b => (rx_di.mp b).1 a), fun a => ⟨fun b => h0 (fun d => (rx_di.mp d).2 b), fun b => h1 (rx_di.mpr ⟨a, b⟩)⟩⟩
theorem c_takeSign {g : gT} {h : mh_T} {P : mh_T → Prop} {T : Nat → Int32} {n e : Nat} (hG : GI h) (hT : Tp h T n) (hen : e ≤ n) (h9 : (mI h 1 9).toInt = (rx_s T n e : Int)) (h7 : (mI h 1 7).toInt = (rx_s T n e : Int)) (hl : ¬ (rx_s T n e < n ∧ rx_l (T (rx_s T n e)) = true)) (hd : ¬ (rx_s T n e < n ∧ rx_d (T (rx_s T n e)) = true)) (hp : ∀ h', Kp h h' → Tk h' T n e → P h') : MCv g yX6_takeSign uX6_takeSign [.ref 1] h P := by
  have hsn := rx_s_le (T := T) hen
  have f8 : ∀ v : Int32, Kp h (wI (wI h 1 8 0) 1 8 v) := fun v => Kp_w (Kp_w (Kp_rf hG) (j := 8) (v := 0) (by decide) (lo := -2147483648) (hi := 2147483647) (by decide) (R_full _)) (j := 8) (v := v) (by decide) (lo := -2147483648) (hi := 2147483647) (by decide) (R_full _)
  have e6 : mI (wI h 1 8 0) 1 6 = mI h 1 6 := by rw [mI_wI, if_neg (by decide)]
  have e7 : mI (wI h 1 8 0) 1 7 = mI h 1 7 := by rw [mI_wI, if_neg (by decide)]
  have e7v : ∀ v : Int32, mI (wI (wI h 1 8 0) 1 8 v) 1 7 = mI h 1 7 := fun v => by rw [mI_wI, if_neg (by decide), mI_wI, if_neg (by decide)]
  have fin : ∀ v : Int32, rx_s T n e < n → v = rx_k T n e → P (wI (wI (wI h 1 8 0) 1 8 v) 1 7 ((mI (wI (wI h 1 8 0) 1 8 v) 1 7) + 1)) := by
    intro v c hv
    rw [e7v v]
    have i7 := i_inc h7 (by have := hT.2.1; omega)
    have ee : rx_e T n e = rx_s T n e + 1 := by
      unfold rx_e
      rw [if_pos c, if_neg (fun a => hl ⟨c, a⟩), if_neg (fun a => hd ⟨c, a⟩)]
    refine hp _ (Kp_w (f8 v) (j := 7) (by decide) (lo := 0) (hi := 900) (by decide) ⟨by omega, by have := hT.2.1; omega⟩) ⟨?_, ?_, ?_, ?_, ?_⟩
    · rw [mI_wI, if_neg (by decide), mI_wI, if_neg (by decide), mI_wI, if_neg (by decide)]; exact h9
    · rw [mI_wI, if_pos ⟨rfl, rfl⟩, ee]; exact i7
    · rw [mI_wI, if_neg (by decide), mI_wI, if_pos ⟨rfl, rfl⟩]; exact hv
    · intro k3
      exfalso
      unfold rx_k at k3
      rw [if_pos c, if_neg (fun a => hl ⟨c, a⟩), if_neg (fun a => hd ⟨c, a⟩)] at k3
      split at k3
      · rename_i z
        rw [k3] at z
        revert z; decide
      · revert k3; decide
    · intro k3
      exfalso
      unfold rx_k at k3
      rw [if_pos c, if_neg (fun a => hl ⟨c, a⟩), if_neg (fun a => hd ⟨c, a⟩)] at k3
      split at k3
      · rename_i z
        rw [k3] at z
        revert z; decide
      · revert k3; decide
  have hk : rx_s T n e < n → rx_k T n e = if T (rx_s T n e) = 59 ∨ T (rx_s T n e) = 44 ∨ T (rx_s T n e) = 45 then T (rx_s T n e) else 1 := by
    intro c
    unfold rx_k
    rw [if_pos c, if_neg (fun a => hl ⟨c, a⟩), if_neg (fun a => hd ⟨c, a⟩)]
  refine e_X6_takeSign ⟨fun c => ?_, fun c => ?_⟩
  · rw [e6, e7, i_le, hT.1, h7] at c
    have hns : ¬ rx_s T n e < n := by omega
    have ee : rx_e T n e = rx_s T n e := by unfold rx_e; rw [if_neg hns]
    have ek : rx_k T n e = 0 := by unfold rx_k; rw [if_neg hns]
    refine hp _ (Kp_w (Kp_rf hG) (j := 8) (by decide) (lo := -2147483648) (hi := 2147483647) (by decide) (R_full _)) ⟨?_, ?_, ?_, ?_, ?_⟩
    · rw [mI_wI, if_neg (by decide)]; exact h9
    · rw [mI_wI, if_neg (by decide), ee]; exact h7
    · rw [mI_wI, if_pos ⟨rfl, rfl⟩, ek]
    · intro k3; rw [ek] at k3; exact absurd k3 (by decide)
    · intro k3; rw [ek] at k3; exact absurd k3 (by decide)
  · rw [e6, e7, i_le, hT.1, h7] at c
    have hs : rx_s T n e < n := by omega
    refine ⟨by rw [e7]; exact i_vp h7 (by have := hT.2.1; omega), fun x3 ex => ?_⟩
    have ex : x3 = T (rx_s T n e) := by
      rw [ex, e7, i_nat h7, mI_wI, if_neg (fun z => absurd z.1 (by decide))]
      exact hT.2.2 _ hs
    have hk := hk hs
    rw [← ex] at hk
    refine ⟨fun a => fin _ hs ?_, fun a => ⟨fun b => fin _ hs ?_, fun b => ⟨fun d => fin _ hs ?_, fun d => fin _ hs ?_⟩⟩⟩
    · rw [hk, if_pos (Or.inl a)]
    · rw [hk, if_pos (Or.inr (Or.inl b))]
    · rw [hk, if_neg (by rintro (z | z | z); exact a z; exact b z; exact d z)]
    · rw [hk, if_pos (Or.inr (Or.inr d))]
/-- a run of signs of one kind from the token's start -/
theorem c_next_d {g : gT} {h0 : mh_T} {P : mh_T → Prop} {T : Nat → Int32} {n e s : Nat} (hT : Tp h0 T n) (hen : e ≤ n) (es : rx_s T n e = s) (hl : ¬ (s < n ∧ rx_l (T s) = true)) (hp : ∀ h', Kp h0 h' → Tk h' T n e → P h') : ∀ (m : Nat) (h : mh_T) (p : Nat), Kp h0 h → (mI h 1 9).toInt = (s : Int) → (mI h 1 7).toInt = (p : Int) → s ≤ p → p ≤ n → n - p < m → (∀ i, s ≤ i → i < p → i < n ∧ rx_d (T i) = true) → mI h 1 11 = rx_vs T s (p - s) → ME g uX6_next 156 [.ref 1] [] h (qV P) := by
  intro m
  induction m with
  | zero => intro h p _ _ _ _ _ hm; exact absurd hm (Nat.not_lt_zero _)
  | succ m ih =>
    intro h p kp h9 h7 hsp hpn hm hin hv
    have hT' := Tp_k kp hT
    have n9 := hT.2.1
    have sg : ¬ (p < n ∧ rx_d (T p) = true) → (mI h 1 7) ≤ (mI h 1 9) → MCv g yX6_takeSign uX6_takeSign [.ref 1] h (fun h3 => P h3) := by
      intro hx c
      rw [i_le, h7, h9] at c
      have : p = s := by omega
      subst this
      subst es
      exact c_takeSign kp.1.1 hT' hen h9 h7 hl hx (fun h' a b => hp h' (Kp_tr kp a) b)
    have dn : ¬ (p < n ∧ rx_d (T p) = true) → ¬ (mI h 1 7) ≤ (mI h 1 9) → (3 < ((mI h 1 7) - (mI h 1 9)) → P (wI h 1 8 1)) ∧ (¬ 3 < ((mI h 1 7) - (mI h 1 9)) → P (wI h 1 8 3)) := by
      intro hx c
      rw [i_le, h7, h9] at c
      have hs : s < n := by omega
      have hd := (hin s (Nat.le_refl _) (by omega)).2
      have ep : rx_sc rx_d T n s = p := rx_eq _ s p rfl hsp hin hx
      have ee : rx_e T n e = p := by
        unfold rx_e
        rw [es, if_pos hs, if_neg (fun a => hl ⟨hs, a⟩), if_pos hd, ep]
      have ek : rx_k T n e = if p - s ≤ 3 then 3 else 1 := by
        unfold rx_k
        rw [ee, es, if_pos hs, if_neg (fun a => hl ⟨hs, a⟩), if_pos hd]
      have i79 : ((mI h 1 7) - (mI h 1 9)).toInt = (p : Int) - s := i_sub h7 h9 (by omega)
      have i3 : (3 : Int32).toInt = 3 := by decide
      have fin : ∀ v : Int32, v = rx_k T n e → P (wI h 1 8 v) := by
        intro v hv8
        refine hp _ (Kp_w kp (j := 8) (by decide) (lo := -2147483648) (hi := 2147483647) (by decide) (R_full _)) ⟨?_, ?_, ?_, ?_, ?_⟩
        · rw [mI_wI, if_neg (by decide), es]; exact h9
        · rw [mI_wI, if_neg (by decide), ee]; exact h7
        · rw [mI_wI, if_pos ⟨rfl, rfl⟩]; exact hv8
        · intro _
          rw [mI_wI, if_neg (by decide), hv]
          unfold rx_v
          rw [ee, es]
        · intro k3
          rw [ek] at k3
          split at k3 <;> exact absurd k3 (by decide)
      rw [i_lt, i79, i3]
      refine ⟨fun a => fin _ ?_, fun a => fin _ ?_⟩
      · rw [ek, if_neg (by omega)]
      · rw [ek, if_pos (by omega)]
    refine r_X6_next_156 ⟨fun c => ?_, fun c => ?_⟩
    · rw [i_le, hT'.1, h7] at c
      have hx : ¬ (p < n ∧ rx_d (T p) = true) := fun z => by have := z.1; omega
      exact ⟨sg hx, dn hx⟩
    · rw [i_le, hT'.1, h7] at c
      have hpl : p < n := by omega
      have eT : mI h 12 (mI h 1 7).toNatClampNeg = T p := by rw [i_nat h7]; exact hT'.2.2 p hpl
      refine ⟨i_vp h7 (by omega), ?_⟩
      rw [eT]
      refine c_isDigit _ (fun d => ⟨fun z => absurd z (by decide), fun _ => ⟨i_vp h7 (by omega), ?_⟩⟩) (fun d => ⟨fun _ => ?_, fun z => absurd rfl z⟩)
      · rw [mI_wI, if_neg (by decide)]
        refine ih _ (p + 1) (Kp_w (Kp_w kp (j := 11) (by decide) (lo := -2147483648) (hi := 2147483647) (by decide) (R_full _)) (j := 7) (by decide) (lo := 0) (hi := 900) (by decide) ?_) ?_ ?_ (by omega) (by omega) (by omega) ?_ ?_
        · have := i_inc h7 (by omega)
          exact ⟨by omega, by omega⟩
        · rw [mI_wI, if_neg (by decide), mI_wI, if_neg (by decide)]; exact h9
        · rw [mI_wI, if_pos ⟨rfl, rfl⟩]; exact i_inc h7 (by omega)
        · intro i h1 h2
          by_cases z : i = p
          · rw [z]; exact ⟨hpl, d⟩
          · exact hin i h1 (by omega)
        · rw [mI_wI, if_neg (by decide), mI_wI, if_pos ⟨rfl, rfl⟩, hv]
          have : p + 1 - s = (p - s) + 1 := by omega
          rw [this]
          show _ = 10 * rx_vs T s (p - s) + T (s + (p - s)) - 48
          rw [show s + (p - s) = p by omega, eT]
      · exact ⟨sg (fun z => d z.2), dn (fun z => d z.2)⟩
theorem c_next_l {g : gT} {h0 : mh_T} {P : mh_T → Prop} {T : Nat → Int32} {n e s : Nat} (hT : Tp h0 T n) (hen : e ≤ n) (es : rx_s T n e = s) (hp : ∀ h', Kp h0 h' → Tk h' T n e → P h') : ∀ (m : Nat) (h : mh_T) (p : Nat), Kp h0 h → (mI h 1 9).toInt = (s : Int) → (mI h 1 7).toInt = (p : Int) → s ≤ p → p ≤ n → n - p < m → (∀ i, s ≤ i → i < p → i < n ∧ rx_l (T i) = true) → mL h 1 10 = rx_ws T s (p - s) → mI h 1 11 = 0 → ME g uX6_next 56 [.ref 1] [] h (qV P) := by
  intro m
  induction m with
  | zero => intro h p _ _ _ _ _ hm; exact absurd hm (Nat.not_lt_zero _)
  | succ m ih =>
    intro h p kp h9 h7 hsp hpn hm hin hv h11
    have hT' := Tp_k kp hT
    have n9 := hT.2.1
    have sg : ¬ (p < n ∧ rx_l (T p) = true) → (mI h 1 7) ≤ (mI h 1 9) → ME g uX6_next 156 [.ref 1] [] h (qV P) := by
      intro hx c
      rw [i_le, h7, h9] at c
      have : p = s := by omega
      subst this
      exact c_next_d hT hen es hx hp _ h p kp h9 h7 hsp hpn (Nat.lt_succ_self _) (fun i h1 h2 => absurd h1 (Nat.not_le.mpr h2)) (by rw [Nat.sub_self]; exact h11)
    have dn : ¬ (p < n ∧ rx_l (T p) = true) → ¬ (mI h 1 7) ≤ (mI h 1 9) → (8 < ((mI h 1 7) - (mI h 1 9)) → P (wI h 1 8 1)) ∧ (¬ 8 < ((mI h 1 7) - (mI h 1 9)) → P (wI h 1 8 2)) := by
      intro hx c
      rw [i_le, h7, h9] at c
      have hs : s < n := by omega
      have hd := (hin s (Nat.le_refl _) (by omega)).2
      have ep : rx_sc rx_l T n s = p := rx_eq _ s p rfl hsp hin hx
      have ee : rx_e T n e = p := by
        unfold rx_e
        rw [es, if_pos hs, if_pos hd, ep]
      have ek : rx_k T n e = if p - s ≤ 8 then 2 else 1 := by
        unfold rx_k
        rw [ee, es, if_pos hs, if_pos hd]
      have i79 : ((mI h 1 7) - (mI h 1 9)).toInt = (p : Int) - s := i_sub h7 h9 (by omega)
      have i8 : (8 : Int32).toInt = 8 := by decide
      have fin : ∀ v : Int32, v = rx_k T n e → P (wI h 1 8 v) := by
        intro v hv8
        refine hp _ (Kp_w kp (j := 8) (by decide) (lo := -2147483648) (hi := 2147483647) (by decide) (R_full _)) ⟨?_, ?_, ?_, ?_, ?_⟩
        · rw [mI_wI, if_neg (by decide), es]; exact h9
        · rw [mI_wI, if_neg (by decide), ee]; exact h7
        · rw [mI_wI, if_pos ⟨rfl, rfl⟩]; exact hv8
        · intro k3
          rw [ek] at k3
          split at k3 <;> exact absurd k3 (by decide)
        · intro _
          rw [mL_wI, hv]
          unfold rx_w
          rw [ee, es]
      rw [i_lt, i79, i8]
      refine ⟨fun a => fin _ ?_, fun a => fin _ ?_⟩
      · rw [ek, if_neg (by omega)]
      · rw [ek, if_pos (by omega)]
    refine r_X6_next_56 ⟨fun c => ?_, fun c => ?_⟩
    · rw [i_le, hT'.1, h7] at c
      have hx : ¬ (p < n ∧ rx_l (T p) = true) := fun z => by have := z.1; omega
      exact ⟨sg hx, dn hx⟩
    · rw [i_le, hT'.1, h7] at c
      have hpl : p < n := by omega
      have eT : mI h 12 (mI h 1 7).toNatClampNeg = T p := by rw [i_nat h7]; exact hT'.2.2 p hpl
      refine ⟨i_vp h7 (by omega), ?_⟩
      rw [eT]
      refine c_isLetter _ (fun d => ⟨fun z => absurd z (by decide), fun _ => ⟨i_vp h7 (by omega), ?_⟩⟩) (fun d => ⟨fun _ => ?_, fun z => absurd rfl z⟩)
      · rw [mI_wL]
        refine ih _ (p + 1) (Kp_w (Kp_wL kp (j := 10)) (j := 7) (by decide) (lo := 0) (hi := 900) (by decide) ?_) ?_ ?_ (by omega) (by omega) (by omega) ?_ ?_ ?_
        · have := i_inc h7 (by omega)
          exact ⟨by omega, by omega⟩
        · rw [mI_wI, if_neg (by decide), mI_wL]; exact h9
        · rw [mI_wI, if_pos ⟨rfl, rfl⟩]; exact i_inc h7 (by omega)
        · intro i h1 h2
          by_cases z : i = p
          · rw [z]; exact ⟨hpl, d⟩
          · exact hin i h1 (by omega)
        · rw [mL_wI, mL_wL, if_pos ⟨rfl, rfl⟩, hv]
          have : p + 1 - s = (p - s) + 1 := by omega
          rw [this]
          show _ = rx_ws T s (p - s) <<< 5 ||| (T (s + (p - s)) - 97 + 1).toInt64
          rw [show s + (p - s) = p by omega, eT, show (Int32.toInt64 5 &&& 63) = (5 : Int64) from by decide]
        · rw [mI_wI, if_neg (by decide), mI_wL]; exact h11
      · exact ⟨sg (fun z => d z.2), dn (fun z => d z.2)⟩
theorem c_next_b {g : gT} {h0 : mh_T} {P : mh_T → Prop} {T : Nat → Int32} {n e : Nat} (hT : Tp h0 T n) (hen : e ≤ n) (hp : ∀ h', Kp h0 h' → Tk h' T n e → P h') : ∀ (m : Nat) (h : mh_T) (p : Nat), Kp h0 h → (mI h 1 7).toInt = (p : Int) → p ≤ n → n - p < m → rx_s T n p = rx_s T n e → ((mI h 1 6) ≤ (mI h 1 7) → ME g uX6_next 56 [.ref 1] [] (wI (wL (wI h 1 9 (mI h 1 7)) 1 10 0) 1 11 0) (qV P)) ∧ (¬ (mI h 1 6) ≤ (mI h 1 7) → (vp_in (mI h 1 7) 900) ∧ ((¬ (mI h 12 (mI h 1 7).toNatClampNeg) = 32 → ME g uX6_next 56 [.ref 1] [] (wI (wL (wI h 1 9 (mI h 1 7)) 1 10 0) 1 11 0) (qV P)) ∧ ((mI h 12 (mI h 1 7).toNatClampNeg) = 32 → ME g uX6_next 0 [.ref 1] [] (wI h 1 7 ((mI h 1 7) + 1)) (qV P)))) := by
  intro m
  induction m with
  | zero => intro h p _ _ _ hm; exact absurd hm (Nat.not_lt_zero _)
  | succ m ih =>
    intro h p kp h7 hpn hm es
    have hT' := Tp_k kp hT
    have n9 := hT.2.1
    have go : ¬ (p < n ∧ rx_b (T p) = true) → ME g uX6_next 56 [.ref 1] [] (wI (wL (wI h 1 9 (mI h 1 7)) 1 10 0) 1 11 0) (qV P) := by
      intro hx
      have e0 : rx_s T n p = p := rx_stop hx
      refine c_next_l (s := p) hT hen (by rw [← es, e0]) hp _ _ p (Kp_w (Kp_wL (Kp_w kp (j := 9) (by decide) (lo := 0) (hi := 900) (by decide) ⟨by omega, by omega⟩) (j := 10)) (j := 11) (by decide) (lo := -2147483648) (hi := 2147483647) (by decide) (R_full _)) ?_ ?_ (Nat.le_refl _) hpn (Nat.lt_succ_self _) (fun i h1 h2 => absurd h1 (Nat.not_le.mpr h2)) ?_ ?_
      · rw [mI_wI, if_neg (by decide), mI_wL, mI_wI, if_pos ⟨rfl, rfl⟩]; exact h7
      · rw [mI_wI, if_neg (by decide), mI_wL, mI_wI, if_neg (by decide)]; exact h7
      · rw [mL_wI, mL_wL, if_pos ⟨rfl, rfl⟩, Nat.sub_self]; rfl
      · rw [mI_wI, if_pos ⟨rfl, rfl⟩]
    refine ⟨fun c => go (fun z => ?_), fun c => ?_⟩
    · rw [i_le, hT'.1, h7] at c
      have := z.1
      omega
    · rw [i_le, hT'.1, h7] at c
      have hpl : p < n := by omega
      have eT : mI h 12 (mI h 1 7).toNatClampNeg = T p := by rw [i_nat h7]; exact hT'.2.2 p hpl
      rw [eT]
      refine ⟨i_vp h7 (by omega), fun a => go (fun z => a (by have := z.2; unfold rx_b at this; exact eq_of_beq this)), fun a => ?_⟩
      have i7 := i_inc h7 (by omega)
      refine r_X6_next_0 (ih _ (p + 1) (Kp_w kp (j := 7) (by decide) (lo := 0) (hi := 900) (by decide) ⟨by omega, by omega⟩) ?_ (by omega) (by omega) ?_)
      · rw [mI_wI, if_pos ⟨rfl, rfl⟩]; exact i7
      · rw [← es]
        exact (rx_step ⟨hpl, by unfold rx_b; rw [a]; decide⟩).symm
theorem c_next {g : gT} {h : mh_T} {P : mh_T → Prop} {T : Nat → Int32} {n e : Nat} (hG : GI h) (hT : Tp h T n) (he : (mI h 1 7).toInt = (e : Int)) (hen : e ≤ n) (hp : ∀ h', Kp h h' → Tk h' T n e → P h') : MCv g yX6_next uX6_next [.ref 1] h P :=
  e_X6_next (c_next_b hT hen hp _ h e (Kp_rf hG) he hen (Nat.lt_succ_self _) rfl)
/-! the class's small readers: says, refuse, pass, passWord, needWhole, isName, indexOf -/
theorem ch_byt : ∀ l, l < nJS → ∀ i, i < lenJS.getD l 0 → chJS l i = (bytJS.getD l []).getD i 0 := by decide
theorem byt_len : ∀ l, l < nJS → (bytJS.getD l []).length = lenJS.getD l 0 := by decide
theorem rx_wd_iff {T : Nat → Int32} {n e : Nat} {w : List Int32} : rx_wd T n e w = true ↔ rx_k T n e = 2 ∧ rx_e T n e - rx_s T n e = w.length ∧ ∀ i, i < w.length → T (rx_s T n e + i) = w.getD i 0 := by
  unfold rx_wd
  rw [Bool.and_eq_true, decide_eq_true_iff, List.all_eq_true]
  constructor
  · rintro ⟨⟨a, b⟩, c⟩
    exact ⟨a, b, fun i hi => eq_of_beq (c i (List.mem_range.mpr hi))⟩
  · rintro ⟨a, b, c⟩
    exact ⟨⟨a, b⟩, fun i hi => beq_iff_eq.mpr (c i (List.mem_range.mp hi))⟩
theorem c_says_L {g : gT} {h : mh_T} {P : Int32 → mh_T → Prop} {T : Nat → Int32} {n e : Nat} (l1 : Nat) (sl1 : l1 < nJS) (hT : Tp h T n) (hk : Tk h T n e) (hen : e ≤ n) (hz : rx_e T n e - rx_s T n e = lenJS.getD l1 0) (h1 : (∀ i, i < lenJS.getD l1 0 → T (rx_s T n e + i) = (bytJS.getD l1 []).getD i 0) → P 1 h) (h0 : ¬ (∀ i, i < lenJS.getD l1 0 → T (rx_s T n e + i) = (bytJS.getD l1 []).getD i 0) → P 0 h) : ∀ (m : Nat) (l2 : Int32) (j : Nat), l2.toInt = (j : Int) → j ≤ lenJS.getD l1 0 → lenJS.getD l1 0 - j < m → (∀ i, i < j → T (rx_s T n e + i) = (bytJS.getD l1 []).getD i 0) → ME g uX6_says 28 [.ref 1, .ref (1000 + l1), .int l2] [] h (qI P) := by
  intro m
  induction m with
  | zero => intro l2 j _ _ hm; exact absurd hm (Nat.not_lt_zero _)
  | succ m ih =>
    intro l2 j e2 hj hm hin
    have n9 := hT.2.1
    have hen' := rx_e_le (T := T) hen
    refine r_X6_says_28 l1 l2 sl1 ?_
    refine s_J0_length l1 sl1 (fun r er fr => ⟨fun c => ?_, fun c => ?_⟩)
    · rw [i_le, er, e2] at c
      exact h1 (fun i hi => hin i (by omega))
    · rw [i_le, er, e2] at c
      have ix : (mI h 1 9 + l2).toInt = ((rx_s T n e + j : Nat) : Int) := by
        rw [i_add hk.1 e2 (by omega)]
        omega
      have hlt : rx_s T n e + j < n := by omega
      have eT : mI h 12 (mI h 1 9 + l2).toNatClampNeg = T (rx_s T n e + j) := by rw [i_nat ix]; exact hT.2.2 _ hlt
      refine ⟨i_vp ix (by omega), ?_⟩
      rw [eT]
      refine s_J0_charAt l1 l2 sl1 ⟨by omega, by omega⟩ ?_
      rw [i_nat e2, ch_byt l1 sl1 j (by omega)]
      refine ⟨fun z => ih (l2 + 1) (j + 1) (i_inc e2 (by have := fr.2; omega)) (by omega) (by omega) (fun i hi => ?_), fun z => h0 (fun y => z (y j (by omega)))⟩
      by_cases q : i = j
      · rw [q]; exact z
      · exact hin i (by omega)
theorem c_says {g : gT} {h : mh_T} {P : Int32 → mh_T → Prop} {T : Nat → Int32} {n e : Nat} (l1 : Nat) (sl1 : l1 < nJS) (hT : Tp h T n) (hk : Tk h T n e) (hen : e ≤ n) (h1 : rx_wd T n e (bytJS.getD l1 []) = true → P 1 h) (h0 : ¬ rx_wd T n e (bytJS.getD l1 []) = true → P 0 h) : MCi g yX6_says uX6_says [.ref 1, .ref (1000 + l1)] h P := by
  rw [rx_wd_iff, byt_len l1 sl1] at h1 h0
  have n9 := hT.2.1
  have hen' := rx_e_le (T := T) hen
  have hse := rx_e_ge T n e
  refine e_X6_says l1 sl1 ⟨fun c => h0 (fun z => c (by rw [hk.2.2.1]; exact z.1)), fun c => ?_⟩
  rw [hk.2.2.1] at c
  refine s_J0_length l1 sl1 (fun r er fr => ?_)
  have i79 : (mI h 1 7 - mI h 1 9).toInt = (rx_e T n e : Int) - (rx_s T n e : Int) := i_sub hk.2.1 hk.1 (by omega)
  have iq : mI h 1 7 - mI h 1 9 = r ↔ rx_e T n e - rx_s T n e = lenJS.getD l1 0 := by
    rw [← Int32.toInt_inj, i79, er]
    omega
  rw [iq]
  refine ⟨fun z => ?_, fun z => h0 (fun y => z y.2.1)⟩
  exact c_says_L l1 sl1 hT hk hen z (fun y => h1 ⟨c, z, y⟩) (fun y => h0 (fun x => y x.2.2)) _ 0 0 (by decide) (Nat.zero_le _) (Nat.lt_succ_self _) (fun i hi => absurd hi (Nat.not_lt_zero i))
/-- refused: the fault's number, its place -/
def rf (h : mh_T) (w : Int32) : mh_T := wI (wI h 1 1 w) 1 2 (mI h 1 9)
theorem c_refuse {g : gT} {h : mh_T} {P : Int32 → mh_T → Prop} (w : Int32) (hp : P 0 (rf h w)) : MCi g yX6_refuse uX6_refuse [.ref 1, .int w] h P := by
  refine e_X6_refuse w ?_
  rw [mI_wI, if_neg (by decide)]
  exact hp
theorem c_pass {g : gT} {h : mh_T} {P : Int32 → mh_T → Prop} {T : Nat → Int32} {n e : Nat} (c : Int32) (hG : GI h) (hT : Tp h T n) (hk : Tk h T n e) (hen : e ≤ n) (h1 : rx_k T n e = c → ∀ h', Kp h h' → Tk h' T n (rx_e T n e) → P 1 h') (h0 : ¬ rx_k T n e = c → P 0 (rf h 1)) : MCi g yX6_pass uX6_pass [.ref 1, .int c] h P := by
  refine e_X6_pass c ⟨fun z => ?_, fun z => ?_⟩
  · rw [hk.2.2.1] at z
    exact c_next hG hT hk.2.1 (rx_e_le hen) (h1 z)
  · rw [hk.2.2.1] at z
    exact c_refuse 1 ⟨Or.inl rfl, h0 z⟩
theorem c_passWord {g : gT} {h : mh_T} {P : Int32 → mh_T → Prop} {T : Nat → Int32} {n e : Nat} (l1 : Nat) (sl1 : l1 < nJS) (hG : GI h) (hT : Tp h T n) (hk : Tk h T n e) (hen : e ≤ n) (h1 : rx_wd T n e (bytJS.getD l1 []) = true → ∀ h', Kp h h' → Tk h' T n (rx_e T n e) → P 1 h') (h0 : ¬ rx_wd T n e (bytJS.getD l1 []) = true → P 0 (rf h 1)) : MCi g yX6_passWord uX6_passWord [.ref 1, .ref (1000 + l1)] h P := by
  refine e_X6_passWord l1 sl1 ?_
  refine c_says l1 sl1 hT hk hen (fun z => ⟨fun _ => c_next hG hT hk.2.1 (rx_e_le hen) (h1 z), fun y => absurd y (by decide)⟩) (fun z => ⟨fun y => absurd rfl y, fun _ => c_refuse 1 ⟨Or.inl rfl, h0 z⟩⟩)
theorem c_needWhole {g : gT} {h : mh_T} {P : Int32 → mh_T → Prop} {T : Nat → Int32} {n e : Nat} (lo hi : Int32) (hk : Tk h T n e) (h1 : rx_k T n e = 3 → lo ≤ rx_v T n e ∧ rx_v T n e ≤ hi → P 1 h) (h4 : rx_k T n e = 3 → ¬ (lo ≤ rx_v T n e ∧ rx_v T n e ≤ hi) → P 0 (rf h 4)) (h0 : ¬ rx_k T n e = 3 → P 0 (rf h 1)) : MCi g yX6_needWhole uX6_needWhole [.ref 1, .int lo, .int hi] h P := by
  refine e_X6_needWhole lo hi ⟨fun z => ?_, fun z => ?_⟩
  · rw [hk.2.2.1] at z
    rw [hk.2.2.2.1 z]
    refine ⟨fun y => c_refuse 4 ⟨fun _ => h4 z (fun x => ?_), fun x => absurd rfl x⟩, fun y => ⟨fun x => h1 z ⟨?_, x⟩, fun x => c_refuse 4 ⟨fun _ => h4 z (fun q => x q.2), fun q => absurd rfl q⟩⟩⟩
    · have := x.1
      rw [i_le] at this
      rw [i_lt] at y
      omega
    · rw [i_lt] at y
      rw [i_le]
      omega
  · rw [hk.2.2.1] at z
    exact c_refuse 1 ⟨Or.inl rfl, h0 z⟩
theorem rx_nm_iff {T : Nat → Int32} {n e : Nat} : rx_nm T n e = true ↔ rx_k T n e = 2 ∧ ∀ i, i < 7 → ¬ rx_wd T n e (bytJS.getD i []) = true := by
  unfold rx_nm rx_bar
  rw [Bool.and_eq_true, decide_eq_true_iff, Bool.not_eq_true', List.any_eq_false]
  constructor
  · rintro ⟨a, b⟩
    exact ⟨a, fun i hi => b i (List.mem_range.mpr hi)⟩
  · rintro ⟨a, b⟩
    exact ⟨a, fun i hi => b i (List.mem_range.mp hi)⟩
theorem c_isName {g : gT} {h : mh_T} {P : Int32 → mh_T → Prop} {T : Nat → Int32} {n e : Nat} (hT : Tp h T n) (hk : Tk h T n e) (hen : e ≤ n) (h1 : rx_nm T n e = true → P 1 h) (h0 : ¬ rx_nm T n e = true → P 0 h) : MCi g yX6_isName uX6_isName [.ref 1] h P := by
  rw [rx_nm_iff] at h1 h0
  have no : ∀ i, i < 7 → rx_wd T n e (bytJS.getD i []) = true → P 0 h := fun i hi z => h0 (fun y => y.2 i hi z)
  refine e_X6_isName ⟨fun c => h0 (fun z => c (by rw [hk.2.2.1]; exact z.1)), fun c => ?_⟩
  rw [hk.2.2.1] at c
  refine c_says 0 (by decide) hT hk hen (fun z => ⟨fun _ => no 0 (by decide) z, fun y => absurd y (by decide)⟩) (fun z0 => ⟨fun y => absurd rfl y, fun _ => ?_⟩)
  refine c_says 1 (by decide) hT hk hen (fun z => ⟨fun _ => no 1 (by decide) z, fun y => absurd y (by decide)⟩) (fun z1 => ⟨fun y => absurd rfl y, fun _ => ?_⟩)
  refine c_says 2 (by decide) hT hk hen (fun z => ⟨fun _ => no 2 (by decide) z, fun y => absurd y (by decide)⟩) (fun z2 => ⟨fun y => absurd rfl y, fun _ => ?_⟩)
  refine c_says 3 (by decide) hT hk hen (fun z => ⟨fun _ => no 3 (by decide) z, fun y => absurd y (by decide)⟩) (fun z3 => ⟨fun y => absurd rfl y, fun _ => ?_⟩)
  refine c_says 4 (by decide) hT hk hen (fun z => ⟨fun _ => no 4 (by decide) z, fun y => absurd y (by decide)⟩) (fun z4 => ⟨fun y => absurd rfl y, fun _ => ?_⟩)
  refine c_says 5 (by decide) hT hk hen (fun z => ⟨fun _ => no 5 (by decide) z, fun y => absurd y (by decide)⟩) (fun z5 => ⟨fun y => absurd rfl y, fun _ => ?_⟩)
  refine c_says 6 (by decide) hT hk hen (fun z => ⟨fun _ => no 6 (by decide) z, fun y => absurd y (by decide)⟩) (fun z6 => ⟨fun y => absurd rfl y, fun _ => h1 ⟨c, fun i hi => ?_⟩⟩)
  rcases (show i = 0 ∨ i = 1 ∨ i = 2 ∨ i = 3 ∨ i = 4 ∨ i = 5 ∨ i = 6 by omega) with q | q | q | q | q | q | q <;> subst q <;> assumption
theorem lg_cmp0 {x y : Int64} (h : lg_cmp x y = 0) : x = y := by
  unfold lg_cmp at h
  split at h
  · exact absurd h (by decide)
  · split at h
    · assumption
    · exact absurd h (by decide)
/-- the first of the count first names that is the word; its number, or -1 -/
theorem c_indexOf {g : gT} {h : mh_T} {P : Int32 → mh_T → Prop} (l1 nl1 : Nat) (l2 : Int32) (c : Nat) (sl1 : shp l1 = (22, nl1, [])) (hn : nl1 ≤ 900) (e2 : l2.toInt = (c : Int)) (hc : c ≤ nl1) (h1 : ∀ (r : Int32) (j : Nat), r.toInt = (j : Int) → j < c → mL h l1 j = mL h 1 10 → (∀ i, i < j → ¬ mL h l1 i = mL h 1 10) → P r h) (h0 : (∀ i, i < c → ¬ mL h l1 i = mL h 1 10) → P (-1) h) : MCi g yX6_indexOf uX6_indexOf [.ref 1, .ref l1, .int l2] h P := by
  have L : ∀ (m : Nat) (l3 : Int32) (j : Nat), l3.toInt = (j : Int) → j ≤ c → c - j < m → (∀ i, i < j → ¬ mL h l1 i = mL h 1 10) → ME g uX6_indexOf 2 [.ref 1, .ref l1, .int l2, .int l3] [] h (qI P) := by
    intro m
    induction m with
    | zero => intro l3 j _ _ hm; exact absurd hm (Nat.not_lt_zero _)
    | succ m ih =>
      intro l3 j e3 hj hm hin
      have en : (Int32.ofNat nl1).toInt = (nl1 : Int) := nI_toInt (n := nl1) (by omega)
      refine r_X6_indexOf_2 l1 nl1 l2 l3 sl1 ⟨fun z => ?_, fun z => ?_⟩
      · rw [i_le, e2, e3] at z
        exact h0 (fun i hi => hin i (by omega))
      · rw [i_le, e2, e3] at z
        refine ⟨fun y => ?_, fun y => ⟨i_vp e3 (by omega), fun x => ?_, fun x => ?_⟩⟩
        · rw [i_le, en, e3] at y
          omega
        · rw [i_nat e3] at x
          refine ih (l3 + 1) (j + 1) (i_inc e3 (by omega)) (by omega) (by omega) (fun i hi => ?_)
          by_cases q : i = j
          · rw [q]; exact lg_ne x
          · exact hin i (by omega)
        · rw [i_nat e3] at x
          exact h1 l3 j e3 (by omega) (lg_cmp0 x) hin
  exact e_X6_indexOf l1 nl1 l2 sl1 (L _ 0 0 (by decide) (Nat.zero_le _) (Nat.lt_succ_self _) (fun i hi => absurd hi (Nat.not_lt_zero i)))
/-! the LINES as functions of the tape; f is a draft in the layout of the reference's list -/
def rx_nn (T : Nat → Int32) (n c fs : Nat) (mo : Int32) : Nat → Nat → (Nat → Int32) → rx_O Unit
  | 0, e, _ => rx_no T n e 5
  | k + 1, e, f => if rx_nm T n e = true then (if (rx_fd T n e f).isSome = true then rx_no T n e 3 else if f c = mo then rx_no T n e 5 else (if rx_k T n (rx_e T n e) = 44 then rx_nn T n c fs mo k (rx_e T n (rx_e T n e)) (rx_set (rx_put T n e f (fs + (f c).toNatClampNeg)) c (f c + 1)) else .inr ((), rx_e T n e, rx_set (rx_put T n e f (fs + (f c).toNatClampNeg)) c (f c + 1)))) else rx_no T n e 1
def rx_lawL (T : Nat → Int32) (n e : Nat) (f : Nat → Int32) : rx_O Unit := if f 49 = 0 then rx_bind (rx_word T n 7 (rx_e T n e) f) (fun _ e1 f1 => rx_bind (rx_num T n 1 60 e1 f1) (fun v e2 f2 => .inr ((), e2, rx_set f2 49 v))) else rx_no T n e 3
def rx_tm (T : Nat → Int32) (n s many : Nat) : Nat → Int32 → Nat → (Nat → Int32) → rx_O Unit
  | 0, _, e, f => .inr ((), e, rx_set f 0 (f 0 + 1))
  | r + 1, sum, e, f => rx_bind (if many = r + 1 then .inr ((), e, f) else rx_sign T n 44 e f) (fun _ e0 f0 => rx_bind (rx_num T n 0 60 e0 f0) (fun v e1 f1 => if r = 0 ∧ ¬ sum + v = f1 49 then rx_no T n e0 4 else rx_tm T n s many r (sum + v) e1 (rx_set f1 (17 + 4 * s + (many - (r + 1))) v)))
def rx_tell (T : Nat → Int32) (n : Nat) (one : Nat) (two : Int32) (e : Nat) (f : Nat → Int32) : rx_O Unit := rx_bind (rx_word T n 8 e (rx_set (rx_set f (1 + (f 0).toNatClampNeg) (Int32.ofNat one)) (9 + (f 0).toNatClampNeg) two)) (fun _ e1 f1 => rx_tm T n (f 0).toNatClampNeg (if two = -2 then 2 else 4) (if two = -2 then 2 else 4) 0 e1 f1)
def rx_setL (T : Nat → Int32) (n e : Nat) (f : Nat → Int32) : rx_O Unit := if f 49 = 0 then rx_no T n e 6 else if f 0 = 8 then rx_no T n e 5 else rx_bind (rx_name T n true (rx_e T n e) f) (fun one e1 f1 => if rx_k T n e1 = 44 then rx_bind (rx_name T n true (rx_e T n e1) f1) (fun two e2 f2 => if two = one then rx_no T n (rx_e T n e1) 3 else rx_tell T n one (Int32.ofNat two) e2 f2) else rx_tell T n one (-2) e1 f1)
def rx_pt (T : Nat → Int32) (n l : Nat) : Nat → (Nat → Bool) → Nat → (Nat → Int32) → rx_O Unit
  | 0, _, e, f => .inr ((), e, f)
  | r + 1, u, e, f => rx_bind (if r = 2 then .inr ((), e, f) else rx_sign T n 44 e f) (fun _ e0 f0 => rx_bind (rx_name T n false e0 f0) (fun p e1 f1 => if u p = true then rx_no T n e0 3 else rx_pt T n l r (fun q => q == p || u q) e1 (rx_set f1 (53 + 3 * l + (2 - r)) (Int32.ofNat p))))
def rx_lineL (T : Nat → Int32) (n e : Nat) (f : Nat → Int32) : rx_O Unit := if f 52 = 8 then rx_no T n e 5 else rx_bind (rx_pt T n (f 52).toNatClampNeg 3 (fun _ => false) (rx_e T n e) f) (fun _ e1 f1 => rx_bind (rx_word T n 9 e1 f1) (fun _ e2 f2 => if rx_wd T n e2 (bytJS.getD 11 []) = true then .inr ((), rx_e T n e2, rx_set (rx_set f2 (77 + (f 52).toNatClampNeg) 1) 52 (f 52 + 1)) else if rx_wd T n e2 (bytJS.getD 10 []) = true then .inr ((), rx_e T n e2, rx_set f2 52 (f 52 + 1)) else rx_no T n e2 1))
def rx_pa (T : Nat → Int32) (n l : Nat) : Nat → Bool → Nat → (Nat → Int32) → rx_O Unit
  | 0, _, e, f => .inr ((), e, rx_set f 85 (f 85 + 1))
  | r + 1, an, e, f => rx_bind (if r = 3 then .inr ((), e, f) else rx_sign T n 44 e f) (fun _ e0 f0 => rx_bind (rx_num T n 0 3 (if rx_k T n e0 = 45 then rx_e T n e0 else e0) f0) (fun v e1 f1 => if r = 0 ∧ an = false ∧ v = 0 then rx_no T n (if rx_k T n e0 = 45 then rx_e T n e0 else e0) 4 else rx_pa T n l r (an || decide (¬ v = 0)) e1 (rx_set f1 (86 + 4 * l + (3 - r)) (if rx_k T n e0 = 45 then -v else v))))
def rx_rayL (T : Nat → Int32) (n e : Nat) (f : Nat → Int32) : rx_O Unit := if f 85 = 18 then rx_no T n e 5 else rx_pa T n (f 85).toNatClampNeg 4 false (rx_e T n e) f
def rx_st (T : Nat → Int32) (n l : Nat) : Nat → Nat → (Nat → Int32) → rx_O Unit
  | 0, e, f => rx_bind (rx_name T n true e f) (fun _ _ _ => rx_no T n e 5)
  | r + 1, e, f => rx_bind (rx_name T n true e f) (fun k e1 f1 => rx_bind (rx_num T n 0 1 e1 f1) (fun v e2 f2 => if rx_k T n e2 = 44 then rx_st T n l r (rx_e T n e2) (rx_set (rx_set f2 (163 + 6 * l + (5 - r)) (Int32.ofNat k)) (187 + 6 * l + (5 - r)) v) else .inr ((), e2, rx_set (rx_set (rx_set (rx_set f2 (163 + 6 * l + (5 - r)) (Int32.ofNat k)) (187 + 6 * l + (5 - r)) v) (159 + l) (Int32.ofNat (6 - r))) 158 (f 158 + 1))))
def rx_runL (T : Nat → Int32) (n e : Nat) (f : Nat → Int32) : rx_O Unit := if f 158 = 4 then rx_no T n e 5 else rx_st T n (f 158).toNatClampNeg 6 (rx_e T n e) f
def rx_line (T : Nat → Int32) (n e : Nat) (f : Nat → Int32) : rx_O Unit := if rx_wd T n e (bytJS.getD 0 []) = true then rx_lawL T n e f else if rx_wd T n e (bytJS.getD 1 []) = true then rx_nn T n 50 0 6 7 (rx_e T n e) f else if rx_wd T n e (bytJS.getD 2 []) = true then rx_nn T n 51 6 9 10 (rx_e T n e) f else if rx_wd T n e (bytJS.getD 3 []) = true then rx_setL T n e f else if rx_wd T n e (bytJS.getD 4 []) = true then rx_lineL T n e f else if rx_wd T n e (bytJS.getD 5 []) = true then rx_rayL T n e f else if rx_wd T n e (bytJS.getD 6 []) = true then rx_runL T n e f else rx_no T n e 1
def rx_text (T : Nat → Int32) (n : Nat) : Nat → Nat → (Nat → Int32) → rx_O Unit
  | 0, e, _ => rx_no T n e 1
  | k + 1, e, f => rx_bind (rx_line T n e f) (fun _ e1 f1 => if rx_k T n e1 = 0 then (if f1 49 = 0 ∨ f1 50 = 0 then rx_no T n e1 6 else .inr ((), e1, f1)) else if rx_k T n e1 = 59 then rx_text T n k (rx_e T n e1) f1 else rx_no T n e1 1)
/-- what THE TEXT of n bytes comes to -/
def rx_book (T : Nat → Int32) (n : Nat) : rx_O Unit := rx_text T n (n + 1) 0 (fun _ => 0)
/-! words as numbers: five bits a letter -/
def rx_wn (T : Nat → Int32) (s : Nat) : Nat → Nat
  | 0 => 0
  | k + 1 => 32 * rx_wn T s k + ((T (s + k)).toInt.toNat - 96)
theorem rx_lr {c : Int32} (h : rx_l c = true) : 97 ≤ c.toInt ∧ c.toInt ≤ 122 := by
  unfold rx_l at h
  rw [decide_eq_true_iff, i_le, i_le] at h
  exact h
theorem rx_sh {x : Int64} {a d : Nat} (h : x.toInt = (a : Int)) (ha : a < 34359738368) (hd : d < 32) : (x <<< 5 ||| Int64.ofNat d).toInt = ((32 * a + d : Nat) : Int) := by
  have ex : x = Int64.ofNat a := Int64.toInt_inj.mp (by rw [h, Int64.toInt_ofNat_of_lt (by omega)])
  subst ex
  have key : (Int64.ofNat a <<< 5 ||| Int64.ofNat d) = Int64.ofNat (32 * a + d) := by
    apply Int64.toBitVec_inj.mp
    apply BitVec.eq_of_toNat_eq
    have e5 : ((5 : Int64).toBitVec.smod 64) = 5#64 := by decide
    rw [Int64.toBitVec_or, Int64.toBitVec_shiftLeft, e5]
    simp only [BitVec.toNat_or, BitVec.shiftLeft_eq', BitVec.toNat_shiftLeft, Int64.toBitVec_ofNat', BitVec.toNat_ofNat]
    rw [Nat.mod_eq_of_lt (show a < 2 ^ 64 by omega), Nat.mod_eq_of_lt (show d < 2 ^ 64 by omega), Nat.mod_eq_of_lt (show 32 * a + d < 2 ^ 64 by omega)]
    rw [show 5 % 2 ^ 64 = 5 from by decide, Nat.shiftLeft_eq, Nat.mod_eq_of_lt (show a * 2 ^ 5 < 2 ^ 64 by omega), ← Nat.shiftLeft_eq, ← Nat.shiftLeft_add_eq_or_of_lt (show d < 2 ^ 5 by omega), Nat.shiftLeft_eq]
    omega
  rw [key, Int64.toInt_ofNat_of_lt (by omega)]
theorem rx_wn_lt {T : Nat → Int32} {s : Nat} : ∀ k, (∀ i, i < k → rx_l (T (s + i)) = true) → rx_wn T s k < 32 ^ k
  | 0, _ => Nat.zero_lt_one
  | k + 1, h => by
    have a := rx_wn_lt k (fun i hi => h i (by omega))
    have b := rx_lr (h k (by omega))
    show 32 * rx_wn T s k + ((T (s + k)).toInt.toNat - 96) < 32 ^ (k + 1)
    rw [Nat.pow_succ]
    omega
theorem rx_ws_n {T : Nat → Int32} {s : Nat} : ∀ k, k ≤ 8 → (∀ i, i < k → rx_l (T (s + i)) = true) → (rx_ws T s k).toInt = (rx_wn T s k : Int)
  | 0, _, _ => by rfl
  | k + 1, hk, h => by
    have a := rx_ws_n k (by omega) (fun i hi => h i (by omega))
    have b := rx_lr (h k (by omega))
    have l := rx_wn_lt k (fun i hi => h i (by omega))
    have l2 : 32 ^ k ≤ 32 ^ 7 := Nat.pow_le_pow_right (by decide) (by omega)
    have ed : (T (s + k) - 97 + 1).toInt64 = Int64.ofNat ((T (s + k)).toInt.toNat - 96) := by
      apply Int64.toInt_inj.mp
      rw [Int64.toInt_ofNat_of_lt (by omega)]
      have i1 : (T (s + k) - 97).toInt = (T (s + k)).toInt - 97 := i_sub rfl (by decide) (by omega)
      have i2 : (T (s + k) - 97 + 1).toInt = (T (s + k)).toInt - 97 + 1 := i_add i1 (by decide) (by omega)
      rw [Int32.toInt_toInt64, i2]
      omega
    show (rx_ws T s k <<< 5 ||| (T (s + k) - 97 + 1).toInt64).toInt = _
    rw [ed]
    exact rx_sh a (by omega) (by omega)
/-- words that are alike in number are alike -/
theorem rx_wn_inj {T U : Nat → Int32} {s t : Nat} : ∀ k m, (∀ i, i < k → rx_l (T (s + i)) = true) → (∀ i, i < m → rx_l (U (t + i)) = true) → rx_wn T s k = rx_wn U t m → k = m ∧ ∀ i, i < k → T (s + i) = U (t + i)
  | 0, 0, _, _, _ => ⟨rfl, fun i hi => absurd hi (Nat.not_lt_zero i)⟩
  | 0, m + 1, _, hu, e => by
    have b := rx_lr (hu m (by omega))
    have e : 0 = 32 * rx_wn U t m + ((U (t + m)).toInt.toNat - 96) := e
    omega
  | k + 1, 0, ht, _, e => by
    have b := rx_lr (ht k (by omega))
    have e : 32 * rx_wn T s k + ((T (s + k)).toInt.toNat - 96) = 0 := e
    omega
  | k + 1, m + 1, ht, hu, e => by
    have b := rx_lr (ht k (by omega))
    have d := rx_lr (hu m (by omega))
    have e : 32 * rx_wn T s k + ((T (s + k)).toInt.toNat - 96) = 32 * rx_wn U t m + ((U (t + m)).toInt.toNat - 96) := e
    obtain ⟨a1, a2⟩ := rx_wn_inj k m (fun i hi => ht i (by omega)) (fun i hi => hu i (by omega)) (by omega)
    subst a1
    refine ⟨rfl, fun i hi => ?_⟩
    by_cases q : i = k
    · rw [q]
      apply Int32.toInt_inj.mp
      omega
    · exact a2 i (by omega)
/-! names: the class's numbers and the reference's letters -/
theorem rx_k2 {T : Nat → Int32} {n e : Nat} (h : rx_k T n e = 2) : rx_s T n e < n ∧ 1 ≤ rx_e T n e - rx_s T n e ∧ rx_e T n e - rx_s T n e ≤ 8 ∧ ∀ i, i < rx_e T n e - rx_s T n e → rx_l (T (rx_s T n e + i)) = true := by
  by_cases c : rx_s T n e < n
  · by_cases l : rx_l (T (rx_s T n e)) = true
    · have ee : rx_e T n e = rx_sc rx_l T n (rx_s T n e) := by unfold rx_e; rw [if_pos c, if_pos l]
      have gt := rx_e_gt c
      refine ⟨c, by omega, ?_, fun i hi => ?_⟩
      · unfold rx_k at h
        rw [if_pos c, if_pos l] at h
        split at h
        · assumption
        · exact absurd h (by decide)
      · exact (rx_in (q := rx_l) (p := rx_s T n e) (Nat.le_add_right _ _) (by rw [← ee]; omega)).2
    · unfold rx_k at h
      rw [if_pos c, if_neg l] at h
      split at h
      · split at h <;> exact absurd h (by decide)
      · split at h
        · rename_i z
          rw [h] at z
          exact absurd z (by decide)
        · exact absurd h (by decide)
  · unfold rx_k at h
    rw [if_neg c] at h
    exact absurd h (by decide)
theorem rx_ws_congr {T U : Nat → Int32} {s t : Nat} : ∀ k, (∀ i, i < k → T (s + i) = U (t + i)) → rx_ws T s k = rx_ws U t k
  | 0, _ => rfl
  | k + 1, h => by
    show rx_ws T s k <<< 5 ||| (T (s + k) - 97 + 1).toInt64 = rx_ws U t k <<< 5 ||| (U (t + k) - 97 + 1).toInt64
    rw [rx_ws_congr k (fun i hi => h i (by omega)), h k (by omega)]
def rx_used (f : Nat → Int32) (j : Nat) : Prop := (j : Int) < (f 50).toInt ∨ (6 ≤ j ∧ (j : Int) - 6 < (f 51).toInt)
/-- the name of number j, as the class keeps it -/
def rx_en (f : Nat → Int32) (j : Nat) : Int64 := rx_ws f (226 + 8 * j) (f (211 + j)).toNatClampNeg
def Nv (f : Nat → Int32) : Prop := R 0 6 (f 50) ∧ R 0 9 (f 51) ∧ (∀ j, j < 15 → (rx_used f j → R 1 8 (f (211 + j)) ∧ ∀ i, i < (f (211 + j)).toNatClampNeg → rx_l (f (226 + 8 * j + i)) = true) ∧ (¬ rx_used f j → f (211 + j) = 0)) ∧ ∀ i j, i < 15 → j < 15 → rx_used f i → rx_used f j → rx_en f i = rx_en f j → i = j
theorem rx_is_iff {T : Nat → Int32} {n e : Nat} {f : Nat → Int32} (hv : Nv f) (hk : rx_k T n e = 2) {j : Nat} (hj : j < 15) : rx_is T n e f j = true ↔ rx_used f j ∧ rx_en f j = rx_w T n e := by
  obtain ⟨-, k1, k8, kl⟩ := rx_k2 hk
  have el : (Int32.ofNat (rx_e T n e - rx_s T n e)).toInt = ((rx_e T n e - rx_s T n e : Nat) : Int) := nI_toInt (n := rx_e T n e - rx_s T n e) (by omega)
  unfold rx_is
  rw [Bool.and_eq_true, decide_eq_true_iff, List.all_eq_true]
  constructor
  · rintro ⟨⟨a, b⟩, c⟩
    have us : rx_used f j := by
      by_cases u : rx_used f j
      · exact u
      · rw [(hv.2.2.1 j hj).2 u] at a
        exact absurd a (by decide)
    refine ⟨us, ?_⟩
    unfold rx_en rx_w
    rw [b, i_nat el]
    exact rx_ws_congr _ (fun i hi => eq_of_beq (c i (List.mem_range.mpr hi)))
  · rintro ⟨us, en⟩
    obtain ⟨⟨r1, r8⟩, rl⟩ := (hv.2.2.1 j hj).1 us
    obtain ⟨m, em, m1, m8⟩ := i_R (x := f (211 + j)) ⟨r1, r8⟩ (by decide)
    unfold rx_en rx_w at en
    rw [i_nat em] at en rl
    have e1 := rx_ws_n m (by omega) rl
    have e2 := rx_ws_n (T := T) (s := rx_s T n e) (rx_e T n e - rx_s T n e) k8 kl
    rw [en, e2] at e1
    obtain ⟨q1, q2⟩ := rx_wn_inj m (rx_e T n e - rx_s T n e) rl kl (by omega)
    refine ⟨⟨?_, ?_⟩, fun i hi => ?_⟩
    · rw [i_lt, em]
      rw [show (0 : Int32).toInt = 0 from by decide]
      omega
    · apply Int32.toInt_inj.mp
      rw [em, el, q1]
    · exact beq_iff_eq.mpr (q2 i (by rw [q1]; exact List.mem_range.mp hi))
theorem rx_fd_none {T : Nat → Int32} {n e : Nat} {f : Nat → Int32} (h : ∀ j, j < 15 → ¬ rx_is T n e f j = true) : rx_fd T n e f = none := by
  unfold rx_fd
  rw [List.find?_eq_none]
  exact fun j hj => h j (List.mem_range.mp hj)
theorem rx_fd_some {T : Nat → Int32} {n e : Nat} {f : Nat → Int32} {j : Nat} (h : rx_fd T n e f = some j) : j < 15 ∧ rx_is T n e f j = true := by
  unfold rx_fd at h
  exact ⟨List.mem_range.mp (List.mem_of_find?_eq_some h), List.find?_some h⟩
theorem rx_fd_at {T : Nat → Int32} {n e : Nat} {f : Nat → Int32} (hv : Nv f) (hk : rx_k T n e = 2) {j : Nat} (hj : j < 15) (h : rx_is T n e f j = true) : rx_fd T n e f = some j := by
  cases c : rx_fd T n e f with
  | none =>
    unfold rx_fd at c
    rw [List.find?_eq_none] at c
    exact absurd h (c j (List.mem_range.mpr hj))
  | some i =>
    obtain ⟨h1, h2⟩ := rx_fd_some c
    have a := (rx_is_iff hv hk hj).mp h
    have b := (rx_is_iff hv hk h1).mp h2
    rw [hv.2.2.2 i j h1 hj b.1 a.1 (b.2.trans a.2.symm)]
/-- the class's draft stands for f: its counts and its names -/
def Dr (h : mh_T) (f : Nat → Int32) : Prop := (mI h 2 0 = f 49 ∧ mI h 2 1 = f 50 ∧ mI h 2 2 = f 51 ∧ mI h 2 3 = f 0 ∧ mI h 2 4 = f 52 ∧ mI h 2 5 = f 85 ∧ mI h 2 6 = f 158) ∧ (∀ i : Nat, (i : Int) < (f 50).toInt → mL h 13 i = rx_en f i) ∧ ∀ i : Nat, (i : Int) < (f 51).toInt → mL h 14 i = rx_en f (6 + i)
theorem c_nameL {g : gT} {h : mh_T} {P : Int32 → mh_T → Prop} {T : Nat → Int32} {n e : Nat} {f : Nat → Int32} (hT : Tp h T n) (hk : Tk h T n e) (hen : e ≤ n) (hd : Dr h f) (hv : Nv f) (h1 : ∀ (r : Int32) (j : Nat), rx_name T n true e f = .inr (j, rx_e T n e, f) → r.toInt = (j : Int) → j < 6 → P r h) (h0 : ∀ w : Int32, ¬ w = 0 → rx_name T n true e f = rx_no T n e w → P (-1) (rf h w)) : MCi g yX6_nameAmong uX6_nameAmong [.ref 1, .ref 13, .int (mI h 2 1)] h P := by
  refine e_X6_nameAmong 13 6 _ rfl ?_
  refine c_isName hT hk hen (fun z => ⟨fun _ => ?_, fun y => absurd y (by decide)⟩) (fun z => ⟨fun y => absurd rfl y, fun _ => ?_⟩)
  · have k2 := (rx_nm_iff.mp z).1
    obtain ⟨c, ec, c0, c6⟩ := i_R hv.1 (by decide)
    have ew := hk.2.2.2.2 k2
    have i0 : (0 : Int32).toInt = 0 := by decide
    refine c_indexOf 13 6 _ c rfl (by decide) (by rw [hd.1.2.1]; exact ec) (by omega) (fun r j er hj ej hi => ⟨fun _ => ?_, fun y => ?_⟩) (fun hi => ⟨fun y => absurd y (by decide), fun _ => ?_⟩)
    · have us : rx_used f j := Or.inl (by omega)
      have is := (rx_is_iff (T := T) (n := n) (e := e) hv k2 (j := j) (by omega)).mpr ⟨us, by rw [← hd.2.1 j (by omega), ej, ew]⟩
      refine h1 r j ?_ er (by omega)
      unfold rx_name
      rw [if_pos z, rx_fd_at hv k2 (by omega) is]
      show (if decide (j < 6) = true then _ else _) = _
      rw [if_pos (decide_eq_true (by omega : j < 6))]
      rfl
    · exfalso
      apply y
      rw [i_le, i0, er]
      omega
    · refine c_refuse 2 (h0 2 (by decide) ?_)
      unfold rx_name
      rw [if_pos z]
      cases fc : rx_fd T n e f with
      | none => rfl
      | some j =>
        obtain ⟨j15, js⟩ := rx_fd_some fc
        obtain ⟨us, en⟩ := (rx_is_iff hv k2 j15).mp js
        have j6 : ¬ j < 6 := by
          intro j6
          rcases us with us | us
          · exact hi j (by omega) (by rw [hd.2.1 j us, en, ew])
          · omega
        show (if decide (j < 6) = true then _ else _) = _
        rw [if_neg (by rw [decide_eq_true_iff]; exact j6)]
  · refine c_refuse 1 (h0 1 (by decide) ?_)
    unfold rx_name
    rw [if_neg z]
theorem c_nameP {g : gT} {h : mh_T} {P : Int32 → mh_T → Prop} {T : Nat → Int32} {n e : Nat} {f : Nat → Int32} (hT : Tp h T n) (hk : Tk h T n e) (hen : e ≤ n) (hd : Dr h f) (hv : Nv f) (h1 : ∀ (r : Int32) (j : Nat), rx_name T n false e f = .inr (j, rx_e T n e, f) → r.toInt = (j : Int) → j < 9 → P r h) (h0 : ∀ w : Int32, ¬ w = 0 → rx_name T n false e f = rx_no T n e w → P (-1) (rf h w)) : MCi g yX6_nameAmong uX6_nameAmong [.ref 1, .ref 14, .int (mI h 2 2)] h P := by
  refine e_X6_nameAmong 14 9 _ rfl ?_
  refine c_isName hT hk hen (fun z => ⟨fun _ => ?_, fun y => absurd y (by decide)⟩) (fun z => ⟨fun y => absurd rfl y, fun _ => ?_⟩)
  · have k2 := (rx_nm_iff.mp z).1
    obtain ⟨c, ec, c0, c9⟩ := i_R hv.2.1 (by decide)
    have ew := hk.2.2.2.2 k2
    have i0 : (0 : Int32).toInt = 0 := by decide
    refine c_indexOf 14 9 _ c rfl (by decide) (by rw [hd.1.2.2.1]; exact ec) (by omega) (fun r j er hj ej hi => ⟨fun _ => ?_, fun y => ?_⟩) (fun hi => ⟨fun y => absurd y (by decide), fun _ => ?_⟩)
    · have us : rx_used f (6 + j) := Or.inr ⟨by omega, by omega⟩
      have is := (rx_is_iff (T := T) (n := n) (e := e) hv k2 (j := 6 + j) (by omega)).mpr ⟨us, by rw [← hd.2.2 j (by omega), ej, ew]⟩
      refine h1 r j ?_ er (by omega)
      unfold rx_name
      rw [if_pos z, rx_fd_at hv k2 (by omega) is]
      show (if decide (6 + j < 6) = false then _ else _) = _
      rw [if_pos (decide_eq_false (by omega : ¬ 6 + j < 6))]
      show Sum.inr ((6 + j - 6), _, _) = _
      rw [Nat.add_sub_cancel_left]
    · exfalso
      apply y
      rw [i_le, i0, er]
      omega
    · refine c_refuse 2 (h0 2 (by decide) ?_)
      unfold rx_name
      rw [if_pos z]
      cases fc : rx_fd T n e f with
      | none => rfl
      | some j =>
        obtain ⟨j15, js⟩ := rx_fd_some fc
        obtain ⟨us, en⟩ := (rx_is_iff hv k2 j15).mp js
        have j6 : j < 6 := by
          rcases us with us | us
          · have := hv.1.2
            omega
          · exfalso
            exact hi (j - 6) (by omega) (by rw [hd.2.2 (j - 6) (by omega), show 6 + (j - 6) = j by omega, en, ew])
        show (if decide (j < 6) = false then _ else _) = _
        rw [if_neg (by rw [decide_eq_true j6]; decide)]
  · refine c_refuse 1 (h0 1 (by decide) ?_)
    unfold rx_name
    rw [if_neg z]
theorem c_needNew {g : gT} {h : mh_T} {P : Int32 → mh_T → Prop} {T : Nat → Int32} {n e : Nat} {f : Nat → Int32} (hT : Tp h T n) (hk : Tk h T n e) (hen : e ≤ n) (hd : Dr h f) (hv : Nv f) (h1 : rx_nm T n e = true → rx_fd T n e f = none → P 1 h) (h3 : rx_nm T n e = true → (rx_fd T n e f).isSome = true → P 0 (rf h 3)) (h0 : ¬ rx_nm T n e = true → P 0 (rf h 1)) : MCi g yX6_needNewName uX6_needNewName [.ref 1] h P := by
  refine e_X6_needNewName ?_
  refine c_isName hT hk hen (fun z => ⟨fun _ => ?_, fun y => absurd y (by decide)⟩) (fun z => ⟨fun y => absurd rfl y, fun _ => c_refuse 1 ⟨Or.inl rfl, h0 z⟩⟩)
  have k2 := (rx_nm_iff.mp z).1
  obtain ⟨c, ec, c0, c6⟩ := i_R hv.1 (by decide)
  obtain ⟨d, ed, d0, d9⟩ := i_R hv.2.1 (by decide)
  have ew := hk.2.2.2.2 k2
  have i0 : (0 : Int32).toInt = 0 := by decide
  refine c_indexOf 13 6 _ c rfl (by decide) (by rw [hd.1.2.1]; exact ec) (by omega) (fun r j er hj ej hi => ⟨fun _ => ?_, fun y => ?_⟩) (fun hi => ⟨fun y => absurd y (by decide), fun _ => ?_⟩)
  · have us : rx_used f j := Or.inl (by omega)
    have is := (rx_is_iff (T := T) (n := n) (e := e) hv k2 (j := j) (by omega)).mpr ⟨us, by rw [← hd.2.1 j (by omega), ej, ew]⟩
    exact c_refuse 3 ⟨fun _ => h3 z (by rw [rx_fd_at hv k2 (by omega) is]; rfl), fun y => absurd rfl y⟩
  · exfalso
    apply y
    rw [i_le, i0, er]
    omega
  · refine c_indexOf 14 9 _ d rfl (by decide) (by rw [hd.1.2.2.1]; exact ed) (by omega) (fun r j er hj ej hi2 => ⟨fun y => ?_, fun _ => ?_⟩) (fun hi2 => ⟨fun _ => h1 z ?_, fun y => absurd (by decide) y⟩)
    · rw [i_lt, i0, er] at y
      omega
    · have us : rx_used f (6 + j) := Or.inr ⟨by omega, by omega⟩
      have is := (rx_is_iff (T := T) (n := n) (e := e) hv k2 (j := 6 + j) (by omega)).mpr ⟨us, by rw [← hd.2.2 j (by omega), ej, ew]⟩
      exact c_refuse 3 ⟨fun _ => h3 z (by rw [rx_fd_at hv k2 (by omega) is]; rfl), fun y => absurd rfl y⟩
    · cases fc : rx_fd T n e f with
      | none => rfl
      | some j =>
        obtain ⟨j15, js⟩ := rx_fd_some fc
        obtain ⟨us, en⟩ := (rx_is_iff hv k2 j15).mp js
        exfalso
        rcases us with us | us
        · exact hi j (by omega) (by rw [hd.2.1 j us, en, ew])
        · exact hi2 (j - 6) (by omega) (by rw [hd.2.2 (j - 6) (by omega), show 6 + (j - 6) = j by omega, en, ew])
/-! the class's lines -/
abbrev cms : List Nat := [1, 2, 13, 14, 15, 16, 17, 18, 19, 20, 21, 22, 23]
theorem rx_set_o {f : Nat → Int32} {j i : Nat} {v : Int32} (h : ¬ i = j) : rx_set f j v i = f i := if_neg h
theorem rx_set_i {f : Nat → Int32} {j : Nat} {v : Int32} : rx_set f j v j = v := if_pos rfl
def bt (x : Int32) (p : Nat) : Bool := x.toBitVec.getLsbD p
/-- three points as bits -/
def Lp (b x y z : Int32) : Prop := ∃ ps : Nat → Nat, (∀ k, k < 3 → ps k < 9) ∧ (∀ k k', k < k' → k' < 3 → ¬ ps k = ps k') ∧ (x = Int32.ofNat (ps 0) ∧ y = Int32.ofNat (ps 1) ∧ z = Int32.ofNat (ps 2)) ∧ ∀ t, t < 9 → (bt b t = true ↔ ∃ k, k < 3 ∧ ps k = t)
/-- the class's lists of lines stand for f -/
def Al (h : mh_T) (f : Nat → Int32) : Prop := (∀ l : Nat, (l : Int) < (f 52).toInt → mI h 19 l = f (77 + l) ∧ Lp (mI h 18 l) (f (53 + 3 * l)) (f (54 + 3 * l)) (f (55 + 3 * l))) ∧ (∀ l : Nat, l < 8 → (f 52).toInt ≤ (l : Int) → f (77 + l) = 0) ∧ R 0 8 (f 52)
theorem Al_eq {h h' : mh_T} {f : Nat → Int32} (a18 : h'.1 18 = h.1 18) (a19 : h'.1 19 = h.1 19) (a : Al h f) : Al h' f := by
  have e18 : ∀ j, mI h' 18 j = mI h 18 j := fun j => congrFun a18 j
  have e19 : ∀ j, mI h' 19 j = mI h 19 j := fun j => congrFun a19 j
  exact ⟨fun l hl => by rw [e18, e19]; exact a.1 l hl, a.2⟩
theorem Al_f {h : mh_T} {f f' : Nat → Int32} (hs : ∀ i, (52 ≤ i ∧ i < 85) → f' i = f i) (a : Al h f) : Al h f' := by
  have hY := a.2.2.2
  refine ⟨fun l hl => ?_, fun l h8 hl => ?_, ?_⟩
  · rw [hs 52 (by omega)] at hl
    rw [hs _ (by omega), hs _ (by omega), hs _ (by omega), hs _ (by omega)]
    exact a.1 l hl
  · rw [hs 52 (by omega)] at hl
    rw [hs _ (by omega)]
    exact a.2.1 l h8 hl
  · rw [hs 52 (by omega)]
    exact a.2.2
/-- the line that is being read: a point of it -/
theorem Al_p {h : mh_T} {f : Nat → Int32} {l i : Nat} {v : Int32} (el : (f 52).toInt = (l : Int)) (hi : 53 + 3 * l ≤ i ∧ i < 77) (a : Al h f) : Al h (rx_set f i v) := by
  refine ⟨fun q hq => ?_, fun q h8 hq => ?_, ?_⟩
  · rw [rx_set_o (by omega)] at hq
    rw [rx_set_o (by omega), rx_set_o (by omega), rx_set_o (by omega), rx_set_o (by omega)]
    exact a.1 q hq
  · rw [rx_set_o (by omega)] at hq
    rw [rx_set_o (by omega)]
    exact a.2.1 q h8 hq
  · rw [rx_set_o (by omega)]
    exact a.2.2
theorem Al_w {h : mh_T} {f : Nat → Int32} {l k : Nat} {v : Int32} (el : (f 52).toInt = (l : Int)) (a : Al h f) : Al (wI h k l v) f := by
  refine ⟨fun q hq => ?_, a.2⟩
  rw [mI_wI, if_neg (by omega), mI_wI, if_neg (by omega)]
  exact a.1 q hq
theorem Al_k {h : mh_T} {f : Nat → Int32} {j k : Nat} {v : Int32} (hk : ¬ (k = 18 ∨ k = 19)) (a : Al h f) : Al (wI h k j v) f := by
  refine ⟨fun q hq => ?_, a.2⟩
  rw [mI_wI, if_neg (by omega), mI_wI, if_neg (by omega)]
  exact a.1 q hq
/-- one line more -/
theorem Al_52 {h : mh_T} {f : Nat → Int32} {l : Nat} {b : Int32} (el : (f 52).toInt = (l : Int)) (hl : l < 8) (h19 : mI h 19 l = b) (h18 : Lp (mI h 18 l) (f (53 + 3 * l)) (f (54 + 3 * l)) (f (55 + 3 * l))) (a : Al h f) : Al h (rx_set (rx_set f (77 + l) b) 52 (f 52 + 1)) := by
  have e1 := i_inc el (by omega)
  have o : ∀ i, 53 ≤ i → i < 77 → rx_set (rx_set f (77 + l) b) 52 (f 52 + 1) i = f i := fun i h1 h2 => by rw [rx_set_o (by omega), rx_set_o (by omega)]
  refine ⟨fun q hq => ?_, fun q h8 hq => ?_, ?_⟩
  · rw [rx_set_i, e1] at hq
    rw [o (53 + 3 * q) (by omega) (by omega), o (54 + 3 * q) (by omega) (by omega), o (55 + 3 * q) (by omega) (by omega), rx_set_o (by omega)]
    by_cases z : q = l
    · subst z
      rw [rx_set_i]
      exact ⟨h19, h18⟩
    · rw [rx_set_o (by omega)]
      exact a.1 q (by omega)
  · rw [rx_set_i, e1] at hq
    rw [rx_set_o (by omega), rx_set_o (by omega)]
    exact a.2.1 q h8 (by omega)
  · rw [rx_set_i]
    exact ⟨by omega, by omega⟩
/-- the class's lists of sets stand for f: of the sets that are whole, and how often all outcomes came -/
def Ar (h : mh_T) (f : Nat → Int32) : Prop := (∀ s : Nat, (s : Int) < (f 0).toInt → mI h 15 s = f (1 + s) ∧ mI h 16 s = f (9 + s)) ∧ (∀ i, i < 32 → mI h 17 i = f (17 + i)) ∧ (∀ i : Nat, (i : Int) < 4 * (f 85).toInt → mI h 20 i = f (86 + i)) ∧ Al h f
theorem Ar_eq {h h' : mh_T} {f : Nat → Int32} (a15 : h'.1 15 = h.1 15) (a16 : h'.1 16 = h.1 16) (a17 : h'.1 17 = h.1 17) (a20 : h'.1 20 = h.1 20) (a18 : h'.1 18 = h.1 18) (a19 : h'.1 19 = h.1 19) (a : Ar h f) : Ar h' f := by
  have e15 : ∀ j, mI h' 15 j = mI h 15 j := fun j => congrFun a15 j
  have e16 : ∀ j, mI h' 16 j = mI h 16 j := fun j => congrFun a16 j
  have e17 : ∀ j, mI h' 17 j = mI h 17 j := fun j => congrFun a17 j
  have e20 : ∀ j, mI h' 20 j = mI h 20 j := fun j => congrFun a20 j
  exact ⟨fun s hs => by rw [e15, e16]; exact a.1 s hs, fun i hi => by rw [e17]; exact a.2.1 i hi, fun i hi => by rw [e20]; exact a.2.2.1 i hi, Al_eq a18 a19 a.2.2.2⟩
theorem Ar_f {h : mh_T} {f f' : Nat → Int32} (hR : R 0 8 (f 0)) (hY : R 0 18 (f 85)) (hs : ∀ i, (i < 49 ∨ (52 ≤ i ∧ i < 158)) → f' i = f i) (a : Ar h f) : Ar h f' := by
  refine ⟨fun s q => ?_, fun i hi => ?_, fun i hi => ?_, Al_f (fun i hi => hs i (by omega)) a.2.2.2⟩
  · rw [hs 0 (by omega)] at q
    have := hR.2
    rw [hs _ (by omega), hs _ (by omega)]
    exact a.1 s q
  · rw [hs _ (by omega)]
    exact a.2.1 i hi
  · rw [hs 85 (by omega)] at hi
    have := hY.2
    rw [hs _ (by omega)]
    exact a.2.2.1 i hi
/-- a cell that is none of the three -/
theorem Ar_k {h : mh_T} {f : Nat → Int32} {k j : Nat} {v : Int32} (hk : ¬ (k = 15 ∨ k = 16 ∨ k = 17 ∨ k = 20 ∨ k = 18 ∨ k = 19)) (a : Ar h f) : Ar (wI h k j v) f :=
  ⟨fun s hs => by rw [mI_wI, if_neg (by omega), mI_wI, if_neg (by omega)]; exact a.1 s hs, fun i hi => by rw [mI_wI, if_neg (by omega)]; exact a.2.1 i hi, fun i hi => by rw [mI_wI, if_neg (by omega)]; exact a.2.2.1 i hi, Al_k (by omega) a.2.2.2⟩
theorem Ar_17 {h : mh_T} {f : Nat → Int32} {j : Nat} {v : Int32} (hR : R 0 8 (f 0)) (hj : j < 32) (a : Ar h f) : Ar (wI h 17 j v) (rx_set f (17 + j) v) := by
  refine ⟨fun s q => ?_, fun i hi => ?_, fun i hi => ?_, Al_k (by decide) (Al_f (fun i hi => rx_set_o (by omega)) a.2.2.2)⟩
  · rw [rx_set_o (by omega)] at q
    have := hR.2
    rw [mI_wI, if_neg (by omega), mI_wI, if_neg (by omega), rx_set_o (by omega), rx_set_o (by omega)]
    exact a.1 s q
  · rw [mI_wI]
    by_cases z : i = j
    · rw [if_pos ⟨rfl, z⟩, z, rx_set_i]
    · rw [if_neg (by omega), rx_set_o (by omega)]
      exact a.2.1 i hi
  · rw [rx_set_o (by omega)] at hi
    rw [mI_wI, if_neg (by omega), rx_set_o (by omega)]
    exact a.2.2.1 i hi
/-- the set that is being read -/
theorem Ar_15 {h : mh_T} {f : Nat → Int32} {s : Nat} {v : Int32} (es : (f 0).toInt = (s : Int)) (hs : s < 8) (a : Ar h f) : Ar (wI h 15 s v) (rx_set f (1 + s) v) := by
  refine ⟨fun q hq => ?_, fun i hi => ?_, fun i hi => ?_, Al_k (by decide) (Al_f (fun i hi => rx_set_o (by omega)) a.2.2.2)⟩
  · rw [rx_set_o (by omega)] at hq
    rw [mI_wI, if_neg (by omega), mI_wI, if_neg (by omega), rx_set_o (by omega), rx_set_o (by omega)]
    exact a.1 q hq
  · rw [mI_wI, if_neg (by omega), rx_set_o (by omega)]
    exact a.2.1 i hi
  · rw [rx_set_o (by omega)] at hi
    rw [mI_wI, if_neg (by omega), rx_set_o (by omega)]
    exact a.2.2.1 i hi
theorem Ar_16 {h : mh_T} {f : Nat → Int32} {s : Nat} {v : Int32} (es : (f 0).toInt = (s : Int)) (hs : s < 8) (a : Ar h f) : Ar (wI h 16 s v) (rx_set f (9 + s) v) := by
  refine ⟨fun q hq => ?_, fun i hi => ?_, fun i hi => ?_, Al_k (by decide) (Al_f (fun i hi => rx_set_o (by omega)) a.2.2.2)⟩
  · rw [rx_set_o (by omega)] at hq
    rw [mI_wI, if_neg (by omega), mI_wI, if_neg (by omega), rx_set_o (by omega), rx_set_o (by omega)]
    exact a.1 q hq
  · rw [mI_wI, if_neg (by omega), rx_set_o (by omega)]
    exact a.2.1 i hi
  · rw [rx_set_o (by omega)] at hi
    rw [mI_wI, if_neg (by omega), rx_set_o (by omega)]
    exact a.2.2.1 i hi
/-- one set more -/
theorem Ar_0 {h : mh_T} {f : Nat → Int32} {s : Nat} (es : (f 0).toInt = (s : Int)) (hs : s < 8) (hx : mI h 15 s = f (1 + s) ∧ mI h 16 s = f (9 + s)) (a : Ar h f) : Ar h (rx_set f 0 (f 0 + 1)) := by
  have e1 := i_inc es (by omega)
  refine ⟨fun q hq => ?_, fun i hi => ?_, fun i hi => ?_, Al_f (fun i hi => rx_set_o (by omega)) a.2.2.2⟩
  · rw [rx_set_i, e1] at hq
    rw [rx_set_o (by omega), rx_set_o (by omega)]
    by_cases z : q = s
    · rw [z]; exact hx
    · exact a.1 q (by omega)
  · rw [rx_set_o (by omega)]
    exact a.2.1 i hi
  · rw [rx_set_o (by omega)] at hi
    rw [rx_set_o (by omega)]
    exact a.2.2.1 i hi
/-- the ray that is being read -/
theorem Ar_20 {h : mh_T} {f : Nat → Int32} {l j : Nat} {v : Int32} (hR : R 0 8 (f 0)) (el : (f 85).toInt = (l : Int)) (hj : 4 * l ≤ j) (a : Ar h f) : Ar (wI h 20 j v) (rx_set f (86 + j) v) := by
  have := hR.2
  refine ⟨fun q hq => ?_, fun i hi => ?_, fun i hi => ?_, Al_k (by decide) (Al_f (fun i hi => rx_set_o (by omega)) a.2.2.2)⟩
  · rw [rx_set_o (by omega)] at hq
    rw [mI_wI, if_neg (by omega), mI_wI, if_neg (by omega), rx_set_o (by omega), rx_set_o (by omega)]
    exact a.1 q hq
  · rw [mI_wI, if_neg (by omega), rx_set_o (by omega)]
    exact a.2.1 i hi
  · rw [rx_set_o (by omega)] at hi
    rw [mI_wI, if_neg (by omega), rx_set_o (by omega)]
    exact a.2.2.1 i hi
/-- one ray more -/
theorem Ar_85 {h : mh_T} {f : Nat → Int32} {l : Nat} (hR : R 0 8 (f 0)) (el : (f 85).toInt = (l : Int)) (hl : l < 18) (hx : ∀ k, k < 4 → mI h 20 (4 * l + k) = f (86 + 4 * l + k)) (a : Ar h f) : Ar h (rx_set f 85 (f 85 + 1)) := by
  have := hR.2
  have e1 := i_inc el (by omega)
  refine ⟨fun q hq => ?_, fun i hi => ?_, fun i hi => ?_, Al_f (fun i hi => rx_set_o (by omega)) a.2.2.2⟩
  · rw [rx_set_o (by omega)] at hq
    rw [rx_set_o (by omega), rx_set_o (by omega)]
    exact a.1 q hq
  · rw [rx_set_o (by omega)]
    exact a.2.1 i hi
  · rw [rx_set_i, e1] at hi
    rw [rx_set_o (by omega)]
    by_cases z : i < 4 * l
    · exact a.2.2.1 i (by omega)
    · have q := hx (i - 4 * l) (by omega)
      rw [show 4 * l + (i - 4 * l) = i by omega, show 86 + 4 * l + (i - 4 * l) = 86 + i by omega] at q
      exact q
theorem Ar_l {h : mh_T} {f : Nat → Int32} {l k : Nat} {v : Int32} (el : (f 52).toInt = (l : Int)) (hk : k = 18 ∨ k = 19) (a : Ar h f) : Ar (wI h k l v) f :=
  ⟨fun s hs => by rw [mI_wI, if_neg (by omega), mI_wI, if_neg (by omega)]; exact a.1 s hs, fun i hi => by rw [mI_wI, if_neg (by omega)]; exact a.2.1 i hi, fun i hi => by rw [mI_wI, if_neg (by omega)]; exact a.2.2.1 i hi, Al_w el a.2.2.2⟩
theorem Ar_g {h : mh_T} {f f' : Nat → Int32} (hR : R 0 8 (f 0)) (hY : R 0 18 (f 85)) (hs : ∀ i, (i < 49 ∨ (85 ≤ i ∧ i < 158)) → f' i = f i) (hl : Al h f') (a : Ar h f) : Ar h f' := by
  refine ⟨fun s q => ?_, fun i hi => ?_, fun i hi => ?_, hl⟩
  · rw [hs 0 (by omega)] at q
    have := hR.2
    rw [hs _ (by omega), hs _ (by omega)]
    exact a.1 s q
  · rw [hs _ (by omega)]
    exact a.2.1 i hi
  · rw [hs 85 (by omega)] at hi
    have := hY.2
    rw [hs _ (by omega)]
    exact a.2.2.1 i hi
theorem Ar_p {h : mh_T} {f : Nat → Int32} {l i : Nat} {v : Int32} (hR : R 0 8 (f 0)) (hY : R 0 18 (f 85)) (el : (f 52).toInt = (l : Int)) (hi : 53 + 3 * l ≤ i ∧ i < 77) (a : Ar h f) : Ar h (rx_set f i v) := Ar_g hR hY (fun q hq => rx_set_o (by omega)) (Al_p el hi a.2.2.2) a
theorem Ar_52 {h : mh_T} {f : Nat → Int32} {l : Nat} {b : Int32} (hR : R 0 8 (f 0)) (hY : R 0 18 (f 85)) (el : (f 52).toInt = (l : Int)) (hl : l < 8) (h19 : mI h 19 l = b) (h18 : Lp (mI h 18 l) (f (53 + 3 * l)) (f (54 + 3 * l)) (f (55 + 3 * l))) (a : Ar h f) : Ar h (rx_set (rx_set f (77 + l) b) 52 (f 52 + 1)) := Ar_g hR hY (fun q hq => by rw [rx_set_o (by omega), rx_set_o (by omega)]) (Al_52 el hl h19 h18 a.2.2.2) a
def Cs (h0 : mh_T) (T : Nat → Int32) (n e : Nat) (f : Nat → Int32) (h : mh_T) : Prop := Ok cms h0 h ∧ Tp h T n ∧ Tk h T n e ∧ e ≤ n ∧ Dr h f ∧ Nv f ∧ mI h 1 1 = 0 ∧ Ar h f
def Cx (h0 : mh_T) (w : Int32) (p : Nat) (h : mh_T) : Prop := Ok cms h0 h ∧ mI h 1 1 = w ∧ (mI h 1 2).toInt = (p : Int) ∧ ¬ w = 0
def Co (h0 : mh_T) (T : Nat → Int32) (n : Nat) (o : rx_O Unit) (r : Int32) (h : mh_T) : Prop := (∃ e f, o = .inr ((), e, f) ∧ r = 1 ∧ Cs h0 T n e f h) ∨ (∃ w p, o = .inl (w, p) ∧ r = 0 ∧ Cx h0 w p h)
theorem Kp_2 {h h' : mh_T} (a : Kp h h') {k : Nat} (hk : k < 62) (h1 : ¬ k = 1) : h'.1 k = h.1 k ∧ h'.2.1 k = h.2.1 k := by
  have := a.1.2.1 k hk (by intro z; exact h1 (List.mem_singleton.mp z))
  exact ⟨this.1, this.2.1⟩
theorem Dr_eq {h h' : mh_T} {f : Nat → Int32} (h2 : h'.1 2 = h.1 2) (h13 : h'.2.1 13 = h.2.1 13) (h14 : h'.2.1 14 = h.2.1 14) (d : Dr h f) : Dr h' f := by
  have e2 : ∀ j, mI h' 2 j = mI h 2 j := fun j => congrFun h2 j
  have e13 : ∀ j, mL h' 13 j = mL h 13 j := fun j => congrFun h13 j
  have e14 : ∀ j, mL h' 14 j = mL h 14 j := fun j => congrFun h14 j
  unfold Dr
  rw [e2, e2, e2, e2, e2, e2, e2]
  exact ⟨d.1, fun i hi => by rw [e13]; exact d.2.1 i hi, fun i hi => by rw [e14]; exact d.2.2 i hi⟩
theorem Cs_next {h0 h h' : mh_T} {T : Nat → Int32} {n e : Nat} {f : Nat → Int32} (c : Cs h0 T n e f h) (k : Kp h h') (t : Tk h' T n (rx_e T n e)) : Cs h0 T n (rx_e T n e) f h' :=
  ⟨Ok_tr c.1 k.1 (by decide), Tp_k k c.2.1, t, rx_e_le c.2.2.2.1, Dr_eq (Kp_2 k (by decide) (by decide)).1 (Kp_2 k (by decide) (by decide)).2 (Kp_2 k (by decide) (by decide)).2 c.2.2.2.2.1, c.2.2.2.2.2.1, by rw [k.2 1 (by decide)]; exact c.2.2.2.2.2.2.1, Ar_eq (Kp_2 k (by decide) (by decide)).1 (Kp_2 k (by decide) (by decide)).1 (Kp_2 k (by decide) (by decide)).1 (Kp_2 k (by decide) (by decide)).1 (Kp_2 k (by decide) (by decide)).1 (Kp_2 k (by decide) (by decide)).1 c.2.2.2.2.2.2.2⟩
theorem Cs_rf {h0 h : mh_T} {T : Nat → Int32} {n e : Nat} {f : Nat → Int32} (c : Cs h0 T n e f h) {w : Int32} (hw : ¬ w = 0) : Cx h0 w (rx_s T n e) (rf h w) := by
  refine ⟨Ok_w (Ok_w c.1 (k := 1) (j := 1) (lo := -2147483648) (hi := 2147483647) (by decide) (R_full _) (by decide) (by decide)) (k := 1) (j := 2) (lo := -2147483648) (hi := 2147483647) (by decide) (R_full _) (by decide) (by decide), ?_, ?_, hw⟩
  · unfold rf
    rw [mI_wI, if_neg (by decide), mI_wI, if_pos ⟨rfl, rfl⟩]
  · unfold rf
    rw [mI_wI, if_pos ⟨rfl, rfl⟩]
    exact c.2.2.1.1
theorem Co_rf {h0 h : mh_T} {T : Nat → Int32} {n e : Nat} {f : Nat → Int32} {o : rx_O Unit} (c : Cs h0 T n e f h) {w : Int32} (hw : ¬ w = 0) (ho : o = rx_no T n e w) : Co h0 T n o 0 (rf h w) := Or.inr ⟨w, rx_s T n e, ho, rfl, Cs_rf c hw⟩
/-- a slot of the draft, or of its lists, other than names -/
theorem Cs_w {h0 h : mh_T} {T : Nat → Int32} {n e : Nat} {f f' : Nat → Int32} (c : Cs h0 T n e f h) {k j : Nat} {v : Int32} {lo hi : Int} (er : rgT k j = (lo, hi)) (fr : R lo hi v) (hk : k ∈ cms) (h1 : ¬ k = 1) (hd : Dr (wI h k j v) f') (hv : Nv f') (hA : Ar (wI h k j v) f') : Cs h0 T n e f' (wI h k j v) := by
  have k12 : ¬ k = 12 := by
    intro z
    subst z
    exact absurd hk (by decide)
  have k0 : ¬ ((k = 0 ∧ (j = 10 ∨ j = 12 ∨ j = 13)) ∨ (k = 3 ∧ (j = 0 ∨ j = 1)) ∨ (k = 8 ∧ j = 0)) ∧ ¬ ((k = 11 ∧ (j = 2 ∨ j = 9 ∨ j = 10 ∨ j = 11 ∨ j = 14)) ∨ (k = 45 ∧ 49 ≤ j)) := by
    have m : ¬ k = 0 ∧ ¬ k = 3 ∧ ¬ k = 8 ∧ ¬ k = 11 ∧ ¬ k = 45 := by
      refine ⟨?_, ?_, ?_, ?_, ?_⟩ <;> (intro z; subst z; exact absurd hk (by decide))
    omega
  have hk62 : k < 62 ∧ ¬ k = 11 := (show ∀ x ∈ cms, x < 62 ∧ ¬ x = 11 by decide) k hk
  refine ⟨Ok_w c.1 er fr (Or.inl ⟨hk, hk62.1⟩) k0 (Or.inl (fun z => hk62.2 z.1)), ⟨?_, c.2.1.2.1, fun i hi => ?_⟩, ⟨?_, ?_, ?_, ?_, ?_⟩, c.2.2.2.1, hd, hv, ?_, hA⟩
  · rw [mI_wI, if_neg (fun z => h1 z.1.symm)]; exact c.2.1.1
  · rw [mI_wI, if_neg (fun z => k12 z.1.symm)]; exact c.2.1.2.2 i hi
  · rw [mI_wI, if_neg (fun z => h1 z.1.symm)]; exact c.2.2.1.1
  · rw [mI_wI, if_neg (fun z => h1 z.1.symm)]; exact c.2.2.1.2.1
  · rw [mI_wI, if_neg (fun z => h1 z.1.symm)]; exact c.2.2.1.2.2.1
  · intro z; rw [mI_wI, if_neg (fun z => h1 z.1.symm)]; exact c.2.2.1.2.2.2.1 z
  · intro z; rw [mL_wI]; exact c.2.2.1.2.2.2.2 z
  · rw [mI_wI, if_neg (fun z => h1 z.1.symm)]; exact c.2.2.2.2.2.2.1
theorem Nv_same {f f' : Nat → Int32} (h : ∀ i, (i = 50 ∨ i = 51 ∨ 211 ≤ i) → f' i = f i) (v : Nv f) : Nv f' := by
  have e50 := h 50 (Or.inl rfl)
  have e51 := h 51 (Or.inr (Or.inl rfl))
  have eu : ∀ j, rx_used f' j ↔ rx_used f j := fun j => by unfold rx_used; rw [e50, e51]
  have es : ∀ j, f' (211 + j) = f (211 + j) := fun j => h _ (Or.inr (Or.inr (by omega)))
  have el : ∀ j i, f' (226 + 8 * j + i) = f (226 + 8 * j + i) := fun j i => h _ (Or.inr (Or.inr (by omega)))
  have en : ∀ j, rx_en f' j = rx_en f j := fun j => by unfold rx_en; rw [es]; exact rx_ws_congr _ (fun i _ => el j i)
  refine ⟨by rw [e50]; exact v.1, by rw [e51]; exact v.2.1, fun j hj => ?_, fun i j hi hj ui uj e => ?_⟩
  · rw [eu, es]
    refine ⟨fun u => ⟨((v.2.2.1 j hj).1 u).1, fun i hi => ?_⟩, (v.2.2.1 j hj).2⟩
    rw [el]
    exact ((v.2.2.1 j hj).1 u).2 i hi
  · rw [en, en] at e
    exact v.2.2.2 i j hi hj ((eu i).mp ui) ((eu j).mp uj) e
theorem Dr_same {h : mh_T} {f f' : Nat → Int32} (hs : ∀ i, (i = 49 ∨ i = 50 ∨ i = 51 ∨ i = 0 ∨ i = 52 ∨ i = 85 ∨ i = 158 ∨ 211 ≤ i) → f' i = f i) (d : Dr h f) : Dr h f' := by
  have es : ∀ j, f' (211 + j) = f (211 + j) := fun j => hs _ (by omega)
  have en : ∀ j, rx_en f' j = rx_en f j := fun j => by unfold rx_en; rw [es]; exact rx_ws_congr _ (fun i _ => hs _ (by omega))
  unfold Dr
  rw [hs 49 (by omega), hs 50 (by omega), hs 51 (by omega), hs 0 (by omega), hs 52 (by omega), hs 85 (by omega), hs 158 (by omega)]
  exact ⟨d.1, fun i hi => by rw [en]; exact d.2.1 i hi, fun i hi => by rw [en]; exact d.2.2 i hi⟩
/-- the counts of the draft but those of names -/
theorem Dr_cnt {h : mh_T} {f : Nat → Int32} (d : Dr h f) {j i : Nat} {v : Int32} (hj : (j = 0 ∧ i = 49) ∨ (j = 3 ∧ i = 0) ∨ (j = 4 ∧ i = 52) ∨ (j = 5 ∧ i = 85) ∨ (j = 6 ∧ i = 158)) : Dr (wI h 2 j v) (rx_set f i v) := by
  have en : ∀ q, rx_en (rx_set f i v) q = rx_en f q := fun q => by
    unfold rx_en
    rw [rx_set_o (by omega)]
    exact rx_ws_congr _ (fun p _ => rx_set_o (by omega))
  refine ⟨?_, fun q hq => ?_, fun q hq => ?_⟩
  · obtain ⟨d0, d1, d2, d3, d4, d5, d6⟩ := d.1
    rcases hj with ⟨a, b⟩ | ⟨a, b⟩ | ⟨a, b⟩ | ⟨a, b⟩ | ⟨a, b⟩ <;> subst a <;> subst b <;> refine ⟨?_, ?_, ?_, ?_, ?_, ?_, ?_⟩ <;> first | (rw [mI_wI, if_neg (by decide), rx_set_o (by decide)]; assumption) | (rw [mI_wI, if_pos ⟨rfl, rfl⟩, rx_set_i])
  · rw [rx_set_o (by omega)] at hq
    rw [en, mL_wI]
    exact d.2.1 q hq
  · rw [rx_set_o (by omega)] at hq
    rw [en, mL_wI]
    exact d.2.2 q hq
theorem Cs_cnt {h0 h : mh_T} {T : Nat → Int32} {n e : Nat} {f : Nat → Int32} (c : Cs h0 T n e f h) {j i : Nat} {v : Int32} (hj : (j = 0 ∧ i = 49) ∨ (j = 3 ∧ i = 0) ∨ (j = 4 ∧ i = 52) ∨ (j = 5 ∧ i = 85) ∨ (j = 6 ∧ i = 158)) {lo hi : Int} (er : rgT 2 j = (lo, hi)) (fr : R lo hi v) (hA : Ar h (rx_set f i v)) : Cs h0 T n e (rx_set f i v) (wI h 2 j v) :=
  Cs_w c er fr (by decide) (by decide) (Dr_cnt c.2.2.2.2.1 hj) (Nv_same (fun q hq => rx_set_o (by omega)) c.2.2.2.2.2.1) (Ar_k (by decide) hA)
theorem Cs_r0 {h0 h : mh_T} {T : Nat → Int32} {n e : Nat} {f : Nat → Int32} (c : Cs h0 T n e f h) : R 0 8 (f 0) := by
  rw [← c.2.2.2.2.1.1.2.2.2.1]
  exact GI_rd c.1.1 2 3 (by decide)
theorem Cs_y0 {h0 h : mh_T} {T : Nat → Int32} {n e : Nat} {f : Nat → Int32} (c : Cs h0 T n e f h) : R 0 18 (f 85) := by
  rw [← c.2.2.2.2.1.1.2.2.2.2.2.1]
  exact GI_rd c.1.1 2 5 (by decide)
theorem Cs_Af {h0 h : mh_T} {T : Nat → Int32} {n e : Nat} {f : Nat → Int32} (c : Cs h0 T n e f h) {i : Nat} {v : Int32} (hi : 49 ≤ i ∧ ¬ (52 ≤ i ∧ i < 158)) : Ar h (rx_set f i v) := Ar_f (Cs_r0 c) (Cs_y0 c) (fun q hq => rx_set_o (by omega)) c.2.2.2.2.2.2.2
theorem c_readLaw {g : gT} {h0 h : mh_T} {P : Int32 → mh_T → Prop} {T : Nat → Int32} {n e : Nat} {f : Nat → Int32} (c : Cs h0 T n e f h) (hp : ∀ r h', Co h0 T n (rx_lawL T n e f) r h' → P r h') : MCi g yX6_readLaw uX6_readLaw [.ref 1] h P := by
  have e0 : mI h 2 0 = f 49 := c.2.2.2.2.1.1.1
  refine e_X6_readLaw ⟨fun z => ?_, fun z => ?_⟩
  · rw [e0] at z
    refine c_next c.1.1 c.2.1 c.2.2.1.2.1 (rx_e_le c.2.2.2.1) (fun h1 k1 t1 => ?_)
    have c1 := Cs_next c k1 t1
    have un : rx_lawL T n e f = rx_bind (rx_word T n 7 (rx_e T n e) f) (fun _ e1 f1 => rx_bind (rx_num T n 1 60 e1 f1) (fun v e2 f2 => .inr ((), e2, rx_set f2 49 v))) := by unfold rx_lawL; rw [if_pos z]
    rw [un] at hp
    refine c_passWord 7 (by decide) c1.1.1 c1.2.1 c1.2.2.1 c1.2.2.2.1 (fun w h2 k2 t2 => ⟨fun y => absurd y (by decide), fun _ => ?_⟩) (fun w => ⟨fun _ => ?_, fun y => absurd rfl y⟩)
    · have c2 := Cs_next c1 k2 t2
      have uw : rx_word T n 7 (rx_e T n e) f = .inr ((), rx_e T n (rx_e T n e), f) := by unfold rx_word; rw [if_pos w]
      rw [uw] at hp
      refine c_needWhole 1 60 c2.2.2.1 (fun k3 v => ⟨fun _ => ?_, fun y => absurd y (by decide)⟩) (fun k3 v => ⟨fun y => absurd rfl y, fun _ => ?_⟩) (fun k3 => ⟨fun y => absurd rfl y, fun _ => ?_⟩)
      · have un2 : rx_num T n 1 60 (rx_e T n (rx_e T n e)) f = .inr (rx_v T n (rx_e T n (rx_e T n e)), rx_e T n (rx_e T n (rx_e T n e)), f) := by
          unfold rx_num
          rw [if_neg (fun y => y k3), if_pos v]
        have c3 := Cs_cnt c2 (j := 0) (i := 49) (v := mI h2 1 11) (by omega) (lo := 0) (hi := 60) (by decide) (by
          rw [c2.2.2.1.2.2.2.1 k3]
          rw [i_le, i_le] at v
          exact ⟨by have := v.1; rw [show (1 : Int32).toInt = 1 from by decide] at this; omega, by have := v.2; rw [show (60 : Int32).toInt = 60 from by decide] at this; omega⟩) (Cs_Af c2 (by decide))
        refine c_next c3.1.1 c3.2.1 c3.2.2.1.2.1 (rx_e_le c3.2.2.2.1) (fun h4 k4 t4 => hp 1 _ (Or.inl ⟨_, _, ?_, rfl, Cs_next c3 k4 t4⟩))
        show rx_bind (rx_num T n 1 60 (rx_e T n (rx_e T n e)) f) _ = _
        rw [un2, c2.2.2.1.2.2.2.1 k3]
        rfl
      · refine hp 0 _ (Co_rf c2 (by decide) ?_)
        show rx_bind (rx_num T n 1 60 (rx_e T n (rx_e T n e)) f) _ = _
        unfold rx_num
        rw [if_neg (fun y => y k3), if_neg v]
        rfl
      · refine hp 0 _ (Co_rf c2 (by decide) ?_)
        show rx_bind (rx_num T n 1 60 (rx_e T n (rx_e T n e)) f) _ = _
        unfold rx_num
        rw [if_pos k3]
        rfl
    · refine hp 0 _ (Co_rf c1 (by decide) ?_)
      unfold rx_word
      rw [if_neg w]
      rfl
  · rw [e0] at z
    refine c_refuse 3 ⟨Or.inl rfl, hp 0 _ (Co_rf c (by decide) ?_)⟩
    unfold rx_lawL
    rw [if_neg z]
theorem Nv_new {T : Nat → Int32} {n e J : Nat} {f f' : Nat → Int32} (hv : Nv f) (hk : rx_k T n e = 2) (hn : rx_fd T n e f = none) (hJ : J < 15) (hnu : ¬ rx_used f J) (hu : ∀ j, j < 15 → (rx_used f' j ↔ rx_used f j ∨ j = J)) (r5 : R 0 6 (f' 50) ∧ R 0 9 (f' 51)) (es : ∀ j, ¬ j = J → j < 15 → f' (211 + j) = f (211 + j)) (eJ : f' (211 + J) = Int32.ofNat (rx_e T n e - rx_s T n e)) (el : ∀ j i, ¬ j = J → i < 8 → f' (226 + 8 * j + i) = f (226 + 8 * j + i)) (eL : ∀ i, i < rx_e T n e - rx_s T n e → f' (226 + 8 * J + i) = T (rx_s T n e + i)) : Nv f' ∧ rx_en f' J = rx_w T n e ∧ ∀ j, j < 15 → rx_used f j → rx_en f' j = rx_en f j := by
  obtain ⟨-, k1, k8, kl⟩ := rx_k2 hk
  have le : (Int32.ofNat (rx_e T n e - rx_s T n e)).toInt = ((rx_e T n e - rx_s T n e : Nat) : Int) := nI_toInt (n := rx_e T n e - rx_s T n e) (by omega)
  have enJ : rx_en f' J = rx_w T n e := by
    unfold rx_en rx_w
    rw [eJ, i_nat le]
    exact rx_ws_congr _ eL
  have eno : ∀ j, j < 15 → rx_used f j → rx_en f' j = rx_en f j := by
    intro j hj u
    have nj : ¬ j = J := fun z => hnu (z ▸ u)
    obtain ⟨⟨r1, r8⟩, -⟩ := (hv.2.2.1 j hj).1 u
    obtain ⟨m, em, m1, m8⟩ := i_R (x := f (211 + j)) ⟨r1, r8⟩ (by decide)
    unfold rx_en
    rw [es j nj hj, i_nat em]
    exact rx_ws_congr _ (fun i hi => el j i nj (by omega))
  refine ⟨⟨r5.1, r5.2, fun j hj => ?_, fun i j hi hj ui uj ee => ?_⟩, enJ, eno⟩
  · by_cases nj : j = J
    · subst nj
      rw [eJ]
      refine ⟨fun _ => ⟨⟨by omega, by omega⟩, fun i hi => ?_⟩, fun z => absurd ((hu j hj).mpr (Or.inr rfl)) z⟩
      rw [i_nat le] at hi
      rw [eL i hi]
      exact kl i hi
    · rw [es j nj hj, hu j hj]
      refine ⟨fun u => ?_, fun u => (hv.2.2.1 j hj).2 (fun z => u (Or.inl z))⟩
      have u : rx_used f j := u.resolve_right nj
      obtain ⟨⟨r1, r8⟩, rl⟩ := (hv.2.2.1 j hj).1 u
      obtain ⟨m, em, m1, m8⟩ := i_R (x := f (211 + j)) ⟨r1, r8⟩ (by decide)
      refine ⟨⟨r1, r8⟩, fun i hi => ?_⟩
      have := rl i hi
      rw [i_nat em] at hi
      rw [el j i nj (by omega)]
      exact this
  · have no : ∀ j, j < 15 → rx_used f j → ¬ rx_en f j = rx_w T n e := by
      intro j hj u z
      have := (rx_is_iff hv hk hj).mpr ⟨u, z⟩
      have q := rx_fd_at hv hk hj this
      rw [hn] at q
      cases q
    rcases (hu i hi).mp ui with ui | ui <;> rcases (hu j hj).mp uj with uj | uj
    · rw [eno i hi ui, eno j hj uj] at ee
      exact hv.2.2.2 i j hi hj ui uj ee
    · subst uj
      rw [eno i hi ui, enJ] at ee
      exact absurd ee (no i hi ui)
    · subst ui
      rw [eno j hj uj, enJ] at ee
      exact absurd ee.symm (no j hj uj)
    · rw [ui, uj]
/-- a new name comes in: at place c of its sort -/
theorem Cs_new {h0 h : mh_T} {T : Nat → Int32} {n e : Nat} {f : Nat → Int32} (c : Cs h0 T n e f h) (hk : rx_k T n e = 2) (hn : rx_fd T n e f = none) {l sl ci fs mo : Nat} (hq : (l = 13 ∧ sl = 1 ∧ ci = 50 ∧ fs = 0 ∧ mo = 6) ∨ (l = 14 ∧ sl = 2 ∧ ci = 51 ∧ fs = 6 ∧ mo = 9)) {m : Nat} (em : (f ci).toInt = (m : Int)) (hm : m < mo) : Cs h0 T n e (rx_set (rx_put T n e f (fs + (f ci).toNatClampNeg)) ci (f ci + 1)) (wI (wL h l m (mL h 1 10)) 2 sl ((mI h 2 sl) + 1)) := by
  obtain ⟨-, k1, k8, kl⟩ := rx_k2 hk
  have hv := c.2.2.2.2.2.1
  have d := c.2.2.2.2.1
  have hi := i_inc em (by omega)
  have r50 := hv.1
  have r51 := hv.2.1
  rw [i_nat em]
  have fo : ∀ i, ¬ i = ci → ¬ i = 211 + (fs + m) → ¬ (226 + 8 * (fs + m) ≤ i ∧ i < 226 + 8 * (fs + m) + (rx_e T n e - rx_s T n e)) → rx_set (rx_put T n e f (fs + m)) ci (f ci + 1) i = f i := by
    intro i a b z
    rw [rx_set_o a]
    unfold rx_put
    rw [if_neg b, if_neg z]
  have fc : rx_set (rx_put T n e f (fs + m)) ci (f ci + 1) ci = f ci + 1 := rx_set_i
  have N := Nv_new (T := T) (n := n) (e := e) (J := fs + m) (f := f) (f' := rx_set (rx_put T n e f (fs + m)) ci (f ci + 1)) hv hk hn (by omega)
    (by
      unfold rx_used
      rintro (z | z)
      · have := r50.2
        rcases hq with ⟨-, -, q, q2, q3⟩ | ⟨-, -, q, q2, q3⟩ <;> subst q <;> omega
      · rcases hq with ⟨-, -, q, q2, q3⟩ | ⟨-, -, q, q2, q3⟩ <;> subst q <;> omega)
    (by
      intro j hj
      unfold rx_used
      rcases hq with ⟨-, -, q, q2, q3⟩ | ⟨-, -, q, q2, q3⟩ <;> subst q <;> subst q2
      · rw [fc, fo 51 (by omega) (by omega) (by omega)]
        omega
      · rw [fc, fo 50 (by omega) (by omega) (by omega)]
        have := r50.2
        omega)
    (by
      rcases hq with ⟨-, -, q, q2, q3⟩ | ⟨-, -, q, q2, q3⟩ <;> subst q <;> subst q2
      · rw [fc, fo 51 (by omega) (by omega) (by omega)]
        exact ⟨⟨by omega, by omega⟩, r51⟩
      · rw [fc, fo 50 (by omega) (by omega) (by omega)]
        exact ⟨r50, ⟨by omega, by omega⟩⟩)
    (fun j nj hj => fo _ (by omega) (by omega) (by omega))
    (by
      rw [rx_set_o (by omega)]
      unfold rx_put
      rw [if_pos rfl])
    (fun j i nj hi8 => fo _ (by omega) (by omega) (by omega))
    (fun i hi8 => by
      rw [rx_set_o (by omega)]
      unfold rx_put
      rw [if_neg (by omega), if_pos (by omega)]
      congr 1
      omega)
  have cL : Cs h0 T n e f (wL h l m (mL h 1 10)) ∨ True := Or.inr trivial
  have k12 : ¬ l = 1 := by omega
  have esl : mI h 2 sl = f ci := by
    rcases hq with ⟨-, q, q2, -⟩ | ⟨-, q, q2, -⟩ <;> subst q <;> subst q2
    · exact d.1.2.1
    · exact d.1.2.2.1
  have rg : ∃ lo hi, rgT 2 sl = (lo, hi) ∧ R lo hi (mI h 2 sl + 1) := by
    rw [esl]
    rcases hq with ⟨-, q, q2, -, q3⟩ | ⟨-, q, q2, -, q3⟩ <;> subst q <;> subst q2
    · exact ⟨0, 6, by decide, ⟨by omega, by omega⟩⟩
    · exact ⟨0, 9, by decide, ⟨by omega, by omega⟩⟩
  obtain ⟨lo, hi', er, fr⟩ := rg
  refine ⟨Ok_w (Ok_wL c.1 (by rcases hq with q | q <;> (rw [q.1]; decide))) er fr (by decide) (by omega), ⟨?_, c.2.1.2.1, fun i hi => ?_⟩, ⟨?_, ?_, ?_, ?_, ?_⟩, c.2.2.2.1, ⟨?_, ?_, ?_⟩, N.1, ?_, ?_⟩
  · rw [mI_wI, if_neg (fun z => absurd z.1 (by decide)), mI_wL]; exact c.2.1.1
  · rw [mI_wI, if_neg (fun z => absurd z.1 (by decide)), mI_wL]; exact c.2.1.2.2 i hi
  · rw [mI_wI, if_neg (fun z => absurd z.1 (by decide)), mI_wL]; exact c.2.2.1.1
  · rw [mI_wI, if_neg (fun z => absurd z.1 (by decide)), mI_wL]; exact c.2.2.1.2.1
  · rw [mI_wI, if_neg (fun z => absurd z.1 (by decide)), mI_wL]; exact c.2.2.1.2.2.1
  · intro z; rw [mI_wI, if_neg (fun z => absurd z.1 (by decide)), mI_wL]; exact c.2.2.1.2.2.2.1 z
  · intro z; rw [mL_wI, mL_wL, if_neg (fun z => k12 z.1.symm)]; exact c.2.2.1.2.2.2.2 z
  · obtain ⟨d0, d1, d2, d3, d4, d5, d6⟩ := d.1
    rcases hq with ⟨-, q, q2, q3, -⟩ | ⟨-, q, q2, q3, -⟩ <;> subst q <;> subst q2 <;> subst q3 <;> refine ⟨?_, ?_, ?_, ?_, ?_, ?_, ?_⟩ <;> first | (rw [mI_wI, if_neg (by decide), mI_wL, fo _ (by decide) (by omega) (by omega)]; assumption) | (rw [mI_wI, if_pos ⟨rfl, rfl⟩, fc, esl])
  · intro i hi
    rw [mL_wI, mL_wL]
    rcases hq with ⟨q0, q, q2, q3, q4⟩ | ⟨q0, q, q2, q3, q4⟩ <;> subst q0 <;> subst q2 <;> subst q3
    · rw [fc] at hi
      by_cases z : i = m
      · subst z
        rw [if_pos ⟨rfl, rfl⟩, c.2.2.1.2.2.2.2 hk]
        have := N.2.1
        rw [Nat.zero_add] at this ⊢
        exact this.symm
      · rw [if_neg (fun y => z y.2), d.2.1 i (by omega)]
        exact (N.2.2 i (by omega) (Or.inl (by omega))).symm
    · rw [fo 50 (by omega) (by omega) (by omega)] at hi
      rw [if_neg (by omega), d.2.1 i hi]
      exact (N.2.2 i (by have := r50.2; omega) (Or.inl hi)).symm
  · intro i hi
    rw [mL_wI, mL_wL]
    rcases hq with ⟨q0, q, q2, q3, q4⟩ | ⟨q0, q, q2, q3, q4⟩ <;> subst q0 <;> subst q2 <;> subst q3
    · rw [fo 51 (by omega) (by omega) (by omega)] at hi
      rw [if_neg (by omega), d.2.2 i hi]
      exact (N.2.2 (6 + i) (by have := r51.2; omega) (Or.inr ⟨by omega, by omega⟩)).symm
    · rw [fc] at hi
      by_cases z : i = m
      · subst z
        rw [if_pos ⟨rfl, rfl⟩, c.2.2.1.2.2.2.2 hk]
        exact N.2.1.symm
      · rw [if_neg (fun y => z y.2), d.2.2 i (by omega)]
        exact (N.2.2 (6 + i) (by omega) (Or.inr ⟨by omega, by omega⟩)).symm
  · rw [mI_wI, if_neg (fun z => absurd z.1 (by decide)), mI_wL]; exact c.2.2.2.2.2.2.1
  · exact Ar_k (by decide) (Ar_eq rfl rfl rfl rfl rfl rfl (Ar_f (Cs_r0 c) (Cs_y0 c) (fun i hi => fo i (by omega) (by omega) (by omega)) c.2.2.2.2.2.2.2))
theorem c_readNames {g : gT} {h0 : mh_T} {P : Int32 → mh_T → Prop} {T : Nat → Int32} {n : Nat} (l sl ci fs mo : Nat) (l2 m2 : Int32) (hq : (l = 13 ∧ sl = 1 ∧ ci = 50 ∧ fs = 0 ∧ mo = 6 ∧ ¬ l2 = 0 ∧ m2 = 6) ∨ (l = 14 ∧ sl = 2 ∧ ci = 51 ∧ fs = 6 ∧ mo = 9 ∧ l2 = 0 ∧ m2 = 9)) : ∀ (k : Nat) (l3 : Int32) (e : Nat) (f : Nat → Int32) (h : mh_T), Cs h0 T n e f h → l3.toInt + (k : Int) = (mo : Int) + 1 → 0 ≤ l3.toInt → l3.toInt ≤ (f ci).toInt → (∀ r h', Co h0 T n (rx_nn T n ci fs m2 k (rx_e T n e) f) r h' → P r h') → ME g uX6_readNames 2 [.ref 1, .ref l, .int l2, .int l3, .retAddr 0] [] h (qI P) := by
  have hq' : (l = 13 ∧ sl = 1 ∧ ci = 50 ∧ fs = 0 ∧ mo = 6) ∨ (l = 14 ∧ sl = 2 ∧ ci = 51 ∧ fs = 6 ∧ mo = 9) := by
    rcases hq with ⟨a, b, c, d, e, -, -⟩ | ⟨a, b, c, d, e, -, -⟩
    · exact Or.inl ⟨a, b, c, d, e⟩
    · exact Or.inr ⟨a, b, c, d, e⟩
  have hs : shp l = (22, mo, []) := by
    rcases hq' with ⟨a, b, c, d, e⟩ | ⟨a, b, c, d, e⟩ <;> rw [a, e] <;> rfl
  have emo : (Int32.ofNat mo).toInt = (mo : Int) := nI_toInt (n := mo) (by omega)
  have em2 : m2.toInt = (mo : Int) := by
    rcases hq with ⟨a, b, c, d, e, -, z⟩ | ⟨a, b, c, d, e, -, z⟩ <;> rw [z, e] <;> decide
  intro k
  induction k with
  | zero =>
    intro l3 e f h c hl h3 hl3 hp
    exfalso
    have r50 := c.2.2.2.2.2.1.1.2
    have r51 := c.2.2.2.2.2.1.2.1.2
    rcases hq' with ⟨-, -, z, -, y⟩ | ⟨-, -, z, -, y⟩ <;> subst z <;> omega
  | succ k ih =>
    intro l3 e f h c hl h3 hl3 hp
    have rc : R 0 (mo : Int) (f ci) := by
      rcases hq' with ⟨-, -, z, -, y⟩ | ⟨-, -, z, -, y⟩ <;> subst z <;> subst y
      · exact c.2.2.2.2.2.1.1
      · exact c.2.2.2.2.2.1.2.1
    refine r_X6_readNames_2 l mo l2 l3 hs ⟨fun z => ?_, fun _ => ?_⟩
    · rw [i_lt, emo] at z
      omega
    refine c_next c.1.1 c.2.1 c.2.2.1.2.1 (rx_e_le c.2.2.2.1) (fun h4 k4 t4 => ?_)
    have c4 := Cs_next c k4 t4
    have key : rx_nm T n (rx_e T n e) = true → rx_fd T n (rx_e T n e) f = none → ∀ x : Int32, x = mI h4 2 sl → (x < Int32.ofNat mo → vp_in x mo ∧ MCv g yX6_next uX6_next [.ref 1] (wI (wL h4 l x.toNatClampNeg (mL h4 1 10)) 2 sl ((mI (wL h4 l x.toNatClampNeg (mL h4 1 10)) 2 sl) + 1)) (fun h13 => ((mI h13 1 8) = 44 → ME g uX6_readNames 2 [.ref 1, .ref l, .int l2, .int (l3 + 1), .retAddr 0] [] h13 (qI P)) ∧ (¬ (mI h13 1 8) = 44 → P 1 h13))) ∧ (¬ x < Int32.ofNat mo → MCi g yX6_refuse uX6_refuse [.ref 1, .int 5] h4 (fun r18 h17 => (r18 = 0 ∨ r18 = 1) ∧ P r18 h17)) := by
      intro nm fd x ex
      have k2 := (rx_nm_iff.mp nm).1
      have esl : mI h4 2 sl = f ci := by
        rcases hq' with ⟨-, q, q2, -⟩ | ⟨-, q, q2, -⟩ <;> subst q <;> subst q2
        · exact c4.2.2.2.2.1.1.2.1
        · exact c4.2.2.2.2.1.1.2.2.1
      rw [esl] at ex
      subst ex
      obtain ⟨m, em, m0, mm⟩ := i_R rc (by decide)
      have un : rx_nn T n ci fs m2 (k + 1) (rx_e T n e) f = if f ci = m2 then rx_no T n (rx_e T n e) 5 else (if rx_k T n (rx_e T n (rx_e T n e)) = 44 then rx_nn T n ci fs m2 k (rx_e T n (rx_e T n (rx_e T n e))) (rx_set (rx_put T n (rx_e T n e) f (fs + (f ci).toNatClampNeg)) ci (f ci + 1)) else .inr ((), rx_e T n (rx_e T n e), rx_set (rx_put T n (rx_e T n e) f (fs + (f ci).toNatClampNeg)) ci (f ci + 1))) := by
        show (if rx_nm T n (rx_e T n e) = true then _ else _) = _
        rw [if_pos nm, fd]
        rfl
      rw [un] at hp
      refine ⟨fun z => ⟨i_vp em (by rw [i_lt, emo, em] at z; omega), ?_⟩, fun z => ?_⟩
      · rw [i_lt, emo, em] at z
        have ne : ¬ f ci = m2 := fun y => by rw [y, em2] at em; omega
        rw [if_neg ne] at hp
        have cn := Cs_new c4 k2 fd hq' em (by omega)
        rw [i_nat em, mI_wL]
        refine c_next cn.1.1 cn.2.1 cn.2.2.1.2.1 (rx_e_le cn.2.2.2.1) (fun h13 k13 t13 => ?_)
        have c13 := Cs_next cn k13 t13
        rw [c13.2.2.1.2.2.1]
        refine ⟨fun y => ?_, fun y => ?_⟩
        · rw [if_pos y] at hp
          refine ih (l3 + 1) _ _ h13 c13 ?_ ?_ ?_ hp
          · rw [i_add rfl (show (1 : Int32).toInt = 1 from by decide) (by omega)]; omega
          · rw [i_add rfl (show (1 : Int32).toInt = 1 from by decide) (by omega)]; omega
          · rw [i_add rfl (show (1 : Int32).toInt = 1 from by decide) (by omega), rx_set_i, i_inc em (by omega)]; omega
        · rw [if_neg y] at hp
          exact hp 1 h13 (Or.inl ⟨_, _, rfl, rfl, c13⟩)
      · rw [i_lt, emo, em] at z
        have ee : f ci = m2 := Int32.toInt_inj.mp (by rw [em, em2]; omega)
        rw [if_pos ee] at hp
        exact c_refuse 5 ⟨Or.inl rfl, hp 0 _ (Co_rf c4 (by decide) rfl)⟩
    refine c_needNew c4.2.1 c4.2.2.1 c4.2.2.2.1 c4.2.2.2.2.1 c4.2.2.2.2.2.1 (fun nm fd => ⟨fun _ => ⟨fun l0 x ex => ?_, fun l0 x ex => ?_⟩, fun y => absurd y (by decide)⟩) (fun nm fd => ⟨fun y => absurd rfl y, fun _ => hp 0 _ (Co_rf c4 (by decide) ?_)⟩) (fun nm => ⟨fun y => absurd rfl y, fun _ => hp 0 _ (Co_rf c4 (by decide) ?_)⟩)
    · rcases hq with ⟨-, -, -, -, -, z, -⟩ | ⟨a, b, -, -, -, z, -⟩
      · exact absurd l0 z
      · subst b
        have q := key nm fd x ex
        exact ⟨fun y => ⟨(q.1 y).1, fun _ => (q.1 y).2, fun w => absurd l0 w⟩, q.2⟩
    · rcases hq with ⟨a, b, -, -, -, z, -⟩ | ⟨a, b, -, -, -, z, -⟩
      · subst b
        have q := key nm fd x ex
        exact ⟨fun y => ⟨(q.1 y).1, fun w => absurd w l0, fun _ => (q.1 y).2⟩, q.2⟩
      · exact absurd z l0
    · show (if rx_nm T n (rx_e T n e) = true then _ else _) = _
      rw [if_pos nm, if_pos fd]
    · show (if rx_nm T n (rx_e T n e) = true then _ else _) = _
      rw [if_neg nm]
