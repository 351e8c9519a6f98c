/-! cycles: excess -/
def sg (A : Nat → Int) (z : Nat → Bool) (s : Nat) : Int := if z s = true then -A s else A s
def vS (A : Nat → Int) (B z : Nat → Bool) : Nat → Int
  | 0 => 0
  | s + 1 => if B s = true then vS A B z s + sg A z s else vS A B z s
def sS (A : Nat → Int) (B : Nat → Bool) : Nat → Int
  | 0 => 0
  | s + 1 => if B s = true then sS A B s + (if 0 ≤ A s then A s else -A s) else sS A B s
def mS (A : Nat → Int) (B : Nat → Bool) : Nat → Int
  | 0 => 60
  | s + 1 => if B s = true then (if (if 0 ≤ A s then A s else -A s) < mS A B s then (if 0 ≤ A s then A s else -A s) else mS A B s) else mS A B s
/-- how many of the chosen are in z -/
def zc (B z : Nat → Bool) : Nat → Nat
  | 0 => 0
  | s + 1 => if B s = true then zc B z s + (if z s = true then 1 else 0) else zc B z s
def ng (A : Nat → Int) (s : Nat) : Bool := decide (A s < 0)
theorem vS_le (A : Nat → Int) (B z : Nat → Bool) : ∀ n, vS A B z n ≤ sS A B n
  | 0 => Int.le_refl _
  | n + 1 => by
    have i := vS_le A B z n
    show (if B n = true then vS A B z n + sg A z n else vS A B z n) ≤ (if B n = true then sS A B n + (if 0 ≤ A n then A n else -A n) else sS A B n)
    unfold sg
    by_cases b : B n = true
    · rw [if_pos b, if_pos b]
      split <;> split <;> omega
    · rw [if_neg b, if_neg b]; exact i
theorem vS_odd (A : Nat → Int) (B z : Nat → Bool) : ∀ n, ¬ zc B z n % 2 = zc B (ng A) n % 2 → vS A B z n ≤ sS A B n - 2 * mS A B n
  | 0, h => absurd rfl h
  | n + 1, h => by
    have i := vS_odd A B z n
    have j := vS_le A B z n
    have h : ¬ (if B n = true then zc B z n + (if z n = true then 1 else 0) else zc B z n) % 2 = (if B n = true then zc B (ng A) n + (if ng A n = true then 1 else 0) else zc B (ng A) n) % 2 := h
    show (if B n = true then vS A B z n + sg A z n else vS A B z n) ≤ (if B n = true then sS A B n + (if 0 ≤ A n then A n else -A n) else sS A B n) - 2 * (if B n = true then (if (if 0 ≤ A n then A n else -A n) < mS A B n then (if 0 ≤ A n then A n else -A n) else mS A B n) else mS A B n)
    by_cases b : B n = true
    · rw [if_pos b, if_pos b, if_pos b]
      rw [if_pos b, if_pos b] at h
      unfold sg
      by_cases c : 0 ≤ A n
      · have e : ¬ ng A n = true := fun q => by have := of_decide_eq_true q; omega
        rw [if_neg e] at h
        rw [if_pos c]
        by_cases d : z n = true
        · rw [if_pos d]; split <;> omega
        · rw [if_neg d] at h ⊢
          have i := i (by omega)
          split <;> omega
      · have e : ng A n = true := decide_eq_true (by omega)
        rw [if_pos e] at h
        rw [if_neg c]
        by_cases d : z n = true
        · rw [if_pos d] at h ⊢
          have i := i (by omega)
          split <;> omega
        · rw [if_neg d]; split <;> omega
    · rw [if_neg b, if_neg b, if_neg b]
      rw [if_neg b, if_neg b] at h
      exact i h
theorem vS_ng (A : Nat → Int) (B : Nat → Bool) : ∀ n, vS A B (ng A) n = sS A B n
  | 0 => rfl
  | n + 1 => by
    show (if B n = true then vS A B (ng A) n + sg A (ng A) n else vS A B (ng A) n) = (if B n = true then sS A B n + (if 0 ≤ A n then A n else -A n) else sS A B n)
    rw [vS_ng A B n]
    have : sg A (ng A) n = (if 0 ≤ A n then A n else -A n) := by
      unfold sg
      by_cases c : 0 ≤ A n
      · rw [if_pos c, if_neg (fun q => by have := of_decide_eq_true q; omega)]
      · rw [if_neg c, if_pos (show ng A n = true from decide_eq_true (by omega))]
    rw [this]
theorem vS_cg {A : Nat → Int} {B y z : Nat → Bool} : ∀ n, (∀ s, s < n → B s = true → y s = z s) → vS A B y n = vS A B z n ∧ zc B y n = zc B z n
  | 0, _ => ⟨rfl, rfl⟩
  | n + 1, h => by
    have i := vS_cg (A := A) n (fun s hs => h s (by omega))
    show (if B n = true then vS A B y n + sg A y n else vS A B y n) = (if B n = true then vS A B z n + sg A z n else vS A B z n) ∧ (if B n = true then zc B y n + (if y n = true then 1 else 0) else zc B y n) = (if B n = true then zc B z n + (if z n = true then 1 else 0) else zc B z n)
    rw [i.1, i.2]
    by_cases b : B n = true
    · unfold sg
      rw [h n (by omega) b]
      exact ⟨rfl, rfl⟩
    · rw [if_neg b, if_neg b, if_neg b, if_neg b]
      exact ⟨rfl, rfl⟩
theorem mS_60 {A : Nat → Int} {B : Nat → Bool} : ∀ n, (¬ ∃ s, s < n ∧ B s = true) → mS A B n = 60
  | 0, _ => rfl
  | n + 1, h => by
    show (if B n = true then _ else mS A B n) = 60
    rw [if_neg (fun b => h ⟨n, by omega, b⟩)]
    exact mS_60 n (fun ⟨s, hs, b⟩ => h ⟨s, by omega, b⟩)
theorem mS_ex {A : Nat → Int} {B : Nat → Bool} : ∀ n, (∃ s, s < n ∧ B s = true) → (∀ s, s < n → B s = true → A s ≤ 60 ∧ -60 ≤ A s) → ∃ s, s < n ∧ B s = true ∧ mS A B n = (if 0 ≤ A s then A s else -A s)
  | 0, ⟨s, hs, _⟩, _ => absurd hs (Nat.not_lt_zero _)
  | n + 1, h, hA => by
    show ∃ s, s < n + 1 ∧ B s = true ∧ (if B n = true then (if (if 0 ≤ A n then A n else -A n) < mS A B n then (if 0 ≤ A n then A n else -A n) else mS A B n) else mS A B n) = _
    by_cases q : ∃ s, s < n ∧ B s = true
    · obtain ⟨s, h1, h2, h3⟩ := mS_ex n q (fun s hs => hA s (by omega))
      by_cases b : B n = true
      · rw [if_pos b]
        by_cases c : (if 0 ≤ A n then A n else -A n) < mS A B n
        · exact ⟨n, by omega, b, by rw [if_pos c]⟩
        · exact ⟨s, by omega, h2, by rw [if_neg c]; exact h3⟩
      · exact ⟨s, by omega, h2, by rw [if_neg b]; exact h3⟩
    · obtain ⟨s, hs, hb⟩ := h
      have e : s = n := Nat.le_antisymm (by omega) (Nat.le_of_not_lt (fun z => q ⟨s, z, hb⟩))
      rw [e] at hb
      have a := hA n (by omega) hb
      refine ⟨n, by omega, hb, ?_⟩
      rw [if_pos hb, mS_60 n q]
      split <;> split <;> omega
/-- the signs, one turned -/
def tn (A : Nat → Int) (j s : Nat) : Bool := if s = j then !ng A s else ng A s
theorem vS_tn {A : Nat → Int} {B : Nat → Bool} {j : Nat} (hb : B j = true) : ∀ n, j < n → vS A B (tn A j) n = sS A B n - 2 * (if 0 ≤ A j then A j else -A j) ∧ ¬ zc B (tn A j) n % 2 = zc B (ng A) n % 2
  | 0, h => absurd h (Nat.not_lt_zero _)
  | n + 1, h => by
    show (if B n = true then vS A B (tn A j) n + sg A (tn A j) n else vS A B (tn A j) n) = (if B n = true then sS A B n + (if 0 ≤ A n then A n else -A n) else sS A B n) - 2 * (if 0 ≤ A j then A j else -A j) ∧ ¬ (if B n = true then zc B (tn A j) n + (if tn A j n = true then 1 else 0) else zc B (tn A j) n) % 2 = (if B n = true then zc B (ng A) n + (if ng A n = true then 1 else 0) else zc B (ng A) n) % 2
    by_cases e : j = n
    · subst e
      have i := vS_cg (A := A) (B := B) (y := tn A j) (z := ng A) j (fun s hs _ => by unfold tn; rw [if_neg (by omega)])
      rw [i.1, i.2, vS_ng, if_pos hb, if_pos hb, if_pos hb, if_pos hb]
      have t : tn A j j = !ng A j := by unfold tn; rw [if_pos rfl]
      unfold sg
      rw [t]
      by_cases c : 0 ≤ A j
      · have e : ng A j = false := decide_eq_false (by omega)
        rw [e, if_pos c]
        refine ⟨?_, ?_⟩
        · rw [if_pos (by decide)]; omega
        · rw [if_pos (by decide), if_neg (by decide)]; omega
      · have e : ng A j = true := decide_eq_true (by omega)
        rw [e, if_neg c]
        refine ⟨?_, ?_⟩
        · rw [if_neg (by decide)]; omega
        · rw [if_neg (by decide), if_pos rfl]; omega
    · have i := vS_tn (A := A) hb n (by omega)
      have t : tn A j n = ng A n := by unfold tn; rw [if_neg (fun z => e z.symm)]
      have t2 : sg A (tn A j) n = (if 0 ≤ A n then A n else -A n) := by
        unfold sg
        rw [t]
        by_cases c : 0 ≤ A n
        · rw [if_pos c, if_neg (fun q => by have := of_decide_eq_true q; omega)]
        · rw [if_neg c, if_pos (show ng A n = true from decide_eq_true (by omega))]
      rw [t, t2, i.1]
      by_cases b : B n = true
      · rw [if_pos b, if_pos b, if_pos b, if_pos b]
        refine ⟨by omega, ?_⟩
        have := i.2
        split <;> omega
      · rw [if_neg b, if_neg b, if_neg b, if_neg b]
        exact ⟨rfl, i.2⟩
/-- the class's number is the greatest over odd turnings -/
def exF (A : Nat → Int) (B : Nat → Bool) (n : Nat) : Int := if zc B (ng A) n % 2 = 1 then sS A B n else sS A B n - 2 * mS A B n
theorem exF_le (A : Nat → Int) (B z : Nat → Bool) (n : Nat) (h : zc B z n % 2 = 1) : vS A B z n ≤ exF A B n := by
  unfold exF
  split
  · exact vS_le A B z n
  · exact vS_odd A B z n (by omega)
theorem exF_ex (A : Nat → Int) (B : Nat → Bool) (n : Nat) (hs : ∃ s, s < n ∧ B s = true) (hA : ∀ s, s < n → B s = true → A s ≤ 60 ∧ -60 ≤ A s) : ∃ z, zc B z n % 2 = 1 ∧ vS A B z n = exF A B n := by
  unfold exF
  by_cases o : zc B (ng A) n % 2 = 1
  · rw [if_pos o]
    exact ⟨ng A, o, vS_ng A B n⟩
  · rw [if_neg o]
    obtain ⟨j, j1, j2, j3⟩ := mS_ex n hs hA
    have t := vS_tn (A := A) j2 n j1
    exact ⟨tn A j, by omega, by rw [t.1, j3]⟩
