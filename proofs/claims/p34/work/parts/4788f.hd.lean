/-! hidden answers: which fit; disturbed looks -/
def fB (a : Nat → Int32) (s : Nat) (h : Int32) : Bool := decide (¬ a (17 + 4 * s + (fo a s h).toInt.toNat) = 0)
def cN (p : Nat → Bool) : Nat → Nat
  | 0 => 0
  | k + 1 => cN p k + (if p k = true then 1 else 0)
theorem cN_le (p : Nat → Bool) : ∀ k, cN p k ≤ k
  | 0 => Nat.le_refl _
  | k + 1 => by
    have := cN_le p k
    show cN p k + (if p k = true then 1 else 0) ≤ k + 1
    split <;> omega
theorem cN_mono (p : Nat → Bool) {j : Nat} : ∀ {k}, j ≤ k → cN p j ≤ cN p k
  | 0, h => by
    have : j = 0 := by omega
    subst this
    exact Nat.le_refl _
  | k + 1, h => by
    by_cases e : j = k + 1
    · rw [e]; exact Nat.le_refl _
    · have := cN_mono p (j := j) (k := k) (by omega)
      show cN p j ≤ cN p k + (if p k = true then 1 else 0)
      omega
theorem cN_inj (p : Nat → Bool) {j k : Nat} (hj : p j = true) (hk : p k = true) (e : cN p j = cN p k) : j = k := by
  have s1 : cN p (j + 1) = cN p j + 1 := by
    show cN p j + (if p j = true then 1 else 0) = _
    rw [if_pos hj]
  have s2 : cN p (k + 1) = cN p k + 1 := by
    show cN p k + (if p k = true then 1 else 0) = _
    rw [if_pos hk]
  by_cases h1 : j < k
  · have := cN_mono p (j := j + 1) (k := k) (by omega)
    omega
  · by_cases h2 : k < j
    · have := cN_mono p (j := k + 1) (k := j) (by omega)
      omega
    · omega
theorem twoP : ∀ p, p < 32 → (1 <<< (Int32.ofNat p &&& 31) : Int32).toBitVec = BitVec.twoPow 32 p := by decide
theorem bt_orA {x r : Int32} {p : Nat} (e : r.toInt = (p : Int)) (hp : p < 32) (q : Nat) : bt (x ||| (1 <<< (r &&& 31))) q = (bt x q || decide (p = q)) := by
  unfold bt
  rw [Int32.toBitVec_or, BitVec.getLsbD_or, i_of e (by omega), twoP p hp, BitVec.getLsbD_twoPow]
  by_cases h : p = q
  · subst h
    simp [hp]
  · simp [h]
theorem bt_nul {x : Int32} : x = 0 ↔ ∀ t, bt x t = false := by
  constructor
  · intro h t
    subst h
    unfold bt
    show (0#32).getLsbD t = false
    exact BitVec.getLsbD_zero
  · intro h
    apply Int32.toBitVec_inj.mp
    apply BitVec.eq_of_getLsbD_eq
    intro i hi
    exact (h i).trans (BitVec.getLsbD_zero (w := 32)).symm
/-- the i-th that fits -/
def NT (p : Nat → Bool) (N : Nat) (i r : Int32) : Prop := ∃ k : Nat, k < N ∧ p k = true ∧ (cN p k : Int) = i.toInt ∧ r.toInt = (k : Int)
-- disturbed
/-! extend -/
theorem us_all : ∀ p, p < 32 → ((Int32.ofNat p).toUInt32 &&& Int32.toUInt32 31).toBitVec % 32 = BitVec.ofNat 32 p := by decide
theorem bt1 : ∀ i, i < 32 → (1#32).getLsbD i = decide (i = 0) := by decide
theorem ush_1 {x y : Int32} {p : Nat} (e : y.toInt = (p : Int)) (hp : p < 32) : ((x.toUInt32 >>> (y.toUInt32 &&& Int32.toUInt32 31)).toInt32) &&& 1 = if bt x p = true then 1 else 0 := by
  rw [i_of e (by omega)]
  have h1 : ((x.toUInt32 >>> ((Int32.ofNat p).toUInt32 &&& Int32.toUInt32 31)).toInt32).toBitVec = x.toBitVec >>> p := by
    show (x.toUInt32 >>> ((Int32.ofNat p).toUInt32 &&& Int32.toUInt32 31)).toBitVec = _
    rw [UInt32.toBitVec_shiftRight, us_all p hp, BitVec.ushiftRight_eq', BitVec.toNat_ofNat, Nat.mod_eq_of_lt (by omega)]
    rfl
  apply Int32.toBitVec_inj.mp
  rw [Int32.toBitVec_and, h1]
  apply BitVec.eq_of_getLsbD_eq
  intro i hi
  rw [BitVec.getLsbD_and, BitVec.getLsbD_ushiftRight]
  show (x.toBitVec.getLsbD (p + i) && (1#32).getLsbD i) = _
  rw [bt1 i hi]
  by_cases h0 : i = 0
  · subst h0
    unfold bt
    rw [Nat.add_zero]
    cases x.toBitVec.getLsbD p <;> decide
  · rw [decide_eq_false h0, Bool.and_false]
    split
    · show false = (1#32).getLsbD i
      rw [bt1 i hi, decide_eq_false h0]
    · show false = (0#32).getLsbD i
      exact (BitVec.getLsbD_zero).symm
theorem bt_clr {x r : Int32} {p : Nat} (e : r.toInt = (p : Int)) (hp : p < 32) (q : Nat) : bt (x &&& ((1 <<< (r &&& 31)) ^^^ (-1))) q = (bt x q && !decide (p = q)) := by
  unfold bt
  rw [Int32.toBitVec_and, BitVec.getLsbD_and, Int32.toBitVec_xor, BitVec.getLsbD_xor, i_of e (by omega), twoP p hp, BitVec.getLsbD_twoPow]
  show (x.toBitVec.getLsbD q && ((decide (p < 32) && decide (p = q)) ^^ (BitVec.allOnes 32).getLsbD q)) = _
  rw [BitVec.getLsbD_allOnes]
  by_cases hq : q < 32
  · by_cases h : p = q
    · subst h
      simp [hp]
    · simp [h, hq]
  · rw [BitVec.getLsbD_of_ge _ _ (by omega)]
    simp
/-! fair: both sides divide by the same common part -/
/-! cycles: what is a ring -/
theorem bt_oro (x y : Int32) (t : Nat) : bt (x ||| y) t = (bt x t || bt y t) := by
  unfold bt
  rw [Int32.toBitVec_or, BitVec.getLsbD_or]
theorem bt_ext2 {x y : Int32} (h : ∀ t, bt x t = bt y t) : x = y := by
  apply Int32.toBitVec_inj.mp
  apply BitVec.eq_of_getLsbD_eq
  intro i _
  exact h i
/-- the looks of a set, as bits -/
def lo (a : Nat → Int32) (s : Nat) : Int32 := (1 <<< (a (1 + s) &&& 31)) ||| (1 <<< (a (9 + s) &&& 31))
def hB (l : Int32) (s : Nat) : Bool := decide (¬ bv l (Int32.ofNat s) = 0)
def oF (E : Nat → Int32) (B : Nat → Bool) : Nat → Int32
  | 0 => 0
  | s + 1 => if B s = true then oF E B s ||| E s else oF E B s
def tF (E : Nat → Int32) (B : Nat → Bool) : Nat → Int32
  | 0 => 0
  | s + 1 => if B s = true then tF E B s ||| (oF E B s &&& E s) else tF E B s
def hF (E : Nat → Int32) (B : Nat → Bool) : Nat → Int32
  | 0 => 0
  | s + 1 => if B s = true then hF E B s ||| (tF E B s &&& E s) else hF E B s
def w6 (x : Int32) : Prop := ∀ t, 6 ≤ t → bt x t = false
abbrev cb (x : Int32) : Nat := cN (fun t => bt x t) 6
/-! cycles: isRing, isCycle -/
/-! cycles: the reference's isCycle -/
theorem bt_1A {r : Int32} {p : Nat} (e : r.toInt = (p : Int)) (hp : p < 32) (q : Nat) : bt (1 <<< (r &&& 31)) q = decide (p = q) := by
  have := bt_orA (x := 0) e hp q
  rw [bt_oro, (bt_nul (x := 0)).mp rfl q, Bool.false_or, Bool.false_or] at this
  exact this
/-! cycles: their number, the i-th -/
/-! cycles: excess -/
def sg (A : Nat → Int) (z : Nat → Bool) (s : Nat) : Int := if z s = true then -A s else A s
