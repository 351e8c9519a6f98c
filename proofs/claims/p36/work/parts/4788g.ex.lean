/-! extend -/
theorem bt_clr {x r : Int32} {p : Nat} (e : r.toInt = (p : Int)) (hp : p < 32) (q : Nat) : bt (x &&& ((1 <<< (r &&& 31)) ^^^ (-1))) q = (bt x q && !decide (p = q)) := by
  unfold bt
  rw [Int32.toBitVec_and, BitVec.getLsbD_and, Int32.toBitVec_xor, BitVec.getLsbD_xor, i_of e (by omega), twoP p hp, BitVec.getLsbD_twoPow]
  show (x.toBitVec.getLsbD q && ((decide (p < 32) && decide (p = q)) ^^ (BitVec.allOnes 32).getLsbD q)) = _
  rw [BitVec.getLsbD_allOnes]
  by_cases hq : q < 32
  · by_cases h : p = q
    · subst h
      simp [hp]
    · simp [h, hq]
  · rw [BitVec.getLsbD_of_ge _ _ (by omega)]
    simp
/-! fair: both sides divide by the same common part -/
/-! cycles: what is a ring -/
/-- the looks of a set, as bits -/
def lo (a : Nat → Int32) (s : Nat) : Int32 := (1 <<< (a (1 + s) &&& 31)) ||| (1 <<< (a (9 + s) &&& 31))
def hB (l : Int32) (s : Nat) : Bool := decide (¬ bv l (Int32.ofNat s) = 0)
def oF (E : Nat → Int32) (B : Nat → Bool) : Nat → Int32
  | 0 => 0
  | s + 1 => if B s = true then oF E B s ||| E s else oF E B s
def tF (E : Nat → Int32) (B : Nat → Bool) : Nat → Int32
  | 0 => 0
  | s + 1 => if B s = true then tF E B s ||| (oF E B s &&& E s) else tF E B s
def hF (E : Nat → Int32) (B : Nat → Bool) : Nat → Int32
  | 0 => 0
  | s + 1 => if B s = true then hF E B s ||| (tF E B s &&& E s) else hF E B s
def w6 (x : Int32) : Prop := ∀ t, 6 ≤ t → bt x t = false
abbrev cb (x : Int32) : Nat := cN (fun t => bt x t) 6
/-! cycles: isRing, isCycle -/
/-! cycles: the reference's isCycle -/
/-! cycles: their number, the i-th -/
/-! cycles: excess -/
def sg (A : Nat → Int) (z : Nat → Bool) (s : Nat) : Int := if z s = true then -A s else A s
/-! cycles: surplus, excessOf -/
def al (a : Nat → Int32) (s : Nat) : Int := (a (17 + 4 * s)).toInt + (a (17 + 4 * s + 3)).toInt - (a (17 + 4 * s + 1)).toInt - (a (17 + 4 * s + 2)).toInt
