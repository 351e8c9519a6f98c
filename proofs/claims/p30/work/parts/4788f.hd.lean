/-! hidden answers: which fit; disturbed looks -/
def fB (a : Nat → Int32) (s : Nat) (h : Int32) : Bool := decide (¬ a (17 + 4 * s + (fo a s h).toInt.toNat) = 0)
def cN (p : Nat → Bool) : Nat → Nat
  | 0 => 0
  | k + 1 => cN p k + (if p k = true then 1 else 0)
-- disturbed
/-! extend -/
/-! fair: both sides divide by the same common part -/
/-! cycles: what is a ring -/
/-- the looks of a set, as bits -/
def lo (a : Nat → Int32) (s : Nat) : Int32 := (1 <<< (a (1 + s) &&& 31)) ||| (1 <<< (a (9 + s) &&& 31))
def hB (l : Int32) (s : Nat) : Bool := decide (¬ bv l (Int32.ofNat s) = 0)
def oF (E : Nat → Int32) (B : Nat → Bool) : Nat → Int32
  | 0 => 0
  | s + 1 => if B s = true then oF E B s ||| E s else oF E B s
def tF (E : Nat → Int32) (B : Nat → Bool) : Nat → Int32
  | 0 => 0
  | s + 1 => if B s = true then tF E B s ||| (oF E B s &&& E s) else tF E B s
def hF (E : Nat → Int32) (B : Nat → Bool) : Nat → Int32
  | 0 => 0
  | s + 1 => if B s = true then hF E B s ||| (tF E B s &&& E s) else hF E B s
def w6 (x : Int32) : Prop := ∀ t, 6 ≤ t → bt x t = false
abbrev cb (x : Int32) : Nat := cN (fun t => bt x t) 6
/-! cycles: isRing, isCycle -/
/-! cycles: the reference's isCycle -/
/-! cycles: their number, the i-th -/
/-! cycles: excess -/
def sg (A : Nat → Int) (z : Nat → Bool) (s : Nat) : Int := if z s = true then -A s else A s
