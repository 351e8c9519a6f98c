/-! cycles: isRing, isCycle -/
/-! cycles: the reference's isCycle -/
/-! cycles: their number, the i-th -/
/-! cycles: excess -/
def sg (A : Nat → Int) (z : Nat → Bool) (s : Nat) : Int := if z s = true then -A s else A s
/-! cycles: surplus, excessOf -/
def al (a : Nat → Int32) (s : Nat) : Int := (a (17 + 4 * s)).toInt + (a (17 + 4 * s + 3)).toInt - (a (17 + 4 * s + 1)).toInt - (a (17 + 4 * s + 2)).toInt
/-! cycles: excessOf -/
/-! cycles: greatest, widest -/
