/-! cycles: isRing, isCycle -/
/-! cycles: the reference's isCycle -/
/-! cycles: their number, the i-th -/
/-! cycles: excess -/
def sg (A : Nat → Int) (z : Nat → Bool) (s : Nat) : Int := if z s = true then -A s else A s
/-! cycles: surplus, excessOf -/
def al (a : Nat → Int32) (s : Nat) : Int := (a (17 + 4 * s)).toInt + (a (17 + 4 * s + 3)).toInt - (a (17 + 4 * s + 1)).toInt - (a (17 + 4 * s + 2)).toInt
/-! cycles: excessOf -/
/-! cycles: greatest, widest -/
/-! the number of set bits, all 32 of them (bcE of 4787921) -/
theorem bcsplit {b m y M : Nat} (hb : b < 256) (hm : m < 256) : (b + 256 * y) &&& (m + 256 * M) = (b &&& m) + 256 * (y &&& M) := by
  have hbm : b &&& m < 256 := Nat.lt_of_le_of_lt Nat.and_le_left hb
  apply Nat.eq_of_testBit_eq
  intro i
  rw [Nat.testBit_and, Nat.add_comm b, Nat.add_comm m, Nat.add_comm (b &&& m), Nat.testBit_two_pow_mul_add (i := 8) y hb, Nat.testBit_two_pow_mul_add (i := 8) M hm, Nat.testBit_two_pow_mul_add (i := 8) (y &&& M) hbm]
  split
  · rw [Nat.testBit_and]
  · rw [Nat.testBit_and]
theorem bcpk1 : ∀ b, b < 256 → ((b / 2) &&& 85 = (b / 2 + 128) &&& 85) ∧ (b / 2) &&& 85 ≤ b := by decide +kernel
def bcg1 (b : Nat) : Nat := b - ((b / 2) &&& 85)
theorem bcpk2 : ∀ c, c < 256 → ∀ z, z < 4 → (c / 4 + 64 * z) &&& 51 = (c / 4) &&& 51 := by decide +kernel
def bcg2 (c : Nat) : Nat := (c &&& 51) + ((c / 4) &&& 51)
def bcpq : Nat → Nat → Nat
  | _, 0 => 0
  | x, n + 1 => bcpq x n + (x.testBit n).toNat
theorem bcpk3 : ∀ b, b < 256 → bcg1 b < 256 ∧ bcg2 (bcg1 b) % 16 ≤ 4 ∧ bcg2 (bcg1 b) / 16 ≤ 4 ∧ bcg2 (bcg1 b) % 16 + bcg2 (bcg1 b) / 16 = bcpq b 8 := by decide +kernel
theorem bcst1 {b y M : Nat} (hb : b < 256) : (b + 256 * y) - (((b + 256 * y) / 2) &&& (85 + 256 * M)) = bcg1 b + 256 * (y - ((y / 2) &&& M)) := by
  have e : (b + 256 * y) / 2 = (b / 2 + 128 * (y % 2)) + 256 * (y / 2) := by omega
  have k := bcpk1 b hb
  have l : (y / 2) &&& M ≤ y := Nat.le_trans Nat.and_le_left (Nat.div_le_self _ _)
  rw [e, bcsplit (by omega) (by decide)]
  unfold bcg1
  have : (b / 2 + 128 * (y % 2)) &&& 85 = (b / 2) &&& 85 := by
    rcases Nat.mod_two_eq_zero_or_one y with h | h
    · rw [h, Nat.mul_zero, Nat.add_zero]
    · rw [h]; exact k.1.symm
  rw [this]
  omega
theorem bcst2 {c z M : Nat} (hc : c < 256) : ((c + 256 * z) &&& (51 + 256 * M)) + (((c + 256 * z) / 4) &&& (51 + 256 * M)) = bcg2 c + 256 * ((z &&& M) + ((z / 4) &&& M)) := by
  have e : (c + 256 * z) / 4 = (c / 4 + 64 * (z % 4)) + 256 * (z / 4) := by omega
  rw [e, bcsplit hc (by decide), bcsplit (by omega) (by decide), bcpk2 c hc (z % 4) (by omega)]
  unfold bcg2
  omega
theorem bcn12 {a b c d : Nat} (ha : a < 256) (hb : b < 256) (hc : c < 256) (_hd : d < 256) : let x := a + 256 * (b + 256 * (c + 256 * d)); let y := x - ((x / 2) &&& 1431655765); (y &&& 858993459) + ((y / 4) &&& 858993459) = bcg2 (bcg1 a) + 256 * (bcg2 (bcg1 b) + 256 * (bcg2 (bcg1 c) + 256 * bcg2 (bcg1 d))) ∧ y = bcg1 a + 256 * (bcg1 b + 256 * (bcg1 c + 256 * bcg1 d)) ∧ (x / 2) &&& 1431655765 ≤ x := by
  intro x y
  have h1 : y = bcg1 a + 256 * (bcg1 b + 256 * (bcg1 c + 256 * bcg1 d)) := by
    show (a + 256 * (b + 256 * (c + 256 * d))) - (((a + 256 * (b + 256 * (c + 256 * d))) / 2) &&& (85 + 256 * (85 + 256 * (85 + 256 * 85)))) = _
    rw [bcst1 ha, bcst1 hb, bcst1 hc]
    rfl
  refine ⟨?_, h1, Nat.le_trans Nat.and_le_left (Nat.div_le_self _ _)⟩
  rw [h1]
  show ((bcg1 a + 256 * (bcg1 b + 256 * (bcg1 c + 256 * bcg1 d))) &&& (51 + 256 * (51 + 256 * (51 + 256 * 51)))) + (((bcg1 a + 256 * (bcg1 b + 256 * (bcg1 c + 256 * bcg1 d))) / 4) &&& (51 + 256 * (51 + 256 * (51 + 256 * 51)))) = _
  rw [bcst2 (bcpk3 a ha).1, bcst2 (bcpk3 b hb).1, bcst2 (bcpk3 c hc).1]
  rfl
theorem bcm15 : ∀ e, e < 256 → e &&& 15 = e % 16 := by decide +kernel
theorem bcn3 {a b c d : Nat} (ha : a < 256) (hb : b < 256) (hc : c < 256) (hd : d < 256) : let n := bcg2 (bcg1 a) + 256 * (bcg2 (bcg1 b) + 256 * (bcg2 (bcg1 c) + 256 * bcg2 (bcg1 d))); (n + n / 16) &&& 252645135 = bcpq a 8 + 256 * (bcpq b 8 + 256 * (bcpq c 8 + 256 * bcpq d 8)) ∧ n + n / 16 < 4294967296 := by
  intro n
  have ka := bcpk3 a ha
  have kb := bcpk3 b hb
  have kc := bcpk3 c hc
  have kd := bcpk3 d hd
  have hn : n = bcg2 (bcg1 a) + 256 * (bcg2 (bcg1 b) + 256 * (bcg2 (bcg1 c) + 256 * bcg2 (bcg1 d))) := rfl
  generalize bcg2 (bcg1 a) = A at *
  generalize bcg2 (bcg1 b) = B at *
  generalize bcg2 (bcg1 c) = C at *
  generalize bcg2 (bcg1 d) = D at *
  have e : n + n / 16 = (A + A / 16 + 16 * (B % 16)) + 256 * ((B + B / 16 + 16 * (C % 16)) + 256 * ((C + C / 16 + 16 * (D % 16)) + 256 * (D + D / 16))) := by omega
  refine ⟨?_, by omega⟩
  rw [e, show (252645135 : Nat) = 15 + 256 * (15 + 256 * (15 + 256 * 15)) from rfl, bcsplit (by omega) (by decide), bcsplit (by omega) (by decide), bcsplit (by omega) (by decide), bcm15 _ (by omega), bcm15 _ (by omega), bcm15 _ (by omega), bcm15 _ (by omega)]
  have q : ∀ X Y P : Nat, X % 16 ≤ 4 → X / 16 ≤ 4 → X % 16 + X / 16 = P → (X + X / 16 + 16 * Y) % 16 = P := fun X Y P _ _ _ => by omega
  rw [q A _ _ ka.2.1 ka.2.2.1 ka.2.2.2, q B _ _ kb.2.1 kb.2.2.1 kb.2.2.2, q C _ _ kc.2.1 kc.2.2.1 kc.2.2.2, show (D + D / 16) % 16 = bcpq d 8 from q D 0 _ kd.2.1 kd.2.2.1 kd.2.2.2]
theorem bcpq_le : ∀ x n, bcpq x n ≤ n
  | _, 0 => Nat.le_refl _
  | x, n + 1 => by
    have := bcpq_le x n
    show bcpq x n + (x.testBit n).toNat ≤ n + 1
    have : (x.testBit n).toNat ≤ 1 := Bool.toNat_le _
    omega
theorem bcm63 {n : Nat} : n &&& 63 = n % 64 := Nat.and_two_pow_sub_one_eq_mod n 6
theorem bcn5 {p q r s : Nat} (hp : p ≤ 8) (hq : q ≤ 8) (hr : r ≤ 8) (hs : s ≤ 8) : let n := p + 256 * (q + 256 * (r + 256 * s)); let m := n + n / 256; (m + m / 65536) &&& 63 = p + q + r + s ∧ m < 4294967296 ∧ m + m / 65536 < 4294967296 := by
  intro n m
  have hn : n = p + 256 * (q + 256 * (r + 256 * s)) := rfl
  have hm : m = n + n / 256 := rfl
  have e1 : n / 256 = q + 256 * (r + 256 * s) := by omega
  have e2 : m = (p + q) + 256 * ((q + r) + 256 * ((r + s) + 256 * s)) := by omega
  have e3 : m / 65536 = (r + s) + 256 * s := by omega
  have e4 : m + m / 65536 = (p + q + r + s) + 64 * (4 * ((q + r) + s + 256 * ((r + s) + 256 * s))) := by omega
  rw [bcm63]
  refine ⟨?_, by omega, by omega⟩
  rw [e4, Nat.add_mul_mod_self_left]
  omega
def bctn (l : Int32) : Nat := l.toBitVec.toNat
theorem bctn_sh (a : Int32) (c : UInt32) (n m : Nat) (hc : c.toNat % 32 = n) (hm : 2 ^ n = m) : bctn ((a.toUInt32 >>> c).toInt32) = bctn a / m := by
  have e : bctn ((a.toUInt32 >>> c).toInt32) = (a.toUInt32 >>> c).toNat := rfl
  have e2 : bctn a = a.toUInt32.toNat := rfl
  rw [e, e2, UInt32.toNat_shiftRight, hc, Nat.shiftRight_eq_div_pow, hm]
theorem bctn_and (a b : Int32) : bctn (a &&& b) = bctn a &&& bctn b := by
  unfold bctn; rw [Int32.toBitVec_and, BitVec.toNat_and]
theorem bctn_sub {a b : Int32} (h : bctn b ≤ bctn a) : bctn (a - b) = bctn a - bctn b := by
  unfold bctn at *; rw [Int32.toBitVec_sub, BitVec.toNat_sub_of_le h]
theorem bctn_add {a b : Int32} (h : bctn a + bctn b < 4294967296) : bctn (a + b) = bctn a + bctn b := by
  unfold bctn at *; rw [Int32.toBitVec_add, BitVec.toNat_add, Nat.mod_eq_of_lt h]
theorem bctn_lt (l : Int32) : bctn l < 4294967296 := l.toBitVec.isLt
theorem bcpq_lo {a y : Nat} (ha : a < 256) : ∀ n, n ≤ 8 → bcpq (a + 256 * y) n = bcpq a n
  | 0, _ => rfl
  | n + 1, h => by
    show bcpq (a + 256 * y) n + ((a + 256 * y).testBit n).toNat = bcpq a n + (a.testBit n).toNat
    rw [bcpq_lo ha n (by omega), Nat.add_comm a, Nat.testBit_two_pow_mul_add (i := 8) y ha, if_pos (by omega)]
theorem bcpq_hi {a y : Nat} (ha : a < 256) : ∀ n, bcpq (a + 256 * y) (8 + n) = bcpq a 8 + bcpq y n
  | 0 => bcpq_lo ha 8 (Nat.le_refl _)
  | n + 1 => by
    show bcpq (a + 256 * y) (8 + n) + ((a + 256 * y).testBit (8 + n)).toNat = bcpq a 8 + (bcpq y n + (y.testBit n).toNat)
    rw [bcpq_hi ha n, Nat.add_comm a, Nat.testBit_two_pow_mul_add (i := 8) y ha, if_neg (by omega), Nat.add_sub_cancel_left]
    omega
/-- the same with the numbers as givens -/
def bcF (c1 c2 c3 c4 : Int32) (s1 s2 s3 s4 s5 : UInt32) (l0 : Int32) : Int32 :=
  let x1 := (l0 - (((l0.toUInt32 >>> s1).toInt32) &&& c1))
  let x2 := ((x1 &&& c2) + (((x1.toUInt32 >>> s2).toInt32) &&& c2))
  let x3 := ((x2 + ((x2.toUInt32 >>> s3).toInt32)) &&& c3)
  let x4 := (x3 + ((x3.toUInt32 >>> s4).toInt32))
  let x5 := (x4 + ((x4.toUInt32 >>> s5).toInt32))
  (x5 &&& c4)
theorem bcF1 {l c1 : Int32} {s1 : UInt32} (k1 : bctn c1 = 1431655765) (h1 : s1.toNat % 32 = 1) (le : (bctn l / 2) &&& 1431655765 ≤ bctn l) : bctn (l - (((l.toUInt32 >>> s1).toInt32) &&& c1)) = bctn l - ((bctn l / 2) &&& 1431655765) := by
  have q : bctn (((l.toUInt32 >>> s1).toInt32) &&& c1) = (bctn l / 2) &&& 1431655765 := by
    rw [bctn_and, bctn_sh l s1 1 2 h1 (by decide), k1]
  rw [bctn_sub (by rw [q]; exact le), q]
theorem bcF2 {x c2 : Int32} {s2 : UInt32} (k2 : bctn c2 = 858993459) (h2 : s2.toNat % 32 = 2) (lt : (bctn x &&& 858993459) + ((bctn x / 4) &&& 858993459) < 4294967296) : bctn ((x &&& c2) + (((x.toUInt32 >>> s2).toInt32) &&& c2)) = (bctn x &&& 858993459) + ((bctn x / 4) &&& 858993459) := by
  have q1 : bctn (x &&& c2) = bctn x &&& 858993459 := by rw [bctn_and, k2]
  have q2 : bctn (((x.toUInt32 >>> s2).toInt32) &&& c2) = (bctn x / 4) &&& 858993459 := by rw [bctn_and, bctn_sh x s2 2 4 h2 (by decide), k2]
  rw [bctn_add (by rw [q1, q2]; exact lt), q1, q2]
theorem bcF3 {x c3 : Int32} {s3 : UInt32} (k3 : bctn c3 = 252645135) (h3 : s3.toNat % 32 = 4) (lt : bctn x + bctn x / 16 < 4294967296) : bctn ((x + ((x.toUInt32 >>> s3).toInt32)) &&& c3) = (bctn x + bctn x / 16) &&& 252645135 := by
  have q : bctn ((x.toUInt32 >>> s3).toInt32) = bctn x / 16 := bctn_sh x s3 4 16 h3 (by decide)
  rw [bctn_and, bctn_add (by rw [q]; exact lt), q, k3]
theorem bcF4 {x : Int32} {s4 : UInt32} (h4 : s4.toNat % 32 = 8) (lt : bctn x + bctn x / 256 < 4294967296) : bctn (x + ((x.toUInt32 >>> s4).toInt32)) = bctn x + bctn x / 256 := by
  have q : bctn ((x.toUInt32 >>> s4).toInt32) = bctn x / 256 := bctn_sh x s4 8 256 h4 (by decide)
  rw [bctn_add (by rw [q]; exact lt), q]
theorem bcF5 {x c4 : Int32} {s5 : UInt32} (k4 : bctn c4 = 63) (h5 : s5.toNat % 32 = 16) (lt : bctn x + bctn x / 65536 < 4294967296) : bctn ((x + ((x.toUInt32 >>> s5).toInt32)) &&& c4) = (bctn x + bctn x / 65536) &&& 63 := by
  have q : bctn ((x.toUInt32 >>> s5).toInt32) = bctn x / 65536 := bctn_sh x s5 16 65536 h5 (by decide)
  rw [bctn_and, bctn_add (by rw [q]; exact lt), q, k4]
theorem bc4 (N : Nat) (h : N < 4294967296) : ∃ a b c d, a < 256 ∧ b < 256 ∧ c < 256 ∧ d < 256 ∧ N = a + 256 * (b + 256 * (c + 256 * d)) := ⟨N % 256, N / 256 % 256, N / 65536 % 256, N / 16777216, by omega, by omega, by omega, by omega, by omega⟩
theorem bcsum {a b c d : Nat} (ha : a < 256) (hb : b < 256) (hc : c < 256) : bcpq (a + 256 * (b + 256 * (c + 256 * d))) 32 = bcpq a 8 + bcpq b 8 + bcpq c 8 + bcpq d 8 := by
  have e1 : bcpq (a + 256 * (b + 256 * (c + 256 * d))) (8 + 24) = bcpq a 8 + bcpq (b + 256 * (c + 256 * d)) 24 := bcpq_hi ha 24
  have e2 : bcpq (b + 256 * (c + 256 * d)) (8 + 16) = bcpq b 8 + bcpq (c + 256 * d) 16 := bcpq_hi hb 16
  have e3 : bcpq (c + 256 * d) (8 + 8) = bcpq c 8 + bcpq d 8 := bcpq_hi hc 8
  have f1 : (8 + 24 : Nat) = 32 := rfl
  have f2 : (8 + 16 : Nat) = 24 := rfl
  have f3 : (8 + 8 : Nat) = 16 := rfl
  rw [f1] at e1
  rw [f2] at e2
  rw [f3] at e3
  omega
theorem bcN12 {N a b c d : Nat} (ha : a < 256) (hb : b < 256) (hc : c < 256) (hd : d < 256) (e : N = a + 256 * (b + 256 * (c + 256 * d))) {M : Nat} (eM : M = N - ((N / 2) &&& 1431655765)) : (N / 2) &&& 1431655765 ≤ N ∧ (M &&& 858993459) + ((M / 4) &&& 858993459) = bcg2 (bcg1 a) + 256 * (bcg2 (bcg1 b) + 256 * (bcg2 (bcg1 c) + 256 * bcg2 (bcg1 d))) := by
  subst e
  subst eM
  exact ⟨(bcn12 ha hb hc hd).2.2, (bcn12 ha hb hc hd).1⟩
theorem bcN3 {N a b c d : Nat} (ha : a < 256) (hb : b < 256) (hc : c < 256) (hd : d < 256) (e : N = bcg2 (bcg1 a) + 256 * (bcg2 (bcg1 b) + 256 * (bcg2 (bcg1 c) + 256 * bcg2 (bcg1 d)))) : (N + N / 16) &&& 252645135 = bcpq a 8 + 256 * (bcpq b 8 + 256 * (bcpq c 8 + 256 * bcpq d 8)) ∧ N + N / 16 < 4294967296 := by
  subst e
  exact bcn3 ha hb hc hd
theorem bcN5 {N M p q r s : Nat} (hp : p ≤ 8) (hq : q ≤ 8) (hr : r ≤ 8) (hs : s ≤ 8) (e : N = p + 256 * (q + 256 * (r + 256 * s))) (eM : M = N + N / 256) : (M + M / 65536) &&& 63 = p + q + r + s ∧ N + N / 256 < 4294967296 ∧ M + M / 65536 < 4294967296 := by
  subst eM
  subst e
  exact bcn5 hp hq hr hs
theorem bcg_lt {a : Nat} (ha : a < 256) : bcg2 (bcg1 a) ≤ 68 := by
  have k := bcpk3 a ha
  omega
theorem bcF_pq {c1 c2 c3 c4 : Int32} {s1 s2 s3 s4 s5 : UInt32} (k1 : bctn c1 = 1431655765) (k2 : bctn c2 = 858993459) (k3 : bctn c3 = 252645135) (k4 : bctn c4 = 63) (h1 : s1.toNat % 32 = 1) (h2 : s2.toNat % 32 = 2) (h3 : s3.toNat % 32 = 4) (h4 : s4.toNat % 32 = 8) (h5 : s5.toNat % 32 = 16) (l x1 x2 x3 x4 : Int32) (e1 : x1 = l - (((l.toUInt32 >>> s1).toInt32) &&& c1)) (e2 : x2 = (x1 &&& c2) + (((x1.toUInt32 >>> s2).toInt32) &&& c2)) (e3 : x3 = (x2 + ((x2.toUInt32 >>> s3).toInt32)) &&& c3) (e4 : x4 = x3 + ((x3.toUInt32 >>> s4).toInt32)) : bctn ((x4 + ((x4.toUInt32 >>> s5).toInt32)) &&& c4) = bcpq (bctn l) 32 := by
  obtain ⟨a, b, c, d, ha, hb, hc, hd, ex⟩ := bc4 (bctn l) (bctn_lt l)
  have n12 := bcN12 ha hb hc hd ex rfl
  have r1 : bctn x1 = bctn l - ((bctn l / 2) &&& 1431655765) := by rw [e1]; exact bcF1 k1 h1 n12.1
  have n2 := n12.2
  rw [← r1] at n2
  have la := bcg_lt ha
  have lb := bcg_lt hb
  have lc := bcg_lt hc
  have ld := bcg_lt hd
  have r2 := bcF2 (x := x1) k2 h2 (by rw [n2]; omega)
  rw [n2, ← e2] at r2
  have n3 := bcN3 ha hb hc hd r2
  have r3 := bcF3 (x := x2) k3 h3 n3.2
  rw [n3.1, ← e3] at r3
  have n5 := bcN5 (bcpq_le a 8) (bcpq_le b 8) (bcpq_le c 8) (bcpq_le d 8) r3 rfl
  have r4 := bcF4 (x := x3) h4 n5.2.1
  rw [← e4] at r4
  have n6 := bcN5 (bcpq_le a 8) (bcpq_le b 8) (bcpq_le c 8) (bcpq_le d 8) r3 r4
  have r5 := bcF5 (x := x4) k4 h5 n6.2.2
  rw [r5, n6.1, ex, bcsum ha hb hc]
theorem bcE_F (l : Int32) : bcE l = bcF 1431655765 858993459 252645135 63 (Int32.toUInt32 1 &&& Int32.toUInt32 31) (Int32.toUInt32 2 &&& Int32.toUInt32 31) (Int32.toUInt32 4 &&& Int32.toUInt32 31) (Int32.toUInt32 8 &&& Int32.toUInt32 31) (Int32.toUInt32 16 &&& Int32.toUInt32 31) l := by
  unfold bcE bcF
  rfl
theorem bcK1 : bctn (1431655765 : Int32) = 1431655765 := by decide +kernel
theorem bcK2 : bctn (858993459 : Int32) = 858993459 := by decide +kernel
theorem bcK3 : bctn (252645135 : Int32) = 252645135 := by decide +kernel
theorem bcK4 : bctn (63 : Int32) = 63 := by decide +kernel
theorem bcS1 : (Int32.toUInt32 1 &&& Int32.toUInt32 31).toNat % 32 = 1 := by decide +kernel
theorem bcS2 : (Int32.toUInt32 2 &&& Int32.toUInt32 31).toNat % 32 = 2 := by decide +kernel
theorem bcS3 : (Int32.toUInt32 4 &&& Int32.toUInt32 31).toNat % 32 = 4 := by decide +kernel
theorem bcS4 : (Int32.toUInt32 8 &&& Int32.toUInt32 31).toNat % 32 = 8 := by decide +kernel
theorem bcS5 : (Int32.toUInt32 16 &&& Int32.toUInt32 31).toNat % 32 = 16 := by decide +kernel
theorem bcF_all {c1 c2 c3 c4 : Int32} {s1 s2 s3 s4 s5 : UInt32} (k1 : bctn c1 = 1431655765) (k2 : bctn c2 = 858993459) (k3 : bctn c3 = 252645135) (k4 : bctn c4 = 63) (h1 : s1.toNat % 32 = 1) (h2 : s2.toNat % 32 = 2) (h3 : s3.toNat % 32 = 4) (h4 : s4.toNat % 32 = 8) (h5 : s5.toNat % 32 = 16) (l : Int32) : bctn (bcF c1 c2 c3 c4 s1 s2 s3 s4 s5 l) = bcpq (bctn l) 32 :=
  bcF_pq k1 k2 k3 k4 h1 h2 h3 h4 h5 l _ _ _ _ rfl rfl rfl rfl
theorem bcE_pq (l : Int32) : bctn (bcE l) = bcpq (bctn l) 32 := by
  rw [bcE_F]
  exact bcF_all bcK1 bcK2 bcK3 bcK4 bcS1 bcS2 bcS3 bcS4 bcS5 l
