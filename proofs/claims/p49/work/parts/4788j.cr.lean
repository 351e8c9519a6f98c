/-! cycles: isRing, isCycle -/
/-! cycles: the reference's isCycle -/
/-! cycles: their number, the i-th -/
/-! cycles: excess -/
def sg (A : Nat → Int) (z : Nat → Bool) (s : Nat) : Int := if z s = true then -A s else A s
/-! cycles: surplus, excessOf -/
def al (a : Nat → Int32) (s : Nat) : Int := (a (17 + 4 * s)).toInt + (a (17 + 4 * s + 3)).toInt - (a (17 + 4 * s + 1)).toInt - (a (17 + 4 * s + 2)).toInt
/-! cycles: excessOf -/
/-! cycles: greatest, widest -/
/-! the number of set bits, all 32 of them (bcE of 4787921) -/
theorem bcsplit {b m y M : Nat} (hb : b < 256) (hm : m < 256) : (b + 256 * y) &&& (m + 256 * M) = (b &&& m) + 256 * (y &&& M) := by
  have hbm : b &&& m < 256 := Nat.lt_of_le_of_lt Nat.and_le_left hb
  apply Nat.eq_of_testBit_eq
  intro i
  rw [Nat.testBit_and, Nat.add_comm b, Nat.add_comm m, Nat.add_comm (b &&& m), Nat.testBit_two_pow_mul_add (i := 8) y hb, Nat.testBit_two_pow_mul_add (i := 8) M hm, Nat.testBit_two_pow_mul_add (i := 8) (y &&& M) hbm]
  split
  · rw [Nat.testBit_and]
  · rw [Nat.testBit_and]
theorem bcpk1 : ∀ b, b < 256 → ((b / 2) &&& 85 = (b / 2 + 128) &&& 85) ∧ (b / 2) &&& 85 ≤ b := by decide +kernel
def bcg1 (b : Nat) : Nat := b - ((b / 2) &&& 85)
theorem bcpk2 : ∀ c, c < 256 → ∀ z, z < 4 → (c / 4 + 64 * z) &&& 51 = (c / 4) &&& 51 := by decide +kernel
def bcg2 (c : Nat) : Nat := (c &&& 51) + ((c / 4) &&& 51)
def bcpq : Nat → Nat → Nat
  | _, 0 => 0
  | x, n + 1 => bcpq x n + (x.testBit n).toNat
theorem bcpk3 : ∀ b, b < 256 → bcg1 b < 256 ∧ bcg2 (bcg1 b) % 16 ≤ 4 ∧ bcg2 (bcg1 b) / 16 ≤ 4 ∧ bcg2 (bcg1 b) % 16 + bcg2 (bcg1 b) / 16 = bcpq b 8 := by decide +kernel
theorem bcst1 {b y M : Nat} (hb : b < 256) : (b + 256 * y) - (((b + 256 * y) / 2) &&& (85 + 256 * M)) = bcg1 b + 256 * (y - ((y / 2) &&& M)) := by
  have e : (b + 256 * y) / 2 = (b / 2 + 128 * (y % 2)) + 256 * (y / 2) := by omega
  have k := bcpk1 b hb
  have l : (y / 2) &&& M ≤ y := Nat.le_trans Nat.and_le_left (Nat.div_le_self _ _)
  rw [e, bcsplit (by omega) (by decide)]
  unfold bcg1
  have : (b / 2 + 128 * (y % 2)) &&& 85 = (b / 2) &&& 85 := by
    rcases Nat.mod_two_eq_zero_or_one y with h | h
    · rw [h, Nat.mul_zero, Nat.add_zero]
    · rw [h]; exact k.1.symm
  rw [this]
  omega
theorem bcst2 {c z M : Nat} (hc : c < 256) : ((c + 256 * z) &&& (51 + 256 * M)) + (((c + 256 * z) / 4) &&& (51 + 256 * M)) = bcg2 c + 256 * ((z &&& M) + ((z / 4) &&& M)) := by
  have e : (c + 256 * z) / 4 = (c / 4 + 64 * (z % 4)) + 256 * (z / 4) := by omega
  rw [e, bcsplit hc (by decide), bcsplit (by omega) (by decide), bcpk2 c hc (z % 4) (by omega)]
  unfold bcg2
  omega
theorem bcn12 {a b c d : Nat} (ha : a < 256) (hb : b < 256) (hc : c < 256) (_hd : d < 256) : let x := a + 256 * (b + 256 * (c + 256 * d)); let y := x - ((x / 2) &&& 1431655765); (y &&& 858993459) + ((y / 4) &&& 858993459) = bcg2 (bcg1 a) + 256 * (bcg2 (bcg1 b) + 256 * (bcg2 (bcg1 c) + 256 * bcg2 (bcg1 d))) ∧ y = bcg1 a + 256 * (bcg1 b + 256 * (bcg1 c + 256 * bcg1 d)) ∧ (x / 2) &&& 1431655765 ≤ x := by
  intro x y
  have h1 : y = bcg1 a + 256 * (bcg1 b + 256 * (bcg1 c + 256 * bcg1 d)) := by
    show (a + 256 * (b + 256 * (c + 256 * d))) - (((a + 256 * (b + 256 * (c + 256 * d))) / 2) &&& (85 + 256 * (85 + 256 * (85 + 256 * 85)))) = _
    rw [bcst1 ha, bcst1 hb, bcst1 hc]
    rfl
  refine ⟨?_, h1, Nat.le_trans Nat.and_le_left (Nat.div_le_self _ _)⟩
  rw [h1]
  show ((bcg1 a + 256 * (bcg1 b + 256 * (bcg1 c + 256 * bcg1 d))) &&& (51 + 256 * (51 + 256 * (51 + 256 * 51)))) + (((bcg1 a + 256 * (bcg1 b + 256 * (bcg1 c + 256 * bcg1 d))) / 4) &&& (51 + 256 * (51 + 256 * (51 + 256 * 51)))) = _
  rw [bcst2 (bcpk3 a ha).1, bcst2 (bcpk3 b hb).1, bcst2 (bcpk3 c hc).1]
  rfl
theorem bcm15 : ∀ e, e < 256 → e &&& 15 = e % 16 := by decide +kernel
theorem bcn3 {a b c d : Nat} (ha : a < 256) (hb : b < 256) (hc : c < 256) (hd : d < 256) : let n := bcg2 (bcg1 a) + 256 * (bcg2 (bcg1 b) + 256 * (bcg2 (bcg1 c) + 256 * bcg2 (bcg1 d))); (n + n / 16) &&& 252645135 = bcpq a 8 + 256 * (bcpq b 8 + 256 * (bcpq c 8 + 256 * bcpq d 8)) ∧ n + n / 16 < 4294967296 := by
  intro n
  have ka := bcpk3 a ha
  have kb := bcpk3 b hb
  have kc := bcpk3 c hc
  have kd := bcpk3 d hd
  have hn : n = bcg2 (bcg1 a) + 256 * (bcg2 (bcg1 b) + 256 * (bcg2 (bcg1 c) + 256 * bcg2 (bcg1 d))) := rfl
  generalize bcg2 (bcg1 a) = A at *
  generalize bcg2 (bcg1 b) = B at *
  generalize bcg2 (bcg1 c) = C at *
  generalize bcg2 (bcg1 d) = D at *
  have e : n + n / 16 = (A + A / 16 + 16 * (B % 16)) + 256 * ((B + B / 16 + 16 * (C % 16)) + 256 * ((C + C / 16 + 16 * (D % 16)) + 256 * (D + D / 16))) := by omega
  refine ⟨?_, by omega⟩
  rw [e, show (252645135 : Nat) = 15 + 256 * (15 + 256 * (15 + 256 * 15)) from rfl, bcsplit (by omega) (by decide), bcsplit (by omega) (by decide), bcsplit (by omega) (by decide), bcm15 _ (by omega), bcm15 _ (by omega), bcm15 _ (by omega), bcm15 _ (by omega)]
  have q : ∀ X Y P : Nat, X % 16 ≤ 4 → X / 16 ≤ 4 → X % 16 + X / 16 = P → (X + X / 16 + 16 * Y) % 16 = P := fun X Y P _ _ _ => by omega
  rw [q A _ _ ka.2.1 ka.2.2.1 ka.2.2.2, q B _ _ kb.2.1 kb.2.2.1 kb.2.2.2, q C _ _ kc.2.1 kc.2.2.1 kc.2.2.2, show (D + D / 16) % 16 = bcpq d 8 from q D 0 _ kd.2.1 kd.2.2.1 kd.2.2.2]
theorem bcpq_le : ∀ x n, bcpq x n ≤ n
  | _, 0 => Nat.le_refl _
  | x, n + 1 => by
    have := bcpq_le x n
    show bcpq x n + (x.testBit n).toNat ≤ n + 1
    have : (x.testBit n).toNat ≤ 1 := Bool.toNat_le _
    omega
theorem bcm63 {n : Nat} : n &&& 63 = n % 64 := Nat.and_two_pow_sub_one_eq_mod n 6
theorem bcn5 {p q r s : Nat} (hp : p ≤ 8) (hq : q ≤ 8) (hr : r ≤ 8) (hs : s ≤ 8) : let n := p + 256 * (q + 256 * (r + 256 * s)); let m := n + n / 256; (m + m / 65536) &&& 63 = p + q + r + s ∧ m < 4294967296 ∧ m + m / 65536 < 4294967296 := by
  intro n m
  have hn : n = p + 256 * (q + 256 * (r + 256 * s)) := rfl
  have hm : m = n + n / 256 := rfl
  have e1 : n / 256 = q + 256 * (r + 256 * s) := by omega
  have e2 : m = (p + q) + 256 * ((q + r) + 256 * ((r + s) + 256 * s)) := by omega
  have e3 : m / 65536 = (r + s) + 256 * s := by omega
  have e4 : m + m / 65536 = (p + q + r + s) + 64 * (4 * ((q + r) + s + 256 * ((r + s) + 256 * s))) := by omega
  rw [bcm63]
  refine ⟨?_, by omega, by omega⟩
  rw [e4, Nat.add_mul_mod_self_left]
  omega
abbrev bctn (l : Int32) : Nat := l.toBitVec.toNat
theorem bctn_s1 (a : Int32) : bctn ((a.toUInt32 >>> (Int32.toUInt32 1 &&& Int32.toUInt32 31)).toInt32) = bctn a / 2 := Nat.shiftRight_eq_div_pow _ 1
theorem bctn_s2 (a : Int32) : bctn ((a.toUInt32 >>> (Int32.toUInt32 2 &&& Int32.toUInt32 31)).toInt32) = bctn a / 4 := Nat.shiftRight_eq_div_pow _ 2
theorem bctn_s4 (a : Int32) : bctn ((a.toUInt32 >>> (Int32.toUInt32 4 &&& Int32.toUInt32 31)).toInt32) = bctn a / 16 := Nat.shiftRight_eq_div_pow _ 4
theorem bctn_s8 (a : Int32) : bctn ((a.toUInt32 >>> (Int32.toUInt32 8 &&& Int32.toUInt32 31)).toInt32) = bctn a / 256 := Nat.shiftRight_eq_div_pow _ 8
theorem bctn_s16 (a : Int32) : bctn ((a.toUInt32 >>> (Int32.toUInt32 16 &&& Int32.toUInt32 31)).toInt32) = bctn a / 65536 := Nat.shiftRight_eq_div_pow _ 16
theorem bctn_and (a b : Int32) : bctn (a &&& b) = bctn a &&& bctn b := by
  unfold bctn; rw [Int32.toBitVec_and, BitVec.toNat_and]
theorem bctn_sub {a b : Int32} (h : bctn b ≤ bctn a) : bctn (a - b) = bctn a - bctn b := by
  unfold bctn at *; rw [Int32.toBitVec_sub, BitVec.toNat_sub_of_le h]
theorem bctn_add {a b : Int32} (h : bctn a + bctn b < 4294967296) : bctn (a + b) = bctn a + bctn b := by
  unfold bctn at *; rw [Int32.toBitVec_add, BitVec.toNat_add, Nat.mod_eq_of_lt h]
theorem bcpq_lo {a y : Nat} (ha : a < 256) : ∀ n, n ≤ 8 → bcpq (a + 256 * y) n = bcpq a n
  | 0, _ => rfl
  | n + 1, h => by
    show bcpq (a + 256 * y) n + ((a + 256 * y).testBit n).toNat = bcpq a n + (a.testBit n).toNat
    rw [bcpq_lo ha n (by omega), Nat.add_comm a, Nat.testBit_two_pow_mul_add (i := 8) y ha, if_pos (by omega)]
theorem bcpq_hi {a y : Nat} (ha : a < 256) : ∀ n, bcpq (a + 256 * y) (8 + n) = bcpq a 8 + bcpq y n
  | 0 => bcpq_lo ha 8 (Nat.le_refl _)
  | n + 1 => by
    show bcpq (a + 256 * y) (8 + n) + ((a + 256 * y).testBit (8 + n)).toNat = bcpq a 8 + (bcpq y n + (y.testBit n).toNat)
    rw [bcpq_hi ha n, Nat.add_comm a, Nat.testBit_two_pow_mul_add (i := 8) y ha, if_neg (by omega), Nat.add_sub_cancel_left]
    omega
theorem bcE_pq (l : Int32) : bctn (bcE l) = bcpq (bctn l) 32 := by
  have hx : bctn l < 4294967296 := l.toBitVec.isLt
  obtain ⟨a, b, c, d, ha, hb, hc, hd, ex⟩ : ∃ a b c d, a < 256 ∧ b < 256 ∧ c < 256 ∧ d < 256 ∧ bctn l = a + 256 * (b + 256 * (c + 256 * d)) := ⟨bctn l % 256, bctn l / 256 % 256, bctn l / 65536 % 256, bctn l / 16777216, by omega, by omega, by omega, by omega, by omega⟩
  have k := bcn12 ha hb hc hd
  have k3 := bcn3 ha hb hc hd
  have pa := bcpk3 a ha
  have pb := bcpk3 b hb
  have pc := bcpk3 c hc
  have pd := bcpk3 d hd
  have k5 := bcn5 (bcpq_le a 8) (bcpq_le b 8) (bcpq_le c 8) (bcpq_le d 8)
  simp only at k k3 k5
  rw [← ex] at k
  have sp : bcpq (bctn l) 32 = bcpq a 8 + bcpq b 8 + bcpq c 8 + bcpq d 8 := by
    rw [ex, bcpq_hi ha 24, bcpq_hi hb 16, bcpq_hi hc 8]
    omega
  unfold bcE
  simp only
  generalize e1 : l - (((l.toUInt32 >>> (Int32.toUInt32 1 &&& Int32.toUInt32 31)).toInt32) &&& 1431655765) = x1
  have h1 : bctn x1 = bctn l - ((bctn l / 2) &&& 1431655765) := by
    have q : bctn (((l.toUInt32 >>> (Int32.toUInt32 1 &&& Int32.toUInt32 31)).toInt32) &&& 1431655765) = (bctn l / 2) &&& 1431655765 := by
      rw [bctn_and, bctn_s1]; rfl
    rw [← e1, bctn_sub (by rw [q]; exact k.2.2), q]
  generalize e2 : (x1 &&& 858993459) + (((x1.toUInt32 >>> (Int32.toUInt32 2 &&& Int32.toUInt32 31)).toInt32) &&& 858993459) = x2
  have h2 : bctn x2 = bcg2 (bcg1 a) + 256 * (bcg2 (bcg1 b) + 256 * (bcg2 (bcg1 c) + 256 * bcg2 (bcg1 d))) := by
    have q1 : bctn (x1 &&& 858993459) = bctn x1 &&& 858993459 := by rw [bctn_and]; rfl
    have q2 : bctn (((x1.toUInt32 >>> (Int32.toUInt32 2 &&& Int32.toUInt32 31)).toInt32) &&& 858993459) = (bctn x1 / 4) &&& 858993459 := by rw [bctn_and, bctn_s2]; rfl
    have k1 := k.1
    rw [← h1] at k1
    rw [← e2, bctn_add (by rw [q1, q2, k1]; omega), q1, q2, k1]
  generalize e3 : (x2 + ((x2.toUInt32 >>> (Int32.toUInt32 4 &&& Int32.toUInt32 31)).toInt32)) &&& 252645135 = x3
  rw [← h2] at k3
  have h3 : bctn x3 = bcpq a 8 + 256 * (bcpq b 8 + 256 * (bcpq c 8 + 256 * bcpq d 8)) := by
    rw [← e3, bctn_and, bctn_add (by rw [bctn_s4]; exact k3.2), bctn_s4]
    exact k3.1
  generalize e4 : x3 + ((x3.toUInt32 >>> (Int32.toUInt32 8 &&& Int32.toUInt32 31)).toInt32) = x4
  rw [← h3] at k5
  have h4 : bctn x4 = bctn x3 + bctn x3 / 256 := by rw [← e4, bctn_add (by rw [bctn_s8]; exact k5.2.1), bctn_s8]
  rw [← h4] at k5
  rw [bctn_and, bctn_add (by rw [bctn_s16]; exact k5.2.2), bctn_s16, sp]
  exact k5.1
