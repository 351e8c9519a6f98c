/-! the LINES as functions of the tape; f is a draft in the layout of the reference's list -/
def rx_nn (T : Nat → Int32) (n c fs : Nat) (mo : Int32) : Nat → Nat → (Nat → Int32) → rx_O Unit
  | 0, e, _ => rx_no T n e 5
  | k + 1, e, f => if rx_nm T n e = true then (if (rx_fd T n e f).isSome = true then rx_no T n e 3 else if f c = mo then rx_no T n e 5 else (if rx_k T n (rx_e T n e) = 44 then rx_nn T n c fs mo k (rx_e T n (rx_e T n e)) (rx_set (rx_put T n e f (fs + (f c).toNatClampNeg)) c (f c + 1)) else .inr ((), rx_e T n e, rx_set (rx_put T n e f (fs + (f c).toNatClampNeg)) c (f c + 1)))) else rx_no T n e 1
def rx_lawL (T : Nat → Int32) (n e : Nat) (f : Nat → Int32) : rx_O Unit := if f 49 = 0 then rx_bind (rx_word T n 7 (rx_e T n e) f) (fun _ e1 f1 => rx_bind (rx_num T n 1 60 e1 f1) (fun v e2 f2 => .inr ((), e2, rx_set f2 49 v))) else rx_no T n e 3
def rx_tm (T : Nat → Int32) (n s many : Nat) : Nat → Int32 → Nat → (Nat → Int32) → rx_O Unit
  | 0, _, e, f => .inr ((), e, rx_set f 0 (f 0 + 1))
  | r + 1, sum, e, f => rx_bind (if many = r + 1 then .inr ((), e, f) else rx_sign T n 44 e f) (fun _ e0 f0 => rx_bind (rx_num T n 0 60 e0 f0) (fun v e1 f1 => if r = 0 ∧ ¬ sum + v = f1 49 then rx_no T n e0 4 else rx_tm T n s many r (sum + v) e1 (rx_set f1 (17 + 4 * s + (many - (r + 1))) v)))
def rx_tell (T : Nat → Int32) (n : Nat) (one : Nat) (two : Int32) (e : Nat) (f : Nat → Int32) : rx_O Unit := rx_bind (rx_word T n 8 e (rx_set (rx_set f (1 + (f 0).toNatClampNeg) (Int32.ofNat one)) (9 + (f 0).toNatClampNeg) two)) (fun _ e1 f1 => rx_tm T n (f 0).toNatClampNeg (if two = -2 then 2 else 4) (if two = -2 then 2 else 4) 0 e1 f1)
def rx_setL (T : Nat → Int32) (n e : Nat) (f : Nat → Int32) : rx_O Unit := if f 49 = 0 then rx_no T n e 6 else if f 0 = 8 then rx_no T n e 5 else rx_bind (rx_name T n true (rx_e T n e) f) (fun one e1 f1 => if rx_k T n e1 = 44 then rx_bind (rx_name T n true (rx_e T n e1) f1) (fun two e2 f2 => if two = one then rx_no T n (rx_e T n e1) 3 else rx_tell T n one (Int32.ofNat two) e2 f2) else rx_tell T n one (-2) e1 f1)
def rx_pt (T : Nat → Int32) (n l : Nat) : Nat → (Nat → Bool) → Nat → (Nat → Int32) → rx_O Unit
  | 0, _, e, f => .inr ((), e, f)
  | r + 1, u, e, f => rx_bind (if r = 2 then .inr ((), e, f) else rx_sign T n 44 e f) (fun _ e0 f0 => rx_bind (rx_name T n false e0 f0) (fun p e1 f1 => if u p = true then rx_no T n e0 3 else rx_pt T n l r (fun q => q == p || u q) e1 (rx_set f1 (53 + 3 * l + (2 - r)) (Int32.ofNat p))))
def rx_lineL (T : Nat → Int32) (n e : Nat) (f : Nat → Int32) : rx_O Unit := if f 52 = 8 then rx_no T n e 5 else rx_bind (rx_pt T n (f 52).toNatClampNeg 3 (fun _ => false) (rx_e T n e) f) (fun _ e1 f1 => rx_bind (rx_word T n 9 e1 f1) (fun _ e2 f2 => if rx_wd T n e2 (bytJS.getD 11 []) = true then .inr ((), rx_e T n e2, rx_set (rx_set f2 (77 + (f 52).toNatClampNeg) 1) 52 (f 52 + 1)) else if rx_wd T n e2 (bytJS.getD 10 []) = true then .inr ((), rx_e T n e2, rx_set f2 52 (f 52 + 1)) else rx_no T n e2 1))
def rx_pa (T : Nat → Int32) (n l : Nat) : Nat → Bool → Nat → (Nat → Int32) → rx_O Unit
  | 0, _, e, f => .inr ((), e, rx_set f 85 (f 85 + 1))
  | r + 1, an, e, f => rx_bind (if r = 3 then .inr ((), e, f) else rx_sign T n 44 e f) (fun _ e0 f0 => rx_bind (rx_num T n 0 3 (if rx_k T n e0 = 45 then rx_e T n e0 else e0) f0) (fun v e1 f1 => if r = 0 ∧ an = false ∧ v = 0 then rx_no T n (if rx_k T n e0 = 45 then rx_e T n e0 else e0) 4 else rx_pa T n l r (an || decide (¬ v = 0)) e1 (rx_set f1 (86 + 4 * l + (3 - r)) (if rx_k T n e0 = 45 then -v else v))))
def rx_rayL (T : Nat → Int32) (n e : Nat) (f : Nat → Int32) : rx_O Unit := if f 85 = 18 then rx_no T n e 5 else rx_pa T n (f 85).toNatClampNeg 4 false (rx_e T n e) f
def rx_st (T : Nat → Int32) (n l : Nat) : Nat → Nat → (Nat → Int32) → rx_O Unit
  | 0, e, f => rx_bind (rx_name T n true e f) (fun _ _ _ => rx_no T n e 5)
  | r + 1, e, f => rx_bind (rx_name T n true e f) (fun k e1 f1 => rx_bind (rx_num T n 0 1 e1 f1) (fun v e2 f2 => if rx_k T n e2 = 44 then rx_st T n l r (rx_e T n e2) (rx_set (rx_set f2 (163 + 6 * l + (5 - r)) (Int32.ofNat k)) (187 + 6 * l + (5 - r)) v) else .inr ((), e2, rx_set (rx_set (rx_set (rx_set f2 (163 + 6 * l + (5 - r)) (Int32.ofNat k)) (187 + 6 * l + (5 - r)) v) (159 + l) (Int32.ofNat (6 - r))) 158 (f 158 + 1))))
def rx_runL (T : Nat → Int32) (n e : Nat) (f : Nat → Int32) : rx_O Unit := if f 158 = 4 then rx_no T n e 5 else rx_st T n (f 158).toNatClampNeg 6 (rx_e T n e) f
def rx_line (T : Nat → Int32) (n e : Nat) (f : Nat → Int32) : rx_O Unit := if rx_wd T n e (bytJS.getD 0 []) = true then rx_lawL T n e f else if rx_wd T n e (bytJS.getD 1 []) = true then rx_nn T n 50 0 6 7 (rx_e T n e) f else if rx_wd T n e (bytJS.getD 2 []) = true then rx_nn T n 51 6 9 10 (rx_e T n e) f else if rx_wd T n e (bytJS.getD 3 []) = true then rx_setL T n e f else if rx_wd T n e (bytJS.getD 4 []) = true then rx_lineL T n e f else if rx_wd T n e (bytJS.getD 5 []) = true then rx_rayL T n e f else if rx_wd T n e (bytJS.getD 6 []) = true then rx_runL T n e f else rx_no T n e 1
def rx_text (T : Nat → Int32) (n : Nat) : Nat → Nat → (Nat → Int32) → rx_O Unit
  | 0, e, _ => rx_no T n e 1
  | k + 1, e, f => rx_bind (rx_line T n e f) (fun _ e1 f1 => if rx_k T n e1 = 0 then (if f1 49 = 0 ∨ f1 50 = 0 then rx_no T n e1 6 else .inr ((), e1, f1)) else if rx_k T n e1 = 59 then rx_text T n k (rx_e T n e1) f1 else rx_no T n e1 1)
/-- what THE TEXT of n bytes comes to -/
def rx_book (T : Nat → Int32) (n : Nat) : rx_O Unit := rx_text T n (n + 1) 0 (fun _ => 0)
/-! words as numbers: five bits a letter -/
def rx_wn (T : Nat → Int32) (s : Nat) : Nat → Nat
  | 0 => 0
  | k + 1 => 32 * rx_wn T s k + ((T (s + k)).toInt.toNat - 96)
theorem rx_lr {c : Int32} (h : rx_l c = true) : 97 ≤ c.toInt ∧ c.toInt ≤ 122 := by
  unfold rx_l at h
  rw [decide_eq_true_iff, i_le, i_le] at h
  exact h
theorem rx_sh {x : Int64} {a d : Nat} (h : x.toInt = (a : Int)) (ha : a < 34359738368) (hd : d < 32) : (x <<< 5 ||| Int64.ofNat d).toInt = ((32 * a + d : Nat) : Int) := by
  have ex : x = Int64.ofNat a := Int64.toInt_inj.mp (by rw [h, Int64.toInt_ofNat_of_lt (by omega)])
  subst ex
  have key : (Int64.ofNat a <<< 5 ||| Int64.ofNat d) = Int64.ofNat (32 * a + d) := by
    apply Int64.toBitVec_inj.mp
    apply BitVec.eq_of_toNat_eq
    have e5 : ((5 : Int64).toBitVec.smod 64) = 5#64 := by decide
    rw [Int64.toBitVec_or, Int64.toBitVec_shiftLeft, e5]
    simp only [BitVec.toNat_or, BitVec.shiftLeft_eq', BitVec.toNat_shiftLeft, Int64.toBitVec_ofNat', BitVec.toNat_ofNat]
    rw [Nat.mod_eq_of_lt (show a < 2 ^ 64 by omega), Nat.mod_eq_of_lt (show d < 2 ^ 64 by omega), Nat.mod_eq_of_lt (show 32 * a + d < 2 ^ 64 by omega)]
    rw [show 5 % 2 ^ 64 = 5 from by decide, Nat.shiftLeft_eq, Nat.mod_eq_of_lt (show a * 2 ^ 5 < 2 ^ 64 by omega), ← Nat.shiftLeft_eq, ← Nat.shiftLeft_add_eq_or_of_lt (show d < 2 ^ 5 by omega), Nat.shiftLeft_eq]
    omega
  rw [key, Int64.toInt_ofNat_of_lt (by omega)]
theorem rx_wn_lt {T : Nat → Int32} {s : Nat} : ∀ k, (∀ i, i < k → rx_l (T (s + i)) = true) → rx_wn T s k < 32 ^ k
  | 0, _ => Nat.zero_lt_one
  | k + 1, h => by
    have a := rx_wn_lt k (fun i hi => h i (by omega))
    have b := rx_lr (h k (by omega))
    show 32 * rx_wn T s k + ((T (s + k)).toInt.toNat - 96) < 32 ^ (k + 1)
    rw [Nat.pow_succ]
    omega
theorem rx_ws_n {T : Nat → Int32} {s : Nat} : ∀ k, k ≤ 8 → (∀ i, i < k → rx_l (T (s + i)) = true) → (rx_ws T s k).toInt = (rx_wn T s k : Int)
  | 0, _, _ => by rfl
  | k + 1, hk, h => by
    have a := rx_ws_n k (by omega) (fun i hi => h i (by omega))
    have b := rx_lr (h k (by omega))
    have l := rx_wn_lt k (fun i hi => h i (by omega))
    have l2 : 32 ^ k ≤ 32 ^ 7 := Nat.pow_le_pow_right (by decide) (by omega)
    have ed : (T (s + k) - 97 + 1).toInt64 = Int64.ofNat ((T (s + k)).toInt.toNat - 96) := by
      apply Int64.toInt_inj.mp
      rw [Int64.toInt_ofNat_of_lt (by omega)]
      have i1 : (T (s + k) - 97).toInt = (T (s + k)).toInt - 97 := i_sub rfl (by decide) (by omega)
      have i2 : (T (s + k) - 97 + 1).toInt = (T (s + k)).toInt - 97 + 1 := i_add i1 (by decide) (by omega)
      rw [Int32.toInt_toInt64, i2]
      omega
    show (rx_ws T s k <<< 5 ||| (T (s + k) - 97 + 1).toInt64).toInt = _
    rw [ed]
    exact rx_sh a (by omega) (by omega)
/-- words that are alike in number are alike -/
theorem rx_wn_inj {T U : Nat → Int32} {s t : Nat} : ∀ k m, (∀ i, i < k → rx_l (T (s + i)) = true) → (∀ i, i < m → rx_l (U (t + i)) = true) → rx_wn T s k = rx_wn U t m → k = m ∧ ∀ i, i < k → T (s + i) = U (t + i)
  | 0, 0, _, _, _ => ⟨rfl, fun i hi => absurd hi (Nat.not_lt_zero i)⟩
  | 0, m + 1, _, hu, e => by
    have b := rx_lr (hu m (by omega))
    have e : 0 = 32 * rx_wn U t m + ((U (t + m)).toInt.toNat - 96) := e
    omega
  | k + 1, 0, ht, _, e => by
    have b := rx_lr (ht k (by omega))
    have e : 32 * rx_wn T s k + ((T (s + k)).toInt.toNat - 96) = 0 := e
    omega
  | k + 1, m + 1, ht, hu, e => by
    have b := rx_lr (ht k (by omega))
    have d := rx_lr (hu m (by omega))
    have e : 32 * rx_wn T s k + ((T (s + k)).toInt.toNat - 96) = 32 * rx_wn U t m + ((U (t + m)).toInt.toNat - 96) := e
    obtain ⟨a1, a2⟩ := rx_wn_inj k m (fun i hi => ht i (by omega)) (fun i hi => hu i (by omega)) (by omega)
    subst a1
    refine ⟨rfl, fun i hi => ?_⟩
    by_cases q : i = k
    · rw [q]
      apply Int32.toInt_inj.mp
      omega
    · exact a2 i (by omega)
