/-! LINES: how many of the values make all lines so -/
def bv (v x : Int32) : Int32 := (v >>> (x &&& 31)) &&& 1
def rs (f : Nat → Int32) (v : Int32) (l : Nat) : Int32 := ((0 + bv v (f (53 + 3 * l))) + bv v (f (54 + 3 * l))) + bv v (f (55 + 3 * l))
abbrev lnc (f : Nat → Int32) (v : Int32) (l : Nat) : Prop := rs f v l - rs f v l / 2 * 2 = f (77 + l)
/-- the lines that a value makes so, as bits -/
def slb (f : Nat → Int32) (v : Int32) : Nat → Int32
  | 0 => 0
  | k + 1 => if lnc f v k then slb f v k ||| (1 <<< (Int32.ofNat k &&& 31)) else slb f v k
def wyc (f : Nat → Int32) (n : Nat) : Nat → Int32
  | 0 => 0
  | v + 1 => if slb f (Int32.ofNat v) n = (1 <<< (Int32.ofNat n &&& 31)) - 1 then wyc f n v + 1 else wyc f n v
theorem slb_cg {f g : Nat → Int32} {v : Int32} : ∀ k, k ≤ 8 → (∀ i, 53 ≤ i → i < 85 → f i = g i) → slb f v k = slb g v k
  | 0, _, _ => rfl
  | k + 1, hk, h => by
    have e : lnc f v k ↔ lnc g v k := by
      unfold lnc rs
      rw [h _ (by omega) (by omega), h _ (by omega) (by omega), h _ (by omega) (by omega), h _ (by omega) (by omega)]
    show (if lnc f v k then _ else _) = (if lnc g v k then _ else _)
    rw [slb_cg k (by omega) h]
    by_cases q : lnc g v k
    · rw [if_pos q, if_pos (e.mpr q)]
    · rw [if_neg q, if_neg (fun z => q (e.mp z))]
theorem wyc_cg {f g : Nat → Int32} {n : Nat} (hn : n ≤ 8) (h : ∀ i, 53 ≤ i → i < 85 → f i = g i) : ∀ v, wyc f n v = wyc g n v
  | 0 => rfl
  | v + 1 => by
    show (if slb f (Int32.ofNat v) n = _ then _ else _) = (if slb g (Int32.ofNat v) n = _ then _ else _)
    rw [slb_cg n hn h, wyc_cg hn h v]
/-- how many bits of nine -/
def S9 (g : Nat → Bool) : Nat := (g 0).toNat + (g 1).toNat + (g 2).toNat + (g 3).toNat + (g 4).toNat + (g 5).toNat + (g 6).toNat + (g 7).toNat + (g 8).toNat
def bcE (l0 : Int32) : Int32 :=
  let x1 := (l0 - (((l0.toUInt32 >>> (Int32.toUInt32 1 &&& Int32.toUInt32 31)).toInt32) &&& 1431655765))
  let x2 := ((x1 &&& 858993459) + (((x1.toUInt32 >>> (Int32.toUInt32 2 &&& Int32.toUInt32 31)).toInt32) &&& 858993459))
  let x3 := ((x2 + ((x2.toUInt32 >>> (Int32.toUInt32 4 &&& Int32.toUInt32 31)).toInt32)) &&& 252645135)
  let x4 := (x3 + ((x3.toUInt32 >>> (Int32.toUInt32 8 &&& Int32.toUInt32 31)).toInt32))
  let x5 := (x4 + ((x4.toUInt32 >>> (Int32.toUInt32 16 &&& Int32.toUInt32 31)).toInt32))
  (x5 &&& 63)
theorem v_bitCount {g : gT} {h : mh_T} {P : Int32 → mh_T → Prop} (l0 : Int32) (hp : P (bcE l0) h) : MCi g yJ6_bitCount_0f7a4 uJ6_bitCount_0f7a4 [.int l0] h P := by
  refine e_J6_bitCount_0f7a4 l0 (fun x1 e1 x2 e2 x3 e3 x4 e4 x5 e5 => ?_)
  subst e1 e2 e3 e4 e5
  exact hp
set_option maxRecDepth 100000 in
theorem bc_n : ∀ n, n < 512 → bcE (Int32.ofNat n) = Int32.ofNat (S9 (fun t => bt (Int32.ofNat n) t)) := by decide +kernel
theorem s9_1 (g : Nat → Bool) (a : Nat) (ha : a < 9) : S9 (fun t => g t && t == a) = (g a).toNat := by
  rcases (show a = 0 ∨ a = 1 ∨ a = 2 ∨ a = 3 ∨ a = 4 ∨ a = 5 ∨ a = 6 ∨ a = 7 ∨ a = 8 by omega) with q | q | q | q | q | q | q | q | q <;> subst q <;> simp [S9]
theorem s9_3 (g : Nat → Bool) (m : Nat → Bool) (a b c : Nat) (ha : a < 9) (hb : b < 9) (hc : c < 9) (ab : ¬ a = b) (ac : ¬ a = c) (bc : ¬ b = c) (hm : ∀ t, t < 9 → (m t = true ↔ t = a ∨ t = b ∨ t = c)) : S9 (fun t => g t && m t) = (g a).toNat + (g b).toNat + (g c).toNat := by
  have p : ∀ t, t < 9 → (g t && m t).toNat = (g t && t == a).toNat + (g t && t == b).toNat + (g t && t == c).toNat := fun t ht => by
    have h := hm t ht
    by_cases ea : t = a
    · have : m t = true := h.mpr (Or.inl ea)
      rw [this, ea, beq_self_eq_true, beq_false_of_ne ab, beq_false_of_ne ac]
      simp
    · by_cases eb : t = b
      · have : m t = true := h.mpr (Or.inr (Or.inl eb))
        rw [this, eb, beq_self_eq_true, beq_false_of_ne (fun z => ab z.symm), beq_false_of_ne bc]
        simp
      · by_cases ec : t = c
        · have : m t = true := h.mpr (Or.inr (Or.inr ec))
          rw [this, ec, beq_self_eq_true, beq_false_of_ne (fun z => ac z.symm), beq_false_of_ne (fun z => bc z.symm)]
          simp
        · have : m t = false := Bool.eq_false_iff.mpr (fun z => by rcases h.mp z with y | y | y; exact ea y; exact eb y; exact ec y)
          rw [this, beq_false_of_ne ea, beq_false_of_ne eb, beq_false_of_ne ec]
          simp
  have q1 := s9_1 g a ha
  have q2 := s9_1 g b hb
  have q3 := s9_1 g c hc
  unfold S9 at *
  dsimp only at q1 q2 q3
  rw [p 0 (by omega), p 1 (by omega), p 2 (by omega), p 3 (by omega), p 4 (by omega), p 5 (by omega), p 6 (by omega), p 7 (by omega), p 8 (by omega)]
  omega
theorem bv_b {v : Int32} {p : Nat} (hp : p < 9) : bv v (Int32.ofNat p) = Int32.ofNat (bt v p).toNat := by
  unfold bv
  rw [bt_s18 (r := Int32.ofNat p) (p := p) (Int32.toInt_ofNat_of_lt (by omega)) (by omega)]
  cases bt v p <;> rfl
theorem bt_and {x y : Int32} {t : Nat} : bt (x &&& y) t = (bt x t && bt y t) := by
  unfold bt
  rw [Int32.toBitVec_and, BitVec.getLsbD_and]
/-- both ways to count a line's ones agree -/
theorem bc_rs {v b x y z : Int32} {n : Nat} (ev : v.toInt = (n : Int)) (hn : n < 512) (lp : Lp b x y z) : bcE (v &&& b) = ((0 + bv v x) + bv v y) + bv v z := by
  obtain ⟨ps, p1, p2, ⟨ex, ey, ez⟩, p4⟩ := lp
  have rr : R 0 511 (v &&& b) := R_andl (x := v) (y := b) (c := 0) (d := 511) ⟨by omega, by omega⟩ (by decide)
  obtain ⟨k, ek, k0, k5⟩ := i_R rr (by decide)
  have e1 : v &&& b = Int32.ofNat k := i_of ek (by omega)
  rw [e1, bc_n k (by omega), ← e1]
  have s : S9 (fun t => bt (v &&& b) t) = (bt v (ps 0)).toNat + (bt v (ps 1)).toNat + (bt v (ps 2)).toNat := by
    have e : (fun t => bt (v &&& b) t) = fun t => bt v t && bt b t := by
      funext t
      exact bt_and
    rw [e]
    refine s9_3 (bt v) (bt b) (ps 0) (ps 1) (ps 2) (p1 0 (by decide)) (p1 1 (by decide)) (p1 2 (by decide)) (p2 0 1 (by decide) (by decide)) (p2 0 2 (by decide) (by decide)) (p2 1 2 (by decide) (by decide)) (fun t ht => ?_)
    rw [p4 t ht]
    constructor
    · rintro ⟨k, h1, h2⟩
      rcases (show k = 0 ∨ k = 1 ∨ k = 2 by omega) with q | q | q <;> subst q
      · exact Or.inl h2.symm
      · exact Or.inr (Or.inl h2.symm)
      · exact Or.inr (Or.inr h2.symm)
    · rintro (q | q | q)
      · exact ⟨0, by decide, q.symm⟩
      · exact ⟨1, by decide, q.symm⟩
      · exact ⟨2, by decide, q.symm⟩
  rw [s, ex, ey, ez, bv_b (p1 0 (by decide)), bv_b (p1 1 (by decide)), bv_b (p1 2 (by decide))]
  cases bt v (ps 0) <;> cases bt v (ps 1) <;> cases bt v (ps 2) <;> rfl
