/-! fair: both sides divide by the same common part -/
abbrev rm6 (a b : Int64) : Int64 := a - a / b * b
def gq : Nat → Int64 → Int64 → Int64
  | 0, a, _ => a
  | n + 1, a, b => if b = 0 then a else gq n b (rm6 a b)
theorem rm_abs {a b : Int64} (hb : ¬ b = 0) : (rm6 a b).toInt.natAbs = a.toInt.natAbs % b.toInt.natAbs := by
  have e : (rm6 a b).toInt = a.toInt.tmod b.toInt := rem_ti hb
  rw [e, Int.natAbs_tmod]
/-- rounds that do: each two halve -/
theorem gq_st : ∀ (k n m : Nat) (a b : Int64), b.toInt.natAbs < 2 ^ k → 2 * k + 1 ≤ n → 2 * k + 1 ≤ m → gq n a b = gq m a b
  | 0, n, m, a, b, hb, hn, hm => by
    have z : b = 0 := Int64.toInt_inj.mp (by rw [show (0 : Int64).toInt = 0 from by decide]; omega)
    obtain ⟨n', en⟩ : ∃ n', n = n' + 1 := ⟨n - 1, by omega⟩
    obtain ⟨m', em⟩ : ∃ m', m = m' + 1 := ⟨m - 1, by omega⟩
    subst en em
    unfold gq
    rw [if_pos z, if_pos z]
  | k + 1, n, m, a, b, hb, hn, hm => by
    obtain ⟨n', en⟩ : ∃ n', n = n' + 1 := ⟨n - 1, by omega⟩
    obtain ⟨m', em⟩ : ∃ m', m = m' + 1 := ⟨m - 1, by omega⟩
    subst en em
    show (if b = 0 then a else gq n' b (rm6 a b)) = (if b = 0 then a else gq m' b (rm6 a b))
    by_cases z : b = 0
    · rw [if_pos z, if_pos z]
    · rw [if_neg z, if_neg z]
      have bp : 0 < b.toInt.natAbs := by
        have : ¬ b.toInt = 0 := fun w => z (Int64.toInt_inj.mp (by rw [w]; decide))
        omega
      have r1 := rm_abs (a := a) z
      have lt : (rm6 a b).toInt.natAbs < b.toInt.natAbs := by rw [r1]; exact Nat.mod_lt _ bp
      have p2 : 2 ^ (k + 1) = 2 * 2 ^ k := by rw [Nat.pow_succ]; omega
      by_cases h : (rm6 a b).toInt.natAbs < 2 ^ k
      · exact gq_st k n' m' b (rm6 a b) h (by omega) (by omega)
      · obtain ⟨n2, en⟩ : ∃ n2, n' = n2 + 1 := ⟨n' - 1, by omega⟩
        obtain ⟨m2, em⟩ : ∃ m2, m' = m2 + 1 := ⟨m' - 1, by omega⟩
        subst en em
        have z2 : ¬ rm6 a b = 0 := fun w => by
          rw [w, show (0 : Int64).toInt.natAbs = 0 from by decide] at h
          exact h (Nat.pow_pos (by decide))
        show (if rm6 a b = 0 then b else gq n2 (rm6 a b) (rm6 b (rm6 a b))) = (if rm6 a b = 0 then b else gq m2 (rm6 a b) (rm6 b (rm6 a b)))
        rw [if_neg z2, if_neg z2]
        have r2 := rm_abs (a := b) z2
        have e2 : b.toInt.natAbs % (rm6 a b).toInt.natAbs = b.toInt.natAbs - (rm6 a b).toInt.natAbs := by
          rw [Nat.mod_eq_sub_mod (by omega), Nat.mod_eq_of_lt (by omega)]
        exact gq_st k n2 m2 (rm6 a b) (rm6 b (rm6 a b)) (by rw [r2, e2]; omega) (by omega) (by omega)
theorem v_commonPart {g : gT} {h : mh_T} {P : Int64 → mh_T → Prop} (a b : Int64) (hp : P (gq 128 a b) h) : MCl g yX2_commonPart uX2_commonPart [.long a, .long b] h P := by
  have L : ∀ (n : Nat) (l4 l6 : Int64) (l8 : Int32), l8.toInt + (n : Int) = 128 → P (gq n l4 l6) h → ME g uX2_commonPart 9 [.long a, .retAddr 0, .long b, .retAddr 0, .long l4, .retAddr 0, .long l6, .retAddr 0, .int l8, .retAddr 0, .retAddr 0] [] h (qL P) := by
    intro n
    have z : (128 : Int32).toInt = 128 := by decide
    induction n with
    | zero =>
      intro l4 l6 l8 e hq
      exact r_X2_commonPart_9 a b l4 l6 l8 ⟨fun _ => hq, fun c => absurd (i_le.mpr (by omega)) c⟩
    | succ n ih =>
      intro l4 l6 l8 e hq
      refine r_X2_commonPart_9 a b l4 l6 l8 ⟨fun c => absurd (i_le.mp c) (by omega), fun c => ⟨fun w => ?_, fun w => ⟨lg_ne w, fun x4 e4 => ih l6 x4 (l8 + 1) ?_ ?_⟩⟩⟩
      · unfold gq at hq
        rw [if_pos (lg_eq w)] at hq
        exact hq
      · have : (l8 + 1).toInt = l8.toInt + 1 := i_add rfl (by decide) (by have := Int32.le_toInt l8; omega)
        omega
      · unfold gq at hq
        rw [if_neg (lg_ne w)] at hq
        rw [e4]
        exact hq
  exact e_X2_commonPart a b (L 128 a b 0 (by decide) hp)
theorem v_common {g : gT} {h : mh_T} {P : Int64 → mh_T → Prop} (a b : Int64) (h0 : ¬ (a = 0 ∧ b = 0)) (hb : b.toInt.natAbs < 2 ^ 32) (hp : ¬ gq 128 a b = 0 → P (gq 128 a b) h) : MCl g yX11_common uX11_common [.long a, .long b] h P := by
  have L : ∀ (n : Nat) (l4 l6 : Int64), ¬ (l4 = 0 ∧ l6 = 0) → l6.toInt.natAbs < n → l6.toInt.natAbs < 2 ^ 32 → (¬ gq 128 l4 l6 = 0 → P (gq 128 l4 l6) h) → ME g uX11_common 6 [.long a, .retAddr 0, .long b, .retAddr 0, .long l4, .retAddr 0, .long l6, .retAddr 0, .retAddr 0, .retAddr 0] [] h (qL P) := by
    intro n
    induction n with
    | zero => intro l4 l6 _ hm; omega
    | succ n ih =>
      intro l4 l6 hz hm hs hq
      refine r_X11_common_6 a b l4 l6 ⟨fun c => ?_, fun c => ⟨lg_ne c, fun x3 e3 => ?_⟩⟩
      · have e : gq 128 l4 l6 = l4 := by
          show (if l6 = 0 then l4 else gq 127 l6 (rm6 l4 l6)) = l4
          rw [if_pos (lg_eq c)]
        rw [e] at hq
        exact hq (fun z => hz ⟨z, lg_eq c⟩)
      · have nz := lg_ne c
        have lt := rem_abs (x := l4) nz
        rw [← e3] at lt
        have e : gq 128 l4 l6 = gq 128 l6 x3 := by
          rw [e3]
          show (if l6 = 0 then l4 else gq 127 l6 (rm6 l4 l6)) = gq 128 l6 (rm6 l4 l6)
          rw [if_neg nz]
          refine gq_st 32 127 128 l6 (rm6 l4 l6) ?_ (by omega) (by omega)
          show (l4 - l4 / l6 * l6).toInt.natAbs < _
          rw [← e3]
          omega
        rw [e] at hq
        exact ih l6 x3 (fun z => nz z.1) (by omega) (by omega) hq
  exact e_X11_common a b (L _ a b h0 (Nat.lt_succ_self _) hb hp)
