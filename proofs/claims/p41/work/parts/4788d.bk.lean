/-! BOOK: the table that a text makes, and the relation after it -/
def Gd {α : Type} (o : rx_O α) (Q : α → (Nat → Int32) → Prop) : Prop := ∀ v e f, o = .inr (v, e, f) → Q v f
theorem Gd_no {α : Type} {T : Nat → Int32} {n e : Nat} {w : Int32} {Q : α → (Nat → Int32) → Prop} : Gd (rx_no T n e w : rx_O α) Q := fun _ _ _ h => by cases h
theorem Gd_in {α : Type} {v : α} {e : Nat} {f : Nat → Int32} {Q : α → (Nat → Int32) → Prop} (h : Q v f) : Gd (.inr (v, e, f) : rx_O α) Q := fun _ _ _ q => by cases q; exact h
theorem Gd_bind {α β : Type} {o : rx_O α} {k : α → Nat → (Nat → Int32) → rx_O β} {Q : α → (Nat → Int32) → Prop} {Q' : β → (Nat → Int32) → Prop} (h : Gd o Q) (hk : ∀ v e f, Q v f → Gd (k v e f) Q') : Gd (rx_bind o k) Q' := by
  intro v e f q
  cases a : o with
  | inl z => rw [a] at q; cases q
  | inr z =>
    obtain ⟨v1, e1, f1⟩ := z
    rw [a] at q
    exact hk v1 e1 f1 (h v1 e1 f1 a) v e f q
theorem Gd_ite {α : Type} {c : Prop} [Decidable c] {x y : rx_O α} {Q : α → (Nat → Int32) → Prop} (hx : c → Gd x Q) (hy : ¬ c → Gd y Q) : Gd (if c then x else y) Q := by
  by_cases h : c
  · rw [if_pos h]; exact hx h
  · rw [if_neg h]; exact hy h
theorem Gd_word {T : Nat → Int32} {n i e : Nat} {f : Nat → Int32} : Gd (rx_word T n i e f) (fun _ f' => f' = f) := Gd_ite (fun _ => Gd_in rfl) (fun _ => Gd_no)
theorem Gd_sign {T : Nat → Int32} {n : Nat} {c : Int32} {e : Nat} {f : Nat → Int32} : Gd (rx_sign T n c e f) (fun _ f' => f' = f) := Gd_ite (fun _ => Gd_in rfl) (fun _ => Gd_no)
theorem Gd_num {T : Nat → Int32} {n : Nat} {lo hi : Int32} {e : Nat} {f : Nat → Int32} : Gd (rx_num T n lo hi e f) (fun v f' => f' = f ∧ lo.toInt ≤ v.toInt ∧ v.toInt ≤ hi.toInt) := Gd_ite (fun _ => Gd_no) (fun _ => Gd_ite (fun h => Gd_in ⟨rfl, i_le.mp h.1, i_le.mp h.2⟩) (fun _ => Gd_no))
theorem Gd_name {T : Nat → Int32} {n : Nat} {lk : Bool} {e : Nat} {f : Nat → Int32} : Gd (rx_name T n lk e f) (fun k f' => f' = f ∧ k < 15) := by
  unfold rx_name
  refine Gd_ite (fun _ => ?_) (fun _ => Gd_no)
  cases a : rx_fd T n e f with
  | none => exact Gd_no
  | some j =>
    have j15 : j < 15 := List.mem_range.mp (List.mem_of_find?_eq_some a)
    refine Gd_ite (fun _ => Gd_in ⟨rfl, ?_⟩) (fun _ => Gd_no)
    split <;> omega
/-- nothing below 49 changes -/
abbrev Lo (f f' : Nat → Int32) : Prop := (∀ i, i < 49 → f' i = f i)
abbrev LoL (f f' : Nat → Int32) : Prop := (∀ i, i < 50 → f' i = f i)
theorem rx_set_lo {f f' : Nat → Int32} {j : Nat} {v : Int32} (hj : 50 ≤ j) (h : LoL f f') : LoL f (rx_set f' j v) := fun i hi => by
  unfold rx_set
  rw [if_neg (by omega)]
  exact h i hi
theorem Gd_nn {T : Nat → Int32} {n c fs : Nat} {mo : Int32} (hc : 50 ≤ c) : ∀ (k e : Nat) (f0 f : Nat → Int32), LoL f0 f → Gd (rx_nn T n c fs mo k e f) (fun _ f' => LoL f0 f')
  | 0, _, _, _, _ => Gd_no
  | k + 1, e, f0, f, h => by
    unfold rx_nn
    have hp : LoL f0 (rx_set (rx_put T n e f (fs + (f c).toNatClampNeg)) c (f c + 1)) := rx_set_lo hc (fun i hi => by
      unfold rx_put
      rw [if_neg (by omega), if_neg (by omega)]
      exact h i hi)
    exact Gd_ite (fun _ => Gd_ite (fun _ => Gd_no) (fun _ => Gd_ite (fun _ => Gd_no) (fun _ => Gd_ite (fun _ => Gd_nn hc k _ f0 _ hp) (fun _ => Gd_in hp)))) (fun _ => Gd_no)
theorem Gd_pt {T : Nat → Int32} {n l : Nat} : ∀ (r : Nat) (u : Nat → Bool) (e : Nat) (f0 f : Nat → Int32), LoL f0 f → Gd (rx_pt T n l r u e f) (fun _ f' => LoL f0 f')
  | 0, _, _, _, _, h => Gd_in h
  | r + 1, u, e, f0, f, h => by
    unfold rx_pt
    refine Gd_bind (Q := fun _ f' => f' = f) (Gd_ite (fun _ => Gd_in rfl) (fun _ => Gd_sign)) (fun _ e0 f1 q1 => Gd_bind Gd_name (fun p e2 f2 q2 => Gd_ite (fun _ => Gd_no) (fun _ => Gd_pt r _ _ f0 _ (rx_set_lo (by omega) ?_))))
    rw [q2.1, q1]
    exact h
theorem Gd_pa {T : Nat → Int32} {n l : Nat} : ∀ (r : Nat) (an : Bool) (e : Nat) (f0 f : Nat → Int32), LoL f0 f → Gd (rx_pa T n l r an e f) (fun _ f' => LoL f0 f')
  | 0, _, _, _, _, h => Gd_in (rx_set_lo (by omega) h)
  | r + 1, an, e, f0, f, h => by
    unfold rx_pa
    refine Gd_bind (Q := fun _ f' => f' = f) (Gd_ite (fun _ => Gd_in rfl) (fun _ => Gd_sign)) (fun _ e0 f1 q1 => Gd_bind Gd_num (fun p e2 f2 q2 => Gd_ite (fun _ => Gd_no) (fun _ => Gd_pa r _ _ f0 _ (rx_set_lo (by omega) ?_))))
    rw [q2.1, q1]
    exact h
theorem Gd_st {T : Nat → Int32} {n l : Nat} : ∀ (r : Nat) (e : Nat) (f0 f : Nat → Int32), LoL f0 f → Gd (rx_st T n l r e f) (fun _ f' => LoL f0 f')
  | 0, e, f0, f, h => by
    unfold rx_st
    exact Gd_bind Gd_name (fun _ _ _ _ => Gd_no)
  | r + 1, e, f0, f, h => by
    unfold rx_st
    refine Gd_bind Gd_name (fun k e1 f1 q1 => Gd_bind Gd_num (fun v e2 f2 q2 => ?_))
    have h2 : LoL f0 f2 := by rw [q2.1, q1.1]; exact h
    exact Gd_ite (fun _ => Gd_st r _ f0 _ (rx_set_lo (by omega) (rx_set_lo (by omega) h2))) (fun _ => Gd_in (rx_set_lo (by omega) (rx_set_lo (by omega) (rx_set_lo (by omega) (rx_set_lo (by omega) h2)))))
/-- what holds of a draft -/
def TIf (f : Nat → Int32) : Prop := (0 ≤ (f 49).toInt ∧ (f 49).toInt ≤ 60) ∧ (0 ≤ (f 0).toInt ∧ (f 0).toInt ≤ 8) ∧ ∀ s : Nat, s < 8 → ((s : Int) < (f 0).toInt → TS f s) ∧ ((f 0).toInt ≤ (s : Int) → ∀ o, o < 4 → f (17 + 4 * s + o) = 0)
theorem TIf_lo {f f' : Nat → Int32} (h : LoL f f') (t : TIf f) : TIf f' := by
  obtain ⟨t1, t2, t3⟩ := t
  unfold TIf
  rw [h 49 (by omega), h 0 (by omega)]
  refine ⟨t1, t2, fun s hs => ⟨fun q => TS_sE ⟨h _ (by omega), h _ (by omega), fun o ho => h _ (by omega)⟩ ((t3 s hs).1 q), fun q o ho => ?_⟩⟩
  rw [h _ (by omega)]
  exact (t3 s hs).2 q o ho
theorem Gd_mono {α : Type} {o : rx_O α} {Q Q' : α → (Nat → Int32) → Prop} (h : Gd o Q) (hq : ∀ v f, Q v f → Q' v f) : Gd o Q' := fun v e f q => hq v f (h v e f q)
theorem Gd_law {T : Nat → Int32} {n e : Nat} {f : Nat → Int32} (t : TIf f) : Gd (rx_lawL T n e f) (fun _ f' => TIf f') := by
  unfold rx_lawL
  refine Gd_ite (fun _ => Gd_bind Gd_word (fun _ e1 f1 q1 => Gd_bind Gd_num (fun v e2 f2 q2 => Gd_in ?_))) (fun _ => Gd_no)
  have e2 : f2 = f := q2.1.trans q1
  rw [e2]
  obtain ⟨t1, t2, t3⟩ := t
  have o : ∀ i, ¬ i = 49 → rx_set f 49 v i = f i := fun i hi => by unfold rx_set; rw [if_neg hi]
  refine ⟨?_, by rw [o 0 (by omega)]; exact t2, fun s hs => ?_⟩
  · unfold rx_set
    rw [if_pos rfl]
    have a := q2.2.1
    have b := q2.2.2
    rw [show (1 : Int32).toInt = 1 from by decide] at a
    rw [show (60 : Int32).toInt = 60 from by decide] at b
    omega
  · rw [o 0 (by omega)]
    refine ⟨fun q => TS_sE ⟨o _ (by omega), o _ (by omega), fun i hi => o _ (by omega)⟩ ((t3 s hs).1 q), fun q i hi => ?_⟩
    rw [o _ (by omega)]
    exact (t3 s hs).2 q i hi
/-- the numbers of a set that is read: what stands so far -/
def TMf (s many r : Nat) (two : Int32) (sum : Int32) (f : Nat → Int32) : Prop := (0 ≤ (f 49).toInt ∧ (f 49).toInt ≤ 60) ∧ (f 0).toInt = (s : Int) ∧ (∀ q, q < 8 → (q < s → TS f q) ∧ (s < q → ∀ o, o < 4 → f (17 + 4 * q + o) = 0)) ∧ f (9 + s) = two ∧ (∀ i, i < 4 → many - r ≤ i → f (17 + 4 * s + i) = 0) ∧ (∀ i, i < 4 → 0 ≤ (f (17 + 4 * s + i)).toInt ∧ (f (17 + 4 * s + i)).toInt ≤ 60) ∧ (f (17 + 4 * s)).toInt + (f (17 + 4 * s + 1)).toInt + (f (17 + 4 * s + 2)).toInt + (f (17 + 4 * s + 3)).toInt = sum.toInt ∧ (r = 0 → sum = f 49)
theorem Gd_tm {T : Nat → Int32} {n s many : Nat} {two : Int32} (s8 : s < 8) (hm : (many = 2 ∧ two = -2) ∨ (many = 4 ∧ 0 ≤ two.toInt)) : ∀ (r : Nat) (sum : Int32) (e : Nat) (f : Nat → Int32), r ≤ many → TMf s many r two sum f → Gd (rx_tm T n s many r sum e f) (fun _ f' => TIf f')
  | 0, sum, e, f, hr, t => by
    unfold rx_tm
    obtain ⟨t1, t2, t3, t4, t5, t6, t7, t8⟩ := t
    refine Gd_in ?_
    have o : ∀ i, ¬ i = 0 → rx_set f 0 (f 0 + 1) i = f i := fun i hi => by unfold rx_set; rw [if_neg hi]
    have o0 : (rx_set f 0 (f 0 + 1) 0).toInt = (s : Int) + 1 := by
      unfold rx_set
      rw [if_pos rfl, i_inc t2 (by omega)]
      omega
    refine ⟨by rw [o 49 (by omega)]; exact t1, by omega, fun q hq => ⟨fun h => ?_, fun h i hi => ?_⟩⟩
    · refine TS_sE (b := f) (q := q) ⟨o _ (by omega), o _ (by omega), fun i hi => o _ (by omega)⟩ ?_
      by_cases e' : q = s
      · subst e'
        have a0 := t6 0 (by omega)
        have a1 := t6 1 (by omega)
        have a2 := t6 2 (by omega)
        have a3 := t6 3 (by omega)
        rw [Nat.add_zero] at a0
        have e8 := t8 rfl
        rw [e8] at t7
        refine ⟨?_, a0.1, a1.1, a2.1, a3.1, by omega⟩
        rcases hm with ⟨m2, m3⟩ | ⟨m2, m3⟩
        · exact Or.inl ⟨by rw [t4, m3], t5 2 (by omega) (by omega), t5 3 (by omega) (by omega)⟩
        · exact Or.inr (by rw [t4]; exact m3)
      · exact (t3 q hq).1 (by omega)
    · rw [o _ (by omega)]
      exact (t3 q hq).2 (by omega) i hi
  | r + 1, sum, e, f, hr, t => by
    unfold rx_tm
    refine Gd_bind (Q := fun _ f' => f' = f) (Gd_ite (fun _ => Gd_in rfl) (fun _ => Gd_sign)) (fun _ e0 f0 q0 => Gd_bind Gd_num (fun v e1 f1 q1 => Gd_ite (fun _ => Gd_no) (fun hz => Gd_tm s8 hm r _ _ _ (by omega) ?_)))
    have ef : f1 = f := q1.1.trans q0
    rw [ef] at hz ⊢
    obtain ⟨t1, t2, t3, t4, t5, t6, t7, t8⟩ := t
    have v0 := q1.2.1
    have v1 := q1.2.2
    rw [i_0] at v0
    rw [show (60 : Int32).toInt = 60 from by decide] at v1
    have m4 : many ≤ 4 := by rcases hm with m | m <;> omega
    have p4 : many - (r + 1) < 4 := by omega
    have o : ∀ i, ¬ i = 17 + 4 * s + (many - (r + 1)) → rx_set f (17 + 4 * s + (many - (r + 1))) v i = f i := fun i hi => by unfold rx_set; rw [if_neg hi]
    have oi : rx_set f (17 + 4 * s + (many - (r + 1))) v (17 + 4 * s + (many - (r + 1))) = v := by unfold rx_set; rw [if_pos rfl]
    have a0 := t6 0 (by omega)
    have a1 := t6 1 (by omega)
    have a2 := t6 2 (by omega)
    have a3 := t6 3 (by omega)
    rw [Nat.add_zero] at a0
    have es : (sum + v).toInt = sum.toInt + v.toInt := i_add rfl rfl (by omega)
    have zz := t5 (many - (r + 1)) p4 (Nat.le_refl _)
    refine ⟨by rw [o 49 (by omega)]; exact t1, by rw [o 0 (by omega)]; exact t2, fun q hq => ⟨fun h => TS_sE ⟨o _ (by omega), o _ (by omega), fun i hi => o _ (by omega)⟩ ((t3 q hq).1 h), fun h i hi => by rw [o _ (by omega)]; exact (t3 q hq).2 h i hi⟩, by rw [o _ (by omega)]; exact t4, fun i hi h => by rw [o _ (by omega)]; exact t5 i hi (by omega), fun i hi => ?_, ?_, fun hr0 => ?_⟩
    · by_cases e' : i = many - (r + 1)
      · rw [e', oi]; exact ⟨v0, v1⟩
      · rw [o _ (by omega)]; exact t6 i hi
    · rw [es, ← t7]
      have hp : many - (r + 1) = 0 ∨ many - (r + 1) = 1 ∨ many - (r + 1) = 2 ∨ many - (r + 1) = 3 := by omega
      have zi : (0 : Int32).toInt = 0 := by decide
      rcases hp with w | w | w | w
      · rw [w, Nat.add_zero] at oi o zz ⊢
        rw [oi, o _ (by omega), o _ (by omega), o _ (by omega), zz, zi]
        omega
      · rw [w] at oi o zz ⊢
        rw [oi, o _ (by omega), o _ (by omega), o _ (by omega), zz, zi]
        omega
      · rw [w] at oi o zz ⊢
        rw [oi, o _ (by omega), o _ (by omega), o _ (by omega), zz, zi]
        omega
      · rw [w] at oi o zz ⊢
        rw [oi, o _ (by omega), o _ (by omega), o _ (by omega), zz, zi]
        omega
    · rw [o 49 (by omega)]
      exact Decidable.byContradiction (fun w => hz ⟨hr0, w⟩)
theorem Gd_tell {T : Nat → Int32} {n one e : Nat} {two : Int32} {f : Nat → Int32} (hm : two = -2 ∨ 0 ≤ two.toInt) (t : TIf f) (h8 : ¬ f 0 = 8) : Gd (rx_tell T n one two e f) (fun _ f' => TIf f') := by
  unfold rx_tell
  obtain ⟨t1, t2, t3⟩ := t
  obtain ⟨s, es⟩ : ∃ s : Nat, (f 0).toInt = (s : Int) := ⟨(f 0).toInt.toNat, by omega⟩
  have s8 : s < 8 := by
    have : ¬ (f 0).toInt = 8 := fun z => h8 (Int32.toInt_inj.mp (by rw [z]; decide))
    omega
  rw [i_nat es]
  refine Gd_bind Gd_word (fun _ e1 f1 q1 => ?_)
  have o : ∀ i, ¬ i = 1 + s → ¬ i = 9 + s → f1 i = f i := fun i h1 h2 => by rw [q1]; unfold rx_set; rw [if_neg h2, if_neg h1]
  have o9 : f1 (9 + s) = two := by rw [q1]; unfold rx_set; rw [if_pos rfl]
  have n2 : (-2 : Int32).toInt = -2 := by decide
  have tm : ∀ many : Nat, TMf s many many two 0 f1 ∨ many = 0 := fun many => by
    by_cases m0 : many = 0
    · exact Or.inr m0
    · refine Or.inl ⟨by rw [o 49 (by omega) (by omega)]; exact t1, by rw [o 0 (by omega) (by omega)]; exact es, fun q hq => ⟨fun h => TS_sE ⟨o _ (by omega) (by omega), o _ (by omega) (by omega), fun i hi => o _ (by omega) (by omega)⟩ ((t3 q hq).1 (by omega)), fun h i hi => by rw [o _ (by omega) (by omega)]; exact (t3 q hq).2 (by omega) i hi⟩, o9, fun i hi _ => by rw [o _ (by omega) (by omega)]; exact (t3 s s8).2 (by omega) i hi, fun i hi => ?_, ?_, fun w => absurd w m0⟩
      · rw [o _ (by omega) (by omega), (t3 s s8).2 (by omega) i hi]
        exact ⟨by decide, by decide⟩
      · have z := (t3 s s8).2 (by omega)
        have z0 := z 0 (by omega)
        rw [Nat.add_zero] at z0
        rw [o _ (by omega) (by omega), o _ (by omega) (by omega), o _ (by omega) (by omega), o _ (by omega) (by omega), z0, z 1 (by omega), z 2 (by omega), z 3 (by omega)]
        decide
  by_cases w : two = -2
  · rw [if_pos w]
    exact Gd_tm s8 (Or.inl ⟨rfl, w⟩) 2 0 e1 f1 (Nat.le_refl _) ((tm 2).elim id (fun z => absurd z (by decide)))
  · rw [if_neg w]
    exact Gd_tm s8 (Or.inr ⟨rfl, hm.elim (fun z => absurd z w) id⟩) 4 0 e1 f1 (Nat.le_refl _) ((tm 4).elim id (fun z => absurd z (by decide)))
theorem Gd_setL {T : Nat → Int32} {n e : Nat} {f : Nat → Int32} (t : TIf f) : Gd (rx_setL T n e f) (fun _ f' => TIf f') := by
  unfold rx_setL
  refine Gd_ite (fun _ => Gd_no) (fun _ => Gd_ite (fun _ => Gd_no) (fun h8 => Gd_bind Gd_name (fun one e1 f1 q1 => ?_)))
  have e1' : f1 = f := q1.1
  subst e1'
  refine Gd_ite (fun _ => Gd_bind Gd_name (fun two e2 f2 q2 => Gd_ite (fun _ => Gd_no) (fun _ => ?_))) (fun _ => Gd_tell (Or.inl rfl) t h8)
  have e2' : f2 = f1 := q2.1
  subst e2'
  refine Gd_tell (Or.inr ?_) t h8
  rw [Int32.toInt_ofNat_of_lt (by have := q2.2; omega)]
  omega
theorem Gd_line {T : Nat → Int32} {n e : Nat} {f : Nat → Int32} (t : TIf f) : Gd (rx_line T n e f) (fun _ f' => TIf f') := by
  have lo : ∀ {o : rx_O Unit}, Gd o (fun _ f' => LoL f f') → Gd o (fun _ f' => TIf f') := fun h => Gd_mono h (fun _ f' q => TIf_lo q t)
  have rf : LoL f f := fun _ _ => rfl
  unfold rx_line
  refine Gd_ite (fun _ => Gd_law t) (fun _ => Gd_ite (fun _ => lo (Gd_nn (by decide) _ _ f f rf)) (fun _ => Gd_ite (fun _ => lo (Gd_nn (by decide) _ _ f f rf)) (fun _ => Gd_ite (fun _ => Gd_setL t) (fun _ => Gd_ite (fun _ => lo ?_) (fun _ => Gd_ite (fun _ => lo ?_) (fun _ => Gd_ite (fun _ => lo ?_) (fun _ => Gd_no)))))))
  · unfold rx_lineL
    refine Gd_ite (fun _ => Gd_no) (fun _ => Gd_bind (Gd_pt 3 _ _ f f rf) (fun _ e1 f1 q1 => Gd_bind Gd_word (fun _ e2 f2 q2 => ?_)))
    have h2 : LoL f f2 := by rw [q2]; exact q1
    exact Gd_ite (fun _ => Gd_in (rx_set_lo (by omega) (rx_set_lo (by omega) h2))) (fun _ => Gd_ite (fun _ => Gd_in (rx_set_lo (by omega) h2)) (fun _ => Gd_no))
  · unfold rx_rayL
    exact Gd_ite (fun _ => Gd_no) (fun _ => Gd_pa 4 _ _ f f rf)
  · unfold rx_runL
    exact Gd_ite (fun _ => Gd_no) (fun _ => Gd_st 6 _ f f rf)
theorem Gd_text {T : Nat → Int32} {n : Nat} : ∀ (k e : Nat) (f : Nat → Int32), TIf f → Gd (rx_text T n k e f) (fun _ f' => TIf f')
  | 0, _, _, _ => Gd_no
  | k + 1, e, f, t => by
    unfold rx_text
    exact Gd_bind (Gd_line t) (fun _ e1 f1 q1 => Gd_ite (fun _ => Gd_ite (fun _ => Gd_no) (fun _ => Gd_in q1)) (fun _ => Gd_ite (fun _ => Gd_text k _ _ q1) (fun _ => Gd_no)))
theorem book_TZ {T : Nat → Int32} {n e : Nat} {f : Nat → Int32} (h : rx_book T n = .inr ((), e, f)) : TZ f := by
  have t : TIf f := Gd_text (n + 1) 0 (fun _ => 0) ⟨⟨by decide, by decide⟩, ⟨by decide, by decide⟩, fun s hs => ⟨fun q => absurd q (by show ¬ (s : Int) < (0 : Int32).toInt; rw [show (0 : Int32).toInt = 0 from by decide]; omega), fun _ _ _ => rfl⟩⟩ () e f h
  obtain ⟨t1, t2, t3⟩ := t
  exact ⟨t2.1, t2.2, fun s hs => (t3 s (by unfold sn at hs; omega)).1 (by unfold sn at hs; omega)⟩
/-- the relation after a book -/
theorem RH_book {f : Nat → Int32} {h h1 h2 : mh_T} (rh : RH h) (tz : TZ f) (r1 : h1.2.2 40 = h.2.2 40 ∧ h1.2.2 41 = h.2.2 41) (tb : Tb f h1) (e31 : mI h1 3 1 = f 50) (k : ∀ k, k < 62 → k ∉ [11, 44, 45, 46, 47] → h2.1 k = h1.1 k ∧ h2.2.2 k = h1.2.2 k) (e45 : ∀ j, j < 346 → mI h2 45 j = f j) (e14 : mI h2 11 14 = 1) (z47 : ∀ j, j < 32 → h2.1 47 j = 0) (e24 : mI h2 11 24 = 0 ∧ mI h2 11 25 = 0 ∧ mI h2 11 26 = 0) : RH h2 := by
  obtain ⟨b1, b2, b3, b4, b5, b6, b7⟩ := tb
  have ri := rh.2.1
  have n8 : sn f ≤ 8 := by unfold sn; have := tz.2.1; omega
  have c3 : ∀ j, mI h2 3 j = mI h1 3 j := fun j => congrFun (k 3 (by decide) (by decide)).1 j
  have c10 : ∀ j, mI h2 10 j = mI h1 10 j := fun j => congrFun (k 10 (by decide) (by decide)).1 j
  have tq : Rq (tC h2) (h2.1 45) := by
    refine Rq_cg (a := tC h2) (b := f) ⟨?_, tz, fun s hs => ⟨?_, ?_, fun o ho => ?_⟩⟩ (fun _ _ => rfl) (fun j hj => e45 j (by omega))
    · rw [tC_0, c3]; exact b1
    · have q := (b2 s (by omega) (by unfold sn at hs; omega)).1
      rw [tC_1 h2 (by omega)]
      show h2.1 24 s = _
      rw [(k 24 (by decide) (by decide)).1]
      exact q
    · have q := (b2 s (by omega) (by unfold sn at hs; omega)).2
      rw [tC_9 h2 (by omega)]
      show h2.1 25 s = _
      rw [(k 25 (by decide) (by decide)).1]
      exact q
    · rw [show 17 + 4 * s + o = 17 + (4 * s + o) by omega, tC_17]
      show h2.1 26 _ = _
      rw [(k 26 (by decide) (by decide)).1]
      exact b3 _ (by omega)
  refine ⟨⟨tq, fun s hs o ho => ?_⟩, RI_cg ((k 40 (by decide) (by decide)).2.trans r1.1) ((k 41 (by decide) (by decide)).2.trans r1.2) ri, ⟨?_, fun z => absurd (e14.symm.trans z) (by decide)⟩, 0, 0, 0, ⟨by omega, by omega⟩, ⟨?_, ?_, ?_⟩, ⟨?_, ?_, ?_⟩, fun i hi => absurd hi (Nat.not_lt_zero _), fun k hk => absurd hk (Nat.not_lt_zero _), fun hq => absurd hq (Nat.lt_irrefl _), fun i hi => absurd hi (Nat.not_lt_zero _)⟩
  · have s8 : s < 8 := by have := tq.2.1.2.1; unfold sn at hs; omega
    rw [(k 27 (by decide) (by decide)).1, b4 _ (by omega), z47 _ (by omega)]
  · rw [c3, e31, e45 50 (by omega)]
  · rw [c10, b5]; rfl
  · rw [c10, b6]; rfl
  · rw [c10, b7]; rfl
  · rw [e24.1]; rfl
  · rw [e24.2.1]; rfl
  · rw [e24.2.2]; rfl
