/-! the text is read forward -/
def rx_up {α : Type} (e : Nat) (o : rx_O α) : Prop := ∀ a e1 f1, o = .inr (a, e1, f1) → e ≤ e1
theorem up_no {α : Type} {T : Nat → Int32} {n e e0 : Nat} {w : Int32} : rx_up (α := α) e (rx_no T n e0 w) := fun _ _ _ h => by cases h
theorem up_ok {α : Type} {e e1 : Nat} {a : α} {f : Nat → Int32} (h : e ≤ e1) : rx_up e (.inr (a, e1, f)) := fun _ _ _ z => by cases z; exact h
theorem up_bind {α β : Type} {e : Nat} {x : rx_O α} {k : α → Nat → (Nat → Int32) → rx_O β} (hx : rx_up e x) (hk : ∀ a e1 f1, e ≤ e1 → rx_up e1 (k a e1 f1)) : rx_up e (rx_bind x k) := by
  intro b e2 f2 h
  cases x with
  | inl q => cases h
  | inr q =>
    obtain ⟨a, e1, f1⟩ := q
    have h1 := hx a e1 f1 rfl
    exact Nat.le_trans h1 (hk a e1 f1 h1 b e2 f2 h)
theorem up_tr {α : Type} {e e0 : Nat} {o : rx_O α} (h : e ≤ e0) (u : rx_up e0 o) : rx_up e o := fun a e1 f1 z => Nat.le_trans h (u a e1 f1 z)
theorem up_e (T : Nat → Int32) (n e : Nat) : e ≤ rx_e T n e := Nat.le_trans (rx_s_ge T n e) (rx_e_ge T n e)
theorem up_word {T : Nat → Int32} {n i e : Nat} {f : Nat → Int32} : rx_up e (rx_word T n i e f) := by
  unfold rx_word
  split
  · exact up_ok (up_e T n e)
  · exact up_no
theorem up_sign {T : Nat → Int32} {n e : Nat} {c : Int32} {f : Nat → Int32} : rx_up e (rx_sign T n c e f) := by
  unfold rx_sign
  split
  · exact up_ok (up_e T n e)
  · exact up_no
theorem up_num {T : Nat → Int32} {n e : Nat} {lo hi : Int32} {f : Nat → Int32} : rx_up e (rx_num T n lo hi e f) := by
  unfold rx_num
  split
  · exact up_no
  · split
    · exact up_ok (up_e T n e)
    · exact up_no
theorem up_name {T : Nat → Int32} {n e : Nat} {b : Bool} {f : Nat → Int32} : rx_up e (rx_name T n b e f) := by
  unfold rx_name
  split
  · split
    · exact up_no
    · split
      · exact up_ok (up_e T n e)
      · exact up_no
  · exact up_no
theorem up_nn {T : Nat → Int32} {n c fs : Nat} {mo : Int32} : ∀ k e f, rx_up e (rx_nn T n c fs mo k e f)
  | 0, e, f => up_no
  | k + 1, e, f => by
    unfold rx_nn
    split
    · split
      · exact up_no
      · split
        · exact up_no
        · split
          · exact up_tr (Nat.le_trans (up_e T n e) (up_e T n _)) (up_nn k _ _)
          · exact up_ok (up_e T n e)
    · exact up_no
theorem up_tm {T : Nat → Int32} {n s many : Nat} : ∀ r sum e f, rx_up e (rx_tm T n s many r sum e f)
  | 0, sum, e, f => up_ok (Nat.le_refl e)
  | r + 1, sum, e, f => by
    unfold rx_tm
    refine up_bind ?_ (fun _ e0 f0 _ => up_bind up_num (fun v e1 f1 _ => ?_))
    · split
      · exact up_ok (Nat.le_refl e)
      · exact up_sign
    · split
      · exact up_no
      · exact up_tm r _ _ _
theorem up_tell {T : Nat → Int32} {n one e : Nat} {two : Int32} {f : Nat → Int32} : rx_up e (rx_tell T n one two e f) := up_bind up_word (fun _ _ _ _ => up_tm _ _ _ _)
theorem up_pt {T : Nat → Int32} {n l : Nat} : ∀ r u e f, rx_up e (rx_pt T n l r u e f)
  | 0, u, e, f => up_ok (Nat.le_refl e)
  | r + 1, u, e, f => by
    unfold rx_pt
    refine up_bind ?_ (fun _ e0 f0 _ => up_bind up_name (fun v e1 f1 _ => ?_))
    · split
      · exact up_ok (Nat.le_refl e)
      · exact up_sign
    · split
      · exact up_no
      · exact up_pt r _ _ _
theorem up_pa {T : Nat → Int32} {n l : Nat} : ∀ r an e f, rx_up e (rx_pa T n l r an e f)
  | 0, an, e, f => up_ok (Nat.le_refl e)
  | r + 1, an, e, f => by
    unfold rx_pa
    refine up_bind ?_ (fun _ e0 f0 _ => up_tr (e0 := if rx_k T n e0 = 45 then rx_e T n e0 else e0) ?_ (up_bind up_num (fun v e1 f1 _ => ?_)))
    · split
      · exact up_ok (Nat.le_refl e)
      · exact up_sign
    · split
      · exact up_e T n e0
      · exact Nat.le_refl e0
    · split
      · exact up_no
      · exact up_pa r _ _ _
theorem up_st {T : Nat → Int32} {n l : Nat} : ∀ r e f, rx_up e (rx_st T n l r e f)
  | 0, e, f => up_bind up_name (fun _ _ _ _ => up_no)
  | r + 1, e, f => by
    unfold rx_st
    refine up_bind up_name (fun k e1 f1 _ => up_bind up_num (fun v e2 f2 _ => ?_))
    split
    · exact up_tr (up_e T n e2) (up_st r _ _)
    · exact up_ok (Nat.le_refl e2)
theorem up_line {T : Nat → Int32} {n e : Nat} {f : Nat → Int32} : rx_up e (rx_line T n e f) := by
  have ue := up_e T n e
  unfold rx_line
  split
  · unfold rx_lawL
    split
    · exact up_tr ue (up_bind up_word (fun _ e1 f1 _ => up_bind up_num (fun v e2 f2 _ => up_ok (Nat.le_refl e2))))
    · exact up_no
  split
  · exact up_tr ue (up_nn _ _ _)
  split
  · exact up_tr ue (up_nn _ _ _)
  split
  · unfold rx_setL
    split
    · exact up_no
    · split
      · exact up_no
      · refine up_tr ue (up_bind up_name (fun one e1 f1 _ => ?_))
        split
        · refine up_tr (up_e T n e1) (up_bind up_name (fun two e2 f2 _ => ?_))
          split
          · exact up_no
          · exact up_tell
        · exact up_tell
  split
  · unfold rx_lineL
    split
    · exact up_no
    · refine up_tr ue (up_bind (up_pt _ _ _ _) (fun _ e1 f1 _ => up_bind up_word (fun _ e2 f2 _ => ?_)))
      split
      · exact up_ok (up_e T n e2)
      · split
        · exact up_ok (up_e T n e2)
        · exact up_no
  split
  · unfold rx_rayL
    split
    · exact up_no
    · exact up_tr ue (up_pa _ _ _ _)
  split
  · unfold rx_runL
    split
    · exact up_no
    · exact up_tr ue (up_st _ _ _)
  exact up_no
