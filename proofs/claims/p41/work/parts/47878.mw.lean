/-! no set without a law -/
def rx_kp {α : Type} (S : Nat → Prop) (f : Nat → Int32) (o : rx_O α) : Prop := ∀ a e1 f1, o = .inr (a, e1, f1) → ∀ i, S i → f1 i = f i
theorem kp_no {α : Type} {S : Nat → Prop} {f : Nat → Int32} {T : Nat → Int32} {n e0 : Nat} {w : Int32} : rx_kp (α := α) S f (rx_no T n e0 w) := fun _ _ _ h => by cases h
theorem kp_ok {α : Type} {S : Nat → Prop} {f f' : Nat → Int32} {e1 : Nat} {a : α} (h : ∀ i, S i → f' i = f i) : rx_kp S f (.inr (a, e1, f')) := fun _ _ _ z => by cases z; exact h
theorem kp_bind {α β : Type} {S : Nat → Prop} {f : Nat → Int32} {x : rx_O α} {k : α → Nat → (Nat → Int32) → rx_O β} (hx : rx_kp S f x) (hk : ∀ a e1 f1, (∀ i, S i → f1 i = f i) → rx_kp S f1 (k a e1 f1)) : rx_kp S f (rx_bind x k) := by
  intro b e2 f2 h i hi
  cases x with
  | inl q => cases h
  | inr q =>
    obtain ⟨a, e1, f1⟩ := q
    have h1 := hx a e1 f1 rfl
    rw [hk a e1 f1 h1 b e2 f2 h i hi]
    exact h1 i hi
theorem kp_tr {α : Type} {S : Nat → Prop} {f f' : Nat → Int32} {o : rx_O α} (h : ∀ i, S i → f' i = f i) (u : rx_kp S f' o) : rx_kp S f o := fun a e1 f1 z i hi => (u a e1 f1 z i hi).trans (h i hi)
theorem kp_word {S : Nat → Prop} {T : Nat → Int32} {n i e : Nat} {f : Nat → Int32} : rx_kp S f (rx_word T n i e f) := by
  unfold rx_word
  split
  · exact kp_ok (fun _ _ => rfl)
  · exact kp_no
theorem kp_sign {S : Nat → Prop} {T : Nat → Int32} {n e : Nat} {c : Int32} {f : Nat → Int32} : rx_kp S f (rx_sign T n c e f) := by
  unfold rx_sign
  split
  · exact kp_ok (fun _ _ => rfl)
  · exact kp_no
theorem kp_num {S : Nat → Prop} {T : Nat → Int32} {n e : Nat} {lo hi : Int32} {f : Nat → Int32} : rx_kp S f (rx_num T n lo hi e f) := by
  unfold rx_num
  split
  · exact kp_no
  · split
    · exact kp_ok (fun _ _ => rfl)
    · exact kp_no
theorem kp_name {S : Nat → Prop} {T : Nat → Int32} {n e : Nat} {b : Bool} {f : Nat → Int32} : rx_kp S f (rx_name T n b e f) := by
  unfold rx_name
  split
  · split
    · exact kp_no
    · split
      · exact kp_ok (fun _ _ => rfl)
      · exact kp_no
  · exact kp_no
theorem kp_nn {S : Nat → Prop} (hS : ∀ i, S i → i ≤ 49) {T : Nat → Int32} {n c fs : Nat} {mo : Int32} (hc : 50 ≤ c) : ∀ k e f, rx_kp S f (rx_nn T n c fs mo k e f)
  | 0, e, f => kp_no
  | k + 1, e, f => by
    have q : ∀ i, S i → rx_set (rx_put T n e f (fs + (f c).toNatClampNeg)) c (f c + 1) i = f i := fun i hi => by
      have := hS i hi
      rw [rx_set_o (by omega)]
      unfold rx_put
      rw [if_neg (by omega), if_neg (by omega)]
    unfold rx_nn
    split
    · split
      · exact kp_no
      · split
        · exact kp_no
        · split
          · exact kp_tr q (kp_nn hS hc k _ _)
          · exact kp_ok q
    · exact kp_no
theorem kp_tm {S : Nat → Prop} (hS : ∀ i, S i → i = 49) {T : Nat → Int32} {n s many : Nat} (hs : s < 8 ∧ many ≤ 4) : ∀ r sum e f, rx_kp S f (rx_tm T n s many r sum e f)
  | 0, sum, e, f => kp_ok (fun i hi => by have := hS i hi; rw [rx_set_o (by omega)])
  | r + 1, sum, e, f => by
    unfold rx_tm
    refine kp_bind ?_ (fun _ e0 f0 _ => kp_bind kp_num (fun v e1 f1 _ => ?_))
    · split
      · exact kp_ok (fun _ _ => rfl)
      · exact kp_sign
    · split
      · exact kp_no
      · exact kp_tr (fun i hi => by have := hS i hi; rw [rx_set_o (by omega)]) (kp_tm hS hs r _ _ _)
theorem kp_pt {S : Nat → Prop} (hS : ∀ i, S i → i ≤ 49) {T : Nat → Int32} {n l : Nat} : ∀ r u e f, rx_kp S f (rx_pt T n l r u e f)
  | 0, u, e, f => kp_ok (fun _ _ => rfl)
  | r + 1, u, e, f => by
    unfold rx_pt
    refine kp_bind ?_ (fun _ e0 f0 _ => kp_bind kp_name (fun v e1 f1 _ => ?_))
    · split
      · exact kp_ok (fun _ _ => rfl)
      · exact kp_sign
    · split
      · exact kp_no
      · exact kp_tr (fun i hi => by have := hS i hi; rw [rx_set_o (by omega)]) (kp_pt hS r _ _ _)
theorem kp_pa {S : Nat → Prop} (hS : ∀ i, S i → i ≤ 49) {T : Nat → Int32} {n l : Nat} : ∀ r an e f, rx_kp S f (rx_pa T n l r an e f)
  | 0, an, e, f => kp_ok (fun i hi => by have := hS i hi; rw [rx_set_o (by omega)])
  | r + 1, an, e, f => by
    unfold rx_pa
    refine kp_bind ?_ (fun _ e0 f0 _ => kp_bind kp_num (fun v e1 f1 _ => ?_))
    · split
      · exact kp_ok (fun _ _ => rfl)
      · exact kp_sign
    · split
      · exact kp_no
      · exact kp_tr (fun i hi => by have := hS i hi; rw [rx_set_o (by omega)]) (kp_pa hS r _ _ _)
theorem kp_st {S : Nat → Prop} (hS : ∀ i, S i → i ≤ 49) {T : Nat → Int32} {n l : Nat} : ∀ r e f, rx_kp S f (rx_st T n l r e f)
  | 0, e, f => kp_bind kp_name (fun _ _ _ _ => kp_no)
  | r + 1, e, f => by
    unfold rx_st
    refine kp_bind kp_name (fun k e1 f1 _ => kp_bind kp_num (fun v e2 f2 _ => ?_))
    split
    · exact kp_tr (fun i hi => by have := hS i hi; rw [rx_set_o (by omega), rx_set_o (by omega)]) (kp_st hS r _ _)
    · exact kp_ok (fun i hi => by have := hS i hi; rw [rx_set_o (by omega), rx_set_o (by omega), rx_set_o (by omega), rx_set_o (by omega)])
/-- where there is no law there is no set -/
def Lw (f : Nat → Int32) : Prop := f 49 = 0 → f 0 = 0
theorem lw_line {T : Nat → Int32} {n e e1 : Nat} {f f1 : Nat → Int32} (r0 : R 0 8 (f 0)) (lw : Lw f) (h : rx_line T n e f = .inr ((), e1, f1)) : Lw f1 := by
  have sm : ∀ {o : rx_O Unit}, rx_kp (fun i => i = 0 ∨ i = 49) f o → o = .inr ((), e1, f1) → Lw f1 := fun k z q => by
    have := k _ _ _ z
    rw [this 0 (Or.inl rfl)]
    rw [this 49 (Or.inr rfl)] at q
    exact lw q
  have hS : ∀ i, (i = 0 ∨ i = 49) → i ≤ 49 := fun i hi => by omega
  unfold rx_line at h
  split at h
  · unfold rx_lawL at h
    split at h
    · unfold rx_word at h
      split at h
      · change rx_bind (rx_num T n 1 60 (rx_e T n (rx_e T n e)) f) (fun v e2 f2 => .inr ((), e2, rx_set f2 49 v)) = _ at h
        unfold rx_num at h
        split at h
        · cases h
        · split at h
          · rename_i q
            cases h
            intro z
            rw [rx_set_i] at z
            rw [z, i_le] at q
            exact absurd q.1 (by decide)
          · cases h
      · cases h
    · cases h
  split at h
  · exact sm (kp_nn hS (by decide) _ _ _) h
  split at h
  · exact sm (kp_nn hS (by decide) _ _ _) h
  split at h
  · unfold rx_setL at h
    split at h
    · cases h
    · rename_i f49
      split at h
      · cases h
      · rename_i f8
        obtain ⟨s, es, s0, s8⟩ := i_R r0 (by decide)
        have hs : s < 8 := by
          by_cases q : s = 8
          · exact absurd (Int32.toInt_inj.mp (by rw [es, q]; decide)) f8
          · omega
        have T9 : ∀ one two e0 (f0 : Nat → Int32), (∀ i, i = 0 ∨ i = 49 → f0 i = f i) → rx_kp (fun i => i = 49) f0 (rx_tell T n one two e0 f0) := by
          intro one two e0 f0 hf
          unfold rx_tell
          rw [hf 0 (Or.inl rfl), i_nat es]
          refine kp_tr (f' := rx_set (rx_set f0 (1 + s) (Int32.ofNat one)) (9 + s) two) (fun i hi => by rw [rx_set_o (by omega), rx_set_o (by omega)]) (kp_bind kp_word (fun _ e1 f1 _ => ?_))
          split
          · exact kp_tm (fun i hi => hi) ⟨hs, by decide⟩ _ _ _ _
          · exact kp_tm (fun i hi => hi) ⟨hs, by decide⟩ _ _ _ _
        intro z
        exfalso
        apply f49
        rw [← z]
        symm
        have nm : ∀ e0 (f0 : Nat → Int32) k e2 (f2 : Nat → Int32), rx_name T n true e0 f0 = .inr (k, e2, f2) → f2 = f0 := by
          intro e0 f0 k e2 f2 q
          unfold rx_name at q
          split at q
          · split at q
            · cases q
            · split at q
              · cases q; rfl
              · cases q
          · cases q
        cases a : rx_name T n true (rx_e T n e) f with
        | inl q => rw [a] at h; cases h
        | inr q =>
          obtain ⟨one, e2, f2⟩ := q
          rw [a] at h
          have := nm _ _ _ _ _ a
          subst this
          change (if rx_k T n e2 = 44 then rx_bind (rx_name T n true (rx_e T n e2) f2) (fun two e2' f2' => if two = one then rx_no T n (rx_e T n e2) 3 else rx_tell T n one (Int32.ofNat two) e2' f2') else rx_tell T n one (-2) e2 f2) = _ at h
          split at h
          · cases b : rx_name T n true (rx_e T n e2) f2 with
            | inl q => rw [b] at h; cases h
            | inr q =>
              obtain ⟨two, e3, f3⟩ := q
              rw [b] at h
              have := nm _ _ _ _ _ b
              subst this
              change (if two = one then rx_no T n (rx_e T n e2) 3 else rx_tell T n one (Int32.ofNat two) e3 f3) = _ at h
              split at h
              · cases h
              · exact T9 _ _ _ f3 (fun _ _ => rfl) _ _ _ h 49 rfl
          · exact T9 _ _ _ f2 (fun _ _ => rfl) _ _ _ h 49 rfl
  split at h
  · unfold rx_lineL at h
    split at h
    · cases h
    · refine sm (kp_bind (kp_pt hS _ _ _ _) (fun _ e1 f1 _ => kp_bind kp_word (fun _ e2 f2 _ => ?_))) h
      split
      · exact kp_ok (fun i hi => by rw [rx_set_o (by omega), rx_set_o (by omega)])
      · split
        · exact kp_ok (fun i hi => by rw [rx_set_o (by omega)])
        · exact kp_no
  split at h
  · unfold rx_rayL at h
    split at h
    · cases h
    · exact sm (kp_pa hS _ _ _ _) h
  split at h
  · unfold rx_runL at h
    split at h
    · cases h
    · exact sm (kp_st hS _ _ _) h
  cases h
