def Cz (h0 : mh_T) (T : Nat → Int32) (n : Nat) (o : rx_O Unit) (h : mh_T) : Prop := (∃ e f, o = .inr ((), e, f) ∧ Cs h0 T n e f h) ∨ (∃ w p, o = .inl (w, p) ∧ Cx h0 w p h)
theorem rx_kn {T : Nat → Int32} {n e : Nat} (h : ¬ rx_k T n e = 0) : rx_s T n e < n := by
  by_cases c : rx_s T n e < n
  · exact c
  · exfalso
    apply h
    unfold rx_k
    rw [if_neg c]
theorem c_read_L {g : gT} {h0 : mh_T} {P : mh_T → Prop} {T : Nat → Int32} {n : Nat} (l1 : Int32) : ∀ (k : Nat) (l3 : Int32) (j e : Nat) (f : Nat → Int32) (h : mh_T), Cs h0 T n e f h → l3.toInt = (j : Int) → j ≤ e → n - e < k → (∀ h', Cz h0 T n (rx_text T n k e f) h' → P h') → ME g uX6_read 43 [.ref 1, .int l1, .int 1, .int l3] [] h (qV P) := by
  intro k
  induction k with
  | zero => intro l3 j e f h _ _ _ hk; exact absurd hk (Nat.not_lt_zero _)
  | succ k ih =>
    intro l3 j e f h c ej hj hk hp
    have n9 := c.2.1.2.1
    have hen := c.2.2.2.1
    have un : rx_text T n (k + 1) e f = rx_bind (rx_line T n e f) (fun _ e1 f1 => if rx_k T n e1 = 0 then (if f1 49 = 0 ∨ f1 50 = 0 then rx_no T n e1 6 else .inr ((), e1, f1)) else if rx_k T n e1 = 59 then rx_text T n k (rx_e T n e1) f1 else rx_no T n e1 1) := rfl
    rw [un] at hp
    have stop : ∀ (h' : mh_T) (l : Int32), P h' → ME g uX6_read 43 [.ref 1, .int l1, .int 0, .int l] [] h' (qV P) := fun h' l q => r_X6_read_43 l1 0 l ⟨fun _ => q, fun y => absurd rfl y⟩
    refine r_X6_read_43 l1 1 l3 ⟨fun y => absurd y (by decide), fun _ => ⟨fun z => ?_, fun _ => ?_⟩⟩
    · rw [i_lt, c.2.1.1, ej] at z
      omega
    refine c_readLine c (fun r h3 o => ?_)
    rcases o with ⟨e1, f1, eo, er, c1⟩ | ⟨w, p, eo, er, cx⟩ <;> subst er
    · refine ⟨fun y => absurd y (by decide), fun _ => ?_⟩
      have ue := up_line (T := T) (n := n) (e := e) (f := f) _ _ _ eo
      rw [eo] at hp
      have hp : ∀ h', Cz h0 T n (if rx_k T n e1 = 0 then (if f1 49 = 0 ∨ f1 50 = 0 then rx_no T n e1 6 else .inr ((), e1, f1)) else if rx_k T n e1 = 59 then rx_text T n k (rx_e T n e1) f1 else rx_no T n e1 1) h' → P h' := hp
      refine c_goesOn c1 (fun z h6 c6 => ⟨fun y => absurd y (by decide), fun _ => ?_⟩) (fun z => ⟨fun _ => stop _ _ (hp h3 (Or.inl ⟨e1, f1, ?_, c1⟩)), fun y => absurd rfl y⟩) (fun w z h6 cx => ⟨fun _ => stop _ _ (hp h6 (Or.inr ⟨w, rx_s T n e1, ?_, cx⟩)), fun y => absurd rfl y⟩)
      · unfold rx_on at z
        by_cases k0 : rx_k T n e1 = 0
        · rw [if_pos k0] at z
          split at z <;> cases z
        · rw [if_neg k0] at z hp
          by_cases k9 : rx_k T n e1 = 59
          · rw [if_pos k9] at hp
            have g0 := rx_kn k0
            have g1 := rx_e_gt (rx_kn k0)
            have g2 := rx_s_ge T n e1
            refine ih (l3 + 1) (j + 1) _ f1 h6 c6 (i_inc ej (by omega)) (by omega) (by omega) hp
          · rw [if_neg k9] at z
            cases z
      · unfold rx_on at z
        by_cases k0 : rx_k T n e1 = 0
        · rw [if_pos k0] at z ⊢
          split at z
          · cases z
          · rename_i q
            rw [if_neg q]
        · rw [if_neg k0] at z
          split at z <;> cases z
      · unfold rx_on at z
        by_cases k0 : rx_k T n e1 = 0
        · rw [if_pos k0] at z ⊢
          split at z
          · rename_i q
            rw [if_pos q]
            cases z
            rfl
          · cases z
        · rw [if_neg k0] at z ⊢
          split at z
          · cases z
          · rename_i q
            rw [if_neg q]
            cases z
            rfl
    · refine ⟨fun _ => stop _ _ (hp h3 (Or.inr ⟨w, p, ?_, cx⟩)), fun y => absurd rfl y⟩
      rw [eo]
      rfl
