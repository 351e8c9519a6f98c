theorem c_readParity {g : gT} {h0 h : mh_T} {P : Int32 → mh_T → Prop} {T : Nat → Int32} {n e : Nat} {f : Nat → Int32} (c : Cs h0 T n e f h) (hf : R 0 8 (f 52)) (hp : ∀ r h', Co h0 T n (rx_lineL T n e f) r h' → P r h') : MCi g yX6_readParity uX6_readParity [.ref 1] h P := by
  have e24 : mI h 2 4 = f 52 := c.2.2.2.2.1.1.2.2.2.2.1
  have i8 : (8 : Int32).toInt = 8 := by decide
  obtain ⟨l, el, l0, l8⟩ := i_R hf (by decide)
  refine e_X6_readParity ⟨fun z => ?_, fun z => ?_⟩
  · rw [e24, i_lt, el, i8] at z
    have n8 : ¬ f 52 = 8 := fun w => by rw [w, i8] at el; omega
    refine c_next c.1.1 c.2.1 c.2.2.1.2.1 (rx_e_le c.2.2.2.1) (fun h2 k2 t2 => ?_)
    refine c_readParity_L (l := l) (by omega) 3 0 0 (fun _ => false) _ f h2 (Cs_next c k2 t2) ⟨fun _ => 0, fun k hk => absurd hk (by omega), fun k k' _ hk => absurd hk (by omega), fun q => ⟨fun z => (by cases z), fun ⟨k, hk, _⟩ => absurd hk (by omega)⟩⟩ el (Nat.le_refl _) (by decide) (fun q _ => by unfold bt; simp) (fun q h' o => hp q h' ?_)
    unfold rx_lineL
    rw [if_neg n8, i_nat el]
    exact o
  · rw [e24, i_lt, el, i8] at z
    have n8 : f 52 = 8 := Int32.toInt_inj.mp (by rw [el, i8]; omega)
    refine c_refuse 5 ⟨Or.inl rfl, hp 0 _ (Co_rf c (by decide) ?_)⟩
    unfold rx_lineL
    rw [if_pos n8]
theorem Cs_rg {h0 h : mh_T} {T : Nat → Int32} {n e : Nat} {f : Nat → Int32} (c : Cs h0 T n e f h) : R 0 8 (f 0) ∧ R 0 8 (f 52) ∧ R 0 18 (f 85) ∧ R 0 4 (f 158) := by
  obtain ⟨d0, d1, d2, d3, d4, d5, d6⟩ := c.2.2.2.2.1.1
  rw [← d3, ← d4, ← d5, ← d6]
  exact ⟨GI_rd c.1.1 2 3 (by decide), GI_rd c.1.1 2 4 (by decide), GI_rd c.1.1 2 5 (by decide), GI_rd c.1.1 2 6 (by decide)⟩
theorem c_readLine {g : gT} {h0 h : mh_T} {P : Int32 → mh_T → Prop} {T : Nat → Int32} {n e : Nat} {f : Nat → Int32} (c : Cs h0 T n e f h) (hp : ∀ r h', Co h0 T n (rx_line T n e f) r h' → P r h') : MCi g yX6_readLine uX6_readLine [.ref 1] h P := by
  obtain ⟨r0, r52, r85, r158⟩ := Cs_rg c
  have hp2 : ∀ r h', Co h0 T n (rx_line T n e f) r h' → (r = 0 ∨ r = 1) ∧ P r h' := by
    intro r h' o
    have q := hp r h' o
    rcases o with ⟨_, _, _, z, _⟩ | ⟨_, _, _, z, _⟩
    · exact ⟨Or.inr z, q⟩
    · exact ⟨Or.inl z, q⟩
  unfold rx_line at hp2
  refine e_X6_readLine ?_
  refine c_says 0 (by decide) c.2.1 c.2.2.1 c.2.2.2.1 (fun z => ⟨fun y => absurd y (by decide), fun _ => ?_⟩) (fun z0 => ⟨fun _ => ?_, fun y => absurd rfl y⟩)
  · rw [if_pos z] at hp2
    exact c_readLaw c hp2
  rw [if_neg z0] at hp2
  refine c_says 1 (by decide) c.2.1 c.2.2.1 c.2.2.2.1 (fun z => ⟨fun y => absurd y (by decide), fun _ => ?_⟩) (fun z1 => ⟨fun _ => ?_, fun y => absurd rfl y⟩)
  · rw [if_pos z] at hp2
    refine e_X6_readNames 13 6 1 rfl ?_
    exact c_readNames 13 1 50 0 6 1 6 (Or.inl ⟨rfl, rfl, rfl, rfl, rfl, by decide, rfl⟩) 7 0 e f h c (by decide) (by decide) (by have := c.2.2.2.2.2.1.1.1; rw [show (0 : Int32).toInt = 0 from by decide]; exact this) hp2
  rw [if_neg z1] at hp2
  refine c_says 2 (by decide) c.2.1 c.2.2.1 c.2.2.2.1 (fun z => ⟨fun y => absurd y (by decide), fun _ => ?_⟩) (fun z2 => ⟨fun _ => ?_, fun y => absurd rfl y⟩)
  · rw [if_pos z] at hp2
    refine e_X6_readNames 14 9 0 rfl ?_
    exact c_readNames 14 2 51 6 9 0 9 (Or.inr ⟨rfl, rfl, rfl, rfl, rfl, rfl, rfl⟩) 10 0 e f h c (by decide) (by decide) (by have := c.2.2.2.2.2.1.2.1.1; rw [show (0 : Int32).toInt = 0 from by decide]; exact this) hp2
  rw [if_neg z2] at hp2
  refine c_says 3 (by decide) c.2.1 c.2.2.1 c.2.2.2.1 (fun z => ⟨fun y => absurd y (by decide), fun _ => ?_⟩) (fun z3 => ⟨fun _ => ?_, fun y => absurd rfl y⟩)
  · rw [if_pos z] at hp2
    exact c_readSet c r0 hp2
  rw [if_neg z3] at hp2
  refine c_says 4 (by decide) c.2.1 c.2.2.1 c.2.2.2.1 (fun z => ⟨fun y => absurd y (by decide), fun _ => ?_⟩) (fun z4 => ⟨fun _ => ?_, fun y => absurd rfl y⟩)
  · rw [if_pos z] at hp2
    exact c_readParity c r52 hp2
  rw [if_neg z4] at hp2
  refine c_says 5 (by decide) c.2.1 c.2.2.1 c.2.2.2.1 (fun z => ⟨fun y => absurd y (by decide), fun _ => ?_⟩) (fun z5 => ⟨fun _ => ?_, fun y => absurd rfl y⟩)
  · rw [if_pos z] at hp2
    exact c_readRay c r85 hp2
  rw [if_neg z5] at hp2
  refine c_says 6 (by decide) c.2.1 c.2.2.1 c.2.2.2.1 (fun z => ⟨fun y => absurd y (by decide), fun _ => ?_⟩) (fun z6 => ⟨fun _ => ?_, fun y => absurd rfl y⟩)
  · rw [if_pos z] at hp2
    exact c_readRun c r158 hp2
  rw [if_neg z6] at hp2
  exact c_refuse 1 (hp2 0 _ (Co_rf c (by decide) rfl))
/-- what follows a line -/
def rx_on (T : Nat → Int32) (n e1 : Nat) (f1 : Nat → Int32) : rx_O Bool := if rx_k T n e1 = 0 then (if f1 49 = 0 ∨ f1 50 = 0 then rx_no T n e1 6 else .inr (false, e1, f1)) else if rx_k T n e1 = 59 then .inr (true, rx_e T n e1, f1) else rx_no T n e1 1
theorem c_goesOn {g : gT} {h0 h : mh_T} {P : Int32 → mh_T → Prop} {T : Nat → Int32} {n e : Nat} {f : Nat → Int32} (c : Cs h0 T n e f h) (h1 : rx_on T n e f = .inr (true, rx_e T n e, f) → ∀ h', Cs h0 T n (rx_e T n e) f h' → P 1 h') (h2 : rx_on T n e f = .inr (false, e, f) → P 0 h) (h3 : ∀ w, rx_on T n e f = rx_no T n e w → ∀ h', Cx h0 w (rx_s T n e) h' → P 0 h') : MCi g yX6_goesOn uX6_goesOn [.ref 1] h P := by
  obtain ⟨d0, d1, -⟩ := c.2.2.2.2.1.1
  unfold rx_on at h1 h2 h3
  refine e_X6_goesOn ⟨fun z => ?_, fun z => ?_⟩
  · rw [c.2.2.1.2.2.1] at z
    rw [if_neg z] at h1 h2 h3
    refine c_pass 59 c.1.1 c.2.1 c.2.2.1 c.2.2.2.1 (fun k h' k1 t1 => ⟨Or.inr rfl, ?_⟩) (fun k => ⟨Or.inl rfl, ?_⟩)
    · rw [if_pos k] at h1
      exact h1 rfl h' (Cs_next c k1 t1)
    · rw [if_neg k] at h3
      exact h3 1 rfl _ (Cs_rf c (by decide))
  · rw [c.2.2.1.2.2.1] at z
    rw [if_pos z] at h1 h2 h3
    rw [d0, d1]
    refine ⟨fun y => ?_, fun y => ⟨fun x => ?_, fun x => ?_⟩⟩
    · rw [if_pos (Or.inl y)] at h3
      exact c_refuse 6 (h3 6 rfl _ (Cs_rf c (by decide)))
    · rw [if_neg (by rintro (q | q); exact y q; exact x q)] at h2
      exact h2 rfl
    · rw [if_pos (Or.inr x)] at h3
      exact c_refuse 6 (h3 6 rfl _ (Cs_rf c (by decide)))
