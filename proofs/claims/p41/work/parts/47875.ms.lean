theorem i_1p {x c : Int32} {s d : Nat} (e : x.toInt = (s : Int)) (hc : c.toInt = (d : Int)) (hs : s < 1000) (hd : d < 1000) : (c + x).toInt = ((d + s : Nat) : Int) := by
  rw [i_add hc e (by omega)]
  omega
theorem x_tell {g : gT} {h0 h : mh_T} {P : mh_T → Prop} {f : Nat → Int32} {w : Int32} {p s : Nat} (l1 l2 : Int32) (hs : s < 8) (e1 : l1.toInt = (s : Int)) (c : Mx h0 f w p h) (hp : P h) : MCv g yX11_pass uX11_pass [.ref 11, .ref (1000 + 8)] h (fun h13 => (vp_in (9 + l1) 346) ∧ ((¬ (mI h13 46 (9 + s)) = (-2) → ME g uX11_setLine 142 [.ref 11, .int l1, .int l2, .int 4, .int 0, .int 0, .retAddr 0, .retAddr 0] [] h13 (qV P)) ∧ ((mI h13 46 (9 + s)) = (-2) → ME g uX11_setLine 142 [.ref 11, .int l1, .int l2, .int 2, .int 0, .int 0, .retAddr 0, .retAddr 0] [] h13 (qV P)))) :=
  x_pass 8 (by decide) (Mx_ne c) ⟨i_vp (i_1p (d := 9) e1 (by decide) (by omega) (by decide)) (by omega), fun _ => x_tm _ _ _ _ _ c hp, fun _ => x_tm _ _ _ _ _ c hp⟩
theorem b_tell {g : gT} {h0 h : mh_T} {P : mh_T → Prop} {T : Nat → Int32} {n e s one : Nat} {two : Int32} {f f3 : Nat → Int32} (l1 l2 : Int32) (hs : s < 8) (e1 : l1.toInt = (s : Int)) (f0 : (f 0).toInt = (s : Int)) (ef : f3 = rx_set (rx_set f (1 + s) (Int32.ofNat one)) (9 + s) two) (c : Ms h0 T n e f3 h) (hp : ∀ h', Mo h0 T n (rx_tell T n one two e f) h' → P h') : MCv g yX11_pass uX11_pass [.ref 11, .ref (1000 + 8)] h (fun h13 => (vp_in (9 + l1) 346) ∧ ((¬ (mI h13 46 (9 + s)) = (-2) → ME g uX11_setLine 142 [.ref 11, .int l1, .int l2, .int 4, .int 0, .int 0, .retAddr 0, .retAddr 0] [] h13 (qV P)) ∧ ((mI h13 46 (9 + s)) = (-2) → ME g uX11_setLine 142 [.ref 11, .int l1, .int l2, .int 2, .int 0, .int 0, .retAddr 0, .retAddr 0] [] h13 (qV P)))) := by
  have i9 := i_1p (c := 9) (d := 9) e1 (by decide) (by omega) (by decide)
  have v9 := i_vp (n := 346) i9 (by omega)
  unfold rx_tell at hp
  rw [i_nat f0, ← ef] at hp
  have f30 : (f3 0).toInt = (s : Int) := by
    rw [ef, rx_set_o (by omega), rx_set_o (by omega)]
    exact f0
  have f39 : f3 (9 + s) = two := by rw [ef, rx_set_i]
  refine b_pass 8 (by decide) c (fun ew h1 c1 => ⟨v9, ?_⟩) (fun ew mx => ⟨v9, fun _ => x_tm _ _ _ _ _ mx (hp _ (Mo_no mx (by rw [ew]; rfl))), fun _ => x_tm _ _ _ _ _ mx (hp _ (Mo_no mx (by rw [ew]; rfl)))⟩)
  rw [c1.2.2.2.2.1 _ (by omega), f39]
  rw [ew] at hp
  refine ⟨fun z => ?_, fun z => ?_⟩
  · refine b_tm l1 l2 4 hs e1 (many := 4) (Or.inr rfl) (by decide) 4 0 0 _ f3 h1 c1 f30 (Nat.le_refl _) (by decide) (fun h' m => hp h' ?_)
    show Mo h0 T n (rx_tm T n s (if two = -2 then 2 else 4) (if two = -2 then 2 else 4) 0 (rx_e T n e) f3) h'
    rw [if_neg z]
    exact m
  · refine b_tm l1 l2 2 hs e1 (many := 2) (Or.inl rfl) (by decide) 2 0 0 _ f3 h1 c1 f30 (Nat.le_refl _) (by decide) (fun h' m => hp h' ?_)
    show Mo h0 T n (rx_tm T n s (if two = -2 then 2 else 4) (if two = -2 then 2 else 4) 0 (rx_e T n e) f3) h'
    rw [if_pos z]
    exact m
theorem rx_set_2 {f : Nat → Int32} {j : Nat} {u v : Int32} : rx_set (rx_set f j u) j v = rx_set f j v := by
  funext i
  unfold rx_set
  split <;> rfl
theorem b_setLine {g : gT} {h0 h : mh_T} {P : mh_T → Prop} {T : Nat → Int32} {n e : Nat} {f : Nat → Int32} (c : Ms h0 T n e f h) (lw : f 49 = 0 → f 0 = 0) (hp : ∀ h', Mo h0 T n (rx_setL T n e f) h' → P h') : MCv g yX11_setLine uX11_setLine [.ref 11] h P := by
  have n0 : Int32.toNatClampNeg 0 = 0 := by decide
  have n49 : Int32.toNatClampNeg 49 = 49 := by decide
  have c0 := c.2.2.2.2.1 0 (by decide)
  have c49 := c.2.2.2.2.1 49 (by decide)
  have r0 : R 0 8 (f 0) := by
    rw [← c0]
    exact GI_rd c.1.1 46 0 (by decide)
  refine e_X11_setLine ⟨fun z => ⟨fun y => ⟨fun _ => ?_, fun x => absurd c.2.2.2.2.2 x⟩, fun y => ?_⟩, fun z => ?_⟩
  · rw [n0, c0] at z
    rw [n49, c49] at y
    obtain ⟨s, es, s0, s8⟩ := i_R r0 (by decide)
    have hs : s < 8 := by
      by_cases q : s = 8
      · exact absurd (Int32.toInt_inj.mp (by rw [es, q]; decide)) z
      · omega
    have eo : rx_setL T n e f = rx_bind (rx_name T n true (rx_e T n e) f) (fun one e1 f1 => if rx_k T n e1 = 44 then rx_bind (rx_name T n true (rx_e T n e1) f1) (fun two e2 f2 => if two = one then rx_no T n (rx_e T n e1) 3 else rx_tell T n one (Int32.ofNat two) e2 f2) else rx_tell T n one (-2) e1 f1) := by
      unfold rx_setL
      rw [if_neg y, if_neg z]
    rw [eo] at hp
    refine b_nx c (fun h4 c4 x5 e5 => ?_)
    rw [n0, c4.2.2.2.2.1 0 (by decide)] at e5
    subst e5
    have i1 := i_1p (c := 1) (d := 1) es (by decide) (by omega) (by decide)
    have i9 := i_1p (c := 9) (d := 9) es (by decide) (by omega) (by decide)
    have v1 := i_vp (n := 346) i1 (by omega)
    have v9 := i_vp (n := 346) i9 (by omega)
    have r1 := rgp_46_1 (j := 1 + s) (by omega) (by omega)
    have r9 := rgp_46_2 (j := 9 + s) (by omega) (by omega)
    refine b_passedL c4 0 _ Un_0 (fun r7 one h6 en er h1 _ c6 => ⟨v1, v9, ?_⟩) (fun r7 one _ _ _ q => by cases q) (fun w hw en mx => ⟨v1, v9, ?_⟩)
    · rw [i_nat i1, i_nat i9]
      rw [en] at hp
      change ∀ h', Mo h0 T n (if rx_k T n (rx_e T n (rx_e T n e)) = 44 then rx_bind (rx_name T n true (rx_e T n (rx_e T n (rx_e T n e))) f) (fun two e2 f2 => if two = one then rx_no T n (rx_e T n (rx_e T n (rx_e T n e))) 3 else rx_tell T n one (Int32.ofNat two) e2 f2) else rx_tell T n one (-2) (rx_e T n (rx_e T n e)) f) h' → P h' at hp
      have e7 : r7 = Int32.ofNat one := i_of er (by omega)
      have cw := Ms_w (Ms_w c6 r1 (v := r7) ⟨by omega, by omega⟩) r9 (v := -2) ⟨by decide, by decide⟩
      have fh : ∀ i, 211 ≤ i → rx_set (rx_set f (1 + s) r7) (9 + s) (-2) i = f i := fun i hi => by rw [rx_set_o (by omega), rx_set_o (by omega)]
      refine b_comma cw (fun k44 h10 c10 => ⟨fun q => absurd q (by decide), fun _ => ?_⟩) (fun k44 => ⟨fun _ => ?_, fun q => absurd rfl q⟩)
      · rw [if_pos k44] at hp
        have cg := rx_name_cg (T := T) (n := n) (e := rx_e T n (rx_e T n (rx_e T n e))) (lk := true) fh
        refine b_passedL c10 _ _ (Un_1 er (by omega)) (fun r17 two h16 en2 er2 h2 u2 c16 => ⟨v9, ?_⟩) (fun r17 two en2 er2 h2 u2 mx => ⟨v9, ?_⟩) (fun w hw en2 mx => ⟨v9, ?_⟩)
        · rw [cg.1 two en2] at hp
          have ne : ¬ two = one := by
            intro q
            rw [q] at u2
            simp at u2
          change ∀ h', Mo h0 T n (if two = one then rx_no T n (rx_e T n (rx_e T n (rx_e T n e))) 3 else rx_tell T n one (Int32.ofNat two) (rx_e T n (rx_e T n (rx_e T n (rx_e T n e)))) f) h' → P h' at hp
          rw [if_neg ne] at hp
          have e17 : r17 = Int32.ofNat two := i_of er2 (by omega)
          exact b_tell (f := f) (one := one) (two := Int32.ofNat two) _ _ hs es es (by rw [rx_set_2, e7, e17]) (Ms_w c16 r9 (v := r17) ⟨by omega, by omega⟩) hp
        · rw [cg.1 two en2] at hp
          have eq : two = one := by
            simp at u2
            exact u2
          change ∀ h', Mo h0 T n (if two = one then rx_no T n (rx_e T n (rx_e T n (rx_e T n e))) 3 else rx_tell T n one (Int32.ofNat two) (rx_e T n (rx_e T n (rx_e T n (rx_e T n e)))) f) h' → P h' at hp
          rw [if_pos eq] at hp
          have m2 := Mx_w mx r9 (v := r17) ⟨by omega, by omega⟩
          exact x_tell _ _ hs es m2 (hp _ (Mo_no m2 rfl))
        · rw [cg.2 w en2] at hp
          have m2 := Mx_w mx r9 (v := 0) ⟨by decide, by decide⟩
          exact x_tell _ _ hs es m2 (hp _ (Mo_no m2 rfl))
      · rw [if_neg k44] at hp
        exact b_tell (f := f) (one := one) (two := -2) _ _ hs es es (by rw [e7]) cw hp
    · rw [i_nat i1, i_nat i9]
      rw [en] at hp
      have m2 := Mx_w (Mx_w mx r1 (v := 0) ⟨by decide, by decide⟩) r9 (v := -2) ⟨by decide, by decide⟩
      exact x_comma (Mx_ne m2) ⟨fun _ => x_tell _ _ hs es m2 (hp _ (Mo_no m2 rfl)), fun q => absurd rfl q⟩
  · rw [n49, c49] at y
    refine b_wrong c 6 (fun mx => ⟨fun q => absurd q (Mx_ne mx), fun _ => hp _ (Mo_no mx ?_)⟩)
    unfold rx_setL
    rw [if_pos y]
  · rw [n0, c0] at z
    have y : ¬ f 49 = 0 := fun q => by
      rw [lw q] at z
      exact absurd z (by decide)
    refine b_wrong c 5 (fun mx => ⟨fun _ => ⟨fun q => absurd q (Mx_ne mx), fun _ => hp _ (Mo_no mx ?_)⟩, fun q => ?_⟩)
    · unfold rx_setL
      rw [if_neg y, if_pos z]
    · rw [n49, mx.2.2.2.2 49 (by decide)] at q
      exact absurd q y
