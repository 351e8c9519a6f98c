/-! the reference's lines: line, ray, run -/
theorem b_lineLine_L {g : gT} {h0 : mh_T} {P : mh_T → Prop} {T : Nat → Int32} {n l : Nat} (l1 : Int32) (hl : l < 8) (e1 : l1.toInt = (l : Int)) (f52 : Int32) (ef : f52.toInt = (l : Int)) : ∀ (r : Nat) (l2 l3 : Int32) (u : Nat → Bool) (e : Nat) (f : Nat → Int32) (h : mh_T), Ms h0 T n e f h → f 52 = f52 → r ≤ 3 → l3.toInt = ((3 - r : Nat) : Int) → Un l2 u → (∀ h', Mo h0 T n (rx_bind (rx_pt T n l r u e f) (fun _ e1 f1 => rx_bind (rx_word T n 9 e1 f1) (fun _ e2 f2 => if rx_wd T n e2 (bytJS.getD 11 []) = true then .inr ((), rx_e T n e2, rx_set (rx_set f2 (77 + l) 1) 52 (f52 + 1)) else if rx_wd T n e2 (bytJS.getD 10 []) = true then .inr ((), rx_e T n e2, rx_set f2 52 (f52 + 1)) else rx_no T n e2 1))) h' → P h') → ME g uX11_lineLine 20 [.ref 11, .int l1, .int l2, .int l3, .retAddr 0] [] h (qV P) := by
  have n52 : Int32.toNatClampNeg 52 = 52 := by decide
  have i0 : (0 : Int32).toInt = 0 := by decide
  have i3 : (3 : Int32).toInt = 3 := by decide
  have i52 := i_inc ef (by omega)
  intro r
  induction r with
  | zero =>
    intro l2 l3 u e f h c e52 hr e3 hu hp
    have i77 := i_1p (c := 77) (d := 77) e1 (by decide) (by omega) (by decide)
    change ∀ h', Mo h0 T n (rx_bind (rx_word T n 9 e f) (fun _ e2 f2 => if rx_wd T n e2 (bytJS.getD 11 []) = true then .inr ((), rx_e T n e2, rx_set (rx_set f2 (77 + l) 1) 52 (f52 + 1)) else if rx_wd T n e2 (bytJS.getD 10 []) = true then .inr ((), rx_e T n e2, rx_set f2 52 (f52 + 1)) else rx_no T n e2 1)) h' → P h' at hp
    refine r_X11_lineLine_20 l1 l2 l3 ⟨fun _ => ?_, fun z => absurd (by rw [i_le, i3, e3]; omega) z⟩
    refine b_pass 9 (by decide) c (fun ew h1 c1 => ⟨fun _ => ?_, fun y => absurd c1.2.2.2.2.2 y⟩) (fun ew mx => ⟨fun y => absurd y (Mx_ne mx), fun _ => hp _ (Mo_no mx (by rw [ew]; rfl))⟩)
    rw [ew] at hp
    change ∀ h', Mo h0 T n (if rx_wd T n (rx_e T n e) (bytJS.getD 11 []) = true then .inr ((), rx_e T n (rx_e T n e), rx_set (rx_set f (77 + l) 1) 52 (f52 + 1)) else if rx_wd T n (rx_e T n e) (bytJS.getD 10 []) = true then .inr ((), rx_e T n (rx_e T n e), rx_set f 52 (f52 + 1)) else rx_no T n (rx_e T n e) 1) h' → P h' at hp
    refine b_takes 11 (by decide) c1 (fun wd h2 c2 => ⟨fun y => absurd y (by decide), fun _ => ⟨i_vp i77 (by omega), ?_⟩⟩) (fun wd => ⟨fun _ => ?_, fun y => absurd rfl y⟩)
    · rw [if_pos wd] at hp
      rw [i_nat i77, n52]
      have cw := Ms_w c2 (rgp_46_8 (j := 77 + l) (by omega) (by omega)) (v := 1) ⟨by decide, by decide⟩
      rw [cw.2.2.2.2.1 52 (by decide), rx_set_o (by omega), e52]
      exact hp _ (Mo_ok (Ms_w cw (lo := 0) (hi := 8) (by decide) ⟨by omega, by omega⟩) rfl)
    · rw [if_neg wd] at hp
      refine b_pass 10 (by decide) c1 (fun ew2 h2 c2 => ?_) (fun ew2 mx => ?_)
      · rw [n52, c2.2.2.2.2.1 52 (by decide), e52]
        refine hp _ (Mo_ok (Ms_w c2 (lo := 0) (hi := 8) (by decide) ⟨by omega, by omega⟩) ?_)
        unfold rx_word at ew2
        split at ew2
        · rename_i q
          rw [if_pos q]
        · unfold rx_no at ew2
          cases ew2
      · rw [n52, mx.2.2.2.2 52 (by decide), e52]
        refine hp _ (Mo_no (Mx_w mx (lo := 0) (hi := 8) (by decide) ⟨by omega, by omega⟩) ?_)
        unfold rx_word at ew2
        split at ew2
        · unfold rx_no at ew2
          cases ew2
        · rename_i q
          rw [if_neg q]
  | succ r ih =>
    intro l2 l3 u e f h c e52 hr e3 hu hp
    have ix : ((53 + (3 * l1)) + l3).toInt = ((53 + 3 * l + (2 - r) : Nat) : Int) := by
      have a : (3 * l1).toInt = 3 * (l : Int) := by
        rw [Int32.toInt_mul, e1, i3, bm (by omega) (by omega)]
      have b : (53 + (3 * l1)).toInt = 53 + 3 * (l : Int) := i_add (by decide) a (by omega)
      rw [i_add b e3 (by omega)]
      omega
    have vx := i_vp (n := 346) ix (by omega)
    have e3' : (l3 + 1).toInt = ((3 - r : Nat) : Int) := by
      rw [i_inc e3 (by omega)]
      omega
    have B : ∀ (h1 : mh_T) (e0 : Nat), Ms h0 T n e0 f h1 → (∀ h', Mo h0 T n (rx_bind (rx_bind (rx_name T n false e0 f) (fun p e1 f1 => if u p = true then rx_no T n e0 3 else rx_pt T n l r (fun q => q == p || u q) e1 (rx_set f1 (53 + 3 * l + (2 - r)) (Int32.ofNat p)))) (fun _ e1 f1 => rx_bind (rx_word T n 9 e1 f1) (fun _ e2 f2 => if rx_wd T n e2 (bytJS.getD 11 []) = true then .inr ((), rx_e T n e2, rx_set (rx_set f2 (77 + l) 1) 52 (f52 + 1)) else if rx_wd T n e2 (bytJS.getD 10 []) = true then .inr ((), rx_e T n e2, rx_set f2 52 (f52 + 1)) else rx_no T n e2 1))) h' → P h') → MCi g yX11_passed uX11_passed [.ref 11, .int 0, .int l2] h1 (fun r11 h10 => ((mI h10 11 13) = 0 → ∀ x13 : Int32, x13 = (l2 ||| (1 <<< (r11 &&& 31))) → (vp_in ((53 + (3 * l1)) + l3) 346) ∧ (ME g uX11_lineLine 20 [.ref 11, .int l1, .int x13, .int (l3 + 1), .retAddr 0] [] (wI h10 46 ((53 + (3 * l1)) + l3).toNatClampNeg r11) (qV P))) ∧ (¬ (mI h10 11 13) = 0 → P h10)) := by
      intro h1 e0 c1 hp1
      refine b_passedP c1 l2 u hu (fun rr p h2 en er hpp up c2 => ⟨fun _ x13 ex => ⟨vx, ?_⟩, fun y => absurd c2.2.2.2.2.2 y⟩) (fun rr p en er hpp up mx => ⟨fun y => absurd y (Mx_ne mx), fun _ => hp1 _ (Mo_no mx ?_)⟩) (fun w hw en mx => ⟨fun y => absurd y (Mx_ne mx), fun _ => hp1 _ (Mo_no mx (by rw [en]; rfl))⟩)
      · subst ex
        rw [i_nat ix]
        have er2 : rr = Int32.ofNat p := i_of er (by omega)
        refine ih _ (l3 + 1) (fun q => q == p || u q) _ _ _ (Ms_w c2 (rgp_46_7 (j := 53 + 3 * l + (2 - r)) (by omega) (by omega)) ⟨by omega, by omega⟩) ?_ (by omega) e3' (Un_or er hpp hu) (fun h' m => hp1 h' ?_)
        · rw [rx_set_o (by omega)]; exact e52
        · rw [en]
          show Mo h0 T n (rx_bind (if u p = true then _ else _) _) h'
          rw [if_neg (by rw [up]; decide), ← er2]
          exact m
      · rw [en]
        show rx_bind (if u p = true then _ else _) _ = _
        rw [if_pos up]
        rfl
    refine r_X11_lineLine_20 l1 l2 l3 ⟨fun z => ?_, fun z => ⟨fun y => ?_, fun y => ?_⟩⟩
    · rw [i_le, i3, e3] at z
      omega
    · rw [i_le, e3, i0] at y
      refine B h e c (fun h' m => hp h' ?_)
      show Mo h0 T n (rx_bind (rx_bind (if r = 2 then .inr ((), e, f) else rx_sign T n 44 e f) _) _) h'
      rw [if_pos (by omega)]
      exact m
    · rw [i_le, e3, i0] at y
      have eo : rx_pt T n l (r + 1) u e f = rx_bind (rx_sign T n 44 e f) (fun _ e0 f0 => rx_bind (rx_name T n false e0 f0) (fun p e1 f1 => if u p = true then rx_no T n e0 3 else rx_pt T n l r (fun q => q == p || u q) e1 (rx_set f1 (53 + 3 * l + (2 - r)) (Int32.ofNat p)))) := by
        show rx_bind (if r = 2 then .inr ((), e, f) else rx_sign T n 44 e f) _ = _
        rw [if_neg (by omega)]
      refine b_mustComma c (fun es h1 c1 => B h1 _ c1 (fun h' m => hp h' ?_)) (fun es mx => x_passed 0 l2 (Mx_ne mx) ⟨fun x => absurd x (Mx_ne mx), fun _ => hp _ (Mo_no mx ?_)⟩)
      · rw [eo, es]; exact m
      · rw [eo, es]; rfl
theorem b_lineLine {g : gT} {h0 h : mh_T} {P : mh_T → Prop} {T : Nat → Int32} {n e : Nat} {f : Nat → Int32} (c : Ms h0 T n e f h) (h8 : ¬ f 52 = 8) (hp : ∀ h', Mo h0 T n (rx_bind (rx_pt T n (f 52).toNatClampNeg 3 (fun _ => false) e f) (fun _ e1 f1 => rx_bind (rx_word T n 9 e1 f1) (fun _ e2 f2 => if rx_wd T n e2 (bytJS.getD 11 []) = true then .inr ((), rx_e T n e2, rx_set (rx_set f2 (77 + (f 52).toNatClampNeg) 1) 52 (f 52 + 1)) else if rx_wd T n e2 (bytJS.getD 10 []) = true then .inr ((), rx_e T n e2, rx_set f2 52 (f 52 + 1)) else rx_no T n e2 1))) h' → P h') : MCv g yX11_lineLine uX11_lineLine [.ref 11] h P := by
  have c52 := c.2.2.2.2.1 52 (by decide)
  have r52 : R 0 8 (f 52) := by
    rw [← c52]
    exact GI_rd c.1.1 46 52 (by decide)
  obtain ⟨l, el, l0, l8⟩ := i_R r52 (by decide)
  have hl : l < 8 := by
    by_cases q : l = 8
    · exact absurd (Int32.toInt_inj.mp (by rw [el, q]; decide)) h8
    · omega
  rw [i_nat el] at hp
  refine e_X11_lineLine ⟨fun _ x2 ex => ?_, fun y => absurd c.2.2.2.2.2 y⟩
  rw [show Int32.toNatClampNeg 52 = 52 from by decide, c52] at ex
  subst ex
  exact b_lineLine_L _ hl el _ el 3 0 0 (fun _ => false) e f h c rfl (Nat.le_refl _) (by decide) Un_0 hp
theorem x_lineLine {g : gT} {h : mh_T} {P : mh_T → Prop} (z : ¬ mI h 11 13 = 0) (hp : P h) : MCv g yX11_lineLine uX11_lineLine [.ref 11] h P := e_X11_lineLine ⟨fun y => absurd y z, fun _ => hp⟩
theorem x_rayLine {g : gT} {h : mh_T} {P : mh_T → Prop} (z : ¬ mI h 11 13 = 0) (hp : P h) : MCv g yX11_rayLine uX11_rayLine [.ref 11] h P := e_X11_rayLine ⟨fun y => absurd y z, fun _ => hp⟩
theorem x_runLine {g : gT} {h : mh_T} {P : mh_T → Prop} (z : ¬ mI h 11 13 = 0) (hp : P h) : MCv g yX11_runLine uX11_runLine [.ref 11] h P := e_X11_runLine ⟨fun y => absurd y z, fun _ => hp⟩
theorem x_lawLine {g : gT} {h : mh_T} {P : mh_T → Prop} (z : ¬ mI h 11 13 = 0) (hp : P h) : MCv g yX11_lawLine uX11_lawLine [.ref 11] h P := e_X11_lawLine (x_pass 7 (by decide) z (x_number 1 60 z ⟨fun _ => hp, fun y => absurd y z⟩))
def rayD (g : gT) (P : mh_T → Prop) (l1 l2 l3 x r : Int32) (h : mh_T) : Prop := (¬ l2 = 0 → (vp_in ((86 + (4 * l1)) + l3) 346) ∧ (ME g uX11_rayLine 20 [.ref 11, .int l1, .int 1, .int (l3 + 1), .retAddr 0, .retAddr 0, .retAddr 0] [] (wI h 46 ((86 + (4 * l1)) + l3).toNatClampNeg x) (qV P))) ∧ (l2 = 0 → (r ≤ 0 → (vp_in ((86 + (4 * l1)) + l3) 346) ∧ (ME g uX11_rayLine 20 [.ref 11, .int l1, .int 0, .int (l3 + 1), .retAddr 0, .retAddr 0, .retAddr 0] [] (wI h 46 ((86 + (4 * l1)) + l3).toNatClampNeg x) (qV P))) ∧ (¬ r ≤ 0 → (vp_in ((86 + (4 * l1)) + l3) 346) ∧ (ME g uX11_rayLine 20 [.ref 11, .int l1, .int 1, .int (l3 + 1), .retAddr 0, .retAddr 0, .retAddr 0] [] (wI h 46 ((86 + (4 * l1)) + l3).toNatClampNeg x) (qV P))))
def rayN (g : gT) (P : mh_T → Prop) (l1 l2 l3 : Int32) (sg : Int32 → Int32) (h : mh_T) : Prop := MCi g yX11_number uX11_number [.ref 11, .int 0, .int 3] h (fun r h' => rayD g P l1 l2 l3 (sg r) r h')
def rayC (g : gT) (P : mh_T → Prop) (l1 l2 l3 : Int32) (sg : Int32 → Int32) (h : mh_T) : Prop := (¬ l3 = 3 → rayN g P l1 l2 l3 sg h) ∧ (l3 = 3 → (¬ l2 = 0 → rayN g P l1 l2 l3 sg h) ∧ (l2 = 0 → (¬ (mI h 11 6) = 3 → rayN g P l1 l2 l3 sg h) ∧ ((mI h 11 6) = 3 → (¬ (mI h 11 7) = 0 → rayN g P l1 l2 l3 sg h) ∧ ((mI h 11 7) = 0 → MCv g yX11_wrong uX11_wrong [.ref 11, .int 4, .int (mI h 11 4)] h (fun h' => rayN g P l1 l2 l3 sg h')))))
theorem x_pa {g : gT} {h0 h : mh_T} {P : mh_T → Prop} {f : Nat → Int32} {w : Int32} {p : Nat} (l1 l2 l3 : Int32) (c : Mx h0 f w p h) (hp : P h) : ME g uX11_rayLine 20 [.ref 11, .int l1, .int l2, .int l3, .retAddr 0, .retAddr 0, .retAddr 0] [] h (qV P) :=
  r_X11_rayLine_20 l1 l2 l3 ⟨fun _ => ⟨fun _ => hp, fun y => absurd y (Mx_ne c)⟩, fun _ => ⟨fun _ => ⟨fun y => absurd y (Mx_ne c), fun _ => hp⟩, fun _ => x_mustComma (Mx_ne c) ⟨fun y => absurd y (Mx_ne c), fun _ => hp⟩⟩⟩
theorem b_pa {g : gT} {h0 : mh_T} {P : mh_T → Prop} {T : Nat → Int32} {n l : Nat} (l1 : Int32) (hl : l < 18) (e1 : l1.toInt = (l : Int)) : ∀ (r : Nat) (l2 l3 : Int32) (an : Bool) (e : Nat) (f : Nat → Int32) (h : mh_T), Ms h0 T n e f h → (f 85).toInt = (l : Int) → r ≤ 4 → l3.toInt = ((4 - r : Nat) : Int) → (l2 = 0 ↔ an = false) → (∀ h', Mo h0 T n (rx_pa T n l r an e f) h' → P h') → ME g uX11_rayLine 20 [.ref 11, .int l1, .int l2, .int l3, .retAddr 0, .retAddr 0, .retAddr 0] [] h (qV P) := by
  have n85 : Int32.toNatClampNeg 85 = 85 := by decide
  have i0 : (0 : Int32).toInt = 0 := by decide
  have i3 : (3 : Int32).toInt = 3 := by decide
  have i4 : (4 : Int32).toInt = 4 := by decide
  intro r
  induction r with
  | zero =>
    intro l2 l3 an e f h c f85 hr e3 ha hp
    refine r_X11_rayLine_20 l1 l2 l3 ⟨fun _ => ⟨fun y => absurd c.2.2.2.2.2 y, fun _ => ?_⟩, fun z => absurd (by rw [i_le, i4, e3]; omega) z⟩
    rw [n85, c.2.2.2.2.1 85 (by decide)]
    have := i_inc f85 (by omega)
    exact hp _ (Mo_ok (Ms_w c (lo := 0) (hi := 18) (by decide) ⟨by omega, by omega⟩) rfl)
  | succ r ih =>
    intro l2 l3 an e f h c f85 hr e3 ha hp
    have ix : ((86 + (4 * l1)) + l3).toInt = ((86 + 4 * l + (3 - r) : Nat) : Int) := by
      have a : (4 * l1).toInt = 4 * (l : Int) := by
        rw [Int32.toInt_mul, e1, i4, bm (by omega) (by omega)]
      have b : (86 + (4 * l1)).toInt = 86 + 4 * (l : Int) := i_add (by decide) a (by omega)
      rw [i_add b e3 (by omega)]
      omega
    have vx := i_vp (n := 346) ix (by omega)
    have rg := rgg_46_0 (j := 86 + 4 * l + (3 - r)) (by omega) (by omega)
    have e3' : (l3 + 1).toInt = ((4 - r : Nat) : Int) := by
      rw [i_inc e3 (by omega)]
      omega
    have X : ∀ (sg : Int32 → Int32) (w : Int32) (p : Nat) (f' : Nat → Int32) (h1 : mh_T), Mx h0 f' w p h1 → (∀ h2 f2, Mx h0 f2 w p h2 → P h2) → rayD g P l1 l2 l3 (sg 0) 0 h1 := by
      intro sg w p f' h1 mx hq
      have m2 := Mx_w mx rg (v := sg 0) (R_full _)
      unfold rayD
      rw [i_nat ix]
      exact ⟨fun _ => ⟨vx, x_pa _ _ _ m2 (hq _ _ m2)⟩, fun _ => ⟨fun _ => ⟨vx, x_pa _ _ _ m2 (hq _ _ m2)⟩, fun _ => ⟨vx, x_pa _ _ _ m2 (hq _ _ m2)⟩⟩⟩
    have N : ∀ (sg : Int32 → Int32) (h1 : mh_T) (e0 : Nat), Ms h0 T n e0 f h1 → (∀ h', Mo h0 T n (rx_bind (rx_num T n 0 3 e0 f) (fun v e2 f1 => if r = 0 ∧ an = false ∧ v = 0 then rx_no T n e0 4 else rx_pa T n l r (an || decide (¬ v = 0)) e2 (rx_set f1 (86 + 4 * l + (3 - r)) (sg v)))) h' → P h') → (rx_k T n e0 = 3 → ¬ (r = 0 ∧ an = false ∧ rx_v T n e0 = 0)) → rayN g P l1 l2 l3 sg h1 := by
      intro sg h1 e0 c1 hp1 hno
      unfold rayN
      refine b_number 0 3 c1 (fun en k3 vr h2 c2 => ?_) (fun w hw en mx => X sg w _ f _ mx (fun h2 f2 m2 => hp1 _ (Mo_no m2 (by rw [en]; rfl))))
      have cw := Ms_w c2 rg (v := sg (rx_v T n e0)) (R_full _)
      rw [i_le, i_le, i0, i3] at vr
      have G : ∀ (l2' : Int32), (l2' = 0 ↔ (an || decide (¬ rx_v T n e0 = 0)) = false) → ME g uX11_rayLine 20 [.ref 11, .int l1, .int l2', .int (l3 + 1), .retAddr 0, .retAddr 0, .retAddr 0] [] (wI h2 46 (86 + 4 * l + (3 - r)) (sg (rx_v T n e0))) (qV P) := by
        intro l2' hz
        refine ih l2' (l3 + 1) _ _ _ _ cw ?_ (by omega) e3' hz (fun h' m => hp1 h' ?_)
        · rw [rx_set_o (by omega)]; exact f85
        · rw [en]
          show Mo h0 T n (if r = 0 ∧ an = false ∧ rx_v T n e0 = 0 then _ else _) h'
          rw [if_neg (hno k3)]
          exact m
      unfold rayD
      rw [i_nat ix]
      refine ⟨fun z => ⟨vx, G 1 ?_⟩, fun z => ⟨fun y => ⟨vx, G 0 ?_⟩, fun y => ⟨vx, G 1 ?_⟩⟩⟩
      · have : an = true := by
          cases an
          · exact absurd (ha.mpr rfl) z
          · rfl
        rw [this, Bool.true_or]
        decide
      · rw [i_le, i0] at y
        have v0 : rx_v T n e0 = 0 := Int32.toInt_inj.mp (by rw [i0]; omega)
        rw [ha.mp z, v0]
        decide
      · rw [i_le, i0] at y
        have v0 : ¬ rx_v T n e0 = 0 := fun q => by
          rw [q, i0] at y
          omega
        rw [decide_eq_true v0, Bool.or_true]
        decide
    have C : ∀ (sg : Int32 → Int32) (h1 : mh_T) (e0 : Nat), Ms h0 T n e0 f h1 → (∀ h', Mo h0 T n (rx_bind (rx_num T n 0 3 e0 f) (fun v e2 f1 => if r = 0 ∧ an = false ∧ v = 0 then rx_no T n e0 4 else rx_pa T n l r (an || decide (¬ v = 0)) e2 (rx_set f1 (86 + 4 * l + (3 - r)) (sg v)))) h' → P h') → rayC g P l1 l2 l3 sg h1 := by
      intro sg h1 e0 c1 hp1
      have c6 := c1.2.2.1.2.2.1
      have iq : l3 = 3 ↔ r = 0 := by
        rw [← Int32.toInt_inj, e3, i3]
        omega
      unfold rayC
      rw [iq]
      refine ⟨fun z => N sg h1 e0 c1 hp1 (fun _ y => z y.1), fun z => ⟨fun y => N sg h1 e0 c1 hp1 (fun _ x => y (ha.mpr x.2.1)), fun y => ⟨fun x => N sg h1 e0 c1 hp1 (fun k3 => absurd (by rw [c6]; exact k3) x), fun x => ?_⟩⟩⟩
      rw [c6] at x
      rw [c1.2.2.1.2.2.2.1 x]
      refine ⟨fun w => N sg h1 e0 c1 hp1 (fun _ q => w q.2.2), fun w => b_wrong c1 4 (fun mx => ?_)⟩
      unfold rayN
      refine x_number 0 3 (Mx_ne mx) (X sg 4 _ f _ mx (fun h2 f2 m2 => hp1 _ (Mo_no m2 ?_)))
      unfold rx_num
      rw [if_neg (fun q => q x), if_pos (by rw [w]; decide)]
      show (if r = 0 ∧ an = false ∧ rx_v T n e0 = 0 then _ else _) = _
      rw [if_pos ⟨z, ha.mp y, w⟩]
    have B : ∀ (h1 : mh_T) (e0 : Nat), Ms h0 T n e0 f h1 → (∀ h', Mo h0 T n (rx_bind (rx_num T n 0 3 (if rx_k T n e0 = 45 then rx_e T n e0 else e0) f) (fun v e1 f1 => if r = 0 ∧ an = false ∧ v = 0 then rx_no T n (if rx_k T n e0 = 45 then rx_e T n e0 else e0) 4 else rx_pa T n l r (an || decide (¬ v = 0)) e1 (rx_set f1 (86 + 4 * l + (3 - r)) (if rx_k T n e0 = 45 then -v else v)))) h' → P h') → (¬ (mI h1 11 6) = 45 → rayC g P l1 l2 l3 (fun v => v) h1) ∧ ((mI h1 11 6) = 45 → MCv g yX11_next uX11_next [.ref 11] h1 (fun h' => rayC g P l1 l2 l3 (fun v => -v) h')) := by
      intro h1 e0 c1 hp1
      have c6 := c1.2.2.1.2.2.1
      refine ⟨fun z => ?_, fun z => ?_⟩
      · rw [c6] at z
        simp only [if_neg z] at hp1
        exact C (fun v => v) h1 e0 c1 hp1
      · rw [c6] at z
        simp only [if_pos z] at hp1
        exact b_nx c1 (fun h' c2 => C (fun v => -v) h' _ c2 hp1)
    refine r_X11_rayLine_20 l1 l2 l3 ⟨fun z => ?_, fun z => ⟨fun y => ⟨fun _ => ?_, fun x => absurd c.2.2.2.2.2 x⟩, fun y => ?_⟩⟩
    · rw [i_le, i4, e3] at z
      omega
    · rw [i_le, e3, i0] at y
      refine B h e c (fun h' m => hp h' ?_)
      show Mo h0 T n (rx_bind (if r = 3 then .inr ((), e, f) else rx_sign T n 44 e f) _) h'
      rw [if_pos (by omega)]
      exact m
    · rw [i_le, e3, i0] at y
      have eo : rx_pa T n l (r + 1) an e f = rx_bind (rx_sign T n 44 e f) (fun _ e0 f0 => rx_bind (rx_num T n 0 3 (if rx_k T n e0 = 45 then rx_e T n e0 else e0) f0) (fun v e1 f1 => if r = 0 ∧ an = false ∧ v = 0 then rx_no T n (if rx_k T n e0 = 45 then rx_e T n e0 else e0) 4 else rx_pa T n l r (an || decide (¬ v = 0)) e1 (rx_set f1 (86 + 4 * l + (3 - r)) (if rx_k T n e0 = 45 then -v else v)))) := by
        show rx_bind (if r = 3 then .inr ((), e, f) else rx_sign T n 44 e f) _ = _
        rw [if_neg (by omega)]
      refine b_mustComma c (fun es h1 c1 => ⟨fun _ => B h1 _ c1 (fun h' m => hp h' ?_), fun x => absurd c1.2.2.2.2.2 x⟩) (fun es mx => ⟨fun x => absurd x (Mx_ne mx), fun _ => hp _ (Mo_no mx ?_)⟩)
      · rw [eo, es]; exact m
      · rw [eo, es]; rfl
theorem b_rayLine {g : gT} {h0 h : mh_T} {P : mh_T → Prop} {T : Nat → Int32} {n e : Nat} {f : Nat → Int32} (c : Ms h0 T n e f h) (h8 : ¬ f 85 = 18) (hp : ∀ h', Mo h0 T n (rx_pa T n (f 85).toNatClampNeg 4 false e f) h' → P h') : MCv g yX11_rayLine uX11_rayLine [.ref 11] h P := by
  have c85 := c.2.2.2.2.1 85 (by decide)
  have r85 : R 0 18 (f 85) := by
    rw [← c85]
    exact GI_rd c.1.1 46 85 (by decide)
  obtain ⟨l, el, l0, l8⟩ := i_R r85 (by decide)
  have hl : l < 18 := by
    by_cases q : l = 18
    · exact absurd (Int32.toInt_inj.mp (by rw [el, q]; decide)) h8
    · omega
  rw [i_nat el] at hp
  refine e_X11_rayLine ⟨fun _ x2 ex => ?_, fun y => absurd c.2.2.2.2.2 y⟩
  rw [show Int32.toNatClampNeg 85 = 85 from by decide, c85] at ex
  subst ex
  exact b_pa _ hl el 4 0 0 false e f h c el (Nat.le_refl _) (by decide) ⟨fun _ => rfl, fun _ => rfl⟩ hp
