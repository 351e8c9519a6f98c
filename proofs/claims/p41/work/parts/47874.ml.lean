/-! the reference's lines: law, set -/
theorem b_lawLine {g : gT} {h0 h : mh_T} {P : mh_T → Prop} {T : Nat → Int32} {n e : Nat} {f : Nat → Int32} (c : Ms h0 T n e f h) (hp : ∀ h', Mo h0 T n (rx_bind (rx_word T n 7 e f) (fun _ e1 f1 => rx_bind (rx_num T n 1 60 e1 f1) (fun v e2 f2 => .inr ((), e2, rx_set f2 49 v)))) h' → P h') : MCv g yX11_lawLine uX11_lawLine [.ref 11] h P := by
  have n49 : Int32.toNatClampNeg 49 = 49 := by decide
  refine e_X11_lawLine (b_pass 7 (by decide) c (fun ew h1 c1 => ?_) (fun ew mx => ?_))
  · rw [ew] at hp
    change ∀ h', Mo h0 T n (rx_bind (rx_num T n 1 60 (rx_e T n e) f) (fun v e2 f2 => .inr ((), e2, rx_set f2 49 v))) h' → P h' at hp
    refine b_number 1 60 c1 (fun en k3 vr h2 c2 => ⟨fun y => absurd c2.2.2.2.2.2 y, fun _ => ?_⟩) (fun w hw en mx => ⟨fun _ => hp _ (Mo_no mx (by rw [en]; rfl)), fun y => absurd y (Mx_ne mx)⟩)
    rw [en] at hp
    rw [i_le, i_le, show (1 : Int32).toInt = 1 from by decide, show (60 : Int32).toInt = 60 from by decide] at vr
    rw [n49]
    exact hp _ (Mo_ok (Ms_w c2 (lo := 0) (hi := 60) (by decide) ⟨by omega, by omega⟩) rfl)
  · exact x_number 1 60 (Mx_ne mx) ⟨fun _ => hp _ (Mo_no mx (by rw [ew]; rfl)), fun y => absurd y (Mx_ne mx)⟩
theorem x_tm {g : gT} {h0 h : mh_T} {P : mh_T → Prop} {f : Nat → Int32} {w : Int32} {p : Nat} (l1 l2 l3 l4 l5 : Int32) (c : Mx h0 f w p h) (hp : P h) : ME g uX11_setLine 142 [.ref 11, .int l1, .int l2, .int l3, .int l4, .int l5, .retAddr 0, .retAddr 0] [] h (qV P) :=
  r_X11_setLine_142 l1 l2 l3 l4 l5 ⟨fun _ => ⟨fun _ => hp, fun y => absurd y (Mx_ne c)⟩, fun _ => ⟨fun _ => ⟨fun y => absurd y (Mx_ne c), fun _ => hp⟩, fun _ => x_mustComma (Mx_ne c) ⟨fun y => absurd y (Mx_ne c), fun _ => hp⟩⟩⟩
theorem b_tm {g : gT} {h0 : mh_T} {P : mh_T → Prop} {T : Nat → Int32} {n s many : Nat} (l1 l2 l3 : Int32) (hs : s < 8) (e1 : l1.toInt = (s : Int)) (hm : many = 2 ∨ many = 4) (e3 : l3.toInt = (many : Int)) : ∀ (r : Nat) (l4 l5 : Int32) (e : Nat) (f : Nat → Int32) (h : mh_T), Ms h0 T n e f h → (f 0).toInt = (s : Int) → r ≤ many → l5.toInt = ((many - r : Nat) : Int) → (∀ h', Mo h0 T n (rx_tm T n s many r l4 e f) h' → P h') → ME g uX11_setLine 142 [.ref 11, .int l1, .int l2, .int l3, .int l4, .int l5, .retAddr 0, .retAddr 0] [] h (qV P) := by
  have n0 : Int32.toNatClampNeg 0 = 0 := by decide
  have n49 : Int32.toNatClampNeg 49 = 49 := by decide
  have i0 : (0 : Int32).toInt = 0 := by decide
  have i60 : (60 : Int32).toInt = 60 := by decide
  intro r
  induction r with
  | zero =>
    intro l4 l5 e f h c f0 hr e5 hp
    refine r_X11_setLine_142 l1 l2 l3 l4 l5 ⟨fun _ => ⟨fun y => absurd c.2.2.2.2.2 y, fun _ => ?_⟩, fun z => ?_⟩
    · rw [n0, c.2.2.2.2.1 0 (by decide)]
      have := i_inc f0 (by omega)
      exact hp _ (Mo_ok (Ms_w c (lo := 0) (hi := 8) (by decide) ⟨by omega, by omega⟩) rfl)
    · exfalso
      apply z
      rw [i_le, e3, e5]
      omega
  | succ r ih =>
    intro l4 l5 e f h c f0 hr e5 hp
    have ix : ((17 + (4 * l1)) + l5).toInt = ((17 + 4 * s + (many - (r + 1)) : Nat) : Int) := by
      have a : (4 * l1).toInt = 4 * (s : Int) := by
        rw [Int32.toInt_mul, e1, show (4 : Int32).toInt = 4 from by decide, bm (by omega) (by omega)]
      have b : (17 + (4 * l1)).toInt = 17 + 4 * (s : Int) := i_add (by decide) a (by omega)
      rw [i_add b e5 (by omega)]
      omega
    have hix : 17 + 4 * s + (many - (r + 1)) ≤ 48 := by omega
    have vx := i_vp (n := 346) ix (by omega)
    have e5' : (l5 + 1).toInt = ((many - r : Nat) : Int) := by
      have := i_inc e5 (by omega)
      rw [this]
      omega
    have N : ∀ (h1 : mh_T) (e0 : Nat), Ms h0 T n e0 f h1 → (∀ h', Mo h0 T n (rx_bind (rx_num T n 0 60 e0 f) (fun v e1 f1 => if r = 0 ∧ ¬ l4 + v = f1 49 then rx_no T n e0 4 else rx_tm T n s many r (l4 + v) e1 (rx_set f1 (17 + 4 * s + (many - (r + 1))) v))) h' → P h') → (rx_k T n e0 = 3 → 0 ≤ rx_v T n e0 ∧ rx_v T n e0 ≤ 60 → ¬ (r = 0 ∧ ¬ l4 + rx_v T n e0 = f 49)) → MCi g yX11_number uX11_number [.ref 11, .int 0, .int 60] h1 (fun r8 h7 => (vp_in ((17 + (4 * l1)) + l5) 346) ∧ (∀ x10 : Int32, x10 = (l4 + r8) → ME g uX11_setLine 142 [.ref 11, .int l1, .int l2, .int l3, .int x10, .int (l5 + 1), .retAddr 0, .retAddr 0] [] (wI h7 46 ((17 + (4 * l1)) + l5).toNatClampNeg r8) (qV P))) := by
      intro h1 e0 c1 hp1 hno
      refine b_number 0 60 c1 (fun en k3 vr h2 c2 => ⟨vx, fun x10 ex => ?_⟩) (fun w hw en mx => ⟨vx, fun x10 ex => ?_⟩)
      · subst ex
        rw [i_nat ix]
        have vr' := vr
        rw [i_le, i_le, i0, i60] at vr'
        refine ih _ (l5 + 1) _ _ _ (Ms_w c2 (rgp_46_15 (by omega) hix) ⟨by omega, by omega⟩) ?_ (by omega) e5' (fun h' m => hp1 h' ?_)
        · rw [rx_set_o (by omega)]; exact f0
        · rw [en]
          show Mo h0 T n (if r = 0 ∧ ¬ l4 + rx_v T n e0 = f 49 then rx_no T n e0 4 else _) h'
          rw [if_neg (hno k3 vr)]
          exact m
      · rw [i_nat ix]
        have := Mx_w mx (rgp_46_15 (j := 17 + 4 * s + (many - (r + 1))) (by omega) hix) (v := 0) ⟨by decide, by decide⟩
        exact x_tm l1 l2 l3 x10 (l5 + 1) this (hp1 _ (Mo_no this (by rw [en]; rfl)))
    have B : ∀ (h1 : mh_T) (e0 : Nat), Ms h0 T n e0 f h1 → (∀ h', Mo h0 T n (rx_bind (rx_num T n 0 60 e0 f) (fun v e1 f1 => if r = 0 ∧ ¬ l4 + v = f1 49 then rx_no T n e0 4 else rx_tm T n s many r (l4 + v) e1 (rx_set f1 (17 + 4 * s + (many - (r + 1))) v))) h' → P h') → (¬ l5 = (l3 - 1) → MCi g yX11_number uX11_number [.ref 11, .int 0, .int 60] h1 (fun r8 h7 => (vp_in ((17 + (4 * l1)) + l5) 346) ∧ (∀ x10 : Int32, x10 = (l4 + r8) → ME g uX11_setLine 142 [.ref 11, .int l1, .int l2, .int l3, .int x10, .int (l5 + 1), .retAddr 0, .retAddr 0] [] (wI h7 46 ((17 + (4 * l1)) + l5).toNatClampNeg r8) (qV P)))) ∧ (l5 = (l3 - 1) → (¬ (mI h1 11 6) = 3 → MCi g yX11_number uX11_number [.ref 11, .int 0, .int 60] h1 (fun r14 h13 => (vp_in ((17 + (4 * l1)) + l5) 346) ∧ (∀ x16 : Int32, x16 = (l4 + r14) → ME g uX11_setLine 142 [.ref 11, .int l1, .int l2, .int l3, .int x16, .int (l5 + 1), .retAddr 0, .retAddr 0] [] (wI h13 46 ((17 + (4 * l1)) + l5).toNatClampNeg r14) (qV P)))) ∧ ((mI h1 11 6) = 3 → MCi g yX11_within uX11_within [.int (mI h1 11 7), .int 0, .int 60] h1 (fun r18 h17 => (r18 = 0 → MCi g yX11_number uX11_number [.ref 11, .int 0, .int 60] h17 (fun r22 h21 => (vp_in ((17 + (4 * l1)) + l5) 346) ∧ (∀ x24 : Int32, x24 = (l4 + r22) → ME g uX11_setLine 142 [.ref 11, .int l1, .int l2, .int l3, .int x24, .int (l5 + 1), .retAddr 0, .retAddr 0] [] (wI h21 46 ((17 + (4 * l1)) + l5).toNatClampNeg r22) (qV P)))) ∧ (¬ r18 = 0 → ((l4 + (mI h17 11 7)) = (mI h17 46 (Int32.toNatClampNeg 49)) → MCi g yX11_number uX11_number [.ref 11, .int 0, .int 60] h17 (fun r28 h27 => (vp_in ((17 + (4 * l1)) + l5) 346) ∧ (∀ x30 : Int32, x30 = (l4 + r28) → ME g uX11_setLine 142 [.ref 11, .int l1, .int l2, .int l3, .int x30, .int (l5 + 1), .retAddr 0, .retAddr 0] [] (wI h27 46 ((17 + (4 * l1)) + l5).toNatClampNeg r28) (qV P)))) ∧ (¬ (l4 + (mI h17 11 7)) = (mI h17 46 (Int32.toNatClampNeg 49)) → MCv g yX11_wrong uX11_wrong [.ref 11, .int 4, .int (mI h17 11 4)] h17 (fun h31 => MCi g yX11_number uX11_number [.ref 11, .int 0, .int 60] h31 (fun r33 h32 => (vp_in ((17 + (4 * l1)) + l5) 346) ∧ (∀ x35 : Int32, x35 = (l4 + r33) → ME g uX11_setLine 142 [.ref 11, .int l1, .int l2, .int l3, .int x35, .int (l5 + 1), .retAddr 0, .retAddr 0] [] (wI h32 46 ((17 + (4 * l1)) + l5).toNatClampNeg r33) (qV P))))))))) := by
      intro h1 e0 c1 hp1
      have c6 := c1.2.2.1.2.2.1
      have i31 : (l3 - 1).toInt = (many : Int) - 1 := i_sub e3 (by decide) (by omega)
      have iq : l5 = l3 - 1 ↔ r = 0 := by
        rw [← Int32.toInt_inj, e5, i31]
        omega
      rw [iq]
      refine ⟨fun z => N h1 e0 c1 hp1 (fun _ _ y => z y.1), fun z => ⟨fun y => N h1 e0 c1 hp1 (fun k3 => absurd (by rw [c6]; exact k3) y), fun y => ?_⟩⟩
      rw [c6] at y
      rw [c1.2.2.1.2.2.2.1 y]
      refine b_within _ 0 60 (fun x => ⟨fun q => absurd q (by decide), fun _ => ?_⟩) (fun x => ⟨fun _ => N h1 e0 c1 hp1 (fun _ q => absurd q x), fun q => absurd rfl q⟩)
      rw [c1.2.2.1.2.2.2.1 y, n49, c1.2.2.2.2.1 49 (by decide)]
      refine ⟨fun q => N h1 e0 c1 hp1 (fun _ _ w => w.2 q), fun q => b_wrong c1 4 (fun mx => x_number 0 60 (Mx_ne mx) ⟨vx, fun x10 ex => ?_⟩)⟩
      rw [i_nat ix]
      have := Mx_w mx (rgp_46_15 (j := 17 + 4 * s + (many - (r + 1))) (by omega) hix) (v := 0) ⟨by decide, by decide⟩
      refine x_tm l1 l2 l3 x10 (l5 + 1) this (hp1 _ (Mo_no this ?_))
      unfold rx_num
      rw [if_neg (fun w => w y), if_pos x]
      show (if r = 0 ∧ ¬ l4 + rx_v T n e0 = f 49 then rx_no T n e0 4 else _) = _
      rw [if_pos ⟨z, q⟩]
    refine r_X11_setLine_142 l1 l2 l3 l4 l5 ⟨fun z => ?_, fun z => ⟨fun y => ⟨fun _ => ?_, fun x => absurd c.2.2.2.2.2 x⟩, fun y => ?_⟩⟩
    · rw [i_le, e3, e5] at z
      omega
    · rw [i_le, e5, i0] at y
      refine B h e c (fun h' m => hp h' ?_)
      show Mo h0 T n (rx_bind (if many = r + 1 then .inr ((), e, f) else rx_sign T n 44 e f) _) h'
      rw [if_pos (by omega)]
      exact m
    · rw [i_le, e5, i0] at y
      have hne : ¬ many = r + 1 := by omega
      have eo : rx_tm T n s many (r + 1) l4 e f = rx_bind (rx_sign T n 44 e f) (fun _ e0 f0 => rx_bind (rx_num T n 0 60 e0 f0) (fun v e1 f1 => if r = 0 ∧ ¬ l4 + v = f1 49 then rx_no T n e0 4 else rx_tm T n s many r (l4 + v) e1 (rx_set f1 (17 + 4 * s + (many - (r + 1))) v))) := by
        show rx_bind (if many = r + 1 then .inr ((), e, f) else rx_sign T n 44 e f) _ = _
        rw [if_neg hne]
      refine b_mustComma c (fun es h1 c1 => ⟨fun _ => B h1 _ c1 (fun h' m => hp h' ?_), fun x => absurd c1.2.2.2.2.2 x⟩) (fun es mx => ⟨fun x => absurd x (Mx_ne mx), fun _ => hp _ (Mo_no mx ?_)⟩)
      · rw [eo, es]; exact m
      · rw [eo, es]; rfl
theorem rx_fd_cg {T : Nat → Int32} {n e : Nat} {f f' : Nat → Int32} (h : ∀ i, 211 ≤ i → f' i = f i) : rx_fd T n e f' = rx_fd T n e f := by
  have : ∀ j, rx_is T n e f' j = rx_is T n e f j := fun j => by
    apply Bool.eq_iff_iff.mpr
    rw [rx_is_i, rx_is_i, h _ (by omega)]
    constructor
    · rintro ⟨a, b⟩
      exact ⟨a, fun i hi => by rw [← h _ (by omega)]; exact b i hi⟩
    · rintro ⟨a, b⟩
      exact ⟨a, fun i hi => by rw [h _ (by omega)]; exact b i hi⟩
  unfold rx_fd
  congr 1
  exact funext this
theorem rx_name_cg {T : Nat → Int32} {n e : Nat} {lk : Bool} {f f' : Nat → Int32} (h : ∀ i, 211 ≤ i → f' i = f i) : (∀ k, rx_name T n lk e f' = .inr (k, rx_e T n e, f') → rx_name T n lk e f = .inr (k, rx_e T n e, f)) ∧ (∀ w, rx_name T n lk e f' = rx_no T n e w → rx_name T n lk e f = rx_no T n e w) := by
  unfold rx_name rx_no
  rw [rx_fd_cg h]
  split
  · split
    · exact ⟨fun k z => (by cases z), fun w z => z⟩
    · split
      · exact ⟨fun k z => (by cases z; rfl), fun w z => (by cases z)⟩
      · exact ⟨fun k z => (by cases z), fun w z => z⟩
  · exact ⟨fun k z => (by cases z), fun w z => z⟩
