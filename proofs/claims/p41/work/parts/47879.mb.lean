/-! the reference's readLine, book -/
def rl6 (g : gT) (P : mh_T → Prop) (b : Int32) (h : mh_T) : Prop := MCi g yX11_begins uX11_begins [.ref 11, .ref (1000 + 6), .int b, .int 5] h (fun r24 h23 => (r24 = 0 → MCv g yX11_wrong uX11_wrong [.ref 11, .int 1, .int (mI h23 11 4)] h23 (fun h26 => P h26)) ∧ (¬ r24 = 0 → MCv g yX11_runLine uX11_runLine [.ref 11] h23 (fun h27 => P h27)))
def rl5 (g : gT) (P : mh_T → Prop) (b : Int32) (h : mh_T) : Prop := MCi g yX11_begins uX11_begins [.ref 11, .ref (1000 + 5), .int b, .int 5] h (fun r20 h19 => (r20 = 0 → (4 ≤ (mI h19 46 (Int32.toNatClampNeg 158)) → rl6 g P 0 h19) ∧ (¬ 4 ≤ (mI h19 46 (Int32.toNatClampNeg 158)) → rl6 g P 1 h19)) ∧ (¬ r20 = 0 → MCv g yX11_rayLine uX11_rayLine [.ref 11] h19 (fun h33 => P h33)))
def rl4 (g : gT) (P : mh_T → Prop) (b : Int32) (h : mh_T) : Prop := MCi g yX11_begins uX11_begins [.ref 11, .ref (1000 + 4), .int b, .int 5] h (fun r16 h15 => (r16 = 0 → (18 ≤ (mI h15 46 (Int32.toNatClampNeg 85)) → rl5 g P 0 h15) ∧ (¬ 18 ≤ (mI h15 46 (Int32.toNatClampNeg 85)) → rl5 g P 1 h15)) ∧ (¬ r16 = 0 → MCv g yX11_lineLine uX11_lineLine [.ref 11] h15 (fun h49 => P h49)))
def rl1 (g : gT) (P : mh_T → Prop) (h : mh_T) : Prop := MCi g yX11_begins uX11_begins [.ref 11, .ref (1000 + 1), .int 1, .int 1] h (fun r6 h5 => (r6 = 0 → MCi g yX11_begins uX11_begins [.ref 11, .ref (1000 + 2), .int 1, .int 1] h5 (fun r9 h8 => (r9 = 0 → MCi g yX11_isWord uX11_isWord [.ref 11, .ref (1000 + 3)] h8 (fun r12 h11 => (r12 = 0 → (8 ≤ (mI h11 46 (Int32.toNatClampNeg 52)) → rl4 g P 0 h11) ∧ (¬ 8 ≤ (mI h11 46 (Int32.toNatClampNeg 52)) → rl4 g P 1 h11)) ∧ (¬ r12 = 0 → MCv g yX11_setLine uX11_setLine [.ref 11] h11 (fun h => P h)))) ∧ (¬ r9 = 0 → MCv g yX11_newNames uX11_newNames [.ref 11, .int 51, .int 6, .int 9] h8 (fun h => P h)))) ∧ (¬ r6 = 0 → MCv g yX11_newNames uX11_newNames [.ref 11, .int 50, .int 0, .int 6] h5 (fun h => P h)))
theorem b_readLine {g : gT} {h0 h : mh_T} {P : mh_T → Prop} {T : Nat → Int32} {n e : Nat} {f : Nat → Int32} (c : Ms h0 T n e f h) (lw : Lw f) (hp : ∀ h', Mo h0 T n (rx_line T n e f) h' → P h') : MCv g yX11_readLine uX11_readLine [.ref 11] h P := by
  have n49 : Int32.toNatClampNeg 49 = 49 := by decide
  have n52 : Int32.toNatClampNeg 52 = 52 := by decide
  have n85 : Int32.toNatClampNeg 85 = 85 := by decide
  have n158 : Int32.toNatClampNeg 158 = 158 := by decide
  have c49 := c.2.2.2.2.1 49 (by decide)
  have c52 := c.2.2.2.2.1 52 (by decide)
  have c85 := c.2.2.2.2.1 85 (by decide)
  have c158 := c.2.2.2.2.1 158 (by decide)
  have r52 : R 0 8 (f 52) := by rw [← c52]; exact GI_rd c.1.1 46 52 (by decide)
  have r85 : R 0 18 (f 85) := by rw [← c85]; exact GI_rd c.1.1 46 85 (by decide)
  have r158 : R 0 4 (f 158) := by rw [← c158]; exact GI_rd c.1.1 46 158 (by decide)
  have top : ∀ {x y : Int32} {m : Int}, R 0 m x → y.toInt = m → (y ≤ x ↔ x = y) := fun r ey => by
    rw [i_le, ← Int32.toInt_inj, ey]
    have := r.2
    omega
  have q52 : (8 : Int32) ≤ f 52 ↔ f 52 = 8 := top r52 (by decide)
  have q85 : (18 : Int32) ≤ f 85 ↔ f 85 = 18 := top r85 (by decide)
  have q158 : (4 : Int32) ≤ f 158 ↔ f 158 = 4 := top r158 (by decide)
  have L6 : (∀ i, i < 6 → ¬ rx_wd T n e (bytJS.getD i []) = true) → ∀ b : Int32, (b = 0 ↔ f 158 = 4) → rl6 g P b h := by
    intro hw b hb
    have eo : rx_line T n e f = if rx_wd T n e (bytJS.getD 6 []) = true then rx_runL T n e f else rx_no T n e 1 := by
      unfold rx_line
      rw [if_neg (hw 0 (by decide)), if_neg (hw 1 (by decide)), if_neg (hw 2 (by decide)), if_neg (hw 3 (by decide)), if_neg (hw 4 (by decide)), if_neg (hw 5 (by decide))]
    rw [eo] at hp
    unfold rl6
    refine b_begins 6 (by decide) b 5 c (fun w nb h' c' => ⟨fun y => absurd y (by decide), fun _ => b_runLine c' (fun q => nb (hb.mpr q)) (fun h2 m => hp h2 ?_)⟩) (fun w nb mx => ⟨fun y => absurd y (by decide), fun _ => x_runLine (Mx_ne mx) (hp _ (Mo_no mx ?_))⟩) (fun w => ⟨fun _ => b_wrong c 1 (fun mx => hp _ (Mo_no mx ?_)), fun y => absurd rfl y⟩)
    · rw [if_pos w]
      unfold rx_runL
      rw [if_neg (fun q => nb (hb.mpr q))]
      exact m
    · rw [if_pos w]
      unfold rx_runL
      rw [if_pos (hb.mp nb)]
    · rw [if_neg w]
  have L5 : (∀ i, i < 5 → ¬ rx_wd T n e (bytJS.getD i []) = true) → ∀ b : Int32, (b = 0 ↔ f 85 = 18) → rl5 g P b h := by
    intro hw b hb
    have eo : rx_wd T n e (bytJS.getD 5 []) = true → rx_line T n e f = rx_rayL T n e f := by
      intro w
      unfold rx_line
      rw [if_neg (hw 0 (by decide)), if_neg (hw 1 (by decide)), if_neg (hw 2 (by decide)), if_neg (hw 3 (by decide)), if_neg (hw 4 (by decide)), if_pos w]
    unfold rl5
    refine b_begins 5 (by decide) b 5 c (fun w nb h' c' => ⟨fun y => absurd y (by decide), fun _ => b_rayLine c' (fun q => nb (hb.mpr q)) (fun h2 m => hp h2 ?_)⟩) (fun w nb mx => ⟨fun y => absurd y (by decide), fun _ => x_rayLine (Mx_ne mx) (hp _ (Mo_no mx ?_))⟩) (fun w => ⟨fun _ => ?_, fun y => absurd rfl y⟩)
    · rw [eo w]
      unfold rx_rayL
      rw [if_neg (fun q => nb (hb.mpr q))]
      exact m
    · rw [eo w]
      unfold rx_rayL
      rw [if_pos (hb.mp nb)]
    · have hw' : ∀ i, i < 6 → ¬ rx_wd T n e (bytJS.getD i []) = true := fun i hi => by
        by_cases q : i = 5
        · rw [q]; exact w
        · exact hw i (by omega)
      rw [n158, c158, q158]
      exact ⟨fun z => L6 hw' 0 ⟨fun _ => z, fun _ => rfl⟩, fun z => L6 hw' 1 ⟨fun y => absurd y (by decide), fun y => absurd y z⟩⟩
  have L4 : (∀ i, i < 4 → ¬ rx_wd T n e (bytJS.getD i []) = true) → ∀ b : Int32, (b = 0 ↔ f 52 = 8) → rl4 g P b h := by
    intro hw b hb
    have eo : rx_wd T n e (bytJS.getD 4 []) = true → rx_line T n e f = rx_lineL T n e f := by
      intro w
      unfold rx_line
      rw [if_neg (hw 0 (by decide)), if_neg (hw 1 (by decide)), if_neg (hw 2 (by decide)), if_neg (hw 3 (by decide)), if_pos w]
    unfold rl4
    refine b_begins 4 (by decide) b 5 c (fun w nb h' c' => ⟨fun y => absurd y (by decide), fun _ => b_lineLine c' (fun q => nb (hb.mpr q)) (fun h2 m => hp h2 ?_)⟩) (fun w nb mx => ⟨fun y => absurd y (by decide), fun _ => x_lineLine (Mx_ne mx) (hp _ (Mo_no mx ?_))⟩) (fun w => ⟨fun _ => ?_, fun y => absurd rfl y⟩)
    · rw [eo w]
      unfold rx_lineL
      rw [if_neg (fun q => nb (hb.mpr q))]
      exact m
    · rw [eo w]
      unfold rx_lineL
      rw [if_pos (hb.mp nb)]
    · have hw' : ∀ i, i < 5 → ¬ rx_wd T n e (bytJS.getD i []) = true := fun i hi => by
        by_cases q : i = 4
        · rw [q]; exact w
        · exact hw i (by omega)
      rw [n85, c85, q85]
      exact ⟨fun z => L5 hw' 0 ⟨fun _ => z, fun _ => rfl⟩, fun z => L5 hw' 1 ⟨fun y => absurd y (by decide), fun y => absurd y z⟩⟩
  have L1 : ¬ rx_wd T n e (bytJS.getD 0 []) = true → rl1 g P h := by
    intro w0
    unfold rl1
    refine b_begins 1 (by decide) 1 1 c (fun w nb h' c' => ⟨fun y => absurd y (by decide), fun _ => b_newNames (ci := 50) (fs := 0) (mo := 6) (k := 7) 50 0 6 (by omega) (by decide) (by decide) (by decide) c' (by decide) (fun h2 m => hp h2 ?_)⟩) (fun w nb => absurd nb (by decide)) (fun w1 => ⟨fun _ => ?_, fun y => absurd rfl y⟩)
    · unfold rx_line
      rw [if_neg w0, if_pos w]
      exact m
    refine b_begins 2 (by decide) 1 1 c (fun w nb h' c' => ⟨fun y => absurd y (by decide), fun _ => b_newNames (ci := 51) (fs := 6) (mo := 9) (k := 10) 51 6 9 (by omega) (by decide) (by decide) (by decide) c' (by decide) (fun h2 m => hp h2 ?_)⟩) (fun w nb => absurd nb (by decide)) (fun w2 => ⟨fun _ => ?_, fun y => absurd rfl y⟩)
    · unfold rx_line
      rw [if_neg w0, if_neg w1, if_pos w]
      exact m
    refine b_isWord 3 (by decide) c (fun w => ⟨fun y => absurd y (by decide), fun _ => b_setLine c lw (fun h2 m => hp h2 ?_)⟩) (fun w3 => ⟨fun _ => ?_, fun y => absurd rfl y⟩)
    · unfold rx_line
      rw [if_neg w0, if_neg w1, if_neg w2, if_pos w]
      exact m
    have hw' : ∀ i, i < 4 → ¬ rx_wd T n e (bytJS.getD i []) = true := fun i hi => by
      rcases (show i = 0 ∨ i = 1 ∨ i = 2 ∨ i = 3 by omega) with q | q | q | q <;> subst q <;> assumption
    rw [n52, c52, q52]
    exact ⟨fun z => L4 hw' 0 ⟨fun _ => z, fun _ => rfl⟩, fun z => L4 hw' 1 ⟨fun y => absurd y (by decide), fun y => absurd y z⟩⟩
  refine e_X11_readLine ⟨fun z => ?_, fun z => ?_⟩
  · rw [n49, c49] at z
    refine b_begins 0 (by decide) 0 3 c (fun w nb => absurd rfl nb) (fun w nb mx => ⟨fun y => absurd y (by decide), fun _ => x_lawLine (Mx_ne mx) (hp _ (Mo_no mx ?_))⟩) (fun w => ⟨fun _ => L1 w, fun y => absurd rfl y⟩)
    unfold rx_line rx_lawL
    rw [if_pos w, if_neg z]
  · rw [n49, c49] at z
    refine b_begins 0 (by decide) 1 3 c (fun w nb h' c' => ⟨fun y => absurd y (by decide), fun _ => b_lawLine c' (fun h2 m => hp h2 ?_)⟩) (fun w nb => absurd nb (by decide)) (fun w => ⟨fun _ => L1 w, fun y => absurd rfl y⟩)
    unfold rx_line rx_lawL
    rw [if_pos w, if_pos z]
    exact m
theorem b_book_77 {g : gT} {h0 : mh_T} {P : Int32 → mh_T → Prop} {T : Nat → Int32} {n : Nat} (l1 l2 : Int32) : ∀ (k e : Nat) (f : Nat → Int32) (h : mh_T), Mo h0 T n (rx_line T n e f) h → R 0 8 (f 0) → Lw f → n - e < k → (∀ e1 f1 h', rx_text T n k e f = .inr ((), e1, f1) → Ms h0 T n e1 f1 h' → ¬ f1 49 = 0 → ME g uX11_book 179 [.ref 11, .int l1, .int 0] [] h' (qI P)) → (∀ w p f1 h', rx_text T n k e f = .inl (w, p) → Mx h0 f1 w p h' → P (-1) (wI h' 11 11 4)) → ME g uX11_book 77 [.ref 11, .int l1, .int l2] [] h (qI P) := by
  have n49 : Int32.toNatClampNeg 49 = 49 := by decide
  have n50 : Int32.toNatClampNeg 50 = 50 := by decide
  intro k
  induction k with
  | zero => intro e f h _ _ _ hk; exact absurd hk (Nat.not_lt_zero _)
  | succ k ih =>
    intro e f h mo r0 lw hk hs hx
    have un : rx_text T n (k + 1) e f = rx_bind (rx_line T n e f) (fun _ e1 f1 => if rx_k T n e1 = 0 then (if f1 49 = 0 ∨ f1 50 = 0 then rx_no T n e1 6 else .inr ((), e1, f1)) else if rx_k T n e1 = 59 then rx_text T n k (rx_e T n e1) f1 else rx_no T n e1 1) := rfl
    rw [un] at hs hx
    rcases mo with ⟨e1, f1, eo, c⟩ | ⟨w, p, f1, eo, mx⟩
    · rw [eo] at hs hx
      have hs : ∀ e1' f1' h', (if rx_k T n e1 = 0 then (if f1 49 = 0 ∨ f1 50 = 0 then rx_no T n e1 6 else .inr ((), e1, f1)) else if rx_k T n e1 = 59 then rx_text T n k (rx_e T n e1) f1 else rx_no T n e1 1) = .inr ((), e1', f1') → Ms h0 T n e1' f1' h' → ¬ f1' 49 = 0 → ME g uX11_book 179 [.ref 11, .int l1, .int 0] [] h' (qI P) := hs
      have hx : ∀ w p f1' h', (if rx_k T n e1 = 0 then (if f1 49 = 0 ∨ f1 50 = 0 then rx_no T n e1 6 else .inr ((), e1, f1)) else if rx_k T n e1 = 59 then rx_text T n k (rx_e T n e1) f1 else rx_no T n e1 1) = .inl (w, p) → Mx h0 f1' w p h' → P (-1) (wI h' 11 11 4) := hx
      have c13 := c.2.2.2.2.2
      have c6 := c.2.2.1.2.2.1
      have ue := up_line (T := T) (n := n) (e := e) (f := f) _ _ _ eo
      refine r_X11_book_77 l1 l2 ⟨fun y => absurd c13 y, fun _ => ⟨fun z => ⟨fun y => absurd c13 y, fun _ => ⟨fun y => ⟨fun y => absurd c13 y, fun _ => ?_⟩, fun y => ?_⟩⟩, fun z => ?_⟩⟩
      · rw [c6] at y
        rw [if_pos y] at hs hx
        rw [n49, n50, c.2.2.2.2.1 49 (by decide), c.2.2.2.2.1 50 (by decide)]
        have w6 : (f1 49 = 0 ∨ f1 50 = 0) → MCv g yX11_wrong uX11_wrong [.ref 11, .int 6, .int (mI h 11 4)] h (fun h8 => ((mI h8 11 13) = 0 → ME g uX11_book 179 [.ref 11, .int l1, .int 0] [] h8 (qI P)) ∧ (¬ (mI h8 11 13) = 0 → MCi g yX11_no uX11_no [.ref 11, .int 4] h8 (fun r11 h10 => P r11 h10))) := fun q => by
          rw [if_pos q] at hx
          exact b_wrong c 6 (fun mx => ⟨fun x => absurd x (Mx_ne mx), fun _ => e_X11_no 4 (hx _ _ _ _ rfl mx)⟩)
        refine ⟨fun q => w6 (Or.inl q), fun q => ⟨fun x => ⟨fun _ => ?_, fun x => absurd c13 x⟩, fun x => w6 (Or.inr x)⟩⟩
        rw [if_neg (by rintro (a | a); exact q a; exact x a)] at hs
        exact hs _ _ h rfl c q
      · rw [c6] at y z
        rw [if_neg y, if_neg z] at hx
        exact b_wrong c 1 (fun mx => ⟨fun _ => ⟨fun x => absurd x (Mx_ne mx), fun _ => e_X11_no 4 (hx _ _ _ _ rfl mx)⟩, fun x => absurd x (Mx_ne mx)⟩)
      · rw [c6] at z
        have y : ¬ rx_k T n e1 = 0 := by rw [z]; decide
        rw [if_neg y, if_pos z] at hs hx
        have g0 := rx_kn y
        have g1 := rx_e_gt (rx_kn y)
        have g2 := rx_s_ge T n e1
        have lw1 := lw_line r0 lw eo
        refine b_nx c (fun h2 c2 => b_readLine c2 lw1 (fun h3 mo3 => ?_))
        refine ih _ f1 h3 mo3 ?_ lw1 (by omega) hs hx
        rw [← c.2.2.2.2.1 0 (by decide)]
        exact GI_rd c.1.1 46 0 (by decide)
    · rw [eo] at hx
      refine r_X11_book_77 l1 l2 ⟨fun _ => ⟨fun _ => ⟨fun _ => ⟨fun y => absurd y (Mx_ne mx), fun _ => e_X11_no 4 (hx _ _ _ _ rfl mx)⟩, fun y => absurd y (Mx_ne mx)⟩, fun y => absurd y (Mx_ne mx)⟩, fun y => absurd y (Mx_ne mx)⟩
