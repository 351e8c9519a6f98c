/-! the reference's names, numbers, signs -/
def Un (l2 : Int32) (u : Nat → Bool) : Prop := ∀ q, q < 9 → u q = bt l2 q
theorem Un_0 : Un 0 (fun _ => false) := by
  unfold Un
  decide
theorem Un_or {x r : Int32} {p : Nat} {u : Nat → Bool} (e : r.toInt = (p : Int)) (hp : p < 9) (hu : Un x u) : Un (x ||| (1 <<< (r &&& 31))) (fun q => q == p || u q) := fun q hq => by
  rw [bt_or e hp hq]
  show (q == p || u q) = _
  rw [hu q hq]
theorem Un_1 {r : Int32} {p : Nat} (e : r.toInt = (p : Int)) (hp : p < 9) : Un (1 <<< (r &&& 31)) (fun q => q == p || false) := by
  have := Un_or e hp Un_0
  rw [Int32.zero_or] at this
  exact this
theorem bt_1 {x r : Int32} {p : Nat} (e : r.toInt = (p : Int)) (hp : p < 9) : ((x >>> (r &&& 31)) &&& 1) = 1 ↔ bt x p = true := by
  have a := bt_0 (x := x) e hp
  have b : ((x >>> (r &&& 31)) &&& 1) = 0 ∨ ((x >>> (r &&& 31)) &&& 1) = 1 := R_z (R_and (x := x >>> (r &&& 31)) (y := 1) (c := 1) (d := 1) ⟨by decide, by decide⟩ (by decide))
  constructor
  · intro z
    cases y : bt x p
    · rw [a.mpr y] at z
      exact absurd z (by decide)
    · rfl
  · intro z
    rcases b with b | b
    · rw [a.mp b] at z
      cases z
    · exact b
theorem b_has {g : gT} {h0 h : mh_T} {P : mh_T → Prop} {T : Nat → Int32} {n e : Nat} {f : Nat → Int32} (c : Ms h0 T n e f h) {l2 : Int32} {u : Nat → Bool} (hu : Un l2 u) (k : Nat) (x : Int32) (ex : x.toInt = (k : Int)) (hk : k < 9) (h1 : u k = false → P h) (h3 : u k = true → Mx h0 f 3 (rx_s T n e) (wr h 3) → P (wr h 3)) : MCi g yX11_has uX11_has [.int l2, .int x] h (fun r12 h11 => (r12 = 0 → P h11) ∧ (¬ r12 = 0 → MCv g yX11_wrong uX11_wrong [.ref 11, .int 3, .int (mI h11 11 4)] h11 (fun h14 => P h14))) := by
  rw [hu k hk] at h1 h3
  refine e_X11_has l2 x ⟨fun z => ⟨fun _ => h1 (Bool.eq_false_iff.mpr (fun y => z ((bt_1 ex hk).mpr y))), fun y => absurd rfl y⟩, fun z => ⟨fun y => absurd y (by decide), fun _ => b_wrong c 3 (h3 ((bt_1 ex hk).mp z))⟩⟩
theorem b_namedL {g : gT} {h0 h : mh_T} {P : Int32 → mh_T → Prop} {T : Nat → Int32} {n e : Nat} {f : Nat → Int32} (c : Ms h0 T n e f h) (l2 : Int32) (u : Nat → Bool) (hu : Un l2 u) (h1 : ∀ (r : Int32) (k : Nat), rx_name T n true e f = .inr (k, rx_e T n e, f) → r.toInt = (k : Int) → k < 6 → u k = false → P r h) (h3 : ∀ (r : Int32) (k : Nat), rx_name T n true e f = .inr (k, rx_e T n e, f) → r.toInt = (k : Int) → k < 6 → u k = true → Mx h0 f 3 (rx_s T n e) (wr h 3) → P r (wr h 3)) (h0' : ∀ w : Int32, ¬ w = 0 → rx_name T n true e f = rx_no T n e w → Mx h0 f w (rx_s T n e) (wr h w) → P 0 (wr h w)) : MCi g yX11_named uX11_named [.ref 11, .int 1, .int l2] h P := by
  have c13 := c.2.2.2.2.2
  have i0 : (0 : Int32).toInt = 0 := by decide
  have i6 : (6 : Int32).toInt = 6 := by decide
  refine e_X11_named 1 l2 ⟨fun _ => b_mustName c (fun z => ⟨fun _ => ?_, fun y => absurd c13 y⟩) (fun z mx => ⟨fun y => absurd y (Mx_ne mx), fun _ => h0' 1 (by decide) (by unfold rx_name; rw [if_neg z]) mx⟩), fun y => absurd c13 y⟩
  have k2 := (rx_nm_iff.mp z).1
  refine b_find c k2 (fun r j fj er hj => ⟨fun y => ?_, fun y => ⟨fun x => ⟨fun q => absurd q (by decide), fun _ => ?_⟩, fun x => ⟨fun _ => ⟨fun _ => ⟨fun q => absurd q (by decide), fun _ => ?_⟩, fun q => absurd c13 q⟩, fun q => absurd rfl q⟩⟩⟩) (fun fn => ⟨fun _ => ?_, fun y => absurd (by decide) y⟩)
  · rw [i_lt, er, i0] at y
    omega
  · rw [i_le, er, i6] at x
    refine b_wrong c 2 (fun mx => ⟨fun q => absurd q (Mx_ne mx), fun _ => h0' 2 (by decide) ?_ mx⟩)
    unfold rx_name
    rw [if_pos z, fj]
    show (if decide (j < 6) = true then _ else _) = _
    rw [if_neg (by rw [decide_eq_true_iff]; omega)]
  · rw [i_le, er, i6] at x
    have en : rx_name T n true e f = .inr (j, rx_e T n e, f) := by
      unfold rx_name
      rw [if_pos z, fj]
      show (if decide (j < 6) = true then _ else _) = _
      rw [if_pos (decide_eq_true (by omega : j < 6))]
      rfl
    exact b_has c hu j r er (by omega) (fun w => h1 r j en er (by omega) w) (fun w mx => h3 r j en er (by omega) w mx)
  · refine b_wrong c 2 (fun mx => ⟨fun q => absurd q (Mx_ne mx), fun _ => h0' 2 (by decide) ?_ mx⟩)
    unfold rx_name
    rw [if_pos z, fn]
theorem b_namedP {g : gT} {h0 h : mh_T} {P : Int32 → mh_T → Prop} {T : Nat → Int32} {n e : Nat} {f : Nat → Int32} (c : Ms h0 T n e f h) (l2 : Int32) (u : Nat → Bool) (hu : Un l2 u) (h1 : ∀ (r : Int32) (k : Nat), rx_name T n false e f = .inr (k, rx_e T n e, f) → r.toInt = (k : Int) → k < 9 → u k = false → P r h) (h3 : ∀ (r : Int32) (k : Nat), rx_name T n false e f = .inr (k, rx_e T n e, f) → r.toInt = (k : Int) → k < 9 → u k = true → Mx h0 f 3 (rx_s T n e) (wr h 3) → P r (wr h 3)) (h0' : ∀ w : Int32, ¬ w = 0 → rx_name T n false e f = rx_no T n e w → Mx h0 f w (rx_s T n e) (wr h w) → P 0 (wr h w)) : MCi g yX11_named uX11_named [.ref 11, .int 0, .int l2] h P := by
  have c13 := c.2.2.2.2.2
  have i0 : (0 : Int32).toInt = 0 := by decide
  have i6 : (6 : Int32).toInt = 6 := by decide
  refine e_X11_named 0 l2 ⟨fun _ => b_mustName c (fun z => ⟨fun _ => ?_, fun y => absurd c13 y⟩) (fun z mx => ⟨fun y => absurd y (Mx_ne mx), fun _ => h0' 1 (by decide) (by unfold rx_name; rw [if_neg z]) mx⟩), fun y => absurd c13 y⟩
  have k2 := (rx_nm_iff.mp z).1
  refine b_find c k2 (fun r j fj er hj => ⟨fun y => ?_, fun y => ⟨fun x => ⟨fun _ => ⟨fun _ => ⟨fun _ x23 ex => ?_, fun q => absurd rfl q⟩, fun q => absurd c13 q⟩, fun q => absurd rfl q⟩, fun x => ⟨fun q => absurd q (by decide), fun _ => ?_⟩⟩⟩) (fun fn => ⟨fun _ => ?_, fun y => absurd (by decide) y⟩)
  · rw [i_lt, er, i0] at y
    omega
  · rw [i_le, er, i6] at x
    have e6 : x23.toInt = ((j - 6 : Nat) : Int) := by
      rw [ex, i_sub er i6 (by omega)]
      omega
    have en : rx_name T n false e f = .inr (j - 6, rx_e T n e, f) := by
      unfold rx_name
      rw [if_pos z, fj]
      show (if decide (j < 6) = false then _ else _) = _
      rw [if_pos (decide_eq_false (by omega : ¬ j < 6))]
      rfl
    exact b_has c hu (j - 6) x23 e6 (by omega) (fun w => h1 x23 (j - 6) en e6 (by omega) w) (fun w mx => h3 x23 (j - 6) en e6 (by omega) w mx)
  · rw [i_le, er, i6] at x
    refine b_wrong c 2 (fun mx => ⟨fun q => absurd q (Mx_ne mx), fun _ => h0' 2 (by decide) ?_ mx⟩)
    unfold rx_name
    rw [if_pos z, fj]
    show (if decide (j < 6) = false then _ else _) = _
    rw [if_neg (by rw [decide_eq_true (by omega : j < 6)]; decide)]
  · refine b_wrong c 2 (fun mx => ⟨fun q => absurd q (Mx_ne mx), fun _ => h0' 2 (by decide) ?_ mx⟩)
    unfold rx_name
    rw [if_pos z, fn]
theorem x_named {g : gT} {h : mh_T} {P : Int32 → mh_T → Prop} (l1 l2 : Int32) (z : ¬ mI h 11 13 = 0) (hp : P 0 h) : MCi g yX11_named uX11_named [.ref 11, .int l1, .int l2] h P := e_X11_named l1 l2 ⟨fun y => absurd y z, fun _ => hp⟩
theorem x_passed {g : gT} {h : mh_T} {P : Int32 → mh_T → Prop} (l1 l2 : Int32) (z : ¬ mI h 11 13 = 0) (hp : P 0 h) : MCi g yX11_passed uX11_passed [.ref 11, .int l1, .int l2] h P := e_X11_passed l1 l2 (x_named l1 l2 z ⟨fun _ => hp, fun y => absurd y z⟩)
theorem b_passedL {g : gT} {h0 h : mh_T} {P : Int32 → mh_T → Prop} {T : Nat → Int32} {n e : Nat} {f : Nat → Int32} (c : Ms h0 T n e f h) (l2 : Int32) (u : Nat → Bool) (hu : Un l2 u) (h1 : ∀ (r : Int32) (k : Nat) (h' : mh_T), rx_name T n true e f = .inr (k, rx_e T n e, f) → r.toInt = (k : Int) → k < 6 → u k = false → Ms h0 T n (rx_e T n e) f h' → P r h') (h3 : ∀ (r : Int32) (k : Nat), rx_name T n true e f = .inr (k, rx_e T n e, f) → r.toInt = (k : Int) → k < 6 → u k = true → Mx h0 f 3 (rx_s T n e) (wr h 3) → P r (wr h 3)) (h0' : ∀ w : Int32, ¬ w = 0 → rx_name T n true e f = rx_no T n e w → Mx h0 f w (rx_s T n e) (wr h w) → P 0 (wr h w)) : MCi g yX11_passed uX11_passed [.ref 11, .int 1, .int l2] h P :=
  e_X11_passed 1 l2 (b_namedL c l2 u hu (fun r k a b d uk => ⟨fun y => absurd c.2.2.2.2.2 y, fun _ => b_nx c (fun h' c' => h1 r k h' a b d uk c')⟩) (fun r k a b d uk mx => ⟨fun _ => h3 r k a b d uk mx, fun y => absurd y (Mx_ne mx)⟩) (fun w hw a mx => ⟨fun _ => h0' w hw a mx, fun y => absurd y (Mx_ne mx)⟩))
theorem b_passedP {g : gT} {h0 h : mh_T} {P : Int32 → mh_T → Prop} {T : Nat → Int32} {n e : Nat} {f : Nat → Int32} (c : Ms h0 T n e f h) (l2 : Int32) (u : Nat → Bool) (hu : Un l2 u) (h1 : ∀ (r : Int32) (k : Nat) (h' : mh_T), rx_name T n false e f = .inr (k, rx_e T n e, f) → r.toInt = (k : Int) → k < 9 → u k = false → Ms h0 T n (rx_e T n e) f h' → P r h') (h3 : ∀ (r : Int32) (k : Nat), rx_name T n false e f = .inr (k, rx_e T n e, f) → r.toInt = (k : Int) → k < 9 → u k = true → Mx h0 f 3 (rx_s T n e) (wr h 3) → P r (wr h 3)) (h0' : ∀ w : Int32, ¬ w = 0 → rx_name T n false e f = rx_no T n e w → Mx h0 f w (rx_s T n e) (wr h w) → P 0 (wr h w)) : MCi g yX11_passed uX11_passed [.ref 11, .int 0, .int l2] h P :=
  e_X11_passed 0 l2 (b_namedP c l2 u hu (fun r k a b d uk => ⟨fun y => absurd c.2.2.2.2.2 y, fun _ => b_nx c (fun h' c' => h1 r k h' a b d uk c')⟩) (fun r k a b d uk mx => ⟨fun _ => h3 r k a b d uk mx, fun y => absurd y (Mx_ne mx)⟩) (fun w hw a mx => ⟨fun _ => h0' w hw a mx, fun y => absurd y (Mx_ne mx)⟩))
theorem b_within {g : gT} {h : mh_T} {P : Int32 → mh_T → Prop} (x lo hi : Int32) (h1 : lo ≤ x ∧ x ≤ hi → P 1 h) (h0 : ¬ (lo ≤ x ∧ x ≤ hi) → P 0 h) : MCi g yX11_within uX11_within [.int x, .int lo, .int hi] h P := by
  rw [i_le, i_le] at h1 h0
  refine e_X11_within x lo hi ⟨fun z => ?_, fun z => ⟨fun y => ?_, fun y => ?_⟩⟩
  · rw [i_lt] at z; exact h0 (by omega)
  · rw [i_lt] at y; exact h0 (by omega)
  · rw [i_lt] at z y; exact h1 (by omega)
theorem b_number {g : gT} {h0 h : mh_T} {P : Int32 → mh_T → Prop} {T : Nat → Int32} {n e : Nat} {f : Nat → Int32} (lo hi : Int32) (c : Ms h0 T n e f h) (h1 : rx_num T n lo hi e f = .inr (rx_v T n e, rx_e T n e, f) → rx_k T n e = 3 → lo ≤ rx_v T n e ∧ rx_v T n e ≤ hi → ∀ h', Ms h0 T n (rx_e T n e) f h' → P (rx_v T n e) h') (h0' : ∀ w : Int32, ¬ w = 0 → rx_num T n lo hi e f = rx_no T n e w → Mx h0 f w (rx_s T n e) (wr h w) → P lo (wr h w)) : MCi g yX11_number uX11_number [.ref 11, .int lo, .int hi] h P := by
  have c6 := c.2.2.1.2.2.1
  refine e_X11_number lo hi ⟨fun _ => ⟨fun z x3 ex => ?_, fun z => ?_⟩, fun y => absurd c.2.2.2.2.2 y⟩
  · rw [c6] at z
    rw [c.2.2.1.2.2.2.1 z] at ex
    subst ex
    refine b_within _ lo hi (fun y => ⟨fun _ => b_nx c (fun h' c' => h1 ?_ z y h' c'), fun x => absurd x (by decide)⟩) (fun y => ⟨fun x => absurd rfl x, fun _ => b_wrong c 4 (h0' 4 (by decide) ?_)⟩)
    · unfold rx_num; rw [if_neg (fun x => x z), if_pos y]
    · unfold rx_num; rw [if_neg (fun x => x z), if_neg y]
  · rw [c6] at z
    refine b_wrong c 1 (h0' 1 (by decide) ?_)
    unfold rx_num; rw [if_pos z]
theorem x_number {g : gT} {h : mh_T} {P : Int32 → mh_T → Prop} (lo hi : Int32) (z : ¬ mI h 11 13 = 0) (hp : P lo h) : MCi g yX11_number uX11_number [.ref 11, .int lo, .int hi] h P := e_X11_number lo hi ⟨fun y => absurd y z, fun _ => hp⟩
theorem b_comma {g : gT} {h0 h : mh_T} {P : Int32 → mh_T → Prop} {T : Nat → Int32} {n e : Nat} {f : Nat → Int32} (c : Ms h0 T n e f h) (h1 : rx_k T n e = 44 → ∀ h', Ms h0 T n (rx_e T n e) f h' → P 1 h') (h0' : ¬ rx_k T n e = 44 → P 0 h) : MCi g yX11_comma uX11_comma [.ref 11] h P := by
  have c6 := c.2.2.1.2.2.1
  refine e_X11_comma ⟨fun y => absurd c.2.2.2.2.2 y, fun _ => ⟨fun z => b_nx c (h1 (by rw [← c6]; exact z)), fun z => h0' (by rw [← c6]; exact z)⟩⟩
theorem x_comma {g : gT} {h : mh_T} {P : Int32 → mh_T → Prop} (z : ¬ mI h 11 13 = 0) (hp : P 0 h) : MCi g yX11_comma uX11_comma [.ref 11] h P := e_X11_comma ⟨fun _ => hp, fun y => absurd y z⟩
theorem b_mustComma {g : gT} {h0 h : mh_T} {P : mh_T → Prop} {T : Nat → Int32} {n e : Nat} {f : Nat → Int32} (c : Ms h0 T n e f h) (h1 : rx_sign T n 44 e f = .inr ((), rx_e T n e, f) → ∀ h', Ms h0 T n (rx_e T n e) f h' → P h') (h0' : rx_sign T n 44 e f = rx_no T n e 1 → Mx h0 f 1 (rx_s T n e) (wr h 1) → P (wr h 1)) : MCv g yX11_mustComma uX11_mustComma [.ref 11] h P := by
  refine e_X11_mustComma ⟨fun y => absurd c.2.2.2.2.2 y, fun _ => b_comma c (fun z h' c' => ⟨fun _ => h1 ?_ h' c', fun y => absurd y (by decide)⟩) (fun z => ⟨fun y => absurd rfl y, fun _ => b_wrong c 1 (h0' ?_)⟩)⟩
  · unfold rx_sign; rw [if_pos z]
  · unfold rx_sign; rw [if_neg z]
theorem x_mustComma {g : gT} {h : mh_T} {P : mh_T → Prop} (z : ¬ mI h 11 13 = 0) (hp : P h) : MCv g yX11_mustComma uX11_mustComma [.ref 11] h P := e_X11_mustComma ⟨fun _ => hp, fun y => absurd y z⟩
/-- a slot of the draft -/
theorem Mc_w {h : mh_T} {f : Nat → Int32} (c : Mc h f) (j : Nat) (v : Int32) : Mc (wI h 46 j v) (rx_set f j v) := fun i hi => by
  rw [mI_wI]
  unfold rx_set
  by_cases q : i = j
  · rw [if_pos ⟨rfl, q⟩, if_pos q]
  · rw [if_neg (fun z => q z.2), if_neg q]
    exact c i hi
theorem Ms_w {h0 h : mh_T} {T : Nat → Int32} {n e : Nat} {f : Nat → Int32} (c : Ms h0 T n e f h) {j : Nat} {v : Int32} {lo hi : Int} (er : rgT 46 j = (lo, hi)) (fr : R lo hi v) : Ms h0 T n e (rx_set f j v) (wI h 46 j v) := by
  have o : ∀ k i, ¬ k = 46 → mI (wI h 46 j v) k i = mI h k i := fun k i hk => by rw [mI_wI, if_neg (fun z => hk z.1)]
  refine ⟨Og_w c.1 er fr (by decide) (by decide), ⟨?_, c.2.1.2.1, fun i hi => ?_, c.2.1.2.2.2⟩, ⟨?_, ?_, ?_, fun z => ?_, fun z => ?_⟩, c.2.2.2.1, Mc_w c.2.2.2.2.1 j v, ?_⟩
  · rw [o 11 3 (by decide)]; exact c.2.1.1
  · rw [o 43 i (by decide)]; exact c.2.1.2.2.1 i hi
  · rw [o 11 4 (by decide)]; exact c.2.2.1.1
  · rw [o 11 5 (by decide)]; exact c.2.2.1.2.1
  · rw [o 11 6 (by decide)]; exact c.2.2.1.2.2.1
  · rw [o 11 7 (by decide)]; exact c.2.2.1.2.2.2.1 z
  · rw [o 11 8 (by decide)]
    exact ⟨(c.2.2.1.2.2.2.2 z).1, fun i hi => by rw [o 44 i (by decide)]; exact (c.2.2.1.2.2.2.2 z).2 i hi⟩
  · rw [o 11 13 (by decide)]; exact c.2.2.2.2.2
theorem Mx_w {h0 h : mh_T} {f : Nat → Int32} {w : Int32} {p : Nat} (c : Mx h0 f w p h) {j : Nat} {v : Int32} {lo hi : Int} (er : rgT 46 j = (lo, hi)) (fr : R lo hi v) : Mx h0 (rx_set f j v) w p (wI h 46 j v) := by
  have o : ∀ k i, ¬ k = 46 → mI (wI h 46 j v) k i = mI h k i := fun k i hk => by rw [mI_wI, if_neg (fun z => hk z.1)]
  refine ⟨Of_w c.1 er fr (by decide) (fun z => absurd z.1 (by decide)), ?_, ?_, ?_, Mc_w c.2.2.2.2 j v⟩
  · rw [o 11 13 (by decide)]; exact c.2.1
  · rw [o 11 9 (by decide)]; exact c.2.2.1
  · rw [o 11 10 (by decide)]; exact c.2.2.2.1
/-- what a line comes to -/
def Mo (h0 : mh_T) (T : Nat → Int32) (n : Nat) (o : rx_O Unit) (h : mh_T) : Prop := (∃ e f, o = .inr ((), e, f) ∧ Ms h0 T n e f h) ∨ (∃ w p f, o = .inl (w, p) ∧ Mx h0 f w p h)
theorem Mo_no {h0 h : mh_T} {T : Nat → Int32} {n e : Nat} {f : Nat → Int32} {w : Int32} {o : rx_O Unit} (c : Mx h0 f w (rx_s T n e) h) (ho : o = rx_no T n e w) : Mo h0 T n o h := Or.inr ⟨w, rx_s T n e, f, ho, c⟩
theorem Mo_ok {h0 h : mh_T} {T : Nat → Int32} {n e : Nat} {f : Nat → Int32} {o : rx_O Unit} (c : Ms h0 T n e f h) (ho : o = .inr ((), e, f)) : Mo h0 T n o h := Or.inl ⟨e, f, ho, c⟩
