/-! the class's lines -/
abbrev cms : List Nat := [1, 2, 13, 14, 15, 16, 17, 18, 19, 20, 21, 22, 23]
theorem rx_set_o {f : Nat → Int32} {j i : Nat} {v : Int32} (h : ¬ i = j) : rx_set f j v i = f i := if_neg h
theorem rx_set_i {f : Nat → Int32} {j : Nat} {v : Int32} : rx_set f j v j = v := if_pos rfl
def bt (x : Int32) (p : Nat) : Bool := x.toBitVec.getLsbD p
/-- three points as bits -/
def Lp (b x y z : Int32) : Prop := ∃ ps : Nat → Nat, (∀ k, k < 3 → ps k < 9) ∧ (∀ k k', k < k' → k' < 3 → ¬ ps k = ps k') ∧ (x = Int32.ofNat (ps 0) ∧ y = Int32.ofNat (ps 1) ∧ z = Int32.ofNat (ps 2)) ∧ ∀ t, t < 9 → (bt b t = true ↔ ∃ k, k < 3 ∧ ps k = t)
/-- the class's lists of lines stand for f -/
def Al (h : mh_T) (f : Nat → Int32) : Prop := (∀ l : Nat, (l : Int) < (f 52).toInt → mI h 19 l = f (77 + l) ∧ Lp (mI h 18 l) (f (53 + 3 * l)) (f (54 + 3 * l)) (f (55 + 3 * l))) ∧ (∀ l : Nat, l < 8 → (f 52).toInt ≤ (l : Int) → f (77 + l) = 0) ∧ R 0 8 (f 52)
theorem Al_eq {h h' : mh_T} {f : Nat → Int32} (a18 : h'.1 18 = h.1 18) (a19 : h'.1 19 = h.1 19) (a : Al h f) : Al h' f := by
  have e18 : ∀ j, mI h' 18 j = mI h 18 j := fun j => congrFun a18 j
  have e19 : ∀ j, mI h' 19 j = mI h 19 j := fun j => congrFun a19 j
  exact ⟨fun l hl => by rw [e18, e19]; exact a.1 l hl, a.2⟩
theorem Al_f {h : mh_T} {f f' : Nat → Int32} (hs : ∀ i, (52 ≤ i ∧ i < 85) → f' i = f i) (a : Al h f) : Al h f' := by
  have hY := a.2.2.2
  refine ⟨fun l hl => ?_, fun l h8 hl => ?_, ?_⟩
  · rw [hs 52 (by omega)] at hl
    rw [hs _ (by omega), hs _ (by omega), hs _ (by omega), hs _ (by omega)]
    exact a.1 l hl
  · rw [hs 52 (by omega)] at hl
    rw [hs _ (by omega)]
    exact a.2.1 l h8 hl
  · rw [hs 52 (by omega)]
    exact a.2.2
/-- the line that is being read: a point of it -/
theorem Al_p {h : mh_T} {f : Nat → Int32} {l i : Nat} {v : Int32} (el : (f 52).toInt = (l : Int)) (hi : 53 + 3 * l ≤ i ∧ i < 77) (a : Al h f) : Al h (rx_set f i v) := by
  refine ⟨fun q hq => ?_, fun q h8 hq => ?_, ?_⟩
  · rw [rx_set_o (by omega)] at hq
    rw [rx_set_o (by omega), rx_set_o (by omega), rx_set_o (by omega), rx_set_o (by omega)]
    exact a.1 q hq
  · rw [rx_set_o (by omega)] at hq
    rw [rx_set_o (by omega)]
    exact a.2.1 q h8 hq
  · rw [rx_set_o (by omega)]
    exact a.2.2
theorem Al_w {h : mh_T} {f : Nat → Int32} {l k : Nat} {v : Int32} (el : (f 52).toInt = (l : Int)) (a : Al h f) : Al (wI h k l v) f := by
  refine ⟨fun q hq => ?_, a.2⟩
  rw [mI_wI, if_neg (by omega), mI_wI, if_neg (by omega)]
  exact a.1 q hq
theorem Al_k {h : mh_T} {f : Nat → Int32} {j k : Nat} {v : Int32} (hk : ¬ (k = 18 ∨ k = 19)) (a : Al h f) : Al (wI h k j v) f := by
  refine ⟨fun q hq => ?_, a.2⟩
  rw [mI_wI, if_neg (by omega), mI_wI, if_neg (by omega)]
  exact a.1 q hq
/-- one line more -/
theorem Al_52 {h : mh_T} {f : Nat → Int32} {l : Nat} {b : Int32} (el : (f 52).toInt = (l : Int)) (hl : l < 8) (h19 : mI h 19 l = b) (h18 : Lp (mI h 18 l) (f (53 + 3 * l)) (f (54 + 3 * l)) (f (55 + 3 * l))) (a : Al h f) : Al h (rx_set (rx_set f (77 + l) b) 52 (f 52 + 1)) := by
  have e1 := i_inc el (by omega)
  have o : ∀ i, 53 ≤ i → i < 77 → rx_set (rx_set f (77 + l) b) 52 (f 52 + 1) i = f i := fun i h1 h2 => by rw [rx_set_o (by omega), rx_set_o (by omega)]
  refine ⟨fun q hq => ?_, fun q h8 hq => ?_, ?_⟩
  · rw [rx_set_i, e1] at hq
    rw [o (53 + 3 * q) (by omega) (by omega), o (54 + 3 * q) (by omega) (by omega), o (55 + 3 * q) (by omega) (by omega), rx_set_o (by omega)]
    by_cases z : q = l
    · subst z
      rw [rx_set_i]
      exact ⟨h19, h18⟩
    · rw [rx_set_o (by omega)]
      exact a.1 q (by omega)
  · rw [rx_set_i, e1] at hq
    rw [rx_set_o (by omega), rx_set_o (by omega)]
    exact a.2.1 q h8 (by omega)
  · rw [rx_set_i]
    exact ⟨by omega, by omega⟩
/-- the class's lists of sets stand for f: of the sets that are whole, and how often all outcomes came -/
def Ar (h : mh_T) (f : Nat → Int32) : Prop := (∀ s : Nat, (s : Int) < (f 0).toInt → mI h 15 s = f (1 + s) ∧ mI h 16 s = f (9 + s)) ∧ (∀ i, i < 32 → mI h 17 i = f (17 + i)) ∧ (∀ i : Nat, (i : Int) < 4 * (f 85).toInt → mI h 20 i = f (86 + i)) ∧ Al h f
theorem Ar_eq {h h' : mh_T} {f : Nat → Int32} (a15 : h'.1 15 = h.1 15) (a16 : h'.1 16 = h.1 16) (a17 : h'.1 17 = h.1 17) (a20 : h'.1 20 = h.1 20) (a18 : h'.1 18 = h.1 18) (a19 : h'.1 19 = h.1 19) (a : Ar h f) : Ar h' f := by
  have e15 : ∀ j, mI h' 15 j = mI h 15 j := fun j => congrFun a15 j
  have e16 : ∀ j, mI h' 16 j = mI h 16 j := fun j => congrFun a16 j
  have e17 : ∀ j, mI h' 17 j = mI h 17 j := fun j => congrFun a17 j
  have e20 : ∀ j, mI h' 20 j = mI h 20 j := fun j => congrFun a20 j
  exact ⟨fun s hs => by rw [e15, e16]; exact a.1 s hs, fun i hi => by rw [e17]; exact a.2.1 i hi, fun i hi => by rw [e20]; exact a.2.2.1 i hi, Al_eq a18 a19 a.2.2.2⟩
theorem Ar_f {h : mh_T} {f f' : Nat → Int32} (hR : R 0 8 (f 0)) (hY : R 0 18 (f 85)) (hs : ∀ i, (i < 49 ∨ (52 ≤ i ∧ i < 158)) → f' i = f i) (a : Ar h f) : Ar h f' := by
  refine ⟨fun s q => ?_, fun i hi => ?_, fun i hi => ?_, Al_f (fun i hi => hs i (by omega)) a.2.2.2⟩
  · rw [hs 0 (by omega)] at q
    have := hR.2
    rw [hs _ (by omega), hs _ (by omega)]
    exact a.1 s q
  · rw [hs _ (by omega)]
    exact a.2.1 i hi
  · rw [hs 85 (by omega)] at hi
    have := hY.2
    rw [hs _ (by omega)]
    exact a.2.2.1 i hi
/-- a cell that is none of the three -/
theorem Ar_k {h : mh_T} {f : Nat → Int32} {k j : Nat} {v : Int32} (hk : ¬ (k = 15 ∨ k = 16 ∨ k = 17 ∨ k = 20 ∨ k = 18 ∨ k = 19)) (a : Ar h f) : Ar (wI h k j v) f :=
  ⟨fun s hs => by rw [mI_wI, if_neg (by omega), mI_wI, if_neg (by omega)]; exact a.1 s hs, fun i hi => by rw [mI_wI, if_neg (by omega)]; exact a.2.1 i hi, fun i hi => by rw [mI_wI, if_neg (by omega)]; exact a.2.2.1 i hi, Al_k (by omega) a.2.2.2⟩
theorem Ar_17 {h : mh_T} {f : Nat → Int32} {j : Nat} {v : Int32} (hR : R 0 8 (f 0)) (hj : j < 32) (a : Ar h f) : Ar (wI h 17 j v) (rx_set f (17 + j) v) := by
  refine ⟨fun s q => ?_, fun i hi => ?_, fun i hi => ?_, Al_k (by decide) (Al_f (fun i hi => rx_set_o (by omega)) a.2.2.2)⟩
  · rw [rx_set_o (by omega)] at q
    have := hR.2
    rw [mI_wI, if_neg (by omega), mI_wI, if_neg (by omega), rx_set_o (by omega), rx_set_o (by omega)]
    exact a.1 s q
  · rw [mI_wI]
    by_cases z : i = j
    · rw [if_pos ⟨rfl, z⟩, z, rx_set_i]
    · rw [if_neg (by omega), rx_set_o (by omega)]
      exact a.2.1 i hi
  · rw [rx_set_o (by omega)] at hi
    rw [mI_wI, if_neg (by omega), rx_set_o (by omega)]
    exact a.2.2.1 i hi
/-- the set that is being read -/
theorem Ar_15 {h : mh_T} {f : Nat → Int32} {s : Nat} {v : Int32} (es : (f 0).toInt = (s : Int)) (hs : s < 8) (a : Ar h f) : Ar (wI h 15 s v) (rx_set f (1 + s) v) := by
  refine ⟨fun q hq => ?_, fun i hi => ?_, fun i hi => ?_, Al_k (by decide) (Al_f (fun i hi => rx_set_o (by omega)) a.2.2.2)⟩
  · rw [rx_set_o (by omega)] at hq
    rw [mI_wI, if_neg (by omega), mI_wI, if_neg (by omega), rx_set_o (by omega), rx_set_o (by omega)]
    exact a.1 q hq
  · rw [mI_wI, if_neg (by omega), rx_set_o (by omega)]
    exact a.2.1 i hi
  · rw [rx_set_o (by omega)] at hi
    rw [mI_wI, if_neg (by omega), rx_set_o (by omega)]
    exact a.2.2.1 i hi
theorem Ar_16 {h : mh_T} {f : Nat → Int32} {s : Nat} {v : Int32} (es : (f 0).toInt = (s : Int)) (hs : s < 8) (a : Ar h f) : Ar (wI h 16 s v) (rx_set f (9 + s) v) := by
  refine ⟨fun q hq => ?_, fun i hi => ?_, fun i hi => ?_, Al_k (by decide) (Al_f (fun i hi => rx_set_o (by omega)) a.2.2.2)⟩
  · rw [rx_set_o (by omega)] at hq
    rw [mI_wI, if_neg (by omega), mI_wI, if_neg (by omega), rx_set_o (by omega), rx_set_o (by omega)]
    exact a.1 q hq
  · rw [mI_wI, if_neg (by omega), rx_set_o (by omega)]
    exact a.2.1 i hi
  · rw [rx_set_o (by omega)] at hi
    rw [mI_wI, if_neg (by omega), rx_set_o (by omega)]
    exact a.2.2.1 i hi
/-- one set more -/
theorem Ar_0 {h : mh_T} {f : Nat → Int32} {s : Nat} (es : (f 0).toInt = (s : Int)) (hs : s < 8) (hx : mI h 15 s = f (1 + s) ∧ mI h 16 s = f (9 + s)) (a : Ar h f) : Ar h (rx_set f 0 (f 0 + 1)) := by
  have e1 := i_inc es (by omega)
  refine ⟨fun q hq => ?_, fun i hi => ?_, fun i hi => ?_, Al_f (fun i hi => rx_set_o (by omega)) a.2.2.2⟩
  · rw [rx_set_i, e1] at hq
    rw [rx_set_o (by omega), rx_set_o (by omega)]
    by_cases z : q = s
    · rw [z]; exact hx
    · exact a.1 q (by omega)
  · rw [rx_set_o (by omega)]
    exact a.2.1 i hi
  · rw [rx_set_o (by omega)] at hi
    rw [rx_set_o (by omega)]
    exact a.2.2.1 i hi
/-- the ray that is being read -/
theorem Ar_20 {h : mh_T} {f : Nat → Int32} {l j : Nat} {v : Int32} (hR : R 0 8 (f 0)) (el : (f 85).toInt = (l : Int)) (hj : 4 * l ≤ j) (a : Ar h f) : Ar (wI h 20 j v) (rx_set f (86 + j) v) := by
  have := hR.2
  refine ⟨fun q hq => ?_, fun i hi => ?_, fun i hi => ?_, Al_k (by decide) (Al_f (fun i hi => rx_set_o (by omega)) a.2.2.2)⟩
  · rw [rx_set_o (by omega)] at hq
    rw [mI_wI, if_neg (by omega), mI_wI, if_neg (by omega), rx_set_o (by omega), rx_set_o (by omega)]
    exact a.1 q hq
  · rw [mI_wI, if_neg (by omega), rx_set_o (by omega)]
    exact a.2.1 i hi
  · rw [rx_set_o (by omega)] at hi
    rw [mI_wI, if_neg (by omega), rx_set_o (by omega)]
    exact a.2.2.1 i hi
/-- one ray more -/
theorem Ar_85 {h : mh_T} {f : Nat → Int32} {l : Nat} (hR : R 0 8 (f 0)) (el : (f 85).toInt = (l : Int)) (hl : l < 18) (hx : ∀ k, k < 4 → mI h 20 (4 * l + k) = f (86 + 4 * l + k)) (a : Ar h f) : Ar h (rx_set f 85 (f 85 + 1)) := by
  have := hR.2
  have e1 := i_inc el (by omega)
  refine ⟨fun q hq => ?_, fun i hi => ?_, fun i hi => ?_, Al_f (fun i hi => rx_set_o (by omega)) a.2.2.2⟩
  · rw [rx_set_o (by omega)] at hq
    rw [rx_set_o (by omega), rx_set_o (by omega)]
    exact a.1 q hq
  · rw [rx_set_o (by omega)]
    exact a.2.1 i hi
  · rw [rx_set_i, e1] at hi
    rw [rx_set_o (by omega)]
    by_cases z : i < 4 * l
    · exact a.2.2.1 i (by omega)
    · have q := hx (i - 4 * l) (by omega)
      rw [show 4 * l + (i - 4 * l) = i by omega, show 86 + 4 * l + (i - 4 * l) = 86 + i by omega] at q
      exact q
theorem Ar_l {h : mh_T} {f : Nat → Int32} {l k : Nat} {v : Int32} (el : (f 52).toInt = (l : Int)) (hk : k = 18 ∨ k = 19) (a : Ar h f) : Ar (wI h k l v) f :=
  ⟨fun s hs => by rw [mI_wI, if_neg (by omega), mI_wI, if_neg (by omega)]; exact a.1 s hs, fun i hi => by rw [mI_wI, if_neg (by omega)]; exact a.2.1 i hi, fun i hi => by rw [mI_wI, if_neg (by omega)]; exact a.2.2.1 i hi, Al_w el a.2.2.2⟩
theorem Ar_g {h : mh_T} {f f' : Nat → Int32} (hR : R 0 8 (f 0)) (hY : R 0 18 (f 85)) (hs : ∀ i, (i < 49 ∨ (85 ≤ i ∧ i < 158)) → f' i = f i) (hl : Al h f') (a : Ar h f) : Ar h f' := by
  refine ⟨fun s q => ?_, fun i hi => ?_, fun i hi => ?_, hl⟩
  · rw [hs 0 (by omega)] at q
    have := hR.2
    rw [hs _ (by omega), hs _ (by omega)]
    exact a.1 s q
  · rw [hs _ (by omega)]
    exact a.2.1 i hi
  · rw [hs 85 (by omega)] at hi
    have := hY.2
    rw [hs _ (by omega)]
    exact a.2.2.1 i hi
theorem Ar_p {h : mh_T} {f : Nat → Int32} {l i : Nat} {v : Int32} (hR : R 0 8 (f 0)) (hY : R 0 18 (f 85)) (el : (f 52).toInt = (l : Int)) (hi : 53 + 3 * l ≤ i ∧ i < 77) (a : Ar h f) : Ar h (rx_set f i v) := Ar_g hR hY (fun q hq => rx_set_o (by omega)) (Al_p el hi a.2.2.2) a
theorem Ar_52 {h : mh_T} {f : Nat → Int32} {l : Nat} {b : Int32} (hR : R 0 8 (f 0)) (hY : R 0 18 (f 85)) (el : (f 52).toInt = (l : Int)) (hl : l < 8) (h19 : mI h 19 l = b) (h18 : Lp (mI h 18 l) (f (53 + 3 * l)) (f (54 + 3 * l)) (f (55 + 3 * l))) (a : Ar h f) : Ar h (rx_set (rx_set f (77 + l) b) 52 (f 52 + 1)) := Ar_g hR hY (fun q hq => by rw [rx_set_o (by omega), rx_set_o (by omega)]) (Al_52 el hl h19 h18 a.2.2.2) a
def Cs (h0 : mh_T) (T : Nat → Int32) (n e : Nat) (f : Nat → Int32) (h : mh_T) : Prop := Ok cms h0 h ∧ Tp h T n ∧ Tk h T n e ∧ e ≤ n ∧ Dr h f ∧ Nv f ∧ mI h 1 1 = 0 ∧ Ar h f
def Cx (h0 : mh_T) (w : Int32) (p : Nat) (h : mh_T) : Prop := Ok cms h0 h ∧ mI h 1 1 = w ∧ (mI h 1 2).toInt = (p : Int) ∧ ¬ w = 0
def Co (h0 : mh_T) (T : Nat → Int32) (n : Nat) (o : rx_O Unit) (r : Int32) (h : mh_T) : Prop := (∃ e f, o = .inr ((), e, f) ∧ r = 1 ∧ Cs h0 T n e f h) ∨ (∃ w p, o = .inl (w, p) ∧ r = 0 ∧ Cx h0 w p h)
theorem Kp_2 {h h' : mh_T} (a : Kp h h') {k : Nat} (hk : k < 62) (h1 : ¬ k = 1) : h'.1 k = h.1 k ∧ h'.2.1 k = h.2.1 k := by
  have := a.1.2.1 k hk (by intro z; exact h1 (List.mem_singleton.mp z))
  exact ⟨this.1, this.2.1⟩
theorem Dr_eq {h h' : mh_T} {f : Nat → Int32} (h2 : h'.1 2 = h.1 2) (h13 : h'.2.1 13 = h.2.1 13) (h14 : h'.2.1 14 = h.2.1 14) (d : Dr h f) : Dr h' f := by
  have e2 : ∀ j, mI h' 2 j = mI h 2 j := fun j => congrFun h2 j
  have e13 : ∀ j, mL h' 13 j = mL h 13 j := fun j => congrFun h13 j
  have e14 : ∀ j, mL h' 14 j = mL h 14 j := fun j => congrFun h14 j
  unfold Dr
  rw [e2, e2, e2, e2, e2, e2, e2]
  exact ⟨d.1, fun i hi => by rw [e13]; exact d.2.1 i hi, fun i hi => by rw [e14]; exact d.2.2 i hi⟩
theorem Cs_next {h0 h h' : mh_T} {T : Nat → Int32} {n e : Nat} {f : Nat → Int32} (c : Cs h0 T n e f h) (k : Kp h h') (t : Tk h' T n (rx_e T n e)) : Cs h0 T n (rx_e T n e) f h' :=
  ⟨Ok_tr c.1 k.1 (by decide), Tp_k k c.2.1, t, rx_e_le c.2.2.2.1, Dr_eq (Kp_2 k (by decide) (by decide)).1 (Kp_2 k (by decide) (by decide)).2 (Kp_2 k (by decide) (by decide)).2 c.2.2.2.2.1, c.2.2.2.2.2.1, by rw [k.2 1 (by decide)]; exact c.2.2.2.2.2.2.1, Ar_eq (Kp_2 k (by decide) (by decide)).1 (Kp_2 k (by decide) (by decide)).1 (Kp_2 k (by decide) (by decide)).1 (Kp_2 k (by decide) (by decide)).1 (Kp_2 k (by decide) (by decide)).1 (Kp_2 k (by decide) (by decide)).1 c.2.2.2.2.2.2.2⟩
theorem Cs_rf {h0 h : mh_T} {T : Nat → Int32} {n e : Nat} {f : Nat → Int32} (c : Cs h0 T n e f h) {w : Int32} (hw : ¬ w = 0) : Cx h0 w (rx_s T n e) (rf h w) := by
  refine ⟨Ok_w (Ok_w c.1 (k := 1) (j := 1) (lo := -2147483648) (hi := 2147483647) (by decide) (R_full _) (by decide) (by decide)) (k := 1) (j := 2) (lo := -2147483648) (hi := 2147483647) (by decide) (R_full _) (by decide) (by decide), ?_, ?_, hw⟩
  · unfold rf
    rw [mI_wI, if_neg (by decide), mI_wI, if_pos ⟨rfl, rfl⟩]
  · unfold rf
    rw [mI_wI, if_pos ⟨rfl, rfl⟩]
    exact c.2.2.1.1
theorem Co_rf {h0 h : mh_T} {T : Nat → Int32} {n e : Nat} {f : Nat → Int32} {o : rx_O Unit} (c : Cs h0 T n e f h) {w : Int32} (hw : ¬ w = 0) (ho : o = rx_no T n e w) : Co h0 T n o 0 (rf h w) := Or.inr ⟨w, rx_s T n e, ho, rfl, Cs_rf c hw⟩
/-- a slot of the draft, or of its lists, other than names -/
theorem Cs_w {h0 h : mh_T} {T : Nat → Int32} {n e : Nat} {f f' : Nat → Int32} (c : Cs h0 T n e f h) {k j : Nat} {v : Int32} {lo hi : Int} (er : rgT k j = (lo, hi)) (fr : R lo hi v) (hk : k ∈ cms) (h1 : ¬ k = 1) (hd : Dr (wI h k j v) f') (hv : Nv f') (hA : Ar (wI h k j v) f') : Cs h0 T n e f' (wI h k j v) := by
  have k12 : ¬ k = 12 := by
    intro z
    subst z
    exact absurd hk (by decide)
  have k0 : ¬ ((k = 0 ∧ (j = 10 ∨ j = 12 ∨ j = 13)) ∨ (k = 3 ∧ (j = 0 ∨ j = 1)) ∨ (k = 8 ∧ j = 0)) ∧ ¬ ((k = 11 ∧ (j = 2 ∨ j = 9 ∨ j = 10 ∨ j = 11 ∨ j = 14)) ∨ (k = 45 ∧ 49 ≤ j)) := by
    have m : ¬ k = 0 ∧ ¬ k = 3 ∧ ¬ k = 8 ∧ ¬ k = 11 ∧ ¬ k = 45 := by
      refine ⟨?_, ?_, ?_, ?_, ?_⟩ <;> (intro z; subst z; exact absurd hk (by decide))
    omega
  have hk62 : k < 62 ∧ ¬ k = 11 := (show ∀ x ∈ cms, x < 62 ∧ ¬ x = 11 by decide) k hk
  refine ⟨Ok_w c.1 er fr (Or.inl ⟨hk, hk62.1⟩) k0 (Or.inl (fun z => hk62.2 z.1)), ⟨?_, c.2.1.2.1, fun i hi => ?_⟩, ⟨?_, ?_, ?_, ?_, ?_⟩, c.2.2.2.1, hd, hv, ?_, hA⟩
  · rw [mI_wI, if_neg (fun z => h1 z.1.symm)]; exact c.2.1.1
  · rw [mI_wI, if_neg (fun z => k12 z.1.symm)]; exact c.2.1.2.2 i hi
  · rw [mI_wI, if_neg (fun z => h1 z.1.symm)]; exact c.2.2.1.1
  · rw [mI_wI, if_neg (fun z => h1 z.1.symm)]; exact c.2.2.1.2.1
  · rw [mI_wI, if_neg (fun z => h1 z.1.symm)]; exact c.2.2.1.2.2.1
  · intro z; rw [mI_wI, if_neg (fun z => h1 z.1.symm)]; exact c.2.2.1.2.2.2.1 z
  · intro z; rw [mL_wI]; exact c.2.2.1.2.2.2.2 z
  · rw [mI_wI, if_neg (fun z => h1 z.1.symm)]; exact c.2.2.2.2.2.2.1
theorem Nv_same {f f' : Nat → Int32} (h : ∀ i, (i = 50 ∨ i = 51 ∨ 211 ≤ i) → f' i = f i) (v : Nv f) : Nv f' := by
  have e50 := h 50 (Or.inl rfl)
  have e51 := h 51 (Or.inr (Or.inl rfl))
  have eu : ∀ j, rx_used f' j ↔ rx_used f j := fun j => by unfold rx_used; rw [e50, e51]
  have es : ∀ j, f' (211 + j) = f (211 + j) := fun j => h _ (Or.inr (Or.inr (by omega)))
  have el : ∀ j i, f' (226 + 8 * j + i) = f (226 + 8 * j + i) := fun j i => h _ (Or.inr (Or.inr (by omega)))
  have en : ∀ j, rx_en f' j = rx_en f j := fun j => by unfold rx_en; rw [es]; exact rx_ws_congr _ (fun i _ => el j i)
  refine ⟨by rw [e50]; exact v.1, by rw [e51]; exact v.2.1, fun j hj => ?_, fun i j hi hj ui uj e => ?_⟩
  · rw [eu, es]
    refine ⟨fun u => ⟨((v.2.2.1 j hj).1 u).1, fun i hi => ?_⟩, (v.2.2.1 j hj).2⟩
    rw [el]
    exact ((v.2.2.1 j hj).1 u).2 i hi
  · rw [en, en] at e
    exact v.2.2.2 i j hi hj ((eu i).mp ui) ((eu j).mp uj) e
theorem Dr_same {h : mh_T} {f f' : Nat → Int32} (hs : ∀ i, (i = 49 ∨ i = 50 ∨ i = 51 ∨ i = 0 ∨ i = 52 ∨ i = 85 ∨ i = 158 ∨ 211 ≤ i) → f' i = f i) (d : Dr h f) : Dr h f' := by
  have es : ∀ j, f' (211 + j) = f (211 + j) := fun j => hs _ (by omega)
  have en : ∀ j, rx_en f' j = rx_en f j := fun j => by unfold rx_en; rw [es]; exact rx_ws_congr _ (fun i _ => hs _ (by omega))
  unfold Dr
  rw [hs 49 (by omega), hs 50 (by omega), hs 51 (by omega), hs 0 (by omega), hs 52 (by omega), hs 85 (by omega), hs 158 (by omega)]
  exact ⟨d.1, fun i hi => by rw [en]; exact d.2.1 i hi, fun i hi => by rw [en]; exact d.2.2 i hi⟩
/-- the counts of the draft but those of names -/
theorem Dr_cnt {h : mh_T} {f : Nat → Int32} (d : Dr h f) {j i : Nat} {v : Int32} (hj : (j = 0 ∧ i = 49) ∨ (j = 3 ∧ i = 0) ∨ (j = 4 ∧ i = 52) ∨ (j = 5 ∧ i = 85) ∨ (j = 6 ∧ i = 158)) : Dr (wI h 2 j v) (rx_set f i v) := by
  have en : ∀ q, rx_en (rx_set f i v) q = rx_en f q := fun q => by
    unfold rx_en
    rw [rx_set_o (by omega)]
    exact rx_ws_congr _ (fun p _ => rx_set_o (by omega))
  refine ⟨?_, fun q hq => ?_, fun q hq => ?_⟩
  · obtain ⟨d0, d1, d2, d3, d4, d5, d6⟩ := d.1
    rcases hj with ⟨a, b⟩ | ⟨a, b⟩ | ⟨a, b⟩ | ⟨a, b⟩ | ⟨a, b⟩ <;> subst a <;> subst b <;> refine ⟨?_, ?_, ?_, ?_, ?_, ?_, ?_⟩ <;> first | (rw [mI_wI, if_neg (by decide), rx_set_o (by decide)]; assumption) | (rw [mI_wI, if_pos ⟨rfl, rfl⟩, rx_set_i])
  · rw [rx_set_o (by omega)] at hq
    rw [en, mL_wI]
    exact d.2.1 q hq
  · rw [rx_set_o (by omega)] at hq
    rw [en, mL_wI]
    exact d.2.2 q hq
theorem Cs_cnt {h0 h : mh_T} {T : Nat → Int32} {n e : Nat} {f : Nat → Int32} (c : Cs h0 T n e f h) {j i : Nat} {v : Int32} (hj : (j = 0 ∧ i = 49) ∨ (j = 3 ∧ i = 0) ∨ (j = 4 ∧ i = 52) ∨ (j = 5 ∧ i = 85) ∨ (j = 6 ∧ i = 158)) {lo hi : Int} (er : rgT 2 j = (lo, hi)) (fr : R lo hi v) (hA : Ar h (rx_set f i v)) : Cs h0 T n e (rx_set f i v) (wI h 2 j v) :=
  Cs_w c er fr (by decide) (by decide) (Dr_cnt c.2.2.2.2.1 hj) (Nv_same (fun q hq => rx_set_o (by omega)) c.2.2.2.2.2.1) (Ar_k (by decide) hA)
theorem Cs_r0 {h0 h : mh_T} {T : Nat → Int32} {n e : Nat} {f : Nat → Int32} (c : Cs h0 T n e f h) : R 0 8 (f 0) := by
  rw [← c.2.2.2.2.1.1.2.2.2.1]
  exact GI_rd c.1.1 2 3 (by decide)
theorem Cs_y0 {h0 h : mh_T} {T : Nat → Int32} {n e : Nat} {f : Nat → Int32} (c : Cs h0 T n e f h) : R 0 18 (f 85) := by
  rw [← c.2.2.2.2.1.1.2.2.2.2.2.1]
  exact GI_rd c.1.1 2 5 (by decide)
theorem Cs_Af {h0 h : mh_T} {T : Nat → Int32} {n e : Nat} {f : Nat → Int32} (c : Cs h0 T n e f h) {i : Nat} {v : Int32} (hi : 49 ≤ i ∧ ¬ (52 ≤ i ∧ i < 158)) : Ar h (rx_set f i v) := Ar_f (Cs_r0 c) (Cs_y0 c) (fun q hq => rx_set_o (by omega)) c.2.2.2.2.2.2.2
theorem c_readLaw {g : gT} {h0 h : mh_T} {P : Int32 → mh_T → Prop} {T : Nat → Int32} {n e : Nat} {f : Nat → Int32} (c : Cs h0 T n e f h) (hp : ∀ r h', Co h0 T n (rx_lawL T n e f) r h' → P r h') : MCi g yX6_readLaw uX6_readLaw [.ref 1] h P := by
  have e0 : mI h 2 0 = f 49 := c.2.2.2.2.1.1.1
  refine e_X6_readLaw ⟨fun z => ?_, fun z => ?_⟩
  · rw [e0] at z
    refine c_next c.1.1 c.2.1 c.2.2.1.2.1 (rx_e_le c.2.2.2.1) (fun h1 k1 t1 => ?_)
    have c1 := Cs_next c k1 t1
    have un : rx_lawL T n e f = rx_bind (rx_word T n 7 (rx_e T n e) f) (fun _ e1 f1 => rx_bind (rx_num T n 1 60 e1 f1) (fun v e2 f2 => .inr ((), e2, rx_set f2 49 v))) := by unfold rx_lawL; rw [if_pos z]
    rw [un] at hp
    refine c_passWord 7 (by decide) c1.1.1 c1.2.1 c1.2.2.1 c1.2.2.2.1 (fun w h2 k2 t2 => ⟨fun y => absurd y (by decide), fun _ => ?_⟩) (fun w => ⟨fun _ => ?_, fun y => absurd rfl y⟩)
    · have c2 := Cs_next c1 k2 t2
      have uw : rx_word T n 7 (rx_e T n e) f = .inr ((), rx_e T n (rx_e T n e), f) := by unfold rx_word; rw [if_pos w]
      rw [uw] at hp
      refine c_needWhole 1 60 c2.2.2.1 (fun k3 v => ⟨fun _ => ?_, fun y => absurd y (by decide)⟩) (fun k3 v => ⟨fun y => absurd rfl y, fun _ => ?_⟩) (fun k3 => ⟨fun y => absurd rfl y, fun _ => ?_⟩)
      · have un2 : rx_num T n 1 60 (rx_e T n (rx_e T n e)) f = .inr (rx_v T n (rx_e T n (rx_e T n e)), rx_e T n (rx_e T n (rx_e T n e)), f) := by
          unfold rx_num
          rw [if_neg (fun y => y k3), if_pos v]
        have c3 := Cs_cnt c2 (j := 0) (i := 49) (v := mI h2 1 11) (by omega) (lo := 0) (hi := 60) (by decide) (by
          rw [c2.2.2.1.2.2.2.1 k3]
          rw [i_le, i_le] at v
          exact ⟨by have := v.1; rw [show (1 : Int32).toInt = 1 from by decide] at this; omega, by have := v.2; rw [show (60 : Int32).toInt = 60 from by decide] at this; omega⟩) (Cs_Af c2 (by decide))
        refine c_next c3.1.1 c3.2.1 c3.2.2.1.2.1 (rx_e_le c3.2.2.2.1) (fun h4 k4 t4 => hp 1 _ (Or.inl ⟨_, _, ?_, rfl, Cs_next c3 k4 t4⟩))
        show rx_bind (rx_num T n 1 60 (rx_e T n (rx_e T n e)) f) _ = _
        rw [un2, c2.2.2.1.2.2.2.1 k3]
        rfl
      · refine hp 0 _ (Co_rf c2 (by decide) ?_)
        show rx_bind (rx_num T n 1 60 (rx_e T n (rx_e T n e)) f) _ = _
        unfold rx_num
        rw [if_neg (fun y => y k3), if_neg v]
        rfl
      · refine hp 0 _ (Co_rf c2 (by decide) ?_)
        show rx_bind (rx_num T n 1 60 (rx_e T n (rx_e T n e)) f) _ = _
        unfold rx_num
        rw [if_pos k3]
        rfl
    · refine hp 0 _ (Co_rf c1 (by decide) ?_)
      unfold rx_word
      rw [if_neg w]
      rfl
  · rw [e0] at z
    refine c_refuse 3 ⟨Or.inl rfl, hp 0 _ (Co_rf c (by decide) ?_)⟩
    unfold rx_lawL
    rw [if_neg z]
