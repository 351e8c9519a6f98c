/-! the acts of the reference: what is there, flip -/
/-- without a book nothing is there -/
def NB (h : mh_T) : Prop := mI h 11 14 = 0 → mI h 45 50 = 0 ∧ mI h 45 0 = 0 ∧ mI h 11 24 = 0 ∧ mI h 11 25 = 0 ∧ mI h 11 26 = 0
def LKb (h : mh_T) (l : Int32) : Prop := 0 ≤ l.toInt ∧ l.toInt < (mI h 45 50).toInt
def SEb (a : Nat → Int32) (l : Int32) : Prop := 0 ≤ l.toInt ∧ l.toInt < (a 0).toInt
def ocs (a : Nat → Int32) (s : Nat) : Nat := if a (9 + s) = -2 then 2 else 4
def OCb (a : Nat → Int32) (l o : Int32) : Prop := SEb a l ∧ 0 ≤ o.toInt ∧ o.toInt < (ocs a l.toInt.toNat : Int)
theorem ti_sub1 {x : Int32} {hi : Int} (f : R 0 hi x) (hh : hi ≤ 2147483647) : (x - 1).toInt = x.toInt - 1 := by
  have := f.1
  have := f.2
  exact i_sub (x := x) (y := 1) rfl (show (1 : Int32).toInt = 1 from by decide) (by omega)
theorem v_isLook {g : gT} {h : mh_T} {P : Int32 → mh_T → Prop} (l : Int32) (hG : GI h) (hB : NB h) (h1 : LKb h l → P 1 h) (h0 : ¬ LKb h l → P 0 h) : MCi g yX11_isLook uX11_isLook [.ref 11, .int l] h P := by
  have f50 : R 0 6 (mI h 45 50) := GI_rd hG 45 50 rfl
  have e := ti_sub1 f50 (by decide)
  refine e_X11_isLook l ⟨fun z => h0 (fun y => ?_), fun _ => b_within l 0 _ (fun q => ⟨fun z => absurd z (by decide), fun _ => h1 ?_⟩) (fun q => ⟨fun _ => h0 (fun y => q ?_), fun z => absurd rfl z⟩)⟩
  · have := (hB z).1
    unfold LKb at y
    rw [this, i_0] at y
    omega
  · rw [i_le, i_le, i_0, show Int32.toNatClampNeg 50 = 50 from by decide, e] at q
    exact ⟨q.1, by omega⟩
  · rw [i_le, i_le, i_0, show Int32.toNatClampNeg 50 = 50 from by decide, e]
    exact ⟨y.1, by have := y.2; omega⟩
theorem v_isSet {g : gT} {h : mh_T} {P : Int32 → mh_T → Prop} (l : Int32) (hG : GI h) (hB : NB h) (h1 : SEb (h.1 45) l → P 1 h) (h0 : ¬ SEb (h.1 45) l → P 0 h) : MCi g yX11_isSet uX11_isSet [.ref 11, .int l] h P := by
  have f0 : R 0 8 (mI h 45 0) := GI_rd hG 45 0 rfl
  have e := ti_sub1 f0 (by decide)
  have e' : (mI h 45 0).toInt = (h.1 45 0).toInt := rfl
  refine e_X11_isSet l ⟨fun z => h0 (fun y => ?_), fun _ => b_within l 0 _ (fun q => ⟨fun z => absurd z (by decide), fun _ => h1 ?_⟩) (fun q => ⟨fun _ => h0 (fun y => q ?_), fun z => absurd rfl z⟩)⟩
  · have z0 := (hB z).2.1
    unfold SEb at y
    rw [← e', z0, i_0] at y
    omega
  · rw [i_le, i_le, i_0, show Int32.toNatClampNeg 0 = 0 from by decide, e] at q
    exact ⟨q.1, by omega⟩
  · rw [i_le, i_le, i_0, show Int32.toNatClampNeg 0 = 0 from by decide, e]
    exact ⟨y.1, by have := y.2; omega⟩
theorem i_9 {l : Int32} {s : Nat} (h : l.toInt = (s : Int)) (hs : s < 8) : (9 + l).toInt = ((9 + s : Nat) : Int) := by rw [i_add (show (9 : Int32).toInt = 9 from by decide) h (by omega)]; omega
theorem i_1s {l : Int32} {s : Nat} (h : l.toInt = (s : Int)) (hs : s < 8) : (1 + l).toInt = ((1 + s : Nat) : Int) := by rw [i_add (show (1 : Int32).toInt = 1 from by decide) h (by omega)]; omega
theorem v_outcomes {g : gT} {h : mh_T} {P : Int32 → mh_T → Prop} (l : Int32) (s : Nat) (es : l.toInt = (s : Int)) (hs : s < 8) (h1 : ∀ v : Int32, v.toInt = (ocs (h.1 45) s : Int) → P v h) : MCi g yX11_outcomes uX11_outcomes [.ref 45, .int l] h P := by
  have j9 := i_9 es hs
  refine e_X11_outcomes l ⟨i_vp j9 (by omega), ?_⟩
  rw [i_nat j9]
  refine ⟨fun z => h1 4 ?_, fun z => h1 2 ?_⟩
  · have z : ¬ h.1 45 (9 + s) = -2 := z
    unfold ocs
    rw [if_neg z]
    rfl
  · have z : h.1 45 (9 + s) = -2 := z
    unfold ocs
    rw [if_pos z]
    rfl
theorem v_isOutcome {g : gT} {h : mh_T} {P : Int32 → mh_T → Prop} (l o : Int32) (hG : GI h) (hB : NB h) (h1 : OCb (h.1 45) l o → P 1 h) (h0 : ¬ OCb (h.1 45) l o → P 0 h) : MCi g yX11_isOutcome uX11_isOutcome [.ref 11, .int l, .int o] h P := by
  have f0 : R 0 8 (mI h 45 0) := GI_rd hG 45 0 rfl
  have f02 : (h.1 45 0).toInt ≤ 8 := f0.2
  refine e_X11_isOutcome l o (v_isSet l hG hB (fun q => ⟨fun z => absurd z (by decide), fun _ => ?_⟩) (fun q => ⟨fun _ => h0 (fun y => q y.1), fun z => absurd rfl z⟩))
  obtain ⟨s, es⟩ : ∃ s : Nat, l.toInt = (s : Int) := ⟨l.toInt.toNat, by have := q.1; omega⟩
  have s8 : s < 8 := by have := q.2; omega
  refine v_outcomes l s es s8 (fun v ev => ?_)
  have en : l.toInt.toNat = s := by omega
  have vb : R 0 4 v := by
    refine ⟨by omega, ?_⟩
    rw [ev]
    unfold ocs
    split <;> decide
  have e := ti_sub1 vb (by decide)
  refine b_within o 0 _ (fun y => ⟨fun z => absurd z (by decide), fun _ => h1 ⟨q, ?_⟩⟩) (fun y => ⟨fun _ => h0 (fun w => y ?_), fun z => absurd rfl z⟩)
  · rw [i_le, i_le, i_0, e, ev] at y
    rw [en]
    exact ⟨y.1, by omega⟩
  · have w2 := w.2
    rw [en] at w2
    rw [i_le, i_le, i_0, e, ev]
    exact ⟨w2.1, by omega⟩
/-- what good and a refusal leave -/
theorem v_good {g : gT} {h : mh_T} {P : mh_T → Prop} (hG : GI h) (hp : ∀ h', Ok [300, 11] h h' → P h') : MCv g yX11_good uX11_good [.ref 11] h P := s_X11_good hG (fun h' k _ => hp h' (Ok_mono k (by decide)))
theorem NB_ok {ms : List Nat} {h h' : mh_T} (ok : Ok ms h h') (hm : 301 ∉ ms ∧ 45 ∉ ms) (b : NB h) : NB h' := by
  have e45 := OkC ok (k := 45) ⟨by decide, hm.2⟩
  have e24 := Ok_24 ok hm.1
  intro z
  have z' : mI h 11 14 = 0 := by rw [← ok.2.2.2.2.1 11 14 (by decide)]; exact z
  obtain ⟨b1, b2, b3, b4, b5⟩ := b z'
  refine ⟨?_, ?_, ?_, ?_, ?_⟩
  · show h'.1 45 50 = 0
    rw [e45]; exact b1
  · show h'.1 45 0 = 0
    rw [e45]; exact b2
  · rw [e24 24 (by decide) (by decide)]; exact b3
  · rw [e24 25 (by decide) (by decide)]; exact b4
  · rw [e24 26 (by decide) (by decide)]; exact b5
/-- an act of the reference that is done -/
def HD (u : Nat) (a : Nat → Int32) (h h' : mh_T) : Prop := (mI h' 11 24).toInt = (if u = 20 then 20 else (u : Int) + 1) ∧ mI h' 11 25 = 0 ∧ mI h' 11 26 = mI h 11 26 ∧ (∀ i j, i < 20 → j < 49 → h'.1 49 (49 * i + j) = psh u (fun i j => h.1 49 (49 * i + j)) (h.1 45) i j) ∧ (∀ i j, i < 20 → j < 5 → h'.1 52 (5 * i + j) = psh u (fun i j => h.1 52 (5 * i + j)) a i j)
abbrev msR : List Nat := [301, 300, 11, 45, 47, 48, 49, 52]
theorem psh_cg {u : Nat} {f f' : Nat → Nat → Int32} {x x' : Nat → Int32} {n i j : Nat} (hf : ∀ i j, j < n → f i j = f' i j) (hx : ∀ j, j < n → x j = x' j) (hj : j < n) : psh u f x i j = psh u f' x' i j := by
  unfold psh
  repeat' split
  all_goals first | exact hf _ _ hj | exact hx _ hj
theorem HD_of {u : Nat} {a : Nat → Int32} {h h3 h' : mh_T} (d : DD u a h3 h') (e26 : mI h3 11 26 = mI h 11 26) (e48 : ∀ j, j < 49 → h3.1 48 j = h.1 45 j) (e49 : h3.1 49 = h.1 49) (e52 : h3.1 52 = h.1 52) : HD u a h h' := by
  obtain ⟨d1, d2, d3, d4, d5⟩ := d
  refine ⟨d1, d2, d3.trans e26, fun i j hi hj => ?_, fun i j hi hj => ?_⟩
  · rw [d4 i j hi hj]
    exact psh_cg (fun i j _ => by rw [e49]) e48 hj
  · rw [d5 i j hi hj, e52]
-- flip
/-- the sets below s are turned -/
def FP (L : Int32) (s : Nat) (a0 c0 a c : Nat → Int32) : Prop := (∀ j, j < 17 → a j = a0 j) ∧ ∀ s' o, s' < 8 → o < 4 → a (17 + 4 * s' + o) = a0 (17 + 4 * s' + (if s' < s then pm a0 L s' o else o)) ∧ c (4 * s' + o) = c0 (4 * s' + (if s' < s then pm a0 L s' o else o))
theorem FP_0 (L : Int32) (a c : Nat → Int32) : FP L 0 a c a c := ⟨fun _ _ => rfl, fun s' o _ _ => by rw [if_neg (Nat.not_lt_zero _)]; exact ⟨rfl, rfl⟩⟩
theorem FP_e {L : Int32} {s : Nat} {a0 c0 a c : Nat → Int32} (h8 : sn a0 ≤ 8) (hs : sn a0 ≤ s) (f : FP L s a0 c0 a c) : flp L a0 c0 a c := by
  refine ⟨f.1 0 (by omega), fun s' h => ⟨⟨f.1 _ (by omega), f.1 _ (by omega)⟩, fun o ho => ?_⟩⟩
  have := f.2 s' o (by omega) ho
  rw [if_pos (by omega)] at this
  exact this
theorem FP_s {L : Int32} {s : Nat} {a0 c0 a c a' c' : Nat → Int32} (hs : s < 8) (f : FP L s a0 c0 a c) (ha : ∀ j, ¬ (17 + 4 * s ≤ j ∧ j < 17 + 4 * s + 4) → a' j = a j) (hc : ∀ j, ¬ (4 * s ≤ j ∧ j < 4 * s + 4) → c' j = c j) (hx : ∀ o, o < 4 → a' (17 + 4 * s + o) = a (17 + 4 * s + pm a0 L s o) ∧ c' (4 * s + o) = c (4 * s + pm a0 L s o)) : FP L (s + 1) a0 c0 a' c' := by
  refine ⟨fun j hj => (ha j (by omega)).trans (f.1 j hj), fun s' o h8 ho => ?_⟩
  by_cases e : s' = s
  · subst e
    rw [if_pos (by omega), (hx o ho).1, (hx o ho).2]
    have := f.2 s' (pm a0 L s' o) h8 (pm_lt ho)
    rw [if_neg (Nat.lt_irrefl _)] at this
    exact this
  · rw [ha _ (by omega), hc _ (by omega)]
    have := f.2 s' o h8 ho
    by_cases q : s' < s
    · rw [if_pos q] at this
      rw [if_pos (by omega)]
      exact this
    · rw [if_neg q] at this
      rw [if_neg (by omega)]
      exact this
theorem FP_n {L : Int32} {s : Nat} {a0 c0 a c : Nat → Int32} (hs : s < 8) (f : FP L s a0 c0 a c) (hx : ∀ o, o < 4 → pm a0 L s o = o) : FP L (s + 1) a0 c0 a c := FP_s hs f (fun _ _ => rfl) (fun _ _ => rfl) (fun o ho => by rw [hx o ho]; exact ⟨rfl, rfl⟩)
def xb (b i : Nat) : Nat := if b = 1 then (if i = 0 then 1 else if i = 1 then 0 else if i = 2 then 3 else 2) else (if i < 2 then i + 2 else i - 2)
def xq (b o i : Nat) : Nat := if i < o ∨ xb b i < o then xb b i else i
theorem xb_all : ∀ b : Nat, b < 3 → ∀ i, i < 4 → xb b i < 4 ∧ xb b (xb b i) = i ∧ ¬ xb b i = i := by decide
theorem x4_all : ∀ b : Nat, b < 3 → 0 < b → ∀ i, i < 4 → (Int32.ofNat i ^^^ Int32.ofNat b).toInt = (xb b i : Int) := by decide
/-- a set is turned up to outcome o -/
def IV (b o s : Nat) (a0 c0 a c : Nat → Int32) : Prop := (∀ j, ¬ (17 + 4 * s ≤ j ∧ j < 17 + 4 * s + 4) → a j = a0 j) ∧ (∀ j, ¬ (4 * s ≤ j ∧ j < 4 * s + 4) → c j = c0 j) ∧ ∀ i, i < 4 → a (17 + 4 * s + i) = a0 (17 + 4 * s + xq b o i) ∧ c (4 * s + i) = c0 (4 * s + xq b o i)
theorem IV_0 (b s : Nat) (a c : Nat → Int32) : IV b 0 s a c a c := ⟨fun _ _ => rfl, fun _ _ => rfl, fun i _ => by unfold xq; rw [if_neg (by omega)]; exact ⟨rfl, rfl⟩⟩
theorem xq_skip : ∀ b : Nat, b < 3 → ∀ o, o < 4 → xb b o < o → ∀ i, i < 4 → xq b (o + 1) i = xq b o i := by decide
theorem xq_o : ∀ b : Nat, b < 3 → ∀ o, o < 4 → ¬ xb b o < o → xq b (o + 1) o = xq b o (xb b o) ∧ xq b (o + 1) (xb b o) = xq b o o := by decide
theorem xq_n : ∀ b : Nat, b < 3 → ∀ o, o < 4 → ∀ i, i < 4 → (¬ xb b o < o ∧ ¬ i = o ∧ ¬ i = xb b o) → xq b (o + 1) i = xq b o i := by decide
theorem IV_skip {b o s : Nat} {a0 c0 a c : Nat → Int32} (hb : b < 3) (ho : o < 4) (hx : xb b o < o) (v : IV b o s a0 c0 a c) : IV b (o + 1) s a0 c0 a c := ⟨v.1, v.2.1, fun i hi => by rw [xq_skip b hb o ho hx i hi]; exact v.2.2 i hi⟩
theorem IV_swap {b o s : Nat} {a0 c0 a c a' c' : Nat → Int32} (hb : b < 3) (ho : o < 4) (hx : ¬ xb b o < o) (v : IV b o s a0 c0 a c) (ha : ∀ j, a' j = if j = 17 + 4 * s + xb b o then a (17 + 4 * s + o) else if j = 17 + 4 * s + o then a (17 + 4 * s + xb b o) else a j) (hc : ∀ j, c' j = if j = 4 * s + xb b o then c (4 * s + o) else if j = 4 * s + o then c (4 * s + xb b o) else c j) : IV b (o + 1) s a0 c0 a' c' := by
  obtain ⟨p4, pp, pn⟩ := xb_all b hb o ho
  refine ⟨fun j hj => ?_, fun j hj => ?_, fun i hi => ?_⟩
  · rw [ha, if_neg (by omega), if_neg (by omega)]
    exact v.1 j hj
  · rw [hc, if_neg (by omega), if_neg (by omega)]
    exact v.2.1 j hj
  · rw [ha, hc]
    by_cases e1 : i = xb b o
    · rw [if_pos (by omega), if_pos (by omega), e1, (xq_o b hb o ho hx).2]
      exact v.2.2 o ho
    · by_cases e2 : i = o
      · rw [if_neg (by omega), if_pos (by omega), if_neg (by omega), if_pos (by omega), e2, (xq_o b hb o ho hx).1]
        exact v.2.2 _ p4
      · rw [if_neg (by omega), if_neg (by omega), if_neg (by omega), if_neg (by omega), xq_n b hb o ho i hi ⟨hx, e2, e1⟩]
        exact v.2.2 i hi
theorem xq_e4 : ∀ b : Nat, b < 3 → ∀ i, i < 4 → xq b 4 i = xb b i := by decide
theorem xq_e2 : ∀ i, i < 4 → xq 1 2 i = if i = 0 then 1 else if i = 1 then 0 else i := by decide
/-- a set whose outcomes change places keeps its numbers -/
theorem tq_pm {f g : Nat → Int32} {s : Nat} {q : Nat → Nat} (t : tq f 0 s) (hq : (q 0 = 1 ∧ q 1 = 0 ∧ q 2 = 2 ∧ q 3 = 3) ∨ (q 0 = 1 ∧ q 1 = 0 ∧ q 2 = 3 ∧ q 3 = 2) ∨ (q 0 = 2 ∧ q 1 = 3 ∧ q 2 = 0 ∧ q 3 = 1)) (h : ∀ i, i < 4 → g (17 + 4 * s + i) = f (17 + 4 * s + q i)) : tq g 0 s := by
  have t := tq_g t
  have e0 := h 0 (by omega)
  have e1 := h 1 (by omega)
  have e2 := h 2 (by omega)
  have e3 := h 3 (by omega)
  rw [Nat.add_zero] at e0
  refine tq_v rfl rfl rfl rfl ?_
  rcases hq with ⟨q0, q1, q2, q3⟩ | ⟨q0, q1, q2, q3⟩ | ⟨q0, q1, q2, q3⟩
  · rw [e0, e1, e2, e3, q0, q1, q2, q3]; simp only [Nat.add_zero]; omega
  · rw [e0, e1, e2, e3, q0, q1, q2, q3]; simp only [Nat.add_zero]; omega
  · rw [e0, e1, e2, e3, q0, q1, q2, q3]; simp only [Nat.add_zero]; omega
theorem i_ofN {x : Int32} {n : Nat} (h : x.toInt = (n : Int)) (hn : n < 2147483648) : x = Int32.ofNat n := Int32.toInt_inj.mp (by rw [h, Int32.toInt_ofNat_of_lt hn])
set_option maxRecDepth 100000 in
set_option maxHeartbeats 4000000 in
theorem v_flip_I {g : gT} {hs : mh_T} {P : Int32 → mh_T → Prop} (l1 l2 l3 : Int32) (s b : Nat) (es : l2.toInt = (s : Int)) (s8 : s < 8) (eb : l3.toInt = (b : Int)) (hb : b < 3) (hb0 : 0 < b) (nx : ∀ h', Ok [45, 47] hs h' → IV b (ocs (hs.1 45) s) s (hs.1 45) (hs.1 47) (h'.1 45) (h'.1 47) → ME g uX11_flip 35 [.ref 11, .int l1, .int (l2 + 1), .retAddr 0, .retAddr 0, .retAddr 0, .retAddr 0, .retAddr 0, .retAddr 0] [] h' (qI P)) : ∀ (n : Nat) (l4 : Int32) (o : Nat) (h : mh_T), l4.toInt = (o : Int) → o ≤ ocs (hs.1 45) s → ocs (hs.1 45) s - o < n → Ok [45, 47] hs h → IV b o s (hs.1 45) (hs.1 47) (h.1 45) (h.1 47) → ME g uX11_flip 124 [.ref 11, .int l1, .int l2, .int l3, .int l4, .retAddr 0, .retAddr 0, .retAddr 0, .retAddr 0] [] h (qI P) := by
  intro n
  induction n with
  | zero => intro l4 o h _ _ hn; exact absurd hn (Nat.not_lt_zero _)
  | succ n ih =>
    intro l4 o h eo ho hn ok iv
    have oc4 : ocs (hs.1 45) s ≤ 4 := by unfold ocs; split <;> omega
    have eoc : ocs (h.1 45) s = ocs (hs.1 45) s := by unfold ocs; rw [iv.1 _ (by omega)]
    refine r_X11_flip_124 l1 l2 l3 l4 (v_outcomes l2 s es s8 (fun v ev => ⟨fun c => ?_, fun c x4 e4 => ?_⟩))
    · have c := i_le.mp c
      rw [ev, eo, eoc] at c
      have : o = ocs (hs.1 45) s := by omega
      subst this
      exact nx h ok iv
    · have c := i_lt.mp (nle c)
      rw [ev, eo, eoc] at c
      have o4 : o < 4 := by omega
      obtain ⟨p4, pp, pn⟩ := xb_all b hb o o4
      have ep : x4.toInt = (xb b o : Int) := by
        rw [e4, i_ofN eo (by omega), i_ofN eb (by omega)]
        exact x4_all b hb hb0 o o4
      refine ⟨fun c2 x6 e6 x7 e7 => ?_, fun c2 => ?_⟩
      · have c2 := i_le.mp c2
        rw [eo, ep] at c2
        have hx : ¬ xb b o < o := by omega
        have i6 : x6.toInt = ((4 * s + o : Nat) : Int) := by rw [e6, i_add (i_4s es s8) eo (by omega)]; omega
        have i7 : x7.toInt = ((4 * s + xb b o : Nat) : Int) := by rw [e7, i_add (i_4s es s8) ep (by omega)]; omega
        have j6 : (17 + x6).toInt = ((17 + 4 * s + o : Nat) : Int) := by rw [i_add (show (17 : Int32).toInt = 17 from by decide) i6 (by omega)]; omega
        have j7 : (17 + x7).toInt = ((17 + 4 * s + xb b o : Nat) : Int) := by rw [i_add (show (17 : Int32).toInt = 17 from by decide) i7 (by omega)]; omega
        have v6 : vp_in (17 + x6) 346 := i_vp j6 (by omega)
        have v7 : vp_in (17 + x7) 346 := i_vp j7 (by omega)
        have u6 : vp_in x6 32 := i_vp i6 (by omega)
        have u7 : vp_in x7 32 := i_vp i7 (by omega)
        rw [i_nat j6, i_nat j7, i_nat i6, i_nat i7]
        refine ⟨v6, fun x9 e9 => ⟨v7, v6, v7, u6, fun x14 e14 => ⟨u7, u6, u7, ih (l4 + 1) (o + 1) _ (i_inc eo (by omega)) (by omega) (by omega) ?_ (IV_swap hb o4 hx iv (fun j => ?_) (fun j => ?_))⟩⟩⟩
        · exact Ok_w (Ok_w (Ok_w (Ok_w ok (k := 45) (j := 17 + 4 * s + o) (lo := -2147483648) (hi := 2147483647) (rgg_45_0 (by omega) (by omega)) (R_full _) (by decide) (nt_c (by decide) (fun _ => by omega))) (k := 45) (j := 17 + 4 * s + xb b o) (lo := -2147483648) (hi := 2147483647) (rgg_45_0 (by omega) (by omega)) (R_full _) (by decide) (nt_c (by decide) (fun _ => by omega))) (k := 47) (rgc_47 _) (R_full _) (by decide) (nt_k (by decide))) (k := 47) (rgc_47 _) (R_full _) (by decide) (nt_k (by decide))
        · rw [wI_o (by decide), wI_o (by decide), wI_i, wI_i, e9]
          rfl
        · have q14 : x14 = h.1 47 (4 * s + o) := by rw [e14]; show (wI (wI h 45 _ _) 45 _ _).1 47 _ = _; rw [wI_o (by decide), wI_o (by decide)]
          rw [wI_i, wI_i, wI_o (by decide), wI_o (by decide), q14]
          rfl
      · have c2 := i_lt.mp (nle c2)
        rw [eo, ep] at c2
        exact ih (l4 + 1) (o + 1) h (i_inc eo (by omega)) (by omega) (by omega) ok (IV_skip hb o4 (by omega) iv)
theorem pm_1 {a : Nat → Int32} {L : Int32} {s o : Nat} (h9 : a (9 + s) = -2) (h1 : a (1 + s) = L) (ho : o < 4) : pm a L s o = xq 1 2 o := by
  unfold pm
  rw [h9, if_pos (by decide), if_pos h1, xq_e2 o ho]
theorem pm_2 {a : Nat → Int32} {L : Int32} {s o : Nat} (h9 : 0 ≤ (a (9 + s)).toInt) (h1 : a (1 + s) = L) (ho : o < 4) : pm a L s o = xq 2 4 o := by
  unfold pm
  rw [if_neg (by omega), if_pos h1, xq_e4 2 (by decide) o ho]
  unfold xb
  rw [if_neg (show ¬ (2 = 1) by decide)]
theorem pm_3 {a : Nat → Int32} {L : Int32} {s o : Nat} (h9 : 0 ≤ (a (9 + s)).toInt) (h1 : ¬ a (1 + s) = L) (h2 : a (9 + s) = L) (ho : o < 4) : pm a L s o = xq 1 4 o := by
  unfold pm
  rw [if_neg (by omega), if_neg h1, if_pos h2, xq_e4 1 (by decide) o ho]
  unfold xb
  rw [if_pos rfl]
theorem pm_n1 {a : Nat → Int32} {L : Int32} {s o : Nat} (h9 : a (9 + s) = -2) (h1 : ¬ a (1 + s) = L) : pm a L s o = o := by
  unfold pm
  rw [h9, if_pos (by decide), if_neg h1]
theorem pm_n2 {a : Nat → Int32} {L : Int32} {s o : Nat} (h9 : 0 ≤ (a (9 + s)).toInt) (h1 : ¬ a (1 + s) = L) (h2 : ¬ a (9 + s) = L) : pm a L s o = o := by
  unfold pm
  rw [if_neg (by omega), if_neg h1, if_neg h2]
set_option maxRecDepth 100000 in
set_option maxHeartbeats 4000000 in
theorem v_flip_L {g : gT} {h0 : mh_T} {P : Int32 → mh_T → Prop} (l1 : Int32) (tz : TZ (h0.1 45)) (hp : ∀ h', Ok [45, 47] h0 h' → TQ (h'.1 45) 0 → flp l1 (h0.1 45) (h0.1 47) (h'.1 45) (h'.1 47) → MCi g yX11_did uX11_did [.ref 11, .int 0, .int l1, .int (-2), .int (-2), .int (-2)] h' (fun r3 h2 => (r3 = 0 ∨ r3 = 1) ∧ P r3 h2)) : ∀ (n : Nat) (l2 : Int32) (s : Nat) (h : mh_T), l2.toInt = (s : Int) → s ≤ sn (h0.1 45) → sn (h0.1 45) - s < n → Ok [45, 47] h0 h → TQ (h.1 45) 0 → FP l1 s (h0.1 45) (h0.1 47) (h.1 45) (h.1 47) → ME g uX11_flip 35 [.ref 11, .int l1, .int l2, .retAddr 0, .retAddr 0, .retAddr 0, .retAddr 0, .retAddr 0, .retAddr 0] [] h (qI P) := by
  intro n
  induction n with
  | zero => intro l2 s h _ _ hn; exact absurd hn (Nat.not_lt_zero _)
  | succ n ih =>
    intro l2 s h es hs hn ok t fp
    have n8 : sn (h0.1 45) ≤ 8 := by unfold sn; have := tz.2.1; omega
    have ec : (h.1 45 0).toInt = (sn (h0.1 45) : Int) := by rw [fp.1 0 (by omega)]; unfold sn; have := tz.1; omega
    refine r_X11_flip_35 l1 l2 ⟨fun c => hp h ok t (FP_e n8 ?_ fp), fun c => ?_⟩
    · have c := i_le.mp c
      rw [es] at c
      have c : (h.1 45 0).toInt ≤ (s : Int) := c
      omega
    · have c := i_lt.mp (nle c)
      rw [es] at c
      have c : (s : Int) < (h.1 45 0).toInt := c
      have s8 : s < 8 := by omega
      have sl : s < sn (h0.1 45) := by omega
      have j1 := i_1s es s8
      have j9 := i_9 es s8
      have v1 : vp_in (1 + l2) 346 := i_vp j1 (by omega)
      have v9 : vp_in (9 + l2) 346 := i_vp j9 (by omega)
      rw [i_nat j1, i_nat j9]
      have q1 : mI h 45 (1 + s) = h0.1 45 (1 + s) := fp.1 _ (by omega)
      have q9 : mI h 45 (9 + s) = h0.1 45 (9 + s) := fp.1 _ (by omega)
      rw [q1, q9]
      have nxt : ∀ h', Ok [45, 47] h h' → TQ (h'.1 45) 0 → FP l1 (s + 1) (h0.1 45) (h0.1 47) (h'.1 45) (h'.1 47) → ME g uX11_flip 35 [.ref 11, .int l1, .int (l2 + 1), .retAddr 0, .retAddr 0, .retAddr 0, .retAddr 0, .retAddr 0, .retAddr 0] [] h' (qI P) := fun h' k' t' f' => ih (l2 + 1) (s + 1) h' (i_inc es (by omega)) (by omega) (by omega) (Ok_tr ok k' (by decide)) t' f'
      have gen : ∀ (l3 : Int32) (b : Nat), l3.toInt = (b : Int) → b < 3 → 0 < b → (∀ o, o < 4 → pm (h0.1 45) l1 s o = xq b (ocs (h.1 45) s) o) → ((xq b (ocs (h.1 45) s) 0 = 1 ∧ xq b (ocs (h.1 45) s) 1 = 0 ∧ xq b (ocs (h.1 45) s) 2 = 2 ∧ xq b (ocs (h.1 45) s) 3 = 3) ∨ (xq b (ocs (h.1 45) s) 0 = 1 ∧ xq b (ocs (h.1 45) s) 1 = 0 ∧ xq b (ocs (h.1 45) s) 2 = 3 ∧ xq b (ocs (h.1 45) s) 3 = 2) ∨ (xq b (ocs (h.1 45) s) 0 = 2 ∧ xq b (ocs (h.1 45) s) 1 = 3 ∧ xq b (ocs (h.1 45) s) 2 = 0 ∧ xq b (ocs (h.1 45) s) 3 = 1)) → ME g uX11_flip 124 [.ref 11, .int l1, .int l2, .int l3, .int 0, .retAddr 0, .retAddr 0, .retAddr 0, .retAddr 0] [] h (qI P) := by
        intro l3 b eb hb hb0 hpm hq
        refine v_flip_I l1 l2 l3 s b es s8 eb hb hb0 (fun h' k' iv => nxt h' k' (TQ_i (fun s' hs' => ?_)) (FP_s s8 fp iv.1 iv.2.1 (fun o ho => ?_))) 5 0 0 h (by decide) (Nat.zero_le _) (by unfold ocs; split <;> omega) (Ok_rf ok.1) (IV_0 b s _ _)
        · by_cases e : s' = s
          · subst e
            exact tq_pm (t s' hs') hq (fun i hi => (iv.2.2 i hi).1)
          · exact tq_x (t s' hs') (fun i hi => iv.1 _ (by omega))
        · rw [hpm o ho]
          exact iv.2.2 o ho
      have o9 : h.1 45 (9 + s) = h0.1 45 (9 + s) := q9
      refine ⟨v9, fun z => ?_, fun z => ?_⟩
      · have nn : 0 ≤ (h0.1 45 (9 + s)).toInt := by
          rcases (tz.2.2 s sl).1 with w | w
          · exact absurd w.1 z
          · exact w
        have oc : ocs (h.1 45) s = 4 := by unfold ocs; rw [o9, if_neg z]
        refine ⟨v1, fun n1 => ⟨v9, fun n2 => nxt h (Ok_rf ok.1) t (FP_n s8 fp (fun o _ => pm_n2 nn n1 n2)), fun y2 => gen 1 1 (by decide) (by decide) (by decide) (fun o ho => by rw [oc]; exact pm_3 nn n1 y2 ho) (by rw [oc]; exact Or.inr (Or.inl (by decide)))⟩, fun y1 => gen 2 2 (by decide) (by decide) (by decide) (fun o ho => by rw [oc]; exact pm_2 nn y1 ho) (by rw [oc]; exact Or.inr (Or.inr (by decide)))⟩
      · have oc : ocs (h.1 45) s = 2 := by unfold ocs; rw [o9, if_pos z]
        exact ⟨v1, fun n1 => nxt h (Ok_rf ok.1) t (FP_n s8 fp (fun o _ => pm_n1 z n1)), fun y1 => gen 1 1 (by decide) (by decide) (by decide) (fun o ho => by rw [oc]; exact pm_1 z y1 ho) (by rw [oc]; exact Or.inl (by decide))⟩
/-- the table is kept aside -/
theorem v_was {g : gT} {h : mh_T} {P : mh_T → Prop} (hG : GI h) (t : TVs h) (hp : ∀ h', Ok [48] h h' → TVs h' → (∀ j, j < 49 → h'.1 48 j = h.1 45 j) → P h') : MCv g yX11_copy uX11_copy [.ref 45, .int 0, .ref 48, .int 0, .int 49] h P := by
  refine t_copy 45 346 0 48 49 0 rfl rfl (by decide) (by decide) 0 0 (by decide) (by decide) (by decide) (by decide) (by decide) (by decide) rr45 rr48 (by decide) hG (fun h' ok cp => hp h' ok ?_ (fun j hj => ?_))
  · have e45 := OkC ok (k := 45) (by decide)
    refine ⟨?_, TQ_cp t.1 cp.1, ?_, ?_, ?_, ?_⟩
    · rw [e45]; exact t.1
    · rw [OkC ok (k := 49) (by decide)]; exact t.2.2.1
    · rw [OkC ok (k := 50) (by decide)]; exact t.2.2.2.1
    · rw [OkC ok (k := 51) (by decide)]; exact t.2.2.2.2.1
    · rw [e45]; exact t.2.2.2.2.2
  · have := cp.1 j hj
    rw [Nat.mul_zero, Nat.zero_add] at this
    exact this
/-- done: from the table kept aside, over what happened to it, to the act -/
theorem v_done {g : gT} {h h1 h2 h3 : mh_T} {P : Int32 → mh_T → Prop} (l1 l2 l3 l4 l5 : Int32) (u : Nat) (eu : (mI h 11 24).toInt = (u : Int)) (o1 : Ok [300, 11] h h1) (o2 : Ok [48] h1 h2) (e48 : ∀ j, j < 49 → h2.1 48 j = h1.1 45 j) (o3 : Ok [45, 47] h2 h3) (t3 : TVs h3) (hp : ∀ h', Ok msR h h' → TVs h' → h'.1 45 = h3.1 45 → h'.1 47 = h3.1 47 → HD u (ac5 l1 l2 l3 l4 l5) h h' → P 1 h') : MCi g yX11_did uX11_did [.ref 11, .int l1, .int l2, .int l3, .int l4, .int l5] h3 (fun r h' => (r = 0 ∨ r = 1) ∧ P r h') := by
  have e24 : ∀ j, 24 ≤ j → j ≤ 26 → mI h3 11 j = mI h 11 j := fun j h1' h2' => by rw [Ok_24 o3 (by decide) j h1' h2', Ok_24 o2 (by decide) j h1' h2', Ok_24 o1 (by decide) j h1' h2']
  refine v_did l1 l2 l3 l4 l5 u (by rw [e24 24 (by decide) (by decide)]; exact eu) o3.1 t3 (fun h' k' _ t' d => ⟨Or.inr rfl, hp h' ?_ t' (OkC k' (by decide)) (OkC k' (by decide)) (HD_of d (e24 26 (by decide) (by decide)) (fun j hj => ?_) ?_ ?_)⟩)
  · exact Ok_tr (Ok_tr (Ok_tr (Ok_mono o1 (by decide)) o2 (by decide)) o3 (by decide)) k' (by decide)
  · rw [OkC o3 (k := 48) (by decide), e48 j hj, OkC o1 (k := 45) (by decide)]
  · rw [OkC o3 (k := 49) (by decide), OkC o2 (k := 49) (by decide), OkC o1 (k := 49) (by decide)]
  · rw [OkC o3 (k := 52) (by decide), OkC o2 (k := 52) (by decide), OkC o1 (k := 52) (by decide)]
theorem v_isNot {g : gT} {h h1 : mh_T} {P : Int32 → mh_T → Prop} (l : Int32) (hl : ¬ l = 4) (o1 : Ok [300, 11] h h1) (hp : ∀ h', Ok [300, 11] h h' → P 0 h') : MCi g yX11_isNot uX11_isNot [.ref 11, .int l] h1 (fun r h' => (r = 0 ∨ r = 1) ∧ P r h') := e_X11_isNot l ⟨Or.inl rfl, hp _ (Ok_w11 o1 hl (by decide))⟩
theorem TVs_4547 {h h' : mh_T} (t : TVs h) (ok : Ok [45, 47] h h') (tq : TQ (h'.1 45) 0) : TVs h' := TVs_45 t tq (OkC ok (by decide)) (OkC ok (by decide)) (OkC ok (by decide)) (OkC ok (by decide)) (ok.2.2.2.2.1 45 49 (by decide)) (ok.2.2.2.2.1 45 50 (by decide))
theorem TVs_ok {ms : List Nat} {h h' : mh_T} (t : TVs h) (ok : Ok ms h h') (hm : 45 ∉ ms ∧ 48 ∉ ms ∧ 49 ∉ ms ∧ 50 ∉ ms ∧ 51 ∉ ms) : TVs h' := by
  unfold TVs
  rw [OkC ok ⟨by decide, hm.1⟩, OkC ok ⟨by decide, hm.2.1⟩, OkC ok ⟨by decide, hm.2.2.1⟩, OkC ok ⟨by decide, hm.2.2.2.1⟩, OkC ok ⟨by decide, hm.2.2.2.2⟩]
  exact t
theorem v_X11_flip {g : gT} {h : mh_T} {P : Int32 → mh_T → Prop} (l1 : Int32) (u : Nat) (eu : (mI h 11 24).toInt = (u : Int)) (hG : GI h) (hI : TVs h) (hB : NB h) (tz : TZ (h.1 45)) (h0 : ¬ LKb h l1 → ∀ h', Ok [300, 11] h h' → P 0 h') (hp : LKb h l1 → ∀ h', Ok msR h h' → TVs h' → flp l1 (h.1 45) (h.1 47) (h'.1 45) (h'.1 47) → HD u (ac5 0 l1 (-2) (-2) (-2)) h h' → P 1 h') : MCi g yX11_flip uX11_flip [.ref 11, .int l1] h P := by
  refine e_X11_flip l1 (v_good hG (fun h1 k1 => ?_))
  have e45 : h1.1 45 = h.1 45 := OkC k1 (by decide)
  have lk : LKb h1 l1 ↔ LKb h l1 := by unfold LKb; rw [show mI h1 45 50 = mI h 45 50 from congrFun e45 50]
  refine v_isLook l1 k1.1 (NB_ok k1 (by decide) hB) (fun q => ⟨fun _ => ?_, fun z => absurd z (by decide)⟩) (fun q => ⟨fun z => absurd rfl z, fun _ => v_isNot 1 (by decide) k1 (h0 (fun y => q (lk.mpr y)))⟩)
  refine v_was k1.1 (TVs_ok hI k1 (by decide)) (fun h2 k2 t2 e48 => ?_)
  have e45' : h2.1 45 = h.1 45 := by rw [OkC k2 (k := 45) (by decide), e45]
  have e47' : h2.1 47 = h.1 47 := by rw [OkC k2 (k := 47) (by decide), OkC k1 (k := 47) (by decide)]
  refine v_flip_L l1 (by rw [e45']; exact tz) (fun h3 k3 t3 fl => v_done 0 l1 (-2) (-2) (-2) u eu k1 k2 e48 k3 (TVs_4547 t2 k3 t3) (fun h' k' t' e5 e7 hd => hp (lk.mp q) h' k' t' (by rw [e5, e7]; rw [e45', e47'] at fl; exact fl) hd)) 9 0 0 h2 (by decide) (Nat.zero_le _) ?_ (Ok_rf k2.1) t2.1 (FP_0 l1 _ _)
  have := tz.2.1
  rw [e45']
  unfold sn
  omega
