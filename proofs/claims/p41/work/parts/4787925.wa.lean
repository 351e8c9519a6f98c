/-! LINES: what is asked of them -/
abbrev pcn (s : Nat) : Nat := S9 (fun t => bt (Int32.ofNat s) t)
theorem s9_le (g : Nat → Bool) : S9 g ≤ 9 := by
  have t : ∀ b : Bool, b.toNat ≤ 1 := fun b => by cases b <;> decide
  unfold S9
  have := t (g 0); have := t (g 1); have := t (g 2); have := t (g 3); have := t (g 4); have := t (g 5); have := t (g 6); have := t (g 7); have := t (g 8)
  omega
theorem s9_mono {g g' : Nat → Bool} (h : ∀ t, t < 9 → g t = true → g' t = true) : S9 g ≤ S9 g' := by
  have t : ∀ i, i < 9 → (g i).toNat ≤ (g' i).toNat := fun i hi => by
    have := h i hi
    cases a : g i
    · exact Nat.zero_le _
    · rw [this a]; exact Nat.le_refl _
  unfold S9
  have := t 0 (by decide); have := t 1 (by decide); have := t 2 (by decide); have := t 3 (by decide); have := t 4 (by decide); have := t 5 (by decide); have := t 6 (by decide); have := t 7 (by decide); have := t 8 (by decide)
  omega
theorem pcn_i (s : Nat) : (Int32.ofNat (pcn s)).toInt = (pcn s : Int) := Int32.toInt_ofNat_of_lt (by have : pcn s ≤ 9 := s9_le _; omega)
def btr (x : Int32) : Nat → Int32
  | 0 => 0
  | k + 1 => btr x k + ((x >>> (Int32.ofNat k &&& 31)) &&& 1)
set_option maxRecDepth 100000 in
theorem btr_n : ∀ w, w < 256 → btr (Int32.ofNat w) 20 = Int32.ofNat (pcn w) := by decide +kernel
theorem w_bits {g : gT} {h : mh_T} {P : Int32 → mh_T → Prop} {w : Nat} (l0 : Int32) (e : l0.toInt = (w : Int)) (hw : w < 256) (hp : P (Int32.ofNat (pcn w)) h) : MCi g yX11_bits uX11_bits [.int l0] h P := by
  have L : ∀ (q : Nat) (l1 l2 : Int32) (k : Nat), l2.toInt = (k : Int) → k ≤ 20 → 20 - k < q → l1 = btr l0 k → ME g uX11_bits 4 [.int l0, .int l1, .int l2] [] h (qI P) := by
    intro q
    induction q with
    | zero => intro l1 l2 k _ _ hq; exact absurd hq (Nat.not_lt_zero _)
    | succ q ih =>
      intro l1 l2 k e2 hk hq e1
      refine r_X11_bits_4 l0 l1 l2 ⟨fun z => ?_, fun z x2 ex => ?_⟩
      · rw [i_le, show (20 : Int32).toInt = 20 by decide, e2] at z
        have : k = 20 := by omega
        subst this
        rw [e1, i_of e (by omega), btr_n w hw]
        exact hp
      · rw [i_le, show (20 : Int32).toInt = 20 by decide, e2] at z
        refine ih x2 (l2 + 1) (k + 1) (i_inc e2 (by omega)) (by omega) (by omega) ?_
        rw [ex, e1, i_of e2 (by omega)]
        rfl
  exact e_X11_bits l0 (L 21 0 0 0 (by decide) (Nat.zero_le _) (by omega) rfl)
theorem v_bc {g : gT} {h : mh_T} {P : Int32 → mh_T → Prop} {w : Nat} (l0 : Int32) (e : l0.toInt = (w : Int)) (hw : w < 256) (hp : P (Int32.ofNat (pcn w)) h) : MCi g yJ6_bitCount_0f7a4 uJ6_bitCount_0f7a4 [.int l0] h P := by
  refine v_bitCount l0 ?_
  rw [i_of e (by omega), bc_n w (by omega)]
  exact hp
theorem m2n {m : Nat} (hm : m ≤ 9) : ((2 ^ m : Nat) : Int) = (2 : Int) ^ m ∧ 2 ^ m ≤ 512 := by
  rcases (show m = 0 ∨ m = 1 ∨ m = 2 ∨ m = 3 ∨ m = 4 ∨ m = 5 ∨ m = 6 ∨ m = 7 ∨ m = 8 ∨ m = 9 by omega) with q | q | q | q | q | q | q | q | q | q <;> subst q <;> decide
theorem shl_m {x : Int32} {m : Nat} (em : x.toInt = (m : Int)) (hm : m ≤ 9) : ((1 : Int32) <<< (x &&& 31)).toInt = ((2 ^ m : Nat) : Int) := by
  rw [i_of em (by omega), shl_n (by omega), (m2n hm).1]
theorem w_canLines {g : gT} {h : mh_T} {P : Int32 → mh_T → Prop} {n m s : Nat} (l1 : Int32) (e1 : l1.toInt = (s : Int)) (hs : s < 256) (en : (mI h 45 52).toInt = (n : Int)) (hn : n ≤ 8) (em : (mI h 45 51).toInt = (m : Int)) (hm9 : m ≤ 9) (h1 : CL (fun j => mI h 45 j) n m s → P 1 h) (h0 : ¬ CL (fun j => mI h 45 j) n m s → P 0 h) : MCi g yX11_canLines uX11_canLines [.ref 11, .int l1] h P := by
  have n51 : Int32.toNatClampNeg 51 = 51 := by decide
  have m2 := m2n hm9
  have pm := shl_m em hm9
  have sb : ∀ y : Int32, (l1 &&& (y ^^^ (-1))) = 0 ↔ ∀ t, t < 8 → bt (Int32.ofNat s) t = true → bt y t = true := fun y => by
    rw [sub_0, i_of e1 (by omega)]
    refine ⟨fun q t ht hx => q t (by omega) hx, fun q t ht hx => ?_⟩
    by_cases z : t < 8
    · exact q t z hx
    · rw [bt_hi hs (by omega)] at hx; cases hx
  have L : ∀ (q : Nat) (l2 l3 : Int32) (v : Nat), l3.toInt = (v : Int) → v ≤ 2 ^ m → 2 ^ m - v < q → ((l2 = 0 ∧ ∀ w, w < v → ¬ ∀ t, t < 8 → bt (Int32.ofNat s) t = true → bt (sv (fun j => mI h 45 j) n w) t = true) ∨ (l2 = 1 ∧ CL (fun j => mI h 45 j) n m s)) → ME g uX11_canLines 4 [.ref 11, .int l1, .int l2, .int l3] [] h (qI P) := by
    intro q
    induction q with
    | zero => intro l2 l3 v _ _ hq; exact absurd hq (Nat.not_lt_zero _)
    | succ q ih =>
      intro l2 l3 v e3 hv hq iv
      have one : l2 = 1 ∧ CL (fun j => mI h 45 j) n m s → (l2 = 0 ∨ l2 = 1) ∧ P l2 h := fun z => by
        rw [z.1]
        exact ⟨Or.inr rfl, h1 z.2⟩
      refine r_X11_canLines_4 l1 l2 l3 ⟨fun z => ?_, fun z => ⟨fun y => ?_, fun y => ?_⟩⟩
      · rw [n51, i_le, pm, e3] at z
        rcases iv with a | a
        · rw [a.1]
          refine ⟨Or.inl rfl, h0 (fun ⟨w, w1, w2⟩ => a.2 w (by omega) w2)⟩
        · exact one a
      · rcases iv with a | a
        · exact absurd a.1 y
        · exact one a
      · rw [n51, i_le, pm, e3] at z
        have a := iv.resolve_right (fun a => absurd (a.1.symm.trans y) (by decide))
        have e3' := i_inc e3 (by omega)
        have ev : l3 = Int32.ofNat v := i_of e3 (by omega)
        refine w_linesBy l3 en hn ⟨fun x => ih 0 (l3 + 1) (v + 1) e3' (by omega) (by omega) (Or.inl ⟨rfl, fun w hw => ?_⟩), fun x => ih 1 (l3 + 1) (v + 1) e3' (by omega) (by omega) (Or.inr ⟨rfl, v, by omega, ?_⟩)⟩
        · by_cases c : w = v
          · subst c
            rw [sb, ev] at x
            exact x
          · exact a.2 w (by omega)
        · rw [sb, ev] at x
          exact x
  exact e_X11_canLines l1 (L (2 ^ m + 1) 0 0 0 (by decide) (Nat.zero_le _) (Nat.lt_succ_of_le (Nat.sub_le _ _)) (Or.inl ⟨rfl, fun w hw => absurd hw (Nat.not_lt_zero _)⟩))
/-- how many of the first v -/
def ctb (p : Nat → Bool) : Nat → Int32
  | 0 => 0
  | v + 1 => if p v = true then ctb p v + 1 else ctb p v
theorem ctb_le {p : Nat → Bool} : ∀ v, v ≤ 600 → 0 ≤ (ctb p v).toInt ∧ (ctb p v).toInt ≤ v
  | 0, _ => show 0 ≤ (0 : Int32).toInt ∧ (0 : Int32).toInt ≤ (0 : Nat) from by decide
  | v + 1, hv => by
    have ih := ctb_le (p := p) v (by omega)
    show 0 ≤ (if p v = true then ctb p v + 1 else ctb p v).toInt ∧ (if p v = true then ctb p v + 1 else ctb p v).toInt ≤ ((v + 1 : Nat) : Int)
    split
    · rw [i_add (a := (ctb p v).toInt) rfl (show (1 : Int32).toInt = 1 by decide) (by omega)]
      omega
    · omega
theorem ctb_0 {p : Nat → Bool} : ∀ v, v ≤ 600 → (ctb p v = 0 ↔ ∀ w, w < v → p w = false)
  | 0, _ => ⟨fun _ w hw => absurd hw (Nat.not_lt_zero _), fun _ => rfl⟩
  | v + 1, hv => by
    have ih := ctb_0 (p := p) v (by omega)
    have le := ctb_le (p := p) v (by omega)
    show (if p v = true then ctb p v + 1 else ctb p v) = 0 ↔ _
    split
    · rename_i q
      refine ⟨fun z => ?_, fun z => absurd q (by rw [z v (by omega)]; decide)⟩
      have := congrArg Int32.toInt z
      rw [i_add (a := (ctb p v).toInt) rfl (show (1 : Int32).toInt = 1 by decide) (by omega), show (0 : Int32).toInt = 0 by decide] at this
      omega
    · rename_i q
      rw [ih]
      refine ⟨fun z w hw => ?_, fun z w hw => z w (by omega)⟩
      by_cases c : w = v
      · subst c; exact Bool.eq_false_iff.mpr q
      · exact z w (by omega)
theorem wyc_ct {f : Nat → Int32} {n : Nat} : ∀ v, wyc f n v = ctb (fun w => decide (sv f n w = An n)) v
  | 0 => rfl
  | v + 1 => by
    show (if sv f n v = An n then wyc f n v + 1 else wyc f n v) = (if decide (sv f n v = An n) = true then _ else _)
    rw [wyc_ct v]
    by_cases q : sv f n v = An n
    · rw [if_pos q, if_pos (decide_eq_true q)]
    · rw [if_neg q, if_neg (fun z => q (of_decide_eq_true z))]
theorem wyc_0 {f : Nat → Int32} {n m : Nat} (hm : m ≤ 9) : wyc f n (2 ^ m) = 0 ↔ ∀ w, w < 2 ^ m → ¬ sv f n w = An n := by
  rw [wyc_ct, ctb_0 _ (by have := (m2n hm).2; omega)]
  exact ⟨fun z w hw q => absurd (z w hw) (by rw [decide_eq_true q]; decide), fun z w hw => decide_eq_false (z w hw)⟩
abbrev oneB (f : Nat → Int32) (n m p : Nat) (b : Bool) : Prop := ∃ w, w < 2 ^ m ∧ sv f n w = An n ∧ bt (Int32.ofNat w) p = b
/-- what a point must be -/
def fcv (N O : Prop) (r : Int32) : Prop := (¬ N → ¬ O → r = -1) ∧ (¬ N → O → r = 1) ∧ (N → ¬ O → r = 0) ∧ (N → O → r = -2)
theorem fcv_u {N O : Prop} {r r' : Int32} (a : fcv N O r) (b : fcv N O r') : r = r' := by
  by_cases n : N <;> by_cases o : O
  · rw [a.2.2.2 n o, b.2.2.2 n o]
  · rw [a.2.2.1 n o, b.2.2.1 n o]
  · rw [a.2.1 n o, b.2.1 n o]
  · rw [a.1 n o, b.1 n o]
theorem w_forced_L {g : gT} {h : mh_T} {P : Int32 → mh_T → Prop} {n m p : Nat} (l1 : Int32) (e1 : l1.toInt = (p : Int)) (hp9 : p < 9) (en : (mI h 45 52).toInt = (n : Int)) (hn : n ≤ 8) (em : (mI h 45 51).toInt = (m : Int)) (hm9 : m ≤ 9) (hno : (∀ r, fcv (oneB (fun j => mI h 45 j) n m p false) (oneB (fun j => mI h 45 j) n m p true) r → r = -1) → MCi g yX11_no uX11_no [.ref 11, .int 6] h (fun r h' => P r h')) (hp : ∀ r, fcv (oneB (fun j => mI h 45 j) n m p false) (oneB (fun j => mI h 45 j) n m p true) r → P r h) : ME g uX11_forced 41 [.ref 11, .int l1, .int 0, .int 0, .int 0] [] h (qI P) := by
  have n51 : Int32.toNatClampNeg 51 = 51 := by decide
  have n52 : Int32.toNatClampNeg 52 = 52 := by decide
  have m2 := m2n hm9
  have pm := shl_m em hm9
  have L : ∀ (q : Nat) (l2 l3 l4 : Int32) (v : Nat), l4.toInt = (v : Int) → v ≤ 2 ^ m → 2 ^ m - v < q → l2 = ctb (fun w => decide (sv (fun j => mI h 45 j) n w = An n) && !bt (Int32.ofNat w) p) v → l3 = ctb (fun w => decide (sv (fun j => mI h 45 j) n w = An n) && bt (Int32.ofNat w) p) v → ME g uX11_forced 41 [.ref 11, .int l1, .int l2, .int l3, .int l4] [] h (qI P) := by
    intro q
    induction q with
    | zero => intro l2 l3 l4 v _ _ hq; exact absurd hq (Nat.not_lt_zero _)
    | succ q ih =>
      intro l2 l3 l4 v e4 hv hq e2 e3
      refine r_X11_forced_41 l1 l2 l3 l4 ⟨fun z => ?_, fun z => ?_⟩
      · rw [n51, i_le, pm, e4] at z
        have : v = 2 ^ m := by omega
        subst this
        have b2 := ctb_le (p := fun w => decide (sv (fun j => mI h 45 j) n w = An n) && !bt (Int32.ofNat w) p) (2 ^ m) (by omega)
        have b3 := ctb_le (p := fun w => decide (sv (fun j => mI h 45 j) n w = An n) && bt (Int32.ofNat w) p) (2 ^ m) (by omega)
        have c2 : l2 = 0 ↔ ¬ oneB (fun j => mI h 45 j) n m p false := by
          rw [e2, ctb_0 _ (by omega)]
          refine ⟨fun y ⟨w, w1, w2, w3⟩ => ?_, fun y w hw => ?_⟩
          · have := y w w1
            rw [decide_eq_true w2, w3] at this
            cases this
          · by_cases c : sv (fun j => mI h 45 j) n w = An n
            · cases d : bt (Int32.ofNat w) p
              · exact absurd ⟨w, hw, c, d⟩ y
              · rw [Bool.not_true, Bool.and_false]
            · rw [decide_eq_false c, Bool.false_and]
        have c3 : l3 = 0 ↔ ¬ oneB (fun j => mI h 45 j) n m p true := by
          rw [e3, ctb_0 _ (by omega)]
          refine ⟨fun y ⟨w, w1, w2, w3⟩ => ?_, fun y w hw => ?_⟩
          · have := y w w1
            rw [decide_eq_true w2, w3] at this
            cases this
          · by_cases c : sv (fun j => mI h 45 j) n w = An n
            · cases d : bt (Int32.ofNat w) p
              · rw [Bool.and_false]
              · exact absurd ⟨w, hw, c, d⟩ y
            · rw [decide_eq_false c, Bool.false_and]
        rw [← e2] at b2
        rw [← e3] at b3
        have cs : (l2 + l3) = 0 ↔ l2 = 0 ∧ l3 = 0 := by
          have e : (l2 + l3).toInt = l2.toInt + l3.toInt := i_add rfl rfl (by omega)
          constructor
          · intro y
            rw [y, show (0 : Int32).toInt = 0 by decide] at e
            exact ⟨Int32.toInt_inj.mp (by rw [show (0 : Int32).toInt = 0 by decide]; omega), Int32.toInt_inj.mp (by rw [show (0 : Int32).toInt = 0 by decide]; omega)⟩
          · rintro ⟨a, b⟩
            rw [a, b]; rfl
        refine ⟨fun y => ⟨fun x => ⟨fun w => hp _ ⟨fun a => absurd (c2.mpr a) x, fun a => absurd (c2.mpr a) x, fun _ b => absurd (c3.mpr b) w, fun _ _ => rfl⟩, fun w => hp _ ⟨fun a => absurd (c2.mpr a) x, fun a => absurd (c2.mpr a) x, fun _ _ => rfl, fun _ b => absurd b (c3.mp w)⟩⟩, fun x => hp _ ⟨fun a b => absurd (cs.mpr ⟨x, c3.mpr b⟩) y, fun _ _ => rfl, fun a => absurd a (c2.mp x), fun a => absurd a (c2.mp x)⟩⟩, fun y => hno (fun r f => f.1 (c2.mp (cs.mp y).1) (c3.mp (cs.mp y).2))⟩
      · rw [n51, i_le, pm, e4] at z
        refine w_linesBy l4 en hn (e_X11_allLines ?_)
        rw [n52]
        have ev : l4 = Int32.ofNat v := i_of e4 (by omega)
        have e4' := i_inc e4 (by omega)
        have ea : (1 <<< ((mI h 45 52) &&& 31)) - 1 = An n := by unfold An; rw [← i_of en (by omega)]
        rw [ea]
        refine ⟨fun y => e_X11_has l4 l1 ?_, fun y => ih l2 l3 (l4 + 1) (v + 1) e4' (by omega) (by omega) ?_ ?_⟩
        · rw [bt_1 e1 hp9]
          have yd : decide (sv (fun j => mI h 45 j) n v = An n) = true := decide_eq_true (by show slb _ (Int32.ofNat v) n = An n; rw [← ev]; exact y)
          rw [ev]
          refine ⟨fun x => ⟨fun _ => ?_, fun w => absurd rfl w⟩, fun x => ⟨fun w => absurd w (by decide), fun _ => ?_⟩⟩
          · rw [← ev]
            refine ih (l2 + 1) l3 (l4 + 1) (v + 1) e4' (by omega) (by omega) ?_ ?_
            · show l2 + 1 = if (decide (sv (fun j => mI h 45 j) n v = An n) && !bt (Int32.ofNat v) p) = true then _ else _
              rw [yd, Bool.eq_false_iff.mpr x, if_pos (by decide), e2]
            · show l3 = if (decide (sv (fun j => mI h 45 j) n v = An n) && bt (Int32.ofNat v) p) = true then _ else _
              rw [yd, Bool.eq_false_iff.mpr x, if_neg (by decide), e3]
          · rw [← ev]
            refine ih l2 (l3 + 1) (l4 + 1) (v + 1) e4' (by omega) (by omega) ?_ ?_
            · show l2 = if (decide (sv (fun j => mI h 45 j) n v = An n) && !bt (Int32.ofNat v) p) = true then _ else _
              rw [yd, x, if_neg (by decide), e2]
            · show l3 + 1 = if (decide (sv (fun j => mI h 45 j) n v = An n) && bt (Int32.ofNat v) p) = true then _ else _
              rw [yd, x, if_pos (by decide), e3]
        · have yd : decide (sv (fun j => mI h 45 j) n v = An n) = false := decide_eq_false (by show ¬ slb _ (Int32.ofNat v) n = An n; rw [← ev]; exact y)
          show l2 = if (decide (sv (fun j => mI h 45 j) n v = An n) && !bt (Int32.ofNat v) p) = true then _ else _
          rw [yd, Bool.false_and, if_neg (by decide), e2]
        · have yd : decide (sv (fun j => mI h 45 j) n v = An n) = false := decide_eq_false (by show ¬ slb _ (Int32.ofNat v) n = An n; rw [← ev]; exact y)
          show l3 = if (decide (sv (fun j => mI h 45 j) n v = An n) && bt (Int32.ofNat v) p) = true then _ else _
          rw [yd, Bool.false_and, if_neg (by decide), e3]
  exact L (2 ^ m + 1) 0 0 0 0 (by decide) (Nat.zero_le _) (Nat.lt_succ_of_le (Nat.sub_le _ _)) rfl rfl
theorem v_valueOf {g : gT} {h : mh_T} {P : Int32 → mh_T → Prop} {f : Nat → Int32} {n m p : Nat} (l1 : Int32) (e1 : l1.toInt = (p : Int)) (hp9 : p < 9) (hm9 : m ≤ 9) (lf : LF f n m h) (h2 : ¬ mI h 7 2 = 0) (hp : ∀ r, fcv (oneB f n m p false) (oneB f n m p true) r → P r h) : MCi g yX5_valueOf uX5_valueOf [.ref 7, .int l1] h P := by
  have l3 := lf.2.2.2.1 p hp9
  have l4 := lf.2.2.2.2.1 p hp9
  have nn : ¬ (¬ oneB f n m p false ∧ ¬ oneB f n m p true) := fun z => by
    rw [lf.2.2.1, wyc_0 hm9] at h2
    refine h2 (fun w hw q => ?_)
    cases d : bt (Int32.ofNat w) p
    · exact z.1 ⟨w, hw, q, d⟩
    · exact z.2 ⟨w, hw, q, d⟩
  have z3 : bt (mI h 7 3) p = false ↔ ¬ oneB f n m p true := by rw [← Bool.not_eq_true, l3]
  have z4 : bt (mI h 7 4) p = false ↔ ¬ oneB f n m p false := by rw [← Bool.not_eq_true, l4]
  refine e_X5_valueOf l1 ?_
  rw [bt_0 e1 hp9, bt_0 e1 hp9, z3, z4]
  exact ⟨fun a => ⟨fun b => absurd ⟨b, a⟩ nn, fun b => hp _ ⟨fun c => absurd c b, fun _ c => absurd c a, fun _ _ => rfl, fun _ c => absurd c a⟩⟩, fun a => ⟨fun b => hp _ ⟨fun _ c => absurd c a, fun _ _ => rfl, fun c => absurd c b, fun c => absurd c b⟩, fun b => hp _ ⟨fun c => absurd c b, fun c => absurd c b, fun _ c => absurd c a, fun _ _ => rfl⟩⟩⟩
