/-! bets, and looks that are disturbed: both sides compute one function of the table -/
/-- the outcome of set s that hidden answers h fit -/
def fo (a : Nat → Int32) (s : Nat) (h : Int32) : Int32 := if a (9 + s) = -2 then bv h (a (1 + s)) else (2 * bv h (a (1 + s))) + bv h (a (9 + s))
theorem bv01 (v x : Int32) : R 0 1 (bv v x) := R_and (show R 1 1 1 from ⟨by decide, by decide⟩) (by decide)
theorem fo_R (a : Nat → Int32) (s : Nat) (h : Int32) : R 0 3 (fo a s h) := by
  unfold fo
  split
  · exact R_w (bv01 _ _) (by decide)
  · exact R_add (R_mul (show R 2 2 2 from ⟨by decide, by decide⟩) (bv01 _ _) 0 2 (by decide)) (bv01 _ _) 0 3 (by decide)
theorem fo_n (a : Nat → Int32) (s : Nat) (h : Int32) : (fo a s h).toInt = ((fo a s h).toInt.toNat : Int) ∧ (fo a s h).toInt.toNat < 4 := by
  have f := fo_R a s h
  have := f.1
  have := f.2
  omega
theorem fo_cg {a b : Nat → Int32} {s : Nat} (e : sE a s b s) (h : Int32) : fo a s h = fo b s h := by
  unfold fo
  rw [e.1, e.2.1]
theorem v_cellOf {g : gT} {h : mh_T} {P : Int32 → mh_T → Prop} (l1 l2 : Int32) (s : Nat) (es : l1.toInt = (s : Int)) (tz : TZ (tC h)) (hs : s < sn (tC h)) (hp : ∀ r : Int32, r.toInt = ((4 * s + (fo (tC h) s l2).toInt.toNat : Nat) : Int) → P r h) : MCi g yX8_cellOf uX8_cellOf [.ref 3, .int l1, .int l2] h P := by
  have n8 : sn (tC h) ≤ 8 := by unfold sn; have := tz.2.1; omega
  have s8 : s < 8 := by omega
  have vs := i_vp es s8
  refine e_X8_cellOf l1 l2 ⟨vs, fun x2 e2 => ⟨vs, fun z => ⟨vs, hp _ ?_⟩, fun z => hp _ ?_⟩⟩
  · rw [i_nat es, ← tC_9 h s8] at z
    have z := i_le.mp z
    rw [i_0] at z
    have nz : ¬ tC h (9 + s) = -2 := fun w => by rw [w] at z; exact absurd z (by decide)
    have ef : fo (tC h) s l2 = (2 * bv l2 (tC h (1 + s))) + bv l2 (tC h (9 + s)) := by unfold fo; rw [if_neg nz]
    have e2' : x2 = bv l2 (tC h (1 + s)) := by rw [e2, i_nat es, tC_1 h s8]; rfl
    have e3 : (l2 >>> (mI h 25 l1.toNatClampNeg &&& 31)) &&& 1 = bv l2 (tC h (9 + s)) := by rw [i_nat es, tC_9 h s8]; rfl
    rw [e3, e2']
    have b1 := bv01 l2 (tC h (1 + s))
    have b2 := bv01 l2 (tC h (9 + s))
    have fr := fo_n (tC h) s l2
    have b11 := b1.1
    have b12 := b1.2
    have b21 := b2.1
    have b22 := b2.2
    have m2 : (2 * bv l2 (tC h (1 + s))).toInt = 2 * (bv l2 (tC h (1 + s))).toInt := by rw [Int32.toInt_mul, show (2 : Int32).toInt = 2 from by decide, bm (by omega) (by omega)]
    have q1 : ((4 * l1) + (2 * bv l2 (tC h (1 + s)))).toInt = 4 * (s : Int) + 2 * (bv l2 (tC h (1 + s))).toInt := by rw [i_add (i_4s es s8) m2 (by omega)]; omega
    have q2 : (fo (tC h) s l2).toInt = 2 * (bv l2 (tC h (1 + s))).toInt + (bv l2 (tC h (9 + s))).toInt := by rw [ef]; exact i_add m2 rfl (by omega)
    rw [i_add q1 rfl (by omega)]
    omega
  · rw [i_nat es, ← tC_9 h s8] at z
    have nz : tC h (9 + s) = -2 := by
      rcases (tz.2.2 s hs).1 with w | w
      · exact w.1
      · exact absurd (i_le.mpr (by rw [i_0]; exact w)) z
    have ef : fo (tC h) s l2 = bv l2 (tC h (1 + s)) := by unfold fo; rw [if_pos nz]
    have e2' : x2 = bv l2 (tC h (1 + s)) := by rw [e2, i_nat es, tC_1 h s8]; rfl
    have b1 := bv01 l2 (tC h (1 + s))
    have b11 := b1.1
    have b12 := b1.2
    rw [e2', ef, i_add (i_4s es s8) rfl (by omega)]
    omega
theorem v_fitted {g : gT} {h : mh_T} {P : Int32 → mh_T → Prop} (l1 l2 : Int32) (s : Nat) (es : l1.toInt = (s : Int)) (s8 : s < 8) (hp : P (fo (h.1 45) s l2) h) : MCi g yX11_fitted uX11_fitted [.ref 11, .int l1, .int l2] h P := by
  have j1 := i_1s es s8
  have j9 := i_9 es s8
  refine e_X11_fitted l1 l2 ⟨i_vp j1 (by omega), fun x2 e2 => ⟨i_vp j9 (by omega), ?_⟩⟩
  rw [i_nat j1] at e2
  rw [i_nat j9]
  refine ⟨fun z => ⟨i_vp j9 (by omega), ?_⟩, fun z => ?_⟩
  · have z : ¬ h.1 45 (9 + s) = -2 := z
    unfold fo at hp
    rw [if_neg z] at hp
    rw [e2]
    exact hp
  · have z : h.1 45 (9 + s) = -2 := z
    unfold fo at hp
    rw [if_pos z] at hp
    rw [e2]
    exact hp
/-- what the bet pays at h, over the first n sets -/
def pyF (a c : Nat → Int32) (h : Int32) : Nat → Int32
  | 0 => 0
  | s + 1 => pyF a c h s + c (4 * s + (fo a s h).toInt.toNat)
theorem pyF_cg {a b c d : Nat → Int32} (r : Rc a c b d) (h : Int32) : ∀ n, n ≤ sn b → pyF a c h n = pyF b d h n
  | 0, _ => rfl
  | s + 1, hn => by
    show pyF a c h s + c (4 * s + (fo a s h).toInt.toNat) = pyF b d h s + d (4 * s + (fo b s h).toInt.toNat)
    rw [pyF_cg r h s (by omega), fo_cg (r.1.2.2 s (by omega)) h, r.2 s (by omega) _ (fo_n b s h).2]
theorem v_pay {g : gT} {h : mh_T} {P : Int32 → mh_T → Prop} (l1 : Int32) (tz : TZ (tC h)) (hp : P (pyF (tC h) (h.1 27) l1 (sn (tC h))) h) : MCi g yX8_pay uX8_pay [.ref 3, .int l1] h P := by
  have n8 : sn (tC h) ≤ 8 := by unfold sn; have := tz.2.1; omega
  have en : (mI h 3 2).toInt = (sn (tC h) : Int) := by show (tC h 0).toInt = _; unfold sn; have := tz.1; omega
  have L : ∀ (n : Nat) (l2 l3 : Int32) (s : Nat), l3.toInt = (s : Int) → s ≤ sn (tC h) → sn (tC h) - s < n → l2 = pyF (tC h) (h.1 27) l1 s → ME g uX8_pay 4 [.ref 3, .int l1, .int l2, .int l3] [] h (qI P) := by
    intro n
    induction n with
    | zero => intro l2 l3 s _ _ hn; exact absurd hn (Nat.not_lt_zero _)
    | succ n ih =>
      intro l2 l3 s es hs hn e2
      refine r_X8_pay_4 l1 l2 l3 ⟨fun c => ?_, fun c => ?_⟩
      · have c := i_le.mp c
        have : s = sn (tC h) := by omega
        rw [e2, this]
        exact hp
      · have c := i_lt.mp (nle c)
        refine v_cellOf l3 l1 s es tz (by omega) (fun r er => ⟨i_vp er (by have := (fo_n (tC h) s l1).2; omega), fun x5 e5 => ih x5 (l3 + 1) (s + 1) (i_inc es (by omega)) (by omega) (by omega) ?_⟩)
        rw [e5, i_nat er, e2]
        rfl
  exact e_X8_pay l1 (L 9 0 0 0 (by decide) (Nat.zero_le _) (by omega) rfl)
theorem v_paid {g : gT} {h : mh_T} {P : Int32 → mh_T → Prop} (l1 : Int32) (tz : TZ (h.1 45)) (hp : P (pyF (h.1 45) (h.1 47) l1 (sn (h.1 45))) h) : MCi g yX11_paid uX11_paid [.ref 11, .int l1] h P := by
  have n8 : sn (h.1 45) ≤ 8 := by unfold sn; have := tz.2.1; omega
  have en : (mI h 45 (Int32.toNatClampNeg 0)).toInt = (sn (h.1 45) : Int) := by show (h.1 45 0).toInt = _; unfold sn; have := tz.1; omega
  have L : ∀ (n : Nat) (l2 l3 : Int32) (s : Nat), l3.toInt = (s : Int) → s ≤ sn (h.1 45) → sn (h.1 45) - s < n → l2 = pyF (h.1 45) (h.1 47) l1 s → ME g uX11_paid 4 [.ref 11, .int l1, .int l2, .int l3] [] h (qI P) := by
    intro n
    induction n with
    | zero => intro l2 l3 s _ _ hn; exact absurd hn (Nat.not_lt_zero _)
    | succ n ih =>
      intro l2 l3 s es hs hn e2
      refine r_X11_paid_4 l1 l2 l3 ⟨fun c => ?_, fun c => ?_⟩
      · have c := i_le.mp c
        have : s = sn (h.1 45) := by omega
        rw [e2, this]
        exact hp
      · have c := i_lt.mp (nle c)
        have s8 : s < 8 := by omega
        have fr := fo_n (h.1 45) s l1
        have er : ((4 * l3) + fo (h.1 45) s l1).toInt = ((4 * s + (fo (h.1 45) s l1).toInt.toNat : Nat) : Int) := by rw [i_add (i_4s es s8) fr.1 (by omega)]; omega
        refine v_fitted l3 l1 s es s8 ⟨i_vp er (by omega), fun x5 e5 => ih x5 (l3 + 1) (s + 1) (i_inc es (by omega)) (by omega) (by omega) ?_⟩
        rw [e5, i_nat er, e2]
        rfl
  exact e_X11_paid l1 (L 9 0 0 0 (by decide) (Nat.zero_le _) (by omega) rfl)
theorem p2L : ∀ n, n ≤ 6 → (1 <<< (Int32.ofNat n &&& 31) : Int32).toInt = ((2 ^ n : Nat) : Int) := by decide
theorem p2_64 {n : Nat} (h : n ≤ 6) : 1 ≤ 2 ^ n ∧ 2 ^ n ≤ 64 := by
  have : ∀ n, n ≤ 6 → 1 ≤ 2 ^ n ∧ 2 ^ n ≤ 64 := by decide
  exact this n h
abbrev lk3 (h : mh_T) : Nat := (mI h 3 1).toInt.toNat
abbrev lk45 (h : mh_T) : Nat := (mI h 45 50).toInt.toNat
theorem v_hiddenAnswers {g : gT} {h : mh_T} {P : Int32 → mh_T → Prop} (hG : GI h) (hp : ∀ v : Int32, v.toInt = ((2 ^ lk3 h : Nat) : Int) → lk3 h ≤ 6 → P v h) : MCi g yX8_hiddenAnswers uX8_hiddenAnswers [.ref 3] h P := by
  have f : R 0 6 (mI h 3 1) := GI_rd hG 3 1 rfl
  have f1 := f.1
  have f2 := f.2
  have e : (mI h 3 1).toInt = (lk3 h : Int) := by unfold lk3; omega
  have n6 : lk3 h ≤ 6 := by unfold lk3; omega
  refine e_X8_hiddenAnswers (hp _ ?_ n6)
  rw [i_of e (by omega)]
  exact p2L _ n6
theorem v_hiddenMany {g : gT} {h : mh_T} {P : Int32 → mh_T → Prop} (hG : GI h) (hp : ∀ v : Int32, v.toInt = ((2 ^ lk45 h : Nat) : Int) → lk45 h ≤ 6 → P v h) : MCi g yX11_hiddenMany uX11_hiddenMany [.ref 11] h P := by
  have f : R 0 6 (mI h 45 50) := GI_rd hG 45 50 rfl
  have f1 := f.1
  have f2 := f.2
  have e : (mI h 45 50).toInt = (lk45 h : Int) := by unfold lk45; omega
  have n6 : lk45 h ≤ 6 := by unfold lk45; omega
  refine e_X11_hiddenMany (hp _ ?_ n6)
  rw [show Int32.toNatClampNeg 50 = 50 from by decide, i_of e (by omega)]
  exact p2L _ n6
/-- the first of the hidden answers up to k by which the bet pays least -/
def lpG (a c : Nat → Int32) (n : Nat) : Nat → Int32
  | 0 => 0
  | k + 1 => if pyF a c (lpG a c n k) n ≤ pyF a c (Int32.ofNat (k + 1)) n then lpG a c n k else Int32.ofNat (k + 1)
theorem lpG_cg {a b c d : Nat → Int32} (r : Rc a c b d) : ∀ k, lpG a c (sn b) k = lpG b d (sn b) k
  | 0 => rfl
  | k + 1 => by
    show (if pyF a c (lpG a c (sn b) k) (sn b) ≤ pyF a c (Int32.ofNat (k + 1)) (sn b) then lpG a c (sn b) k else Int32.ofNat (k + 1)) = (if pyF b d (lpG b d (sn b) k) (sn b) ≤ pyF b d (Int32.ofNat (k + 1)) (sn b) then lpG b d (sn b) k else Int32.ofNat (k + 1))
    rw [lpG_cg r k, pyF_cg r _ _ (Nat.le_refl _), pyF_cg r _ _ (Nat.le_refl _)]
theorem v_leastPaid {g : gT} {h : mh_T} {P : Int32 → mh_T → Prop} (hG : GI h) (tz : TZ (tC h)) (hp : P (lpG (tC h) (h.1 27) (sn (tC h)) (2 ^ lk3 h - 1)) h) : MCi g yX8_leastPaid uX8_leastPaid [.ref 3] h P := by
  have L : ∀ (n : Nat) (l1 l2 : Int32) (k : Nat), l2.toInt = ((k + 1 : Nat) : Int) → k + 1 ≤ 2 ^ lk3 h → 2 ^ lk3 h - k < n → l1 = lpG (tC h) (h.1 27) (sn (tC h)) k → ME g uX8_leastPaid 4 [.ref 3, .int l1, .int l2] [] h (qI P) := by
    intro n
    induction n with
    | zero => intro l1 l2 k _ _ hn; exact absurd hn (Nat.not_lt_zero _)
    | succ n ih =>
      intro l1 l2 k e2 hk hn e1
      refine r_X8_leastPaid_4 l1 l2 (v_hiddenAnswers hG (fun v ev n6 => ⟨fun c => ?_, fun c => v_pay l2 tz (v_pay l1 tz ⟨fun q => ?_, fun q => ?_⟩)⟩))
      · have c := i_le.mp c
        have : 2 ^ lk3 h - 1 = k := by omega
        rw [e1, ← this]
        exact hp
      · have c := i_lt.mp (nle c)
        have p := (p2_64 n6).2
        refine ih l1 (l2 + 1) (k + 1) (i_inc e2 (by omega)) (by omega) (by omega) ?_
        unfold lpG
        rw [← e1, ← i_of e2 (by omega), if_pos q]
      · have c := i_lt.mp (nle c)
        have p := (p2_64 n6).2
        refine ih l2 (l2 + 1) (k + 1) (i_inc e2 (by omega)) (by omega) (by omega) ?_
        unfold lpG
        rw [← e1, ← i_of e2 (by omega), if_neg q]
  have n6 : lk3 h ≤ 6 := by have f : R 0 6 (mI h 3 1) := GI_rd hG 3 1 rfl; have := f.2; unfold lk3; omega
  have p := p2_64 n6
  exact e_X8_leastPaid (L 66 0 1 0 (by decide) (by omega) (by omega) rfl)
theorem v_worstHidden {g : gT} {h : mh_T} {P : Int32 → mh_T → Prop} (hG : GI h) (tz : TZ (h.1 45)) (hp : P (lpG (h.1 45) (h.1 47) (sn (h.1 45)) (2 ^ lk45 h - 1)) h) : MCi g yX11_worstHidden uX11_worstHidden [.ref 11] h P := by
  have L : ∀ (n : Nat) (l1 l2 : Int32) (k : Nat), l2.toInt = ((k + 1 : Nat) : Int) → k + 1 ≤ 2 ^ lk45 h → 2 ^ lk45 h - k < n → l1 = lpG (h.1 45) (h.1 47) (sn (h.1 45)) k → ME g uX11_worstHidden 4 [.ref 11, .int l1, .int l2] [] h (qI P) := by
    intro n
    induction n with
    | zero => intro l1 l2 k _ _ hn; exact absurd hn (Nat.not_lt_zero _)
    | succ n ih =>
      intro l1 l2 k e2 hk hn e1
      refine r_X11_worstHidden_4 l1 l2 (v_hiddenMany hG (fun v ev n6 => ⟨fun c => ?_, fun c => v_paid l2 tz (v_paid l1 tz ⟨fun q => ?_, fun q => ?_⟩)⟩))
      · have c := i_le.mp c
        have : 2 ^ lk45 h - 1 = k := by omega
        rw [e1, ← this]
        exact hp
      · have c := i_lt.mp (nle c)
        have p := (p2_64 n6).2
        refine ih l1 (l2 + 1) (k + 1) (i_inc e2 (by omega)) (by omega) (by omega) ?_
        unfold lpG
        rw [← e1, ← i_of e2 (by omega), if_pos q]
      · have c := i_lt.mp (nle c)
        have p := (p2_64 n6).2
        refine ih l2 (l2 + 1) (k + 1) (i_inc e2 (by omega)) (by omega) (by omega) ?_
        unfold lpG
        rw [← e1, ← i_of e2 (by omega), if_neg q]
  have n6 : lk45 h ≤ 6 := by have f : R 0 6 (mI h 45 50) := GI_rd hG 45 50 rfl; have := f.2; unfold lk45; omega
  have p := p2_64 n6
  exact e_X11_worstHidden (L 66 0 1 0 (by decide) (by omega) (by omega) rfl)
/-- what the bet wins, over the first k outcomes -/
def wnK (a c : Nat → Int32) : Nat → Int32
  | 0 => 0
  | k + 1 => wnK a c k + c k * a (17 + k)
theorem wnK_cg {a b c d : Nat → Int32} (r : Rc a c b d) : ∀ k, k ≤ 4 * sn b → wnK a c k = wnK b d k
  | 0, _ => rfl
  | k + 1, hk => by
    show wnK a c k + c k * a (17 + k) = wnK b d k + d k * b (17 + k)
    have e1 := r.2 (k / 4) (by omega) (k % 4) (by omega)
    have e2 := (r.1.2.2 (k / 4) (by omega)).2.2 (k % 4) (by omega)
    rw [show 4 * (k / 4) + k % 4 = k by omega] at e1
    rw [show 17 + 4 * (k / 4) + k % 4 = 17 + k by omega] at e2
    rw [wnK_cg r k (by omega), e1, e2]
theorem v_winnings {g : gT} {h : mh_T} {P : Int32 → mh_T → Prop} (tz : TZ (tC h)) (hp : P (wnK (tC h) (h.1 27) (4 * sn (tC h))) h) : MCi g yX8_winnings uX8_winnings [.ref 3] h P := by
  have n8 : sn (tC h) ≤ 8 := by unfold sn; have := tz.2.1; omega
  have en : (mI h 3 2).toInt = (sn (tC h) : Int) := by show (tC h 0).toInt = _; unfold sn; have := tz.1; omega
  have e4 : (4 * mI h 3 2).toInt = ((4 * sn (tC h) : Nat) : Int) := by rw [Int32.toInt_mul, show (4 : Int32).toInt = 4 from by decide, en, bm (by omega) (by omega)]; omega
  have L : ∀ (n : Nat) (l1 l2 : Int32) (k : Nat), l2.toInt = (k : Int) → k ≤ 4 * sn (tC h) → 4 * sn (tC h) - k < n → l1 = wnK (tC h) (h.1 27) k → ME g uX8_winnings 4 [.ref 3, .int l1, .int l2] [] h (qI P) := by
    intro n
    induction n with
    | zero => intro l1 l2 k _ _ hn; exact absurd hn (Nat.not_lt_zero _)
    | succ n ih =>
      intro l1 l2 k e2 hk hn e1
      refine r_X8_winnings_4 l1 l2 ⟨fun c => ?_, fun c => ?_⟩
      · have c := i_le.mp c
        have : k = 4 * sn (tC h) := by omega
        rw [e1, this]
        exact hp
      · have c := i_lt.mp (nle c)
        rw [i_nat e2]
        refine ⟨i_vp e2 (by omega), i_vp e2 (by omega), fun x4 e4' => ih x4 (l2 + 1) (k + 1) (i_inc e2 (by omega)) (by omega) (by omega) ?_⟩
        rw [e4', e1, ← tC_17]
        rfl
  exact e_X8_winnings (L 33 0 0 0 (by decide) (Nat.zero_le _) (by omega) rfl)
theorem v_winsOf {g : gT} {h : mh_T} {P : Int32 → mh_T → Prop} (tz : TZ (h.1 45)) (hp : P (wnK (h.1 45) (h.1 47) (4 * sn (h.1 45))) h) : MCi g yX11_winsOf uX11_winsOf [.ref 11] h P := by
  have n8 : sn (h.1 45) ≤ 8 := by unfold sn; have := tz.2.1; omega
  have en : (mI h 45 (Int32.toNatClampNeg 0)).toInt = (sn (h.1 45) : Int) := by show (h.1 45 0).toInt = _; unfold sn; have := tz.1; omega
  have L : ∀ n : Nat, (∀ (l1 l2 : Int32) (s : Nat), l2.toInt = (s : Int) → s ≤ sn (h.1 45) → 10 * (sn (h.1 45) - s) + 9 < n → l1 = wnK (h.1 45) (h.1 47) (4 * s) → ME g uX11_winsOf 4 [.ref 11, .int l1, .int l2, .retAddr 0] [] h (qI P)) ∧ (∀ (l1 l2 l3 : Int32) (s o : Nat), l2.toInt = (s : Int) → s < sn (h.1 45) → l3.toInt = (o : Int) → o ≤ ocs (h.1 45) s → 10 * (sn (h.1 45) - s) + (4 - o) < n → l1 = wnK (h.1 45) (h.1 47) (4 * s + o) → ME g uX11_winsOf 16 [.ref 11, .int l1, .int l2, .int l3] [] h (qI P)) := by
    intro n
    induction n with
    | zero => exact ⟨fun _ _ _ _ _ hn => absurd hn (Nat.not_lt_zero _), fun _ _ _ _ _ _ _ _ _ hn => absurd hn (Nat.not_lt_zero _)⟩
    | succ n ih =>
      refine ⟨fun l1 l2 s e2 hs hn e1 => ?_, fun l1 l2 l3 s o e2 hs e3 ho hn e1 => ?_⟩
      · refine r_X11_winsOf_4 l1 l2 ⟨fun c => ?_, fun c => ?_⟩
        · have c := i_le.mp c
          have : s = sn (h.1 45) := by omega
          rw [e1, this]
          exact hp
        · have c := i_lt.mp (nle c)
          exact ih.2 l1 l2 0 s 0 e2 (by omega) (by decide) (Nat.zero_le _) (by omega) e1
      · have s8 : s < 8 := by omega
        have o4 := ocs_le (h.1 45) s
        refine r_X11_winsOf_16 l1 l2 l3 (v_outcomes l2 s e2 s8 (fun v ev => ⟨fun c => ?_, fun c => ?_⟩))
        · have c := i_le.mp c
          have oo : o = ocs (h.1 45) s := by omega
          refine ih.1 l1 (l2 + 1) (s + 1) (i_inc e2 (by omega)) (by omega) (by omega) ?_
          rw [e1, oo]
          by_cases w : h.1 45 (9 + s) = -2
          · have o2 : ocs (h.1 45) s = 2 := by unfold ocs; rw [if_pos w]
            have z := (tz.2.2 s hs).1
            have z' : h.1 45 (17 + 4 * s + 2) = 0 ∧ h.1 45 (17 + 4 * s + 3) = 0 := by
              rcases z with y | y
              · exact y.2
              · rw [w] at y; exact absurd y (by decide)
            rw [o2, show 4 * (s + 1) = 4 * s + 2 + 1 + 1 by omega]
            show _ = (wnK (h.1 45) (h.1 47) (4 * s + 2) + h.1 47 (4 * s + 2) * h.1 45 (17 + (4 * s + 2))) + h.1 47 (4 * s + 2 + 1) * h.1 45 (17 + (4 * s + 2 + 1))
            rw [show 17 + (4 * s + 2) = 17 + 4 * s + 2 by omega, show 17 + (4 * s + 2 + 1) = 17 + 4 * s + 3 by omega, z'.1, z'.2, Int32.mul_zero, Int32.mul_zero, Int32.add_zero, Int32.add_zero]
          · have o2 : ocs (h.1 45) s = 4 := by unfold ocs; rw [if_neg w]
            rw [o2, show 4 * (s + 1) = 4 * s + 4 by omega]
        · have c := i_lt.mp (nle c)
          have ia : ((4 * l2) + l3).toInt = ((4 * s + o : Nat) : Int) := by rw [i_add (i_4s e2 s8) e3 (by omega)]; omega
          have ib := i_17 e2 s8 e3 (by omega)
          rw [i_nat ia, i_nat ib]
          refine ⟨i_vp ia (by omega), i_vp ib (by omega), fun x6 e6 => ih.2 x6 l2 (l3 + 1) s (o + 1) e2 hs (i_inc e3 (by omega)) (by omega) (by omega) ?_⟩
          rw [e6, e1, show 17 + 4 * s + o = 17 + (4 * s + o) by omega]
          rfl
  exact e_X11_winsOf ((L 100).1 0 0 0 (by decide) (Nat.zero_le _) (by omega) rfl)
/-- how often a look was 1 in a set -/
def onF (a : Nat → Int32) (s : Nat) (l : Int32) : Int32 := if a (9 + s) = -2 then (if a (1 + s) = l then a (17 + 4 * s + 1) else -1) else if a (1 + s) = l then a (17 + 4 * s + 2) + a (17 + 4 * s + 3) else if a (9 + s) = l then a (17 + 4 * s + 1) + a (17 + 4 * s + 3) else -1
theorem onF_cg {a b : Nat → Int32} {s : Nat} (e : sE a s b s) (l : Int32) : onF a s l = onF b s l := by
  unfold onF
  rw [e.1, e.2.1, e.2.2 1 (by omega), e.2.2 2 (by omega), e.2.2 3 (by omega)]
theorem v_onesOfC {g : gT} {h : mh_T} {P : Int32 → mh_T → Prop} (l1 l2 : Int32) (s : Nat) (es : l1.toInt = (s : Int)) (tz : TZ (tC h)) (hs : s < sn (tC h)) (hp : P (onF (tC h) s l2) h) : MCi g yX8_onesOf uX8_onesOf [.ref 3, .int l1, .int l2] h P := by
  have n8 : sn (tC h) ≤ 8 := by unfold sn; have := tz.2.1; omega
  have s8 : s < 8 := by omega
  have vs := i_vp es s8
  refine e_X8_onesOf l1 l2 (fun x1 e1 => ?_)
  have k0 : x1.toInt = ((4 * s : Nat) : Int) := by rw [e1]; exact i_4s es s8
  have k1 := i_off k0 1 1 (by decide) (by omega)
  have k2 := i_off k0 2 2 (by decide) (by omega)
  have k3 := i_off k0 3 3 (by decide) (by omega)
  rw [i_nat es, i_nat k1, i_nat k2, i_nat k3, ← tC_1 h s8, ← tC_9 h s8, ← tC_17 h (4 * s + 1), ← tC_17 h (4 * s + 2), ← tC_17 h (4 * s + 3)]
  rw [show 17 + (4 * s + 1) = 17 + 4 * s + 1 by omega, show 17 + (4 * s + 2) = 17 + 4 * s + 2 by omega, show 17 + (4 * s + 3) = 17 + 4 * s + 3 by omega]
  unfold onF at hp
  refine ⟨vs, fun z => ?_, fun z => ?_⟩
  · have z := i_le.mp z
    rw [i_0] at z
    rw [if_neg (fun w => by rw [w] at z; exact absurd z (by decide))] at hp
    refine ⟨vs, fun y1 => ⟨vs, fun y2 => ?_, fun y2 => ⟨i_vp k1 (by omega), i_vp k3 (by omega), ?_⟩⟩, fun y1 => ⟨i_vp k2 (by omega), i_vp k3 (by omega), ?_⟩⟩
    · rw [if_neg y1, if_neg y2] at hp; exact hp
    · rw [if_neg y1, if_pos y2] at hp; exact hp
    · rw [if_pos y1] at hp; exact hp
  · have nz : tC h (9 + s) = -2 := by
      rcases (tz.2.2 s hs).1 with w | w
      · exact w.1
      · exact absurd (i_le.mpr (by rw [i_0]; exact w)) z
    rw [if_pos nz] at hp
    refine ⟨vs, fun y1 => ?_, fun y1 => ⟨i_vp k1 (by omega), ?_⟩⟩
    · rw [if_neg y1] at hp; exact hp
    · rw [if_pos y1] at hp; exact hp
theorem v_onesOfM {g : gT} {h : mh_T} {P : Int32 → mh_T → Prop} (l1 l2 : Int32) (s : Nat) (es : l1.toInt = (s : Int)) (s8 : s < 8) (hp : P (onF (h.1 45) s l2) h) : MCi g yX11_onesOf uX11_onesOf [.ref 11, .int l1, .int l2] h P := by
  have j1 := i_1s es s8
  have j9 := i_9 es s8
  have v1 : vp_in (1 + l1) 346 := i_vp j1 (by omega)
  have v9 : vp_in (9 + l1) 346 := i_vp j9 (by omega)
  refine e_X11_onesOf l1 l2 (fun x1 e1 => ?_)
  have k0 : x1.toInt = ((17 + 4 * s : Nat) : Int) := by rw [e1, i_add (show (17 : Int32).toInt = 17 from by decide) (i_4s es s8) (by omega)]; omega
  have k1 := i_off k0 1 1 (by decide) (by omega)
  have k2 := i_off k0 2 2 (by decide) (by omega)
  have k3 := i_off k0 3 3 (by decide) (by omega)
  rw [i_nat j1, i_nat j9, i_nat k1, i_nat k2, i_nat k3]
  show vp_in (9 + l1) 346 ∧ ((¬ h.1 45 (9 + s) = -2 → _) ∧ (h.1 45 (9 + s) = -2 → _))
  unfold onF at hp
  refine ⟨v9, fun z => ⟨v1, fun y1 => ⟨v9, fun y2 => ?_, fun y2 => ⟨i_vp k1 (by omega), i_vp k3 (by omega), ?_⟩⟩, fun y1 => ⟨i_vp k2 (by omega), i_vp k3 (by omega), ?_⟩⟩, fun z => ⟨v1, fun y1 => ?_, fun y1 => ⟨i_vp k1 (by omega), ?_⟩⟩⟩
  · have y1 : ¬ h.1 45 (1 + s) = l2 := y1
    have y2 : ¬ h.1 45 (9 + s) = l2 := y2
    rw [if_neg z, if_neg y1, if_neg y2] at hp; exact hp
  · have y1 : ¬ h.1 45 (1 + s) = l2 := y1
    have y2 : h.1 45 (9 + s) = l2 := y2
    rw [if_neg z, if_neg y1, if_pos y2] at hp; exact hp
  · have y1 : h.1 45 (1 + s) = l2 := y1
    rw [if_neg z, if_pos y1] at hp; exact hp
  · have y1 : ¬ h.1 45 (1 + s) = l2 := y1
    rw [if_pos z, if_neg y1] at hp; exact hp
  · have y1 : h.1 45 (1 + s) = l2 := y1
    rw [if_pos z, if_pos y1] at hp; exact hp
/-- from set s on, with what was told last: none, or the look is disturbed -/
def diF (a : Nat → Int32) (l : Int32) (n : Nat) : Nat → Nat → Int32 → Bool
  | 0, _, _ => false
  | k + 1, s, o => if n ≤ s then false else if onF a s l < 0 then diF a l n k (s + 1) o else if o < 0 then diF a l n k (s + 1) (onF a s l) else if onF a s l = o then diF a l n k (s + 1) (onF a s l) else true
def dsF (a : Nat → Int32) (n L : Nat) : Nat → Nat → Int32
  | 0, _ => -2
  | k + 1, i => if L ≤ i then -2 else if diF a (Int32.ofNat i) n 9 0 (-1) = true then Int32.ofNat i else dsF a n L k (i + 1)
theorem diF_cg {a b : Nat → Int32} (r : Rq a b) (l : Int32) : ∀ k s o, diF a l (sn b) k s o = diF b l (sn b) k s o
  | 0, _, _ => rfl
  | k + 1, s, o => by
    show (if sn b ≤ s then false else if onF a s l < 0 then diF a l (sn b) k (s + 1) o else if o < 0 then diF a l (sn b) k (s + 1) (onF a s l) else if onF a s l = o then diF a l (sn b) k (s + 1) (onF a s l) else true) = (if sn b ≤ s then false else if onF b s l < 0 then diF b l (sn b) k (s + 1) o else if o < 0 then diF b l (sn b) k (s + 1) (onF b s l) else if onF b s l = o then diF b l (sn b) k (s + 1) (onF b s l) else true)
    by_cases h : sn b ≤ s
    · rw [if_pos h, if_pos h]
    · rw [if_neg h, if_neg h, onF_cg (r.2.2 s (by omega)) l, diF_cg r l k, diF_cg r l k]
theorem dsF_cg {a b : Nat → Int32} (r : Rq a b) (L : Nat) : ∀ k i, dsF a (sn b) L k i = dsF b (sn b) L k i
  | 0, _ => rfl
  | k + 1, i => by
    show (if L ≤ i then -2 else if diF a (Int32.ofNat i) (sn b) 9 0 (-1) = true then Int32.ofNat i else dsF a (sn b) L k (i + 1)) = (if L ≤ i then -2 else if diF b (Int32.ofNat i) (sn b) 9 0 (-1) = true then Int32.ofNat i else dsF b (sn b) L k (i + 1))
    rw [diF_cg r, dsF_cg r L k]
