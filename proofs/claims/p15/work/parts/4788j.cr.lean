/-! cycles: isRing, isCycle -/
theorem lo_C {h : mh_T} {s : Nat} (hs : s < 8) : lo (tC h) s = (1 <<< ((mI h 24 s) &&& 31)) ||| (1 <<< ((mI h 25 s) &&& 31)) := by
  have e1 : tC h (1 + s) = mI h 24 s := by
    unfold tC
    rw [if_neg (by omega), if_pos (by omega), show 1 + s - 1 = s from by omega]
  have e2 : tC h (9 + s) = mI h 25 s := by
    unfold tC
    rw [if_neg (by omega), if_neg (by omega), if_pos (by omega), show 9 + s - 9 = s from by omega]
  unfold lo
  rw [e1, e2]
theorem tC_9s {h : mh_T} {s : Nat} (hs : s < 8) : tC h (9 + s) = mI h 25 s := by
  unfold tC
  rw [if_neg (by omega), if_neg (by omega), if_pos (by omega), show 9 + s - 9 = s from by omega]
theorem tC_1s {h : mh_T} {s : Nat} (hs : s < 8) : tC h (1 + s) = mI h 24 s := by
  unfold tC
  rw [if_neg (by omega), if_pos (by omega), show 1 + s - 1 = s from by omega]
theorem v_looksOf {g : gT} {h : mh_T} {P : Int32 → mh_T → Prop} (l1 : Int32) (s : Nat) (es : l1.toInt = (s : Int)) (hs : s < 8) (hp : P (lo (tC h) s) h) : MCi g yX7_looksOf uX7_looksOf [.ref 4, .int l1] h P := by
  refine e_X7_looksOf l1 ⟨i_vp es hs, i_vp es hs, ?_⟩
  rw [i_nat es, ← lo_C hs]
  exact hp
theorem hB_0 {l x : Int32} {s : Nat} (e : x.toInt = (s : Int)) (hs : s < 8) : ((l >>> (x &&& 31)) &&& 1) = 0 ↔ ¬ hB l s = true := by
  unfold hB bv
  rw [← i_of e (by omega), decide_eq_true_iff, Decidable.not_not]
theorem rd_no {E : Nat → Int32} {B : Nat → Bool} {x : Int32} {s : Nat} (h : ¬ B s = true) : rdF E B x (s + 1) = rdF E B x s := by
  show (if B s = true then (if (E s &&& rdF E B x s) = 0 then rdF E B x s else rdF E B x s ||| E s) else rdF E B x s) = _
  rw [if_neg h]
theorem rd_z {E : Nat → Int32} {B : Nat → Bool} {x : Int32} {s : Nat} (h : B s = true) (z : (E s &&& rdF E B x s) = 0) : rdF E B x (s + 1) = rdF E B x s := by
  show (if B s = true then (if (E s &&& rdF E B x s) = 0 then rdF E B x s else rdF E B x s ||| E s) else rdF E B x s) = _
  rw [if_pos h, if_pos z]
theorem rd_y {E : Nat → Int32} {B : Nat → Bool} {x : Int32} {s : Nat} (h : B s = true) (z : ¬ (E s &&& rdF E B x s) = 0) : rdF E B x (s + 1) = rdF E B x s ||| E s := by
  show (if B s = true then (if (E s &&& rdF E B x s) = 0 then rdF E B x s else rdF E B x s ||| E s) else rdF E B x s) = _
  rw [if_pos h, if_neg z]
theorem v_hangs {g : gT} {h : mh_T} {P : Int32 → mh_T → Prop} (l1 l2 : Int32) (tz : TZ (tC h)) (h1 : itR (lo (tC h)) (hB l1) (sn (tC h)) (l2 &&& (-l2)) 8 = l2 → P 1 h) (h0 : ¬ itR (lo (tC h)) (hB l1) (sn (tC h)) (l2 &&& (-l2)) 8 = l2 → P 0 h) : MCi g yX7_hangsTogether uX7_hangsTogether [.ref 4, .int l1, .int l2] h P := by
  have n8 : sn (tC h) ≤ 8 := by unfold sn; have := tz.2.1; omega
  have en : (mI h 3 2).toInt = (sn (tC h) : Int) := by show (tC h 0).toInt = _; unfold sn; have := tz.1; omega
  have i8 : (8 : Int32).toInt = 8 := by decide
  have L : ∀ (m k : Nat) (l4 : Int32), l4.toInt = (k : Int) → k ≤ 8 → 8 - k < m → ME g uX7_hangsTogether 8 [.ref 4, .int l1, .int l2, .int (itR (lo (tC h)) (hB l1) (sn (tC h)) (l2 &&& (-l2)) k), .int l4, .retAddr 0] [] h (qI P) := by
    intro m
    induction m with
    | zero => intro k l4 _ _ hm; exact absurd hm (Nat.not_lt_zero _)
    | succ m ih =>
      intro k l4 e4 hk hm
      refine r_X7_hangsTogether_8 l1 l2 _ l4 ⟨fun c => ?_, fun c => ?_⟩
      · have c := i_le.mp c
        have e : k = 8 := by omega
        rw [e]
        exact ⟨h0, h1⟩
      · have c := i_lt.mp (nle c)
        have I : ∀ (q s : Nat) (l5 : Int32), l5.toInt = (s : Int) → s ≤ sn (tC h) → sn (tC h) - s < q → ME g uX7_hangsTogether 18 [.ref 4, .int l1, .int l2, .int (rdF (lo (tC h)) (hB l1) (itR (lo (tC h)) (hB l1) (sn (tC h)) (l2 &&& (-l2)) k) s), .int l4, .int l5] [] h (qI P) := by
          intro q
          induction q with
          | zero => intro s l5 _ _ hq; exact absurd hq (Nat.not_lt_zero _)
          | succ q iq =>
            intro s l5 e5 hs hq
            refine r_X7_hangsTogether_18 l1 l2 _ l4 l5 ⟨fun d => ?_, fun d => ?_⟩
            · have d := i_le.mp d
              have e : s = sn (tC h) := by omega
              rw [e]
              exact ih (k + 1) (l4 + 1) (i_inc e4 (by omega)) (by omega) (by omega)
            · have d := i_lt.mp (nle d)
              have nx := iq (s + 1) (l5 + 1) (i_inc e5 (by omega)) (by omega) (by omega)
              refine ⟨fun z => ?_, fun z => ?_⟩
              · rw [rd_no ((hB_0 e5 (by omega)).mp z)] at nx
                exact nx
              · have b : hB l1 s = true := Decidable.not_not.mp (fun w => z ((hB_0 e5 (by omega)).mpr w))
                refine v_looksOf l5 s e5 (by omega) ⟨fun y => ?_, fun y => v_looksOf l5 s e5 (by omega) (fun x8 e8 => ?_)⟩
                · rw [rd_z b y] at nx
                  exact nx
                · rw [rd_y b y] at nx
                  rw [e8]
                  exact nx
        exact I 9 0 0 (by decide) (Nat.zero_le _) (by omega)
  exact e_X7_hangsTogether l1 l2 (fun x1 e1 => by rw [e1]; exact L 9 0 0 (by decide) (Nat.zero_le _) (by omega))
/-- what a ring is -/
def paB (a : Nat → Int32) (l : Int32) : Nat → Bool
  | 0 => true
  | s + 1 => paB a l s && (!hB l s || decide (0 ≤ (a (9 + s)).toInt))
theorem paB_iff {a : Nat → Int32} {l : Int32} : ∀ n, paB a l n = true ↔ ∀ s, s < n → hB l s = true → 0 ≤ (a (9 + s)).toInt
  | 0 => ⟨fun _ s hs => absurd hs (Nat.not_lt_zero _), fun _ => rfl⟩
  | n + 1 => by
    unfold paB
    rw [Bool.and_eq_true, paB_iff n, Bool.or_eq_true, Bool.not_eq_true', decide_eq_true_iff]
    constructor
    · rintro ⟨q1, q2⟩ s hs hb
      by_cases e : s = n
      · rw [e] at hb ⊢
        rcases q2 with q2 | q2
        · rw [q2] at hb; cases hb
        · exact q2
      · exact q1 s (by omega) hb
    · intro q
      refine ⟨fun s hs hb => q s (by omega) hb, ?_⟩
      cases b : hB l n
      · exact Or.inl rfl
      · exact Or.inr (q n (by omega) b)
abbrev rgP (a : Nat → Int32) (w : Nat) : Prop := w < 2 ^ sn a ∧ 3 ≤ pcn w ∧ paB a (Int32.ofNat w) (sn a) = true ∧ hF (lo a) (hB (Int32.ofNat w)) (sn a) = 0 ∧ oF (lo a) (hB (Int32.ofNat w)) (sn a) = tF (lo a) (hB (Int32.ofNat w)) (sn a) ∧ itR (lo a) (hB (Int32.ofNat w)) (sn a) (oF (lo a) (hB (Int32.ofNat w)) (sn a) &&& (-oF (lo a) (hB (Int32.ofNat w)) (sn a))) 8 = oF (lo a) (hB (Int32.ofNat w)) (sn a)
def rgB (a : Nat → Int32) (w : Nat) : Bool := decide (rgP a w)
theorem rgB_iff {a : Nat → Int32} {w : Nat} : rgB a w = true ↔ rgP a w := decide_eq_true_iff
theorem p2M : ∀ n, n ≤ 8 → (1 <<< (Int32.ofNat n &&& 31) : Int32).toInt = ((2 ^ n : Nat) : Int) ∧ 2 ^ n ≤ 256 := by decide
theorem i3p {w : Nat} : 3 ≤ Int32.ofNat (pcn w) ↔ 3 ≤ pcn w := by
  rw [i_le, pcn_i, show (3 : Int32).toInt = 3 from by decide]
  omega
theorem v_isRing {g : gT} {h : mh_T} {P : Int32 → mh_T → Prop} (l1 : Int32) (tz : TZ (tC h)) (h1 : ∀ w : Nat, l1.toInt = (w : Int) → w < 2 ^ sn (tC h) → rgB (tC h) w = true → P 1 h) (h0 : (∀ w : Nat, l1.toInt = (w : Int) → ¬ rgB (tC h) w = true) → P 0 h) : MCi g yX7_isRing uX7_isRing [.ref 4, .int l1] h P := by
  have n8 : sn (tC h) ≤ 8 := by unfold sn; have := tz.2.1; omega
  have en : (mI h 3 2).toInt = (sn (tC h) : Int) := by show (tC h 0).toInt = _; unfold sn; have := tz.1; omega
  have e2 : (1 <<< ((mI h 3 2) &&& 31) : Int32).toInt = ((2 ^ sn (tC h) : Nat) : Int) := by rw [i_of en (by omega)]; exact (p2M _ n8).1
  have m2 := (p2M _ n8).2
  refine e_X7_isRing l1 ⟨fun c => ?_, fun c => ⟨fun d => ?_, fun d => ?_⟩⟩
  · have c := i_lt.mp c
    rw [i_0] at c
    exact h0 (fun w e => by omega)
  · have d := i_le.mp d
    refine h0 (fun w e r => ?_)
    have := (rgB_iff.mp r).1
    omega
  · have c := i_le.mp (nlt c)
    have d := i_lt.mp (nle d)
    rw [i_0] at c
    obtain ⟨w, ew⟩ : ∃ w : Nat, l1.toInt = (w : Int) := ⟨l1.toInt.toNat, by omega⟩
    have wl : w < 2 ^ sn (tC h) := by omega
    have el := i_of ew (by omega)
    have no : ¬ rgP (tC h) w → P 0 h := fun q => h0 (fun v ev r => q (by rw [show v = w from by omega] at r; exact rgB_iff.mp r))
    refine v_bc l1 ew (by omega) ⟨fun p3 => ?_, fun p3 => no (fun q => p3 (i3p.mpr q.2.1))⟩
    have L : ∀ (q s : Nat) (l5 : Int32), l5.toInt = (s : Int) → s ≤ sn (tC h) → sn (tC h) - s < q → paB (tC h) l1 s = true → ME g uX7_isRing 37 [.ref 4, .int l1, .int (oF (lo (tC h)) (hB l1) s), .int (tF (lo (tC h)) (hB l1) s), .int (hF (lo (tC h)) (hB l1) s), .int l5, .retAddr 0] [] h (qI P) := by
      intro q
      induction q with
      | zero => intro s l5 _ _ hq; exact absurd hq (Nat.not_lt_zero _)
      | succ q iq =>
        intro s l5 e5 hs hq pa
        refine r_X7_isRing_37 l1 _ _ _ l5 ⟨fun d => ?_, fun d => ?_⟩
        · have d := i_le.mp d
          have e : s = sn (tC h) := by omega
          rw [e] at pa ⊢
          refine ⟨fun z => no (fun r => z ?_), fun z => ⟨fun y => no (fun r => y ?_), fun y => v_hangs l1 _ tz (fun x => ⟨fun v => absurd v (by decide), fun _ => h1 w ew wl (rgB_iff.mpr ?_)⟩) (fun x => ⟨fun _ => no (fun r => x ?_), fun v => absurd rfl v⟩)⟩⟩
          · rw [el]; exact r.2.2.2.1
          · rw [el]; exact r.2.2.2.2.1
          · rw [el] at pa z y x
            exact ⟨wl, i3p.mp p3, pa, z, y, x⟩
          · rw [el]; exact r.2.2.2.2.2
        · have d := i_lt.mp (nle d)
          have nx := iq (s + 1) (l5 + 1) (i_inc e5 (by omega)) (by omega) (by omega)
          refine ⟨fun z => ?_, fun z => ?_⟩
          · have b := (hB_0 e5 (by omega)).mp z
            have nx := nx (by unfold paB; rw [pa, Bool.eq_false_iff.mpr b]; rfl)
            rw [show oF (lo (tC h)) (hB l1) (s + 1) = oF (lo (tC h)) (hB l1) s from if_neg b, show tF (lo (tC h)) (hB l1) (s + 1) = tF (lo (tC h)) (hB l1) s from if_neg b, show hF (lo (tC h)) (hB l1) (s + 1) = hF (lo (tC h)) (hB l1) s from if_neg b] at nx
            exact nx
          · have b : hB l1 s = true := Decidable.not_not.mp (fun w => z ((hB_0 e5 (by omega)).mpr w))
            refine e_X8_hasPair l5 (v_hasSet l5 (fun _ => ⟨fun y => absurd y (by decide), fun _ => ⟨i_vp e5 (by omega), fun y => ?_, fun y => ?_⟩⟩) (fun k => absurd (⟨by omega, by show l5.toInt < (mI h 3 2).toInt; omega⟩ : SEb (tC h) l5) k))
            · refine ⟨fun v => absurd rfl v, fun _ => no (fun r => ?_)⟩
              have p := (paB_iff _).mp r.2.2.1 s (by omega) (by rw [← el]; exact b)
              rw [i_nat e5, ← tC_9s (by omega)] at y
              have y := i_lt.mp y
              rw [i_0] at y
              omega
            · refine ⟨fun _ => v_looksOf l5 s e5 (by omega) (fun x13 e13 x14 e14 x15 e15 => ?_), fun v => absurd v (by decide)⟩
              rw [i_nat e5, ← tC_9s (by omega)] at y
              have y := i_le.mp (nlt y)
              rw [i_0] at y
              have nx := nx (by unfold paB; rw [pa, decide_eq_true y, Bool.or_true]; rfl)
              rw [show oF (lo (tC h)) (hB l1) (s + 1) = oF (lo (tC h)) (hB l1) s ||| lo (tC h) s from if_pos b, show tF (lo (tC h)) (hB l1) (s + 1) = tF (lo (tC h)) (hB l1) s ||| (oF (lo (tC h)) (hB l1) s &&& lo (tC h) s) from if_pos b, show hF (lo (tC h)) (hB l1) (s + 1) = hF (lo (tC h)) (hB l1) s ||| (tF (lo (tC h)) (hB l1) s &&& lo (tC h) s) from if_pos b] at nx
              rw [e13, e14, e15]
              exact nx
    exact L 9 0 0 (by decide) (Nat.zero_le _) (by omega) rfl
/-! cycles: the reference's isCycle -/
theorem bt_1A {r : Int32} {p : Nat} (e : r.toInt = (p : Int)) (hp : p < 32) (q : Nat) : bt (1 <<< (r &&& 31)) q = decide (p = q) := by
  have := bt_orA (x := 0) e hp q
  rw [bt_oro, (bt_nul (x := 0)).mp rfl q, Bool.false_or, Bool.false_or] at this
  exact this
theorem lo_w6 {a : Nat → Int32} {s : Nat} (h1 : R 0 5 (a (1 + s))) (h2 : R 0 5 (a (9 + s))) : w6 (lo a s) ∧ ∃ t, bt (lo a s) t = true := by
  obtain ⟨p, ep, -, hp⟩ := i_R h1 (by decide)
  obtain ⟨q, eq, -, hq⟩ := i_R h2 (by decide)
  unfold lo
  refine ⟨fun t ht => ?_, p, ?_⟩
  · rw [bt_oro, bt_1A ep (by omega), bt_1A eq (by omega), decide_eq_false (by omega), decide_eq_false (by omega)]
    rfl
  · rw [bt_oro, bt_1A ep (by omega), decide_eq_true rfl]
    rfl
abbrev PW (a : Nat → Int32) : Prop := ∀ s, s < sn a → R 0 5 (a (1 + s)) ∧ R (-2) 5 (a (9 + s))
theorem orz (x : Int32) : x ||| 0 = x := bt_ext2 (fun t => by rw [bt_oro, (bt_nul (x := 0)).mp rfl t, Bool.or_false])
theorem v_hasB {g : gT} {h : mh_T} {P : Int32 → mh_T → Prop} (l x : Int32) (s : Nat) (e : x.toInt = (s : Int)) (hs : s < 8) (h1 : hB l s = true → P 1 h) (h0 : ¬ hB l s = true → P 0 h) : MCi g yX11_has uX11_has [.int l, .int x] h P := by
  refine e_X11_has l x ⟨fun z => h0 ?_, fun z => h1 ?_⟩
  · have := bv_01 l x
    exact (hB_0 e hs).mp (this.resolve_right z)
  · exact Decidable.not_not.mp (fun q => by
      have y := (hB_0 e hs).mpr q
      rw [z] at y
      exact absurd y (by decide))
theorem clo_o {E : Nat → Int32} {B : Nat → Bool} {n : Nat} : cloP E B n (fun t => bt (oF E B n) t = true) := fun s hs hb _ t ht => (oF_bt n t).mpr ⟨s, hs, hb, ht⟩
theorem cy_conn {E : Nat → Int32} {B : Nat → Bool} {n : Nat} {x : Int32} (hE : ∀ s, s < n → B s = true → w6 (E s)) (hne : ∀ s, s < n → B s = true → ∃ t, bt (E s) t = true) (hs : ∃ s, s < n ∧ B s = true) (fx : rdF E B x n = x) (sx : sbx (lF E B n) x) (mx : ∀ p : Nat → Prop, cloP E B n p → (∀ t, bt (lF E B n) t = true → p t) → ∀ t, bt x t = true → p t) : itR E B n (oF E B n &&& (-oF E B n)) 8 = oF E B n ↔ x = oF E B n := by
  have wo : w6 (oF E B n) := by
    intro t ht
    cases q : bt (oF E B n) t
    · rfl
    · obtain ⟨s, s1, s2, s3⟩ := (oF_bt n t).mp q
      rw [hE s s1 s2 t ht] at s3
      cases s3
  obtain ⟨s, s1, s2, s3⟩ := lF_s (E := E) n hs
  obtain ⟨u, hu⟩ := hne s s1 s2
  have no : ¬ oF E B n = 0 := fun z => by
    have := bt_nul.mp z u
    rw [(oF_bt n u).mpr ⟨s, s1, s2, hu⟩] at this
    cases this
  obtain ⟨t, t1, t2⟩ := low_bit wo no
  have w0 : w6 (oF E B n &&& (-oF E B n)) := by
    intro q hq
    rw [bt_ano, wo q hq]
    rfl
  have lo_ : ∀ q, bt (lF E B n) q = true → bt (oF E B n) q = true := by
    intro q hq
    rw [s3] at hq
    exact (oF_bt n q).mpr ⟨s, s1, s2, hq⟩
  refine conn_iff (x0 := oF E B n &&& (-oF E B n)) (y0 := lF E B n) (oF_bt n) (rd_fix (it_fix hE w0)) (fun p c q => it_min c q 8) (rd_fix fx) mx (fun q hq => it_min clo_o (fun v hv => by rw [(t2 v).mp hv]; exact t1) 8 q hq) (fun q hq => mx _ clo_o lo_ q hq) (fun p c => ?_) (fun p c => ?_) ⟨t, it_sub 8 t ((t2 t).mpr rfl)⟩ ⟨u, sx u (by rw [s3]; exact hu)⟩
  · by_cases h : p t
    · exact Or.inl (fun v hv => by rw [(t2 v).mp hv]; exact h)
    · exact Or.inr (fun v hv => by rw [(t2 v).mp hv]; exact ⟨t1, h⟩)
  · by_cases h : ∃ v, bt (E s) v = true ∧ p v
    · exact Or.inl (fun v hv => by rw [s3] at hv; exact c s s1 s2 h v hv)
    · exact Or.inr (fun v hv => ⟨lo_ v hv, fun y => h ⟨v, by rw [← s3]; exact hv, y⟩⟩)
theorem pc_ex : ∀ w, w < 256 → 3 ≤ pcn w → ∃ s, s < 8 ∧ hB (Int32.ofNat w) s = true ∧ 2 ^ s ≤ w := by decide +kernel
theorem v_isCycle {g : gT} {h : mh_T} {P : Int32 → mh_T → Prop} (l1 : Int32) (tz : TZ (h.1 45)) (pw : PW (h.1 45)) (h1 : ∀ w : Nat, l1.toInt = (w : Int) → w < 2 ^ sn (h.1 45) → rgB (h.1 45) w = true → P 1 h) (h0 : (∀ w : Nat, l1.toInt = (w : Int) → ¬ rgB (h.1 45) w = true) → P 0 h) : MCi g yX11_isCycle uX11_isCycle [.ref 11, .int l1] h P := by
  have n8 : sn (h.1 45) ≤ 8 := by unfold sn; have := tz.2.1; omega
  have en : (mI h 45 (Int32.toNatClampNeg 0)).toInt = (sn (h.1 45) : Int) := by show (h.1 45 0).toInt = _; unfold sn; have := tz.1; omega
  have e2 : (1 <<< ((mI h 45 (Int32.toNatClampNeg 0)) &&& 31) : Int32).toInt = ((2 ^ sn (h.1 45) : Nat) : Int) := by rw [i_of en (by omega)]; exact (p2M _ n8).1
  have m2 := (p2M _ n8).2
  have m1 : 1 ≤ 2 ^ sn (h.1 45) := Nat.one_le_two_pow
  have e3 := i_sub e2 (show (1 : Int32).toInt = 1 from by decide) (by omega)
  refine e_X11_isCycle l1 (e_X11_within _ _ _ ⟨fun c => ⟨fun _ => ?_, fun y => absurd rfl y⟩, fun c => ⟨fun d => ⟨fun _ => ?_, fun y => absurd rfl y⟩, fun d => ⟨fun y => absurd y (by decide), fun _ => ?_⟩⟩⟩)
  · have c := i_lt.mp c
    rw [i_0] at c
    exact h0 (fun w e => by omega)
  · have d := i_lt.mp d
    refine h0 (fun w e r => ?_)
    have := (rgB_iff.mp r).1
    omega
  · have c := i_le.mp (nlt c)
    have d := i_le.mp (nlt d)
    rw [i_0] at c
    obtain ⟨w, ew⟩ : ∃ w : Nat, l1.toInt = (w : Int) := ⟨l1.toInt.toNat, by omega⟩
    have wl : w < 2 ^ sn (h.1 45) := by omega
    have el := i_of ew (by omega)
    have no : ¬ rgP (h.1 45) w → P 0 h := fun q => h0 (fun v ev r => q (by rw [show v = w from by omega] at r; exact rgB_iff.mp r))
    refine w_bits l1 ew (by omega) ⟨fun p3 => ?_, fun p3 => no (fun q => p3 (i3p.mpr q.2.1))⟩
    have p3 := i3p.mp p3
    obtain ⟨s0, s1, s2, s3⟩ := pc_ex w (by omega) p3
    have s4 : s0 < sn (h.1 45) := (Nat.pow_lt_pow_iff_right (by omega)).mp (Nat.lt_of_le_of_lt s3 wl)
    rw [← el] at s2
    have End : ∀ x : Int32, paB (h.1 45) l1 (sn (h.1 45)) = true → hF (lo (h.1 45)) (hB l1) (sn (h.1 45)) = 0 → oF (lo (h.1 45)) (hB l1) (sn (h.1 45)) = tF (lo (h.1 45)) (hB l1) (sn (h.1 45)) → rdF (lo (h.1 45)) (hB l1) x (sn (h.1 45)) = x → sbx (lF (lo (h.1 45)) (hB l1) (sn (h.1 45))) x → (∀ p : Nat → Prop, cloP (lo (h.1 45)) (hB l1) (sn (h.1 45)) p → (∀ t, bt (lF (lo (h.1 45)) (hB l1) (sn (h.1 45))) t = true → p t) → ∀ t, bt x t = true → p t) → ME g uX11_isCycle 145 [.ref 11, .int l1, .int (oF (lo (h.1 45)) (hB l1) (sn (h.1 45))), .int (tF (lo (h.1 45)) (hB l1) (sn (h.1 45))), .int x, .int x, .retAddr 0, .retAddr 0] [] h (qI P) := by
      intro x pa hz ot fx sx mx
      have pp := (paB_iff _).mp pa
      have lw : ∀ s, s < sn (h.1 45) → hB l1 s = true → w6 (lo (h.1 45) s) ∧ ∃ t, bt (lo (h.1 45) s) t = true := fun s hs hb => lo_w6 (pw s hs).1 ⟨pp s hs hb, (pw s hs).2.2⟩
      have cc := cy_conn (fun s hs hb => (lw s hs hb).1) (fun s hs hb => (lw s hs hb).2) ⟨s0, s4, s2⟩ fx sx mx
      refine r_X11_isCycle_145 l1 _ _ x x ⟨fun _ => ⟨fun z => no (fun r => z (cc.mp ?_)), fun z => h1 w ew wl (rgB_iff.mpr ?_)⟩, fun z => absurd rfl z⟩
      · rw [el]; exact r.2.2.2.2.2
      · have k := cc.mpr z
        rw [el] at pa hz ot k
        exact ⟨wl, p3, pa, hz, ot, k⟩
    have M : ∀ (m : Nat) (x y : Int32), paB (h.1 45) l1 (sn (h.1 45)) = true → hF (lo (h.1 45)) (hB l1) (sn (h.1 45)) = 0 → oF (lo (h.1 45)) (hB l1) (sn (h.1 45)) = tF (lo (h.1 45)) (hB l1) (sn (h.1 45)) → ¬ x = y → w6 x → 7 - cb x < m → sbx (lF (lo (h.1 45)) (hB l1) (sn (h.1 45))) x → (∀ p : Nat → Prop, cloP (lo (h.1 45)) (hB l1) (sn (h.1 45)) p → (∀ t, bt (lF (lo (h.1 45)) (hB l1) (sn (h.1 45))) t = true → p t) → ∀ t, bt x t = true → p t) → ME g uX11_isCycle 145 [.ref 11, .int l1, .int (oF (lo (h.1 45)) (hB l1) (sn (h.1 45))), .int (tF (lo (h.1 45)) (hB l1) (sn (h.1 45))), .int x, .int y, .retAddr 0, .retAddr 0] [] h (qI P) := by
      intro m
      induction m with
      | zero => intro x y _ _ _ _ _ hm; exact absurd hm (Nat.not_lt_zero _)
      | succ m ih =>
        intro x y pa hz ot ne wx hm sx mx
        have pp := (paB_iff _).mp pa
        have lw : ∀ s, s < sn (h.1 45) → hB l1 s = true → w6 (lo (h.1 45) s) := fun s hs hb => (lo_w6 (pw s hs).1 ⟨pp s hs hb, (pw s hs).2.2⟩).1
        refine r_X11_isCycle_145 l1 _ _ x y ⟨fun z => absurd z ne, fun _ => ?_⟩
        have I : ∀ (q s : Nat) (l6 : Int32), l6.toInt = (s : Int) → s ≤ sn (h.1 45) → sn (h.1 45) - s < q → ME g uX11_isCycle 159 [.ref 11, .int l1, .int (oF (lo (h.1 45)) (hB l1) (sn (h.1 45))), .int (tF (lo (h.1 45)) (hB l1) (sn (h.1 45))), .int (rdF (lo (h.1 45)) (hB l1) x s), .int x, .int l6, .retAddr 0] [] h (qI P) := by
          intro q
          induction q with
          | zero => intro s l6 _ _ hq; exact absurd hq (Nat.not_lt_zero _)
          | succ q iq =>
            intro s l6 e6 hs hq
            refine r_X11_isCycle_159 l1 _ _ _ x l6 ⟨fun d => ?_, fun d => ?_⟩
            · have d := i_le.mp d
              have e : s = sn (h.1 45) := by omega
              rw [e]
              by_cases f : rdF (lo (h.1 45)) (hB l1) x (sn (h.1 45)) = x
              · rw [f]
                exact End x pa hz ot f sx mx
              · have w2 := rd_w6 (N := sn (h.1 45)) lw wx _ (Nat.le_refl _)
                have mo := rd_mono (E := lo (h.1 45)) (B := hB l1) (x := x) (j := 0) (sn (h.1 45)) (Nat.zero_le _)
                have lt : cb x < cb (rdF (lo (h.1 45)) (hB l1) x (sn (h.1 45))) := cb_lt w2 mo f
                have le := cN_le (fun t => bt (rdF (lo (h.1 45)) (hB l1) x (sn (h.1 45))) t) 6
                have le : cb (rdF (lo (h.1 45)) (hB l1) x (sn (h.1 45))) ≤ 6 := le
                exact ih _ x pa hz ot f w2 (by omega) (fun t ht => mo t (sx t ht)) (fun p c hp => rd_min c (mx p c hp) _ (Nat.le_refl _))
            · have d := i_lt.mp (nle d)
              have nx := iq (s + 1) (l6 + 1) (i_inc e6 (by omega)) (by omega) (by omega)
              have k1 : (1 + l6).toInt = ((1 + s : Nat) : Int) := by rw [i_add (show (1 : Int32).toInt = 1 from by decide) e6 (by omega)]; omega
              have k9 : (9 + l6).toInt = ((9 + s : Nat) : Int) := by rw [i_add (show (9 : Int32).toInt = 9 from by decide) e6 (by omega)]; omega
              refine v_hasB l1 l6 s e6 (by omega) (fun b => ⟨fun v => absurd v (by decide), fun _ => ⟨i_vp k1 (by omega), i_vp k9 (by omega), fun x10 e10 => ?_⟩⟩) (fun b => ⟨fun _ => ?_, fun v => absurd rfl v⟩)
              · have e10 : x10 = lo (h.1 45) s := by rw [e10, i_nat k1, i_nat k9]; rfl
                rw [e10]
                refine ⟨fun z x12 e12 => ?_, fun z x13 e13 => ?_⟩
                · rw [rd_z b z] at nx
                  rw [e12, orz]
                  exact nx
                · rw [rd_y b z] at nx
                  rw [e13]
                  exact nx
              · rw [rd_no b] at nx
                refine ⟨fun _ x6 e => ?_, fun _ x7 e => ?_⟩
                · rw [e, orz]; exact nx
                · rw [e, orz]; exact nx
        exact I 9 0 0 (by decide) (Nat.zero_le _) (by omega)
    have L : ∀ (q s : Nat) (l5 : Int32), l5.toInt = (s : Int) → s ≤ sn (h.1 45) → sn (h.1 45) - s < q → paB (h.1 45) l1 s = true → hF (lo (h.1 45)) (hB l1) s = 0 → ME g uX11_isCycle 38 [.ref 11, .int l1, .int (oF (lo (h.1 45)) (hB l1) s), .int (tF (lo (h.1 45)) (hB l1) s), .int (lF (lo (h.1 45)) (hB l1) s), .int l5, .retAddr 0, .retAddr 0] [] h (qI P) := by
      intro q
      induction q with
      | zero => intro s l5 _ _ hq; exact absurd hq (Nat.not_lt_zero _)
      | succ q iq =>
        intro s l5 e5 hs hq pa hz
        refine r_X11_isCycle_38 l1 _ _ _ l5 ⟨fun d => ?_, fun d => ?_⟩
        · have d := i_le.mp d
          have e : s = sn (h.1 45) := by omega
          rw [e] at pa hz ⊢
          refine ⟨fun z => ?_, fun z => no (fun r => z (by rw [el]; exact r.2.2.2.2.1))⟩
          obtain ⟨s', q1, q2, q3⟩ := lF_s (E := lo (h.1 45)) (B := hB l1) (sn (h.1 45)) ⟨s0, s4, s2⟩
          have lw := lo_w6 (pw s' q1).1 ⟨(paB_iff _).mp pa s' q1 q2, (pw s' q1).2.2⟩
          refine M 8 _ 0 pa hz z (fun y => ?_) (by rw [q3]; exact lw.1) (by omega) (fun _ y => y) (fun p _ hp => hp)
          obtain ⟨t, ht⟩ := lw.2
          have := bt_nul.mp y t
          rw [q3, ht] at this
          cases this
        · have d := i_lt.mp (nle d)
          have nx := iq (s + 1) (l5 + 1) (i_inc e5 (by omega)) (by omega) (by omega)
          have k1 : (1 + l5).toInt = ((1 + s : Nat) : Int) := by rw [i_add (show (1 : Int32).toInt = 1 from by decide) e5 (by omega)]; omega
          have k9 : (9 + l5).toInt = ((9 + s : Nat) : Int) := by rw [i_add (show (9 : Int32).toInt = 9 from by decide) e5 (by omega)]; omega
          refine v_hasB l1 l5 s e5 (by omega) (fun b => ⟨fun _ => ⟨i_vp k9 (by omega), fun y => ⟨i_vp k1 (by omega), i_vp k9 (by omega), fun x10 e10 => ?_⟩, fun y => no (fun r => ?_)⟩, fun v => absurd v (by decide)⟩) (fun b => ⟨fun v => absurd rfl v, fun _ => ?_⟩)
          · have e10 : x10 = lo (h.1 45) s := by rw [e10, i_nat k1, i_nat k9]; rfl
            rw [e10]
            rw [i_nat k9] at y
            have y0 : 0 ≤ (h.1 45 (9 + s)).toInt := by
              rcases (tz.2.2 s (by omega)).1 with v | v
              · exact absurd v.1 y
              · exact v
            refine ⟨fun z x12 e12 x13 e13 => ?_, fun z => no (fun r => z ?_)⟩
            · have nx := nx (by unfold paB; rw [pa, decide_eq_true y0, Bool.or_true]; rfl) (by
                show (if hB l1 s = true then hF (lo (h.1 45)) (hB l1) s ||| (tF (lo (h.1 45)) (hB l1) s &&& lo (h.1 45) s) else hF (lo (h.1 45)) (hB l1) s) = 0
                rw [if_pos b, hz, z]; decide)
              rw [show oF (lo (h.1 45)) (hB l1) (s + 1) = oF (lo (h.1 45)) (hB l1) s ||| lo (h.1 45) s from if_pos b, show tF (lo (h.1 45)) (hB l1) (s + 1) = tF (lo (h.1 45)) (hB l1) s ||| (oF (lo (h.1 45)) (hB l1) s &&& lo (h.1 45) s) from if_pos b, show lF (lo (h.1 45)) (hB l1) (s + 1) = lo (h.1 45) s from if_pos b] at nx
              rw [e12, e13]
              exact nx
            · have := (hF_0 _).mp r.2.2.2.1 s (by omega) (by rw [← el]; exact b)
              rw [← el] at this
              exact this
          · have p := (paB_iff _).mp r.2.2.1 s (by omega) (by rw [← el]; exact b)
            rw [i_nat k9] at y
            have y : h.1 45 (9 + s) = -2 := y
            rw [y] at p
            exact absurd p (by decide)
          · have nx := nx (by unfold paB; rw [pa, Bool.eq_false_iff.mpr b]; rfl) (by
              show (if hB l1 s = true then hF (lo (h.1 45)) (hB l1) s ||| (tF (lo (h.1 45)) (hB l1) s &&& lo (h.1 45) s) else hF (lo (h.1 45)) (hB l1) s) = 0
              rw [if_neg b]; exact hz)
            rw [show oF (lo (h.1 45)) (hB l1) (s + 1) = oF (lo (h.1 45)) (hB l1) s from if_neg b, show tF (lo (h.1 45)) (hB l1) (s + 1) = tF (lo (h.1 45)) (hB l1) s from if_neg b, show lF (lo (h.1 45)) (hB l1) (s + 1) = lF (lo (h.1 45)) (hB l1) s from if_neg b] at nx
            exact nx
    exact L 9 0 0 (by decide) (Nat.zero_le _) (by omega) rfl rfl
/-! cycles: their number, the i-th -/
theorem oF_cg {E D : Nat → Int32} {B : Nat → Bool} : ∀ n, (∀ s, s < n → E s = D s) → oF E B n = oF D B n
  | 0, _ => rfl
  | n + 1, h => by
    show (if B n = true then oF E B n ||| E n else oF E B n) = (if B n = true then oF D B n ||| D n else oF D B n)
    rw [oF_cg n (fun s hs => h s (by omega)), h n (by omega)]
theorem tF_cg {E D : Nat → Int32} {B : Nat → Bool} : ∀ n, (∀ s, s < n → E s = D s) → tF E B n = tF D B n
  | 0, _ => rfl
  | n + 1, h => by
    show (if B n = true then tF E B n ||| (oF E B n &&& E n) else tF E B n) = (if B n = true then tF D B n ||| (oF D B n &&& D n) else tF D B n)
    rw [tF_cg n (fun s hs => h s (by omega)), oF_cg n (fun s hs => h s (by omega)), h n (by omega)]
theorem hF_cg {E D : Nat → Int32} {B : Nat → Bool} : ∀ n, (∀ s, s < n → E s = D s) → hF E B n = hF D B n
  | 0, _ => rfl
  | n + 1, h => by
    show (if B n = true then hF E B n ||| (tF E B n &&& E n) else hF E B n) = (if B n = true then hF D B n ||| (tF D B n &&& D n) else hF D B n)
    rw [hF_cg n (fun s hs => h s (by omega)), tF_cg n (fun s hs => h s (by omega)), h n (by omega)]
theorem rdF_cg {E D : Nat → Int32} {B : Nat → Bool} {x : Int32} : ∀ n, (∀ s, s < n → E s = D s) → rdF E B x n = rdF D B x n
  | 0, _ => rfl
  | n + 1, h => by
    show (if B n = true then (if (E n &&& rdF E B x n) = 0 then rdF E B x n else rdF E B x n ||| E n) else rdF E B x n) = (if B n = true then (if (D n &&& rdF D B x n) = 0 then rdF D B x n else rdF D B x n ||| D n) else rdF D B x n)
    rw [rdF_cg n (fun s hs => h s (by omega)), h n (by omega)]
theorem itR_cg {E D : Nat → Int32} {B : Nat → Bool} {n : Nat} {x : Int32} (h : ∀ s, s < n → E s = D s) : ∀ k, itR E B n x k = itR D B n x k
  | 0 => rfl
  | k + 1 => by
    show rdF E B (itR E B n x k) n = rdF D B (itR D B n x k) n
    rw [itR_cg h k, rdF_cg n h]
theorem paB_cg {a b : Nat → Int32} {l : Int32} : ∀ n, (∀ s, s < n → a (9 + s) = b (9 + s)) → paB a l n = paB b l n
  | 0, _ => rfl
  | n + 1, h => by
    unfold paB
    rw [paB_cg n (fun s hs => h s (by omega)), h n (by omega)]
theorem rgB_cg {a b : Nat → Int32} (r : Rq a b) (w : Nat) : rgB a w = rgB b w := by
  have en : sn a = sn b := by unfold sn; rw [r.1]
  have eL : ∀ s, s < sn b → lo a s = lo b s := fun s hs => lo_cg (r.2.2 s hs)
  unfold rgB
  apply decide_eq_decide.mpr
  unfold rgP
  rw [en, paB_cg _ (fun s hs => (r.2.2 s hs).2.1), hF_cg _ eL, oF_cg _ eL, tF_cg _ eL, itR_cg eL]
theorem PW_C {h : mh_T} (hG : GI h) (tz : TZ (tC h)) : PW (tC h) := by
  intro s hs
  have n8 : sn (tC h) ≤ 8 := by unfold sn; have := tz.2.1; omega
  rw [tC_1s (by omega), tC_9s (by omega)]
  exact ⟨GI_rd hG 24 s rfl, GI_rd hG 25 s rfl⟩
theorem PW_cg {a b : Nat → Int32} (r : Rq a b) (p : PW a) : PW b := by
  intro s hs
  have en : sn a = sn b := by unfold sn; rw [r.1]
  have q := p s (by omega)
  rw [(r.2.2 s hs).1, (r.2.2 s hs).2.1] at q
  exact q
theorem v_ringAt {g : gT} {h : mh_T} {P : Int32 → mh_T → Prop} (l1 : Int32) (tz : TZ (tC h)) (h1 : ∀ r : Int32, NT (rgB (tC h)) (2 ^ sn (tC h)) l1 r → P r h) (h0 : (∀ k, k < 2 ^ sn (tC h) → rgB (tC h) k = true → ¬ (cN (rgB (tC h)) k : Int) = l1.toInt) → P (-1) h) : MCi g yX7_ringAt uX7_ringAt [.ref 4, .int l1] h P := by
  have n8 : sn (tC h) ≤ 8 := by unfold sn; have := tz.2.1; omega
  have en : (mI h 3 2).toInt = (sn (tC h) : Int) := by show (tC h 0).toInt = _; unfold sn; have := tz.1; omega
  have e2 : (1 <<< ((mI h 3 2) &&& 31) : Int32).toInt = ((2 ^ sn (tC h) : Nat) : Int) := by rw [i_of en (by omega)]; exact (p2M _ n8).1
  have m2 := (p2M _ n8).2
  have L : ∀ (n : Nat) (l2 l3 : Int32) (k : Nat), l3.toInt = (k : Int) → k ≤ 2 ^ sn (tC h) → 2 ^ sn (tC h) - k < n → l2.toInt = (cN (rgB (tC h)) k : Int) → (∀ j, j < k → rgB (tC h) j = true → ¬ (cN (rgB (tC h)) j : Int) = l1.toInt) → ME g uX7_ringAt 4 [.ref 4, .int l1, .int l2, .int l3] [] h (qI P) := by
    intro n
    induction n with
    | zero => intro l2 l3 k _ _ hn; exact absurd hn (Nat.not_lt_zero _)
    | succ n ih =>
      intro l2 l3 k ek hk hn e1 inv
      have cl := cN_le (rgB (tC h)) k
      have sk : cN (rgB (tC h)) (k + 1) = cN (rgB (tC h)) k + (if rgB (tC h) k = true then 1 else 0) := rfl
      refine r_X7_ringAt_4 l1 l2 l3 ⟨fun c => ?_, fun c => ?_⟩
      · have c := i_le.mp c
        have e : k = 2 ^ sn (tC h) := by omega
        rw [e] at inv
        exact h0 inv
      · have c := i_lt.mp (nle c)
        refine v_isRing l3 tz (fun w ew _ z => ?_) (fun z => ⟨fun _ => ih l2 (l3 + 1) (k + 1) (i_inc ek (by omega)) (by omega) (by omega) ?_ (fun j hj pj => ?_), fun y => absurd rfl y⟩)
        · rw [show w = k from by omega] at z
          refine ⟨fun y => absurd y (by decide), fun _ => ⟨fun y => ih (l2 + 1) (l3 + 1) (k + 1) (i_inc ek (by omega)) (by omega) (by omega) ?_ (fun j hj pj => ?_), fun y => h1 l3 ⟨k, by omega, z, by rw [← e1, y], ek⟩⟩⟩
          · rw [i_inc e1 (by omega), sk, if_pos z]
          · by_cases e : j = k
            · rw [e]; exact fun v => y (Int32.toInt_inj.mp (by rw [e1, v]))
            · exact inv j (by omega) pj
        · rw [e1, sk, if_neg (z k ek)]
          rfl
        · by_cases e : j = k
          · rw [e] at pj; exact absurd pj (z k ek)
          · exact inv j (by omega) pj
  exact e_X7_ringAt l1 (L 258 0 0 0 (by decide) (Nat.zero_le _) (by omega) rfl (fun j hj => absurd hj (Nat.not_lt_zero _)))
theorem v_cycleOf {g : gT} {h : mh_T} {P : Int32 → mh_T → Prop} (l1 : Int32) (tz : TZ (h.1 45)) (pw : PW (h.1 45)) (h1 : ∀ r : Int32, NT (rgB (h.1 45)) (2 ^ sn (h.1 45)) l1 r → P r h) (h0 : ∀ r : Int32, (∀ k, k < 2 ^ sn (h.1 45) → rgB (h.1 45) k = true → ¬ (cN (rgB (h.1 45)) k : Int) = l1.toInt) → r.toInt = (cN (rgB (h.1 45)) (2 ^ sn (h.1 45)) : Int) - 1000 → cN (rgB (h.1 45)) (2 ^ sn (h.1 45)) ≤ 256 → P r h) : MCi g yX11_cycleOf uX11_cycleOf [.ref 11, .int l1] h P := by
  have n8 : sn (h.1 45) ≤ 8 := by unfold sn; have := tz.2.1; omega
  have en : (mI h 45 (Int32.toNatClampNeg 0)).toInt = (sn (h.1 45) : Int) := by show (h.1 45 0).toInt = _; unfold sn; have := tz.1; omega
  have e2 : (1 <<< ((mI h 45 (Int32.toNatClampNeg 0)) &&& 31) : Int32).toInt = ((2 ^ sn (h.1 45) : Nat) : Int) := by rw [i_of en (by omega)]; exact (p2M _ n8).1
  have m2 := (p2M _ n8).2
  have L : ∀ (n : Nat) (l2 l3 : Int32) (k : Nat), l3.toInt = (k : Int) → k ≤ 2 ^ sn (h.1 45) → 2 ^ sn (h.1 45) - k < n → l2.toInt = (cN (rgB (h.1 45)) k : Int) → (∀ j, j < k → rgB (h.1 45) j = true → ¬ (cN (rgB (h.1 45)) j : Int) = l1.toInt) → ME g uX11_cycleOf 4 [.ref 11, .int l1, .int l2, .int l3] [] h (qI P) := by
    intro n
    induction n with
    | zero => intro l2 l3 k _ _ hn; exact absurd hn (Nat.not_lt_zero _)
    | succ n ih =>
      intro l2 l3 k ek hk hn e1 inv
      have cl := cN_le (rgB (h.1 45)) k
      have sk : cN (rgB (h.1 45)) (k + 1) = cN (rgB (h.1 45)) k + (if rgB (h.1 45) k = true then 1 else 0) := rfl
      refine r_X11_cycleOf_4 l1 l2 l3 ⟨fun c => ?_, fun c => ?_⟩
      · have c := i_le.mp c
        have e : k = 2 ^ sn (h.1 45) := by omega
        rw [e] at inv e1 cl
        exact h0 _ inv (by rw [i_sub e1 (show (1000 : Int32).toInt = 1000 from by decide) (by omega)]) (by omega)
      · have c := i_lt.mp (nle c)
        refine v_isCycle l3 tz pw (fun w ew _ z => ?_) (fun z => ⟨fun y => absurd rfl y, fun _ => ih l2 (l3 + 1) (k + 1) (i_inc ek (by omega)) (by omega) (by omega) ?_ (fun j hj pj => ?_)⟩)
        · rw [show w = k from by omega] at z
          refine ⟨fun _ => ⟨fun y => ih (l2 + 1) (l3 + 1) (k + 1) (i_inc ek (by omega)) (by omega) (by omega) ?_ (fun j hj pj => ?_), fun y => h1 l3 ⟨k, by omega, z, by rw [← e1, y], ek⟩⟩, fun y => absurd y (by decide)⟩
          · rw [i_inc e1 (by omega), sk, if_pos z]
          · by_cases e : j = k
            · rw [e]; exact fun v => y (Int32.toInt_inj.mp (by rw [e1, v]))
            · exact inv j (by omega) pj
        · rw [e1, sk, if_neg (z k ek)]
          rfl
        · by_cases e : j = k
          · rw [e] at pj; exact absurd pj (z k ek)
          · exact inv j (by omega) pj
  exact e_X11_cycleOf l1 (L 258 0 0 0 (by decide) (Nat.zero_le _) (by omega) rfl (fun j hj => absurd hj (Nat.not_lt_zero _)))
/-! cycles: excess -/
def sg (A : Nat → Int) (z : Nat → Bool) (s : Nat) : Int := if z s = true then -A s else A s
/-! cycles: surplus, excessOf -/
def al (a : Nat → Int32) (s : Nat) : Int := (a (17 + 4 * s)).toInt + (a (17 + 4 * s + 3)).toInt - (a (17 + 4 * s + 1)).toInt - (a (17 + 4 * s + 2)).toInt
/-! cycles: excessOf -/
/-! cycles: greatest, widest -/
