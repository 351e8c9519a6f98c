/-! cycles: isRing, isCycle -/
theorem lo_C {h : mh_T} {s : Nat} (hs : s < 8) : lo (tC h) s = (1 <<< ((mI h 24 s) &&& 31)) ||| (1 <<< ((mI h 25 s) &&& 31)) := by
  have e1 : tC h (1 + s) = mI h 24 s := by
    unfold tC
    rw [if_neg (by omega), if_pos (by omega), show 1 + s - 1 = s from by omega]
  have e2 : tC h (9 + s) = mI h 25 s := by
    unfold tC
    rw [if_neg (by omega), if_neg (by omega), if_pos (by omega), show 9 + s - 9 = s from by omega]
  unfold lo
  rw [e1, e2]
theorem tC_9s {h : mh_T} {s : Nat} (hs : s < 8) : tC h (9 + s) = mI h 25 s := by
  unfold tC
  rw [if_neg (by omega), if_neg (by omega), if_pos (by omega), show 9 + s - 9 = s from by omega]
theorem tC_1s {h : mh_T} {s : Nat} (hs : s < 8) : tC h (1 + s) = mI h 24 s := by
  unfold tC
  rw [if_neg (by omega), if_pos (by omega), show 1 + s - 1 = s from by omega]
theorem v_looksOf {g : gT} {h : mh_T} {P : Int32 → mh_T → Prop} (l1 : Int32) (s : Nat) (es : l1.toInt = (s : Int)) (hs : s < 8) (hp : P (lo (tC h) s) h) : MCi g yX7_looksOf uX7_looksOf [.ref 4, .int l1] h P := by
  refine e_X7_looksOf l1 ⟨i_vp es hs, i_vp es hs, ?_⟩
  rw [i_nat es, ← lo_C hs]
  exact hp
theorem hB_0 {l x : Int32} {s : Nat} (e : x.toInt = (s : Int)) (hs : s < 8) : ((l >>> (x &&& 31)) &&& 1) = 0 ↔ ¬ hB l s = true := by
  unfold hB bv
  rw [← i_of e (by omega), decide_eq_true_iff, Decidable.not_not]
theorem rd_no {E : Nat → Int32} {B : Nat → Bool} {x : Int32} {s : Nat} (h : ¬ B s = true) : rdF E B x (s + 1) = rdF E B x s := by
  show (if B s = true then (if (E s &&& rdF E B x s) = 0 then rdF E B x s else rdF E B x s ||| E s) else rdF E B x s) = _
  rw [if_neg h]
theorem rd_z {E : Nat → Int32} {B : Nat → Bool} {x : Int32} {s : Nat} (h : B s = true) (z : (E s &&& rdF E B x s) = 0) : rdF E B x (s + 1) = rdF E B x s := by
  show (if B s = true then (if (E s &&& rdF E B x s) = 0 then rdF E B x s else rdF E B x s ||| E s) else rdF E B x s) = _
  rw [if_pos h, if_pos z]
theorem rd_y {E : Nat → Int32} {B : Nat → Bool} {x : Int32} {s : Nat} (h : B s = true) (z : ¬ (E s &&& rdF E B x s) = 0) : rdF E B x (s + 1) = rdF E B x s ||| E s := by
  show (if B s = true then (if (E s &&& rdF E B x s) = 0 then rdF E B x s else rdF E B x s ||| E s) else rdF E B x s) = _
  rw [if_pos h, if_neg z]
theorem v_hangs {g : gT} {h : mh_T} {P : Int32 → mh_T → Prop} (l1 l2 : Int32) (tz : TZ (tC h)) (h1 : itR (lo (tC h)) (hB l1) (sn (tC h)) (l2 &&& (-l2)) 8 = l2 → P 1 h) (h0 : ¬ itR (lo (tC h)) (hB l1) (sn (tC h)) (l2 &&& (-l2)) 8 = l2 → P 0 h) : MCi g yX7_hangsTogether uX7_hangsTogether [.ref 4, .int l1, .int l2] h P := by
  have n8 : sn (tC h) ≤ 8 := by unfold sn; have := tz.2.1; omega
  have en : (mI h 3 2).toInt = (sn (tC h) : Int) := by show (tC h 0).toInt = _; unfold sn; have := tz.1; omega
  have i8 : (8 : Int32).toInt = 8 := by decide
  have L : ∀ (m k : Nat) (l4 : Int32), l4.toInt = (k : Int) → k ≤ 8 → 8 - k < m → ME g uX7_hangsTogether 8 [.ref 4, .int l1, .int l2, .int (itR (lo (tC h)) (hB l1) (sn (tC h)) (l2 &&& (-l2)) k), .int l4, .retAddr 0] [] h (qI P) := by
    intro m
    induction m with
    | zero => intro k l4 _ _ hm; exact absurd hm (Nat.not_lt_zero _)
    | succ m ih =>
      intro k l4 e4 hk hm
      refine r_X7_hangsTogether_8 l1 l2 _ l4 ⟨fun c => ?_, fun c => ?_⟩
      · have c := i_le.mp c
        have e : k = 8 := by omega
        rw [e]
        exact ⟨h0, h1⟩
      · have c := i_lt.mp (nle c)
        have I : ∀ (q s : Nat) (l5 : Int32), l5.toInt = (s : Int) → s ≤ sn (tC h) → sn (tC h) - s < q → ME g uX7_hangsTogether 18 [.ref 4, .int l1, .int l2, .int (rdF (lo (tC h)) (hB l1) (itR (lo (tC h)) (hB l1) (sn (tC h)) (l2 &&& (-l2)) k) s), .int l4, .int l5] [] h (qI P) := by
          intro q
          induction q with
          | zero => intro s l5 _ _ hq; exact absurd hq (Nat.not_lt_zero _)
          | succ q iq =>
            intro s l5 e5 hs hq
            refine r_X7_hangsTogether_18 l1 l2 _ l4 l5 ⟨fun d => ?_, fun d => ?_⟩
            · have d := i_le.mp d
              have e : s = sn (tC h) := by omega
              rw [e]
              exact ih (k + 1) (l4 + 1) (i_inc e4 (by omega)) (by omega) (by omega)
            · have d := i_lt.mp (nle d)
              have nx := iq (s + 1) (l5 + 1) (i_inc e5 (by omega)) (by omega) (by omega)
              refine ⟨fun z => ?_, fun z => ?_⟩
              · rw [rd_no ((hB_0 e5 (by omega)).mp z)] at nx
                exact nx
              · have b : hB l1 s = true := Decidable.not_not.mp (fun w => z ((hB_0 e5 (by omega)).mpr w))
                refine v_looksOf l5 s e5 (by omega) ⟨fun y => ?_, fun y => v_looksOf l5 s e5 (by omega) (fun x8 e8 => ?_)⟩
                · rw [rd_z b y] at nx
                  exact nx
                · rw [rd_y b y] at nx
                  rw [e8]
                  exact nx
        exact I 9 0 0 (by decide) (Nat.zero_le _) (by omega)
  exact e_X7_hangsTogether l1 l2 (fun x1 e1 => by rw [e1]; exact L 9 0 0 (by decide) (Nat.zero_le _) (by omega))
/-- what a ring is -/
def paB (a : Nat → Int32) (l : Int32) : Nat → Bool
  | 0 => true
  | s + 1 => paB a l s && (!hB l s || decide (0 ≤ (a (9 + s)).toInt))
theorem paB_iff {a : Nat → Int32} {l : Int32} : ∀ n, paB a l n = true ↔ ∀ s, s < n → hB l s = true → 0 ≤ (a (9 + s)).toInt
  | 0 => ⟨fun _ s hs => absurd hs (Nat.not_lt_zero _), fun _ => rfl⟩
  | n + 1 => by
    unfold paB
    rw [Bool.and_eq_true, paB_iff n, Bool.or_eq_true, Bool.not_eq_true', decide_eq_true_iff]
    constructor
    · rintro ⟨q1, q2⟩ s hs hb
      by_cases e : s = n
      · rw [e] at hb ⊢
        rcases q2 with q2 | q2
        · rw [q2] at hb; cases hb
        · exact q2
      · exact q1 s (by omega) hb
    · intro q
      refine ⟨fun s hs hb => q s (by omega) hb, ?_⟩
      cases b : hB l n
      · exact Or.inl rfl
      · exact Or.inr (q n (by omega) b)
abbrev rgP (a : Nat → Int32) (w : Nat) : Prop := w < 2 ^ sn a ∧ 3 ≤ pcn w ∧ paB a (Int32.ofNat w) (sn a) = true ∧ hF (lo a) (hB (Int32.ofNat w)) (sn a) = 0 ∧ oF (lo a) (hB (Int32.ofNat w)) (sn a) = tF (lo a) (hB (Int32.ofNat w)) (sn a) ∧ itR (lo a) (hB (Int32.ofNat w)) (sn a) (oF (lo a) (hB (Int32.ofNat w)) (sn a) &&& (-oF (lo a) (hB (Int32.ofNat w)) (sn a))) 8 = oF (lo a) (hB (Int32.ofNat w)) (sn a)
def rgB (a : Nat → Int32) (w : Nat) : Bool := decide (rgP a w)
theorem rgB_iff {a : Nat → Int32} {w : Nat} : rgB a w = true ↔ rgP a w := decide_eq_true_iff
theorem p2M : ∀ n, n ≤ 8 → (1 <<< (Int32.ofNat n &&& 31) : Int32).toInt = ((2 ^ n : Nat) : Int) ∧ 2 ^ n ≤ 256 := by decide
theorem i3p {w : Nat} : 3 ≤ Int32.ofNat (pcn w) ↔ 3 ≤ pcn w := by
  rw [i_le, pcn_i, show (3 : Int32).toInt = 3 from by decide]
  omega
theorem v_isRing {g : gT} {h : mh_T} {P : Int32 → mh_T → Prop} (l1 : Int32) (tz : TZ (tC h)) (h1 : ∀ w : Nat, l1.toInt = (w : Int) → w < 2 ^ sn (tC h) → rgB (tC h) w = true → P 1 h) (h0 : (∀ w : Nat, l1.toInt = (w : Int) → ¬ rgB (tC h) w = true) → P 0 h) : MCi g yX7_isRing uX7_isRing [.ref 4, .int l1] h P := by
  have n8 : sn (tC h) ≤ 8 := by unfold sn; have := tz.2.1; omega
  have en : (mI h 3 2).toInt = (sn (tC h) : Int) := by show (tC h 0).toInt = _; unfold sn; have := tz.1; omega
  have e2 : (1 <<< ((mI h 3 2) &&& 31) : Int32).toInt = ((2 ^ sn (tC h) : Nat) : Int) := by rw [i_of en (by omega)]; exact (p2M _ n8).1
  have m2 := (p2M _ n8).2
  refine e_X7_isRing l1 ⟨fun c => ?_, fun c => ⟨fun d => ?_, fun d => ?_⟩⟩
  · have c := i_lt.mp c
    rw [i_0] at c
    exact h0 (fun w e => by omega)
  · have d := i_le.mp d
    refine h0 (fun w e r => ?_)
    have := (rgB_iff.mp r).1
    omega
  · have c := i_le.mp (nlt c)
    have d := i_lt.mp (nle d)
    rw [i_0] at c
    obtain ⟨w, ew⟩ : ∃ w : Nat, l1.toInt = (w : Int) := ⟨l1.toInt.toNat, by omega⟩
    have wl : w < 2 ^ sn (tC h) := by omega
    have el := i_of ew (by omega)
    have no : ¬ rgP (tC h) w → P 0 h := fun q => h0 (fun v ev r => q (by rw [show v = w from by omega] at r; exact rgB_iff.mp r))
    refine v_bc l1 ew (by omega) ⟨fun p3 => ?_, fun p3 => no (fun q => p3 (i3p.mpr q.2.1))⟩
    have L : ∀ (q s : Nat) (l5 : Int32), l5.toInt = (s : Int) → s ≤ sn (tC h) → sn (tC h) - s < q → paB (tC h) l1 s = true → ME g uX7_isRing 37 [.ref 4, .int l1, .int (oF (lo (tC h)) (hB l1) s), .int (tF (lo (tC h)) (hB l1) s), .int (hF (lo (tC h)) (hB l1) s), .int l5, .retAddr 0] [] h (qI P) := by
      intro q
      induction q with
      | zero => intro s l5 _ _ hq; exact absurd hq (Nat.not_lt_zero _)
      | succ q iq =>
        intro s l5 e5 hs hq pa
        refine r_X7_isRing_37 l1 _ _ _ l5 ⟨fun d => ?_, fun d => ?_⟩
        · have d := i_le.mp d
          have e : s = sn (tC h) := by omega
          rw [e] at pa ⊢
          refine ⟨fun z => no (fun r => z ?_), fun z => ⟨fun y => no (fun r => y ?_), fun y => v_hangs l1 _ tz (fun x => ⟨fun v => absurd v (by decide), fun _ => h1 w ew wl (rgB_iff.mpr ?_)⟩) (fun x => ⟨fun _ => no (fun r => x ?_), fun v => absurd rfl v⟩)⟩⟩
          · rw [el]; exact r.2.2.2.1
          · rw [el]; exact r.2.2.2.2.1
          · rw [el] at pa z y x
            exact ⟨wl, i3p.mp p3, pa, z, y, x⟩
          · rw [el]; exact r.2.2.2.2.2
        · have d := i_lt.mp (nle d)
          have nx := iq (s + 1) (l5 + 1) (i_inc e5 (by omega)) (by omega) (by omega)
          refine ⟨fun z => ?_, fun z => ?_⟩
          · have b := (hB_0 e5 (by omega)).mp z
            have nx := nx (by unfold paB; rw [pa, Bool.eq_false_iff.mpr b]; rfl)
            rw [show oF (lo (tC h)) (hB l1) (s + 1) = oF (lo (tC h)) (hB l1) s from if_neg b, show tF (lo (tC h)) (hB l1) (s + 1) = tF (lo (tC h)) (hB l1) s from if_neg b, show hF (lo (tC h)) (hB l1) (s + 1) = hF (lo (tC h)) (hB l1) s from if_neg b] at nx
            exact nx
          · have b : hB l1 s = true := Decidable.not_not.mp (fun w => z ((hB_0 e5 (by omega)).mpr w))
            refine e_X8_hasPair l5 (v_hasSet l5 (fun _ => ⟨fun y => absurd y (by decide), fun _ => ⟨i_vp e5 (by omega), fun y => ?_, fun y => ?_⟩⟩) (fun k => absurd (⟨by omega, by show l5.toInt < (mI h 3 2).toInt; omega⟩ : SEb (tC h) l5) k))
            · refine ⟨fun v => absurd rfl v, fun _ => no (fun r => ?_)⟩
              have p := (paB_iff _).mp r.2.2.1 s (by omega) (by rw [← el]; exact b)
              rw [i_nat e5, ← tC_9s (by omega)] at y
              have y := i_lt.mp y
              rw [i_0] at y
              omega
            · refine ⟨fun _ => v_looksOf l5 s e5 (by omega) (fun x13 e13 x14 e14 x15 e15 => ?_), fun v => absurd v (by decide)⟩
              rw [i_nat e5, ← tC_9s (by omega)] at y
              have y := i_le.mp (nlt y)
              rw [i_0] at y
              have nx := nx (by unfold paB; rw [pa, decide_eq_true y, Bool.or_true]; rfl)
              rw [show oF (lo (tC h)) (hB l1) (s + 1) = oF (lo (tC h)) (hB l1) s ||| lo (tC h) s from if_pos b, show tF (lo (tC h)) (hB l1) (s + 1) = tF (lo (tC h)) (hB l1) s ||| (oF (lo (tC h)) (hB l1) s &&& lo (tC h) s) from if_pos b, show hF (lo (tC h)) (hB l1) (s + 1) = hF (lo (tC h)) (hB l1) s ||| (tF (lo (tC h)) (hB l1) s &&& lo (tC h) s) from if_pos b] at nx
              rw [e13, e14, e15]
              exact nx
    exact L 9 0 0 (by decide) (Nat.zero_le _) (by omega) rfl
/-! cycles: the reference's isCycle -/
theorem bt_1A {r : Int32} {p : Nat} (e : r.toInt = (p : Int)) (hp : p < 32) (q : Nat) : bt (1 <<< (r &&& 31)) q = decide (p = q) := by
  have := bt_orA (x := 0) e hp q
  rw [bt_oro, (bt_nul (x := 0)).mp rfl q, Bool.false_or, Bool.false_or] at this
  exact this
theorem lo_w6 {a : Nat → Int32} {s : Nat} (h1 : R 0 5 (a (1 + s))) (h2 : R 0 5 (a (9 + s))) : w6 (lo a s) ∧ ∃ t, bt (lo a s) t = true := by
  obtain ⟨p, ep, -, hp⟩ := i_R h1 (by decide)
  obtain ⟨q, eq, -, hq⟩ := i_R h2 (by decide)
  unfold lo
  refine ⟨fun t ht => ?_, p, ?_⟩
  · rw [bt_oro, bt_1A ep (by omega), bt_1A eq (by omega), decide_eq_false (by omega), decide_eq_false (by omega)]
    rfl
  · rw [bt_oro, bt_1A ep (by omega), decide_eq_true rfl]
    rfl
abbrev PW (a : Nat → Int32) : Prop := ∀ s, s < sn a → R 0 5 (a (1 + s)) ∧ R (-2) 5 (a (9 + s))
theorem orz (x : Int32) : x ||| 0 = x := bt_ext2 (fun t => by rw [bt_oro, (bt_nul (x := 0)).mp rfl t, Bool.or_false])
theorem v_hasB {g : gT} {h : mh_T} {P : Int32 → mh_T → Prop} (l x : Int32) (s : Nat) (e : x.toInt = (s : Int)) (hs : s < 8) (h1 : hB l s = true → P 1 h) (h0 : ¬ hB l s = true → P 0 h) : MCi g yX11_has uX11_has [.int l, .int x] h P := by
  refine e_X11_has l x ⟨fun z => h0 ?_, fun z => h1 ?_⟩
  · have := bv_01 l x
    exact (hB_0 e hs).mp (this.resolve_right z)
  · exact Decidable.not_not.mp (fun q => by
      have y := (hB_0 e hs).mpr q
      rw [z] at y
      exact absurd y (by decide))
theorem clo_o {E : Nat → Int32} {B : Nat → Bool} {n : Nat} : cloP E B n (fun t => bt (oF E B n) t = true) := fun s hs hb _ t ht => (oF_bt n t).mpr ⟨s, hs, hb, ht⟩
theorem cy_conn {E : Nat → Int32} {B : Nat → Bool} {n : Nat} {x : Int32} (hE : ∀ s, s < n → B s = true → w6 (E s)) (hne : ∀ s, s < n → B s = true → ∃ t, bt (E s) t = true) (hs : ∃ s, s < n ∧ B s = true) (fx : rdF E B x n = x) (sx : sbx (lF E B n) x) (mx : ∀ p : Nat → Prop, cloP E B n p → (∀ t, bt (lF E B n) t = true → p t) → ∀ t, bt x t = true → p t) : itR E B n (oF E B n &&& (-oF E B n)) 8 = oF E B n ↔ x = oF E B n := by
  have wo : w6 (oF E B n) := by
    intro t ht
    cases q : bt (oF E B n) t
    · rfl
    · obtain ⟨s, s1, s2, s3⟩ := (oF_bt n t).mp q
      rw [hE s s1 s2 t ht] at s3
      cases s3
  obtain ⟨s, s1, s2, s3⟩ := lF_s (E := E) n hs
  obtain ⟨u, hu⟩ := hne s s1 s2
  have no : ¬ oF E B n = 0 := fun z => by
    have := bt_nul.mp z u
    rw [(oF_bt n u).mpr ⟨s, s1, s2, hu⟩] at this
    cases this
  obtain ⟨t, t1, t2⟩ := low_bit wo no
  have w0 : w6 (oF E B n &&& (-oF E B n)) := by
    intro q hq
    rw [bt_ano, wo q hq]
    rfl
  have lo_ : ∀ q, bt (lF E B n) q = true → bt (oF E B n) q = true := by
    intro q hq
    rw [s3] at hq
    exact (oF_bt n q).mpr ⟨s, s1, s2, hq⟩
  refine conn_iff (x0 := oF E B n &&& (-oF E B n)) (y0 := lF E B n) (oF_bt n) (rd_fix (it_fix hE w0)) (fun p c q => it_min c q 8) (rd_fix fx) mx (fun q hq => it_min clo_o (fun v hv => by rw [(t2 v).mp hv]; exact t1) 8 q hq) (fun q hq => mx _ clo_o lo_ q hq) (fun p c => ?_) (fun p c => ?_) ⟨t, it_sub 8 t ((t2 t).mpr rfl)⟩ ⟨u, sx u (by rw [s3]; exact hu)⟩
  · by_cases h : p t
    · exact Or.inl (fun v hv => by rw [(t2 v).mp hv]; exact h)
    · exact Or.inr (fun v hv => by rw [(t2 v).mp hv]; exact ⟨t1, h⟩)
  · by_cases h : ∃ v, bt (E s) v = true ∧ p v
    · exact Or.inl (fun v hv => by rw [s3] at hv; exact c s s1 s2 h v hv)
    · exact Or.inr (fun v hv => ⟨lo_ v hv, fun y => h ⟨v, by rw [← s3]; exact hv, y⟩⟩)
theorem pc_ex : ∀ w, w < 256 → 3 ≤ pcn w → ∃ s, s < 8 ∧ hB (Int32.ofNat w) s = true ∧ 2 ^ s ≤ w := by decide +kernel
theorem v_isCycle {g : gT} {h : mh_T} {P : Int32 → mh_T → Prop} (l1 : Int32) (tz : TZ (h.1 45)) (pw : PW (h.1 45)) (h1 : ∀ w : Nat, l1.toInt = (w : Int) → w < 2 ^ sn (h.1 45) → rgB (h.1 45) w = true → P 1 h) (h0 : (∀ w : Nat, l1.toInt = (w : Int) → ¬ rgB (h.1 45) w = true) → P 0 h) : MCi g yX11_isCycle uX11_isCycle [.ref 11, .int l1] h P := by
  have n8 : sn (h.1 45) ≤ 8 := by unfold sn; have := tz.2.1; omega
  have en : (mI h 45 (Int32.toNatClampNeg 0)).toInt = (sn (h.1 45) : Int) := by show (h.1 45 0).toInt = _; unfold sn; have := tz.1; omega
  have e2 : (1 <<< ((mI h 45 (Int32.toNatClampNeg 0)) &&& 31) : Int32).toInt = ((2 ^ sn (h.1 45) : Nat) : Int) := by rw [i_of en (by omega)]; exact (p2M _ n8).1
  have m2 := (p2M _ n8).2
  have m1 : 1 ≤ 2 ^ sn (h.1 45) := Nat.one_le_two_pow
  have e3 := i_sub e2 (show (1 : Int32).toInt = 1 from by decide) (by omega)
  refine e_X11_isCycle l1 (e_X11_within _ _ _ ⟨fun c => ⟨fun _ => ?_, fun y => absurd rfl y⟩, fun c => ⟨fun d => ⟨fun _ => ?_, fun y => absurd rfl y⟩, fun d => ⟨fun y => absurd y (by decide), fun _ => ?_⟩⟩⟩)
  · have c := i_lt.mp c
    rw [i_0] at c
    exact h0 (fun w e => by omega)
  · have d := i_lt.mp d
    refine h0 (fun w e r => ?_)
    have := (rgB_iff.mp r).1
    omega
  · have c := i_le.mp (nlt c)
    have d := i_le.mp (nlt d)
    rw [i_0] at c
    obtain ⟨w, ew⟩ : ∃ w : Nat, l1.toInt = (w : Int) := ⟨l1.toInt.toNat, by omega⟩
    have wl : w < 2 ^ sn (h.1 45) := by omega
    have el := i_of ew (by omega)
    have no : ¬ rgP (h.1 45) w → P 0 h := fun q => h0 (fun v ev r => q (by rw [show v = w from by omega] at r; exact rgB_iff.mp r))
    refine w_bits l1 ew (by omega) ⟨fun p3 => ?_, fun p3 => no (fun q => p3 (i3p.mpr q.2.1))⟩
    have p3 := i3p.mp p3
    obtain ⟨s0, s1, s2, s3⟩ := pc_ex w (by omega) p3
    have s4 : s0 < sn (h.1 45) := (Nat.pow_lt_pow_iff_right (by omega)).mp (Nat.lt_of_le_of_lt s3 wl)
    rw [← el] at s2
    have End : ∀ x : Int32, paB (h.1 45) l1 (sn (h.1 45)) = true → hF (lo (h.1 45)) (hB l1) (sn (h.1 45)) = 0 → oF (lo (h.1 45)) (hB l1) (sn (h.1 45)) = tF (lo (h.1 45)) (hB l1) (sn (h.1 45)) → rdF (lo (h.1 45)) (hB l1) x (sn (h.1 45)) = x → sbx (lF (lo (h.1 45)) (hB l1) (sn (h.1 45))) x → (∀ p : Nat → Prop, cloP (lo (h.1 45)) (hB l1) (sn (h.1 45)) p → (∀ t, bt (lF (lo (h.1 45)) (hB l1) (sn (h.1 45))) t = true → p t) → ∀ t, bt x t = true → p t) → ME g uX11_isCycle 145 [.ref 11, .int l1, .int (oF (lo (h.1 45)) (hB l1) (sn (h.1 45))), .int (tF (lo (h.1 45)) (hB l1) (sn (h.1 45))), .int x, .int x, .retAddr 0, .retAddr 0] [] h (qI P) := by
      intro x pa hz ot fx sx mx
      have pp := (paB_iff _).mp pa
      have lw : ∀ s, s < sn (h.1 45) → hB l1 s = true → w6 (lo (h.1 45) s) ∧ ∃ t, bt (lo (h.1 45) s) t = true := fun s hs hb => lo_w6 (pw s hs).1 ⟨pp s hs hb, (pw s hs).2.2⟩
      have cc := cy_conn (fun s hs hb => (lw s hs hb).1) (fun s hs hb => (lw s hs hb).2) ⟨s0, s4, s2⟩ fx sx mx
      refine r_X11_isCycle_145 l1 _ _ x x ⟨fun _ => ⟨fun z => no (fun r => z (cc.mp ?_)), fun z => h1 w ew wl (rgB_iff.mpr ?_)⟩, fun z => absurd rfl z⟩
      · rw [el]; exact r.2.2.2.2.2
      · have k := cc.mpr z
        rw [el] at pa hz ot k
        exact ⟨wl, p3, pa, hz, ot, k⟩
    have M : ∀ (m : Nat) (x y : Int32), paB (h.1 45) l1 (sn (h.1 45)) = true → hF (lo (h.1 45)) (hB l1) (sn (h.1 45)) = 0 → oF (lo (h.1 45)) (hB l1) (sn (h.1 45)) = tF (lo (h.1 45)) (hB l1) (sn (h.1 45)) → ¬ x = y → w6 x → 7 - cb x < m → sbx (lF (lo (h.1 45)) (hB l1) (sn (h.1 45))) x → (∀ p : Nat → Prop, cloP (lo (h.1 45)) (hB l1) (sn (h.1 45)) p → (∀ t, bt (lF (lo (h.1 45)) (hB l1) (sn (h.1 45))) t = true → p t) → ∀ t, bt x t = true → p t) → ME g uX11_isCycle 145 [.ref 11, .int l1, .int (oF (lo (h.1 45)) (hB l1) (sn (h.1 45))), .int (tF (lo (h.1 45)) (hB l1) (sn (h.1 45))), .int x, .int y, .retAddr 0, .retAddr 0] [] h (qI P) := by
      intro m
      induction m with
      | zero => intro x y _ _ _ _ _ hm; exact absurd hm (Nat.not_lt_zero _)
      | succ m ih =>
        intro x y pa hz ot ne wx hm sx mx
        have pp := (paB_iff _).mp pa
        have lw : ∀ s, s < sn (h.1 45) → hB l1 s = true → w6 (lo (h.1 45) s) := fun s hs hb => (lo_w6 (pw s hs).1 ⟨pp s hs hb, (pw s hs).2.2⟩).1
        refine r_X11_isCycle_145 l1 _ _ x y ⟨fun z => absurd z ne, fun _ => ?_⟩
        have I : ∀ (q s : Nat) (l6 : Int32), l6.toInt = (s : Int) → s ≤ sn (h.1 45) → sn (h.1 45) - s < q → ME g uX11_isCycle 159 [.ref 11, .int l1, .int (oF (lo (h.1 45)) (hB l1) (sn (h.1 45))), .int (tF (lo (h.1 45)) (hB l1) (sn (h.1 45))), .int (rdF (lo (h.1 45)) (hB l1) x s), .int x, .int l6, .retAddr 0] [] h (qI P) := by
          intro q
          induction q with
          | zero => intro s l6 _ _ hq; exact absurd hq (Nat.not_lt_zero _)
          | succ q iq =>
            intro s l6 e6 hs hq
            refine r_X11_isCycle_159 l1 _ _ _ x l6 ⟨fun d => ?_, fun d => ?_⟩
            · have d := i_le.mp d
              have e : s = sn (h.1 45) := by omega
              rw [e]
              by_cases f : rdF (lo (h.1 45)) (hB l1) x (sn (h.1 45)) = x
              · rw [f]
                exact End x pa hz ot f sx mx
              · have w2 := rd_w6 (N := sn (h.1 45)) lw wx _ (Nat.le_refl _)
                have mo := rd_mono (E := lo (h.1 45)) (B := hB l1) (x := x) (j := 0) (sn (h.1 45)) (Nat.zero_le _)
                have lt : cb x < cb (rdF (lo (h.1 45)) (hB l1) x (sn (h.1 45))) := cb_lt w2 mo f
                have le := cN_le (fun t => bt (rdF (lo (h.1 45)) (hB l1) x (sn (h.1 45))) t) 6
                have le : cb (rdF (lo (h.1 45)) (hB l1) x (sn (h.1 45))) ≤ 6 := le
                exact ih _ x pa hz ot f w2 (by omega) (fun t ht => mo t (sx t ht)) (fun p c hp => rd_min c (mx p c hp) _ (Nat.le_refl _))
            · have d := i_lt.mp (nle d)
              have nx := iq (s + 1) (l6 + 1) (i_inc e6 (by omega)) (by omega) (by omega)
              have k1 : (1 + l6).toInt = ((1 + s : Nat) : Int) := by rw [i_add (show (1 : Int32).toInt = 1 from by decide) e6 (by omega)]; omega
              have k9 : (9 + l6).toInt = ((9 + s : Nat) : Int) := by rw [i_add (show (9 : Int32).toInt = 9 from by decide) e6 (by omega)]; omega
              refine v_hasB l1 l6 s e6 (by omega) (fun b => ⟨fun v => absurd v (by decide), fun _ => ⟨i_vp k1 (by omega), i_vp k9 (by omega), fun x10 e10 => ?_⟩⟩) (fun b => ⟨fun _ => ?_, fun v => absurd rfl v⟩)
              · have e10 : x10 = lo (h.1 45) s := by rw [e10, i_nat k1, i_nat k9]; rfl
                rw [e10]
                refine ⟨fun z x12 e12 => ?_, fun z x13 e13 => ?_⟩
                · rw [rd_z b z] at nx
                  rw [e12, orz]
                  exact nx
                · rw [rd_y b z] at nx
                  rw [e13]
                  exact nx
              · rw [rd_no b] at nx
                refine ⟨fun _ x6 e => ?_, fun _ x7 e => ?_⟩
                · rw [e, orz]; exact nx
                · rw [e, orz]; exact nx
        exact I 9 0 0 (by decide) (Nat.zero_le _) (by omega)
    have L : ∀ (q s : Nat) (l5 : Int32), l5.toInt = (s : Int) → s ≤ sn (h.1 45) → sn (h.1 45) - s < q → paB (h.1 45) l1 s = true → hF (lo (h.1 45)) (hB l1) s = 0 → ME g uX11_isCycle 38 [.ref 11, .int l1, .int (oF (lo (h.1 45)) (hB l1) s), .int (tF (lo (h.1 45)) (hB l1) s), .int (lF (lo (h.1 45)) (hB l1) s), .int l5, .retAddr 0, .retAddr 0] [] h (qI P) := by
      intro q
      induction q with
      | zero => intro s l5 _ _ hq; exact absurd hq (Nat.not_lt_zero _)
      | succ q iq =>
        intro s l5 e5 hs hq pa hz
        refine r_X11_isCycle_38 l1 _ _ _ l5 ⟨fun d => ?_, fun d => ?_⟩
        · have d := i_le.mp d
          have e : s = sn (h.1 45) := by omega
          rw [e] at pa hz ⊢
          refine ⟨fun z => ?_, fun z => no (fun r => z (by rw [el]; exact r.2.2.2.2.1))⟩
          obtain ⟨s', q1, q2, q3⟩ := lF_s (E := lo (h.1 45)) (B := hB l1) (sn (h.1 45)) ⟨s0, s4, s2⟩
          have lw := lo_w6 (pw s' q1).1 ⟨(paB_iff _).mp pa s' q1 q2, (pw s' q1).2.2⟩
          refine M 8 _ 0 pa hz z (fun y => ?_) (by rw [q3]; exact lw.1) (by omega) (fun _ y => y) (fun p _ hp => hp)
          obtain ⟨t, ht⟩ := lw.2
          have := bt_nul.mp y t
          rw [q3, ht] at this
          cases this
        · have d := i_lt.mp (nle d)
          have nx := iq (s + 1) (l5 + 1) (i_inc e5 (by omega)) (by omega) (by omega)
          have k1 : (1 + l5).toInt = ((1 + s : Nat) : Int) := by rw [i_add (show (1 : Int32).toInt = 1 from by decide) e5 (by omega)]; omega
          have k9 : (9 + l5).toInt = ((9 + s : Nat) : Int) := by rw [i_add (show (9 : Int32).toInt = 9 from by decide) e5 (by omega)]; omega
          refine v_hasB l1 l5 s e5 (by omega) (fun b => ⟨fun _ => ⟨i_vp k9 (by omega), fun y => ⟨i_vp k1 (by omega), i_vp k9 (by omega), fun x10 e10 => ?_⟩, fun y => no (fun r => ?_)⟩, fun v => absurd v (by decide)⟩) (fun b => ⟨fun v => absurd rfl v, fun _ => ?_⟩)
          · have e10 : x10 = lo (h.1 45) s := by rw [e10, i_nat k1, i_nat k9]; rfl
            rw [e10]
            rw [i_nat k9] at y
            have y0 : 0 ≤ (h.1 45 (9 + s)).toInt := by
              rcases (tz.2.2 s (by omega)).1 with v | v
              · exact absurd v.1 y
              · exact v
            refine ⟨fun z x12 e12 x13 e13 => ?_, fun z => no (fun r => z ?_)⟩
            · have nx := nx (by unfold paB; rw [pa, decide_eq_true y0, Bool.or_true]; rfl) (by
                show (if hB l1 s = true then hF (lo (h.1 45)) (hB l1) s ||| (tF (lo (h.1 45)) (hB l1) s &&& lo (h.1 45) s) else hF (lo (h.1 45)) (hB l1) s) = 0
                rw [if_pos b, hz, z]; decide)
              rw [show oF (lo (h.1 45)) (hB l1) (s + 1) = oF (lo (h.1 45)) (hB l1) s ||| lo (h.1 45) s from if_pos b, show tF (lo (h.1 45)) (hB l1) (s + 1) = tF (lo (h.1 45)) (hB l1) s ||| (oF (lo (h.1 45)) (hB l1) s &&& lo (h.1 45) s) from if_pos b, show lF (lo (h.1 45)) (hB l1) (s + 1) = lo (h.1 45) s from if_pos b] at nx
              rw [e12, e13]
              exact nx
            · have := (hF_0 _).mp r.2.2.2.1 s (by omega) (by rw [← el]; exact b)
              rw [← el] at this
              exact this
          · have p := (paB_iff _).mp r.2.2.1 s (by omega) (by rw [← el]; exact b)
            rw [i_nat k9] at y
            have y : h.1 45 (9 + s) = -2 := y
            rw [y] at p
            exact absurd p (by decide)
          · have nx := nx (by unfold paB; rw [pa, Bool.eq_false_iff.mpr b]; rfl) (by
              show (if hB l1 s = true then hF (lo (h.1 45)) (hB l1) s ||| (tF (lo (h.1 45)) (hB l1) s &&& lo (h.1 45) s) else hF (lo (h.1 45)) (hB l1) s) = 0
              rw [if_neg b]; exact hz)
            rw [show oF (lo (h.1 45)) (hB l1) (s + 1) = oF (lo (h.1 45)) (hB l1) s from if_neg b, show tF (lo (h.1 45)) (hB l1) (s + 1) = tF (lo (h.1 45)) (hB l1) s from if_neg b, show lF (lo (h.1 45)) (hB l1) (s + 1) = lF (lo (h.1 45)) (hB l1) s from if_neg b] at nx
            exact nx
    exact L 9 0 0 (by decide) (Nat.zero_le _) (by omega) rfl rfl
/-! cycles: their number, the i-th -/
theorem oF_cg {E D : Nat → Int32} {B : Nat → Bool} : ∀ n, (∀ s, s < n → E s = D s) → oF E B n = oF D B n
  | 0, _ => rfl
  | n + 1, h => by
    show (if B n = true then oF E B n ||| E n else oF E B n) = (if B n = true then oF D B n ||| D n else oF D B n)
    rw [oF_cg n (fun s hs => h s (by omega)), h n (by omega)]
theorem tF_cg {E D : Nat → Int32} {B : Nat → Bool} : ∀ n, (∀ s, s < n → E s = D s) → tF E B n = tF D B n
  | 0, _ => rfl
  | n + 1, h => by
    show (if B n = true then tF E B n ||| (oF E B n &&& E n) else tF E B n) = (if B n = true then tF D B n ||| (oF D B n &&& D n) else tF D B n)
    rw [tF_cg n (fun s hs => h s (by omega)), oF_cg n (fun s hs => h s (by omega)), h n (by omega)]
theorem hF_cg {E D : Nat → Int32} {B : Nat → Bool} : ∀ n, (∀ s, s < n → E s = D s) → hF E B n = hF D B n
  | 0, _ => rfl
  | n + 1, h => by
    show (if B n = true then hF E B n ||| (tF E B n &&& E n) else hF E B n) = (if B n = true then hF D B n ||| (tF D B n &&& D n) else hF D B n)
    rw [hF_cg n (fun s hs => h s (by omega)), tF_cg n (fun s hs => h s (by omega)), h n (by omega)]
theorem rdF_cg {E D : Nat → Int32} {B : Nat → Bool} {x : Int32} : ∀ n, (∀ s, s < n → E s = D s) → rdF E B x n = rdF D B x n
  | 0, _ => rfl
  | n + 1, h => by
    show (if B n = true then (if (E n &&& rdF E B x n) = 0 then rdF E B x n else rdF E B x n ||| E n) else rdF E B x n) = (if B n = true then (if (D n &&& rdF D B x n) = 0 then rdF D B x n else rdF D B x n ||| D n) else rdF D B x n)
    rw [rdF_cg n (fun s hs => h s (by omega)), h n (by omega)]
theorem itR_cg {E D : Nat → Int32} {B : Nat → Bool} {n : Nat} {x : Int32} (h : ∀ s, s < n → E s = D s) : ∀ k, itR E B n x k = itR D B n x k
  | 0 => rfl
  | k + 1 => by
    show rdF E B (itR E B n x k) n = rdF D B (itR D B n x k) n
    rw [itR_cg h k, rdF_cg n h]
theorem paB_cg {a b : Nat → Int32} {l : Int32} : ∀ n, (∀ s, s < n → a (9 + s) = b (9 + s)) → paB a l n = paB b l n
  | 0, _ => rfl
  | n + 1, h => by
    unfold paB
    rw [paB_cg n (fun s hs => h s (by omega)), h n (by omega)]
theorem rgB_cg {a b : Nat → Int32} (r : Rq a b) (w : Nat) : rgB a w = rgB b w := by
  have en : sn a = sn b := by unfold sn; rw [r.1]
  have eL : ∀ s, s < sn b → lo a s = lo b s := fun s hs => lo_cg (r.2.2 s hs)
  unfold rgB
  apply decide_eq_decide.mpr
  unfold rgP
  rw [en, paB_cg _ (fun s hs => (r.2.2 s hs).2.1), hF_cg _ eL, oF_cg _ eL, tF_cg _ eL, itR_cg eL]
theorem PW_C {h : mh_T} (hG : GI h) (tz : TZ (tC h)) : PW (tC h) := by
  intro s hs
  have n8 : sn (tC h) ≤ 8 := by unfold sn; have := tz.2.1; omega
  rw [tC_1s (by omega), tC_9s (by omega)]
  exact ⟨GI_rd hG 24 s rfl, GI_rd hG 25 s rfl⟩
theorem PW_cg {a b : Nat → Int32} (r : Rq a b) (p : PW a) : PW b := by
  intro s hs
  have en : sn a = sn b := by unfold sn; rw [r.1]
  have q := p s (by omega)
  rw [(r.2.2 s hs).1, (r.2.2 s hs).2.1] at q
  exact q
/-! cycles: excess -/
def sg (A : Nat → Int) (z : Nat → Bool) (s : Nat) : Int := if z s = true then -A s else A s
def vS (A : Nat → Int) (B z : Nat → Bool) : Nat → Int
  | 0 => 0
  | s + 1 => if B s = true then vS A B z s + sg A z s else vS A B z s
def sS (A : Nat → Int) (B : Nat → Bool) : Nat → Int
  | 0 => 0
  | s + 1 => if B s = true then sS A B s + (if 0 ≤ A s then A s else -A s) else sS A B s
def mS (A : Nat → Int) (B : Nat → Bool) : Nat → Int
  | 0 => 60
  | s + 1 => if B s = true then (if (if 0 ≤ A s then A s else -A s) < mS A B s then (if 0 ≤ A s then A s else -A s) else mS A B s) else mS A B s
/-- how many of the chosen are in z -/
def zc (B z : Nat → Bool) : Nat → Nat
  | 0 => 0
  | s + 1 => if B s = true then zc B z s + (if z s = true then 1 else 0) else zc B z s
def ng (A : Nat → Int) (s : Nat) : Bool := decide (A s < 0)
theorem vS_le (A : Nat → Int) (B z : Nat → Bool) : ∀ n, vS A B z n ≤ sS A B n
  | 0 => Int.le_refl _
  | n + 1 => by
    have i := vS_le A B z n
    show (if B n = true then vS A B z n + sg A z n else vS A B z n) ≤ (if B n = true then sS A B n + (if 0 ≤ A n then A n else -A n) else sS A B n)
    unfold sg
    by_cases b : B n = true
    · rw [if_pos b, if_pos b]
      split <;> split <;> omega
    · rw [if_neg b, if_neg b]; exact i
theorem vS_odd (A : Nat → Int) (B z : Nat → Bool) : ∀ n, ¬ zc B z n % 2 = zc B (ng A) n % 2 → vS A B z n ≤ sS A B n - 2 * mS A B n
  | 0, h => absurd rfl h
  | n + 1, h => by
    have i := vS_odd A B z n
    have j := vS_le A B z n
    have h : ¬ (if B n = true then zc B z n + (if z n = true then 1 else 0) else zc B z n) % 2 = (if B n = true then zc B (ng A) n + (if ng A n = true then 1 else 0) else zc B (ng A) n) % 2 := h
    show (if B n = true then vS A B z n + sg A z n else vS A B z n) ≤ (if B n = true then sS A B n + (if 0 ≤ A n then A n else -A n) else sS A B n) - 2 * (if B n = true then (if (if 0 ≤ A n then A n else -A n) < mS A B n then (if 0 ≤ A n then A n else -A n) else mS A B n) else mS A B n)
    by_cases b : B n = true
    · rw [if_pos b, if_pos b, if_pos b]
      rw [if_pos b, if_pos b] at h
      unfold sg
      by_cases c : 0 ≤ A n
      · have e : ¬ ng A n = true := fun q => by have := of_decide_eq_true q; omega
        rw [if_neg e] at h
        rw [if_pos c]
        by_cases d : z n = true
        · rw [if_pos d]; split <;> omega
        · rw [if_neg d] at h ⊢
          have i := i (by omega)
          split <;> omega
      · have e : ng A n = true := decide_eq_true (by omega)
        rw [if_pos e] at h
        rw [if_neg c]
        by_cases d : z n = true
        · rw [if_pos d] at h ⊢
          have i := i (by omega)
          split <;> omega
        · rw [if_neg d]; split <;> omega
    · rw [if_neg b, if_neg b, if_neg b]
      rw [if_neg b, if_neg b] at h
      exact i h
theorem vS_ng (A : Nat → Int) (B : Nat → Bool) : ∀ n, vS A B (ng A) n = sS A B n
  | 0 => rfl
  | n + 1 => by
    show (if B n = true then vS A B (ng A) n + sg A (ng A) n else vS A B (ng A) n) = (if B n = true then sS A B n + (if 0 ≤ A n then A n else -A n) else sS A B n)
    rw [vS_ng A B n]
    have : sg A (ng A) n = (if 0 ≤ A n then A n else -A n) := by
      unfold sg
      by_cases c : 0 ≤ A n
      · rw [if_pos c, if_neg (fun q => by have := of_decide_eq_true q; omega)]
      · rw [if_neg c, if_pos (show ng A n = true from decide_eq_true (by omega))]
    rw [this]
theorem vS_cg {A : Nat → Int} {B y z : Nat → Bool} : ∀ n, (∀ s, s < n → B s = true → y s = z s) → vS A B y n = vS A B z n ∧ zc B y n = zc B z n
  | 0, _ => ⟨rfl, rfl⟩
  | n + 1, h => by
    have i := vS_cg (A := A) n (fun s hs => h s (by omega))
    show (if B n = true then vS A B y n + sg A y n else vS A B y n) = (if B n = true then vS A B z n + sg A z n else vS A B z n) ∧ (if B n = true then zc B y n + (if y n = true then 1 else 0) else zc B y n) = (if B n = true then zc B z n + (if z n = true then 1 else 0) else zc B z n)
    rw [i.1, i.2]
    by_cases b : B n = true
    · unfold sg
      rw [h n (by omega) b]
      exact ⟨rfl, rfl⟩
    · rw [if_neg b, if_neg b, if_neg b, if_neg b]
      exact ⟨rfl, rfl⟩
theorem mS_60 {A : Nat → Int} {B : Nat → Bool} : ∀ n, (¬ ∃ s, s < n ∧ B s = true) → mS A B n = 60
  | 0, _ => rfl
  | n + 1, h => by
    show (if B n = true then _ else mS A B n) = 60
    rw [if_neg (fun b => h ⟨n, by omega, b⟩)]
    exact mS_60 n (fun ⟨s, hs, b⟩ => h ⟨s, by omega, b⟩)
theorem mS_ex {A : Nat → Int} {B : Nat → Bool} : ∀ n, (∃ s, s < n ∧ B s = true) → (∀ s, s < n → B s = true → A s ≤ 60 ∧ -60 ≤ A s) → ∃ s, s < n ∧ B s = true ∧ mS A B n = (if 0 ≤ A s then A s else -A s)
  | 0, ⟨s, hs, _⟩, _ => absurd hs (Nat.not_lt_zero _)
  | n + 1, h, hA => by
    show ∃ s, s < n + 1 ∧ B s = true ∧ (if B n = true then (if (if 0 ≤ A n then A n else -A n) < mS A B n then (if 0 ≤ A n then A n else -A n) else mS A B n) else mS A B n) = _
    by_cases q : ∃ s, s < n ∧ B s = true
    · obtain ⟨s, h1, h2, h3⟩ := mS_ex n q (fun s hs => hA s (by omega))
      by_cases b : B n = true
      · rw [if_pos b]
        by_cases c : (if 0 ≤ A n then A n else -A n) < mS A B n
        · exact ⟨n, by omega, b, by rw [if_pos c]⟩
        · exact ⟨s, by omega, h2, by rw [if_neg c]; exact h3⟩
      · exact ⟨s, by omega, h2, by rw [if_neg b]; exact h3⟩
    · obtain ⟨s, hs, hb⟩ := h
      have e : s = n := Nat.le_antisymm (by omega) (Nat.le_of_not_lt (fun z => q ⟨s, z, hb⟩))
      rw [e] at hb
      have a := hA n (by omega) hb
      refine ⟨n, by omega, hb, ?_⟩
      rw [if_pos hb, mS_60 n q]
      split <;> split <;> omega
/-- the signs, one turned -/
def tn (A : Nat → Int) (j s : Nat) : Bool := if s = j then !ng A s else ng A s
theorem vS_tn {A : Nat → Int} {B : Nat → Bool} {j : Nat} (hb : B j = true) : ∀ n, j < n → vS A B (tn A j) n = sS A B n - 2 * (if 0 ≤ A j then A j else -A j) ∧ ¬ zc B (tn A j) n % 2 = zc B (ng A) n % 2
  | 0, h => absurd h (Nat.not_lt_zero _)
  | n + 1, h => by
    show (if B n = true then vS A B (tn A j) n + sg A (tn A j) n else vS A B (tn A j) n) = (if B n = true then sS A B n + (if 0 ≤ A n then A n else -A n) else sS A B n) - 2 * (if 0 ≤ A j then A j else -A j) ∧ ¬ (if B n = true then zc B (tn A j) n + (if tn A j n = true then 1 else 0) else zc B (tn A j) n) % 2 = (if B n = true then zc B (ng A) n + (if ng A n = true then 1 else 0) else zc B (ng A) n) % 2
    by_cases e : j = n
    · subst e
      have i := vS_cg (A := A) (B := B) (y := tn A j) (z := ng A) j (fun s hs _ => by unfold tn; rw [if_neg (by omega)])
      rw [i.1, i.2, vS_ng, if_pos hb, if_pos hb, if_pos hb, if_pos hb]
      have t : tn A j j = !ng A j := by unfold tn; rw [if_pos rfl]
      unfold sg
      rw [t]
      by_cases c : 0 ≤ A j
      · have e : ng A j = false := decide_eq_false (by omega)
        rw [e, if_pos c]
        refine ⟨?_, ?_⟩
        · rw [if_pos (by decide)]; omega
        · rw [if_pos (by decide), if_neg (by decide)]; omega
      · have e : ng A j = true := decide_eq_true (by omega)
        rw [e, if_neg c]
        refine ⟨?_, ?_⟩
        · rw [if_neg (by decide)]; omega
        · rw [if_neg (by decide), if_pos rfl]; omega
    · have i := vS_tn (A := A) hb n (by omega)
      have t : tn A j n = ng A n := by unfold tn; rw [if_neg (fun z => e z.symm)]
      have t2 : sg A (tn A j) n = (if 0 ≤ A n then A n else -A n) := by
        unfold sg
        rw [t]
        by_cases c : 0 ≤ A n
        · rw [if_pos c, if_neg (fun q => by have := of_decide_eq_true q; omega)]
        · rw [if_neg c, if_pos (show ng A n = true from decide_eq_true (by omega))]
      rw [t, t2, i.1]
      by_cases b : B n = true
      · rw [if_pos b, if_pos b, if_pos b, if_pos b]
        refine ⟨by omega, ?_⟩
        have := i.2
        split <;> omega
      · rw [if_neg b, if_neg b, if_neg b, if_neg b]
        exact ⟨rfl, i.2⟩
/-- the class's number is the greatest over odd turnings -/
def exF (A : Nat → Int) (B : Nat → Bool) (n : Nat) : Int := if zc B (ng A) n % 2 = 1 then sS A B n else sS A B n - 2 * mS A B n
theorem exF_le (A : Nat → Int) (B z : Nat → Bool) (n : Nat) (h : zc B z n % 2 = 1) : vS A B z n ≤ exF A B n := by
  unfold exF
  split
  · exact vS_le A B z n
  · exact vS_odd A B z n (by omega)
theorem exF_ex (A : Nat → Int) (B : Nat → Bool) (n : Nat) (hs : ∃ s, s < n ∧ B s = true) (hA : ∀ s, s < n → B s = true → A s ≤ 60 ∧ -60 ≤ A s) : ∃ z, zc B z n % 2 = 1 ∧ vS A B z n = exF A B n := by
  unfold exF
  by_cases o : zc B (ng A) n % 2 = 1
  · rw [if_pos o]
    exact ⟨ng A, o, vS_ng A B n⟩
  · rw [if_neg o]
    obtain ⟨j, j1, j2, j3⟩ := mS_ex n hs hA
    have t := vS_tn (A := A) j2 n j1
    exact ⟨tn A j, by omega, by rw [t.1, j3]⟩
/-! cycles: surplus, excessOf -/
def al (a : Nat → Int32) (s : Nat) : Int := (a (17 + 4 * s)).toInt + (a (17 + 4 * s + 3)).toInt - (a (17 + 4 * s + 1)).toInt - (a (17 + 4 * s + 2)).toInt
theorem al_60 {a : Nat → Int32} {s : Nat} (tp : TP a s) : al a s ≤ 60 ∧ -60 ≤ al a s := by
  unfold al TP at *
  omega
theorem al_i {a : Nat → Int32} {s : Nat} (tp : TP a s) : (((a (17 + 4 * s) + a (17 + 4 * s + 3)) - a (17 + 4 * s + 1)) - a (17 + 4 * s + 2)).toInt = al a s := by
  unfold TP at tp
  unfold al
  rw [i_sub (i_sub (i_add rfl rfl (by omega)) rfl (by omega)) rfl (by omega)]
theorem v_alike {g : gT} {h : mh_T} {P : Int32 → mh_T → Prop} (l1 : Int32) (s : Nat) (es : l1.toInt = (s : Int)) (s8 : s < 8) (tp : TP (tC h) s) (hp : ∀ r : Int32, r.toInt = al (tC h) s → P r h) : MCi g yX8_alike uX8_alike [.ref 3, .int l1] h P := by
  refine e_X8_alike l1 (fun x1 e1 => ?_)
  have k0 : x1.toInt = ((4 * s : Nat) : Int) := by rw [e1]; exact i_4s es s8
  have k1 := i_off k0 1 1 (by decide) (by omega)
  have k2 := i_off k0 2 2 (by decide) (by omega)
  have k3 := i_off k0 3 3 (by decide) (by omega)
  rw [i_nat k0, i_nat k1, i_nat k2, i_nat k3]
  refine ⟨i_vp k0 (by omega), i_vp k3 (by omega), i_vp k1 (by omega), i_vp k2 (by omega), hp _ ?_⟩
  have e := al_i tp
  rw [show 17 + 4 * s + 3 = 17 + (4 * s + 3) by omega, show 17 + 4 * s + 1 = 17 + (4 * s + 1) by omega, show 17 + 4 * s + 2 = 17 + (4 * s + 2) by omega, tC_17, tC_17, tC_17, tC_17] at e
  exact e
theorem v_sameOf {g : gT} {h : mh_T} {P : Int32 → mh_T → Prop} (l1 : Int32) (s : Nat) (es : l1.toInt = (s : Int)) (s8 : s < 8) (tp : TP (h.1 45) s) (hp : ∀ r : Int32, r.toInt = al (h.1 45) s → P r h) : MCi g yX11_sameOf uX11_sameOf [.ref 11, .int l1] h P := by
  refine e_X11_sameOf l1 (fun x1 e1 => ?_)
  have k0 : x1.toInt = ((17 + 4 * s : Nat) : Int) := by rw [e1, i_add (show (17 : Int32).toInt = 17 from by decide) (i_4s es s8) (by omega)]; omega
  have k1 := i_off k0 1 1 (by decide) (by omega)
  have k2 := i_off k0 2 2 (by decide) (by omega)
  have k3 := i_off k0 3 3 (by decide) (by omega)
  rw [i_nat k0, i_nat k1, i_nat k2, i_nat k3]
  exact ⟨i_vp k0 (by omega), i_vp k3 (by omega), i_vp k1 (by omega), i_vp k2 (by omega), hp _ (al_i tp)⟩
def sfn (a : Nat → Int32) (law : Int32) (w : Nat) : Int32 := Int32.ofInt (exF (al a) (hB (Int32.ofNat w)) (sn a)) - law * (Int32.ofNat (pcn w) - 2)
theorem sfn_i {a : Nat → Int32} {law x : Int32} {w : Nat} (e : x.toInt = exF (al a) (hB (Int32.ofNat w)) (sn a)) : x - law * (Int32.ofNat (pcn w) - 2) = sfn a law w := by
  unfold sfn
  rw [← e, Int32.ofInt_toInt]
theorem od_1 : ∀ k, k < 10 → ((Int32.ofNat k - Int32.ofNat k / 2 * 2) = 1 ↔ k % 2 = 1) ∧ ((Int32.ofNat k - Int32.ofNat k / 2 * 2) = 0 ↔ ¬ k % 2 = 1) := by decide
theorem zc_le (B z : Nat → Bool) : ∀ n, zc B z n ≤ n
  | 0 => Nat.le_refl _
  | n + 1 => by
    have := zc_le B z n
    show (if B n = true then zc B z n + (if z n = true then 1 else 0) else zc B z n) ≤ n + 1
    split
    · split <;> omega
    · omega
theorem ab_i {r : Int32} {x : Int} (e : r.toInt = x) (hx : x ≤ 60 ∧ -60 ≤ x) : (if 0 ≤ r then r else 0 - r : Int32).toInt = (if 0 ≤ x then x else -x) := by
  have c : 0 ≤ r ↔ 0 ≤ x := by rw [i_le, i_0, e]
  by_cases q : 0 ≤ x
  · rw [if_pos (c.mpr q), if_pos q, e]
  · rw [if_neg (fun z => q (c.mp z)), if_neg q, i_sub i_0 e (by omega)]; omega
theorem i_2m {x : Int32} {m : Int} (e : x.toInt = m) (hm : 0 ≤ m ∧ m ≤ 60) : (2 * x).toInt = 2 * m := by
  obtain ⟨k, ek⟩ : ∃ k : Nat, m = (k : Int) := ⟨m.toNat, by omega⟩
  have : ∀ k, k < 61 → (2 * Int32.ofNat k).toInt = 2 * (k : Int) := by decide
  rw [ek] at e
  rw [i_of e (by omega), this k (by omega), ek]
theorem v_surplus {g : gT} {h : mh_T} {P : Int32 → mh_T → Prop} (l1 : Int32) (w : Nat) (ew : l1.toInt = (w : Int)) (hw : w < 256) (tz : TZ (tC h)) (hp : P (sfn (tC h) (mI h 3 0) w) h) : MCi g yX7_surplus uX7_surplus [.ref 4, .int l1] h P := by
  have n8 : sn (tC h) ≤ 8 := by unfold sn; have := tz.2.1; omega
  have en : (mI h 3 2).toInt = (sn (tC h) : Int) := by show (tC h 0).toInt = _; unfold sn; have := tz.1; omega
  have el := i_of ew (by omega)
  have L : ∀ (q s : Nat) (l2 l3 l4 l5 : Int32), l5.toInt = (s : Int) → s ≤ sn (tC h) → sn (tC h) - s < q → l2.toInt = sS (al (tC h)) (hB l1) s → l3.toInt = mS (al (tC h)) (hB l1) s → l4.toInt = (zc (hB l1) (ng (al (tC h))) s : Int) → 0 ≤ l2.toInt → l2.toInt ≤ 60 * (s : Int) → 0 ≤ l3.toInt → l3.toInt ≤ 60 → ME g uX7_surplus 11 [.ref 4, .int l1, .int l2, .int l3, .int l4, .int l5, .retAddr 0] [] h (qI P) := by
    intro q
    induction q with
    | zero => intro s l2 l3 l4 l5 _ _ hq; exact absurd hq (Nat.not_lt_zero _)
    | succ q iq =>
      intro s l2 l3 l4 l5 e5 hs hq e2 e3 e4 b2 c2 b3 c3
      have zl := zc_le (hB l1) (ng (al (tC h))) s
      refine r_X7_surplus_11 l1 l2 l3 l4 l5 ⟨fun d => ?_, fun d => ?_⟩
      · have d := i_le.mp d
        have e : s = sn (tC h) := by omega
        have o := od_1 _ (show zc (hB l1) (ng (al (tC h))) s < 10 by omega)
        rw [← i_of e4 (by omega)] at o
        rw [e] at e2 e3 o
        refine ⟨fun z x3 e3' => v_bc l1 ew hw ?_, fun z => v_bc l1 ew hw ?_⟩
        · rw [sfn_i (a := tC h)]
          · exact hp
          · unfold exF
            rw [← el, if_neg (fun y => z (o.1.mpr y)), e3', i_sub e2 (i_2m e3 (by omega)) (by omega)]
        · rw [sfn_i (a := tC h)]
          · exact hp
          · unfold exF
            rw [← el, if_pos (o.1.mp z), e2]
      · have d := i_lt.mp (nle d)
        have b8 : s < 8 := by omega
        have tp := (tz.2.2 s (by omega)).2
        have a6 := al_60 tp
        refine ⟨fun z => ?_, fun z => ?_⟩
        · have b := (hB_0 e5 b8).mp z
          refine iq (s + 1) l2 l3 l4 (l5 + 1) (i_inc e5 (by omega)) (by omega) (by omega) ?_ ?_ ?_ b2 (by omega) b3 c3
          · rw [e2]; exact (if_neg b).symm
          · rw [e3]; exact (if_neg b).symm
          · rw [e4]; exact congrArg _ (if_neg b : zc (hB l1) (ng (al (tC h))) (s + 1) = _).symm
        · have b : hB l1 s = true := Decidable.not_not.mp (fun v => z ((hB_0 e5 b8).mpr v))
          refine v_alike l5 s e5 b8 tp (fun r er => ?_)
          have ea := ab_i er a6
          have s1 : sS (al (tC h)) (hB l1) (s + 1) = sS (al (tC h)) (hB l1) s + (if 0 ≤ al (tC h) s then al (tC h) s else -al (tC h) s) := if_pos b
          have m1 : mS (al (tC h)) (hB l1) (s + 1) = (if (if 0 ≤ al (tC h) s then al (tC h) s else -al (tC h) s) < mS (al (tC h)) (hB l1) s then (if 0 ≤ al (tC h) s then al (tC h) s else -al (tC h) s) else mS (al (tC h)) (hB l1) s) := if_pos b
          have z1 : zc (hB l1) (ng (al (tC h))) (s + 1) = zc (hB l1) (ng (al (tC h))) s + (if ng (al (tC h)) s = true then 1 else 0) := if_pos b
          generalize (if 0 ≤ r then r else 0 - r) = u at ea ⊢
          have a0 : 0 ≤ (if 0 ≤ al (tC h) s then al (tC h) s else -al (tC h) s) ∧ (if 0 ≤ al (tC h) s then al (tC h) s else -al (tC h) s) ≤ 60 := by split <;> omega
          generalize (if 0 ≤ al (tC h) s then al (tC h) s else -al (tC h) s) = v at ea s1 m1 a0
          intro x11 e11 x12 e12
          have f11 : x11.toInt = sS (al (tC h)) (hB l1) (s + 1) := by rw [e11, s1, i_add e2 ea (by omega)]
          have f12 : x12.toInt = mS (al (tC h)) (hB l1) (s + 1) := by
            rw [e12, m1]
            have c : u < l3 ↔ v < mS (al (tC h)) (hB l1) s := by rw [i_lt, ea, e3]
            by_cases y : u < l3
            · rw [if_pos y, if_pos (c.mp y), ea]
            · rw [if_neg y, if_neg (fun t => y (c.mpr t)), e3]
          have g11 : 0 ≤ x11.toInt ∧ x11.toInt ≤ 60 * ((s + 1 : Nat) : Int) := by rw [e11, i_add e2 ea (by omega)]; omega
          have g12 : 0 ≤ x12.toInt ∧ x12.toInt ≤ 60 := by rw [e12]; split <;> omega
          refine ⟨fun y x14 e14 => ?_, fun y x15 e15 => ?_⟩
          · refine iq (s + 1) x11 x12 x14 (l5 + 1) (i_inc e5 (by omega)) (by omega) (by omega) f11 f12 ?_ g11.1 g11.2 g12.1 g12.2
            have y := i_le.mp y
            rw [i_0, er] at y
            rw [e14, z1, if_neg (fun t => by have := of_decide_eq_true t; omega), i_add e4 i_0 (by omega)]
            omega
          · refine iq (s + 1) x11 x12 x15 (l5 + 1) (i_inc e5 (by omega)) (by omega) (by omega) f11 f12 ?_ g11.1 g11.2 g12.1 g12.2
            have y := i_lt.mp (nle y)
            rw [i_0, er] at y
            rw [e15, z1, if_pos (show ng (al (tC h)) s = true from decide_eq_true y), i_inc e4 (by omega)]
  exact e_X7_surplus l1 (L 9 0 0 60 0 0 (by decide) (Nat.zero_le _) (by omega) rfl rfl rfl (by decide) (by decide) (by decide) (by decide))
/-! cycles: excessOf -/
theorem bt_tb {u t : Nat} (hu : u < 256) : bt (Int32.ofNat u) t = u.testBit t := by
  unfold bt
  show (BitVec.ofNat 32 u).getLsbD t = _
  rw [BitVec.getLsbD_ofNat]
  by_cases h : t < 32
  · rw [decide_eq_true h, Bool.true_and]
  · rw [decide_eq_false h, Bool.false_and]
    have : u < 2 ^ t := Nat.lt_of_lt_of_le hu (Nat.le_trans (show 256 ≤ 2 ^ 32 by decide) (Nat.pow_le_pow_right (by decide) (by omega)))
    exact (Nat.testBit_lt_two_pow this).symm
theorem hB_tb : ∀ u, u < 256 → ∀ s, s < 8 → hB (Int32.ofNat u) s = u.testBit s := by decide +kernel
theorem bt_nnt {x : Int32} {t : Nat} (ht : t < 32) : bt (x ^^^ (-1)) t = !bt x t := by
  unfold bt
  rw [Int32.toBitVec_xor, BitVec.getLsbD_xor]
  have : ∀ t, t < 32 → (-1 : Int32).toBitVec.getLsbD t = true := by decide
  rw [this t ht, Bool.xor_true]
theorem sub_iff {u w : Nat} (hu : u < 256) (hw : w < 256) : (Int32.ofNat u &&& (Int32.ofNat w ^^^ (-1))) = 0 ↔ ∀ t, t < 8 → u.testBit t = true → w.testBit t = true := by
  have big : ∀ t, 8 ≤ t → u.testBit t = false := fun t ht => Nat.testBit_lt_two_pow (Nat.lt_of_lt_of_le hu (Nat.pow_le_pow_right (show 0 < 2 by decide) ht))
  rw [and_nul]
  constructor
  · intro q t ht hb
    by_cases c : w.testBit t = true
    · exact c
    · exact absurd ⟨by rw [bt_tb hu]; exact hb, by rw [bt_nnt (by omega), bt_tb hw, Bool.eq_false_iff.mpr c]; rfl⟩ (q t)
  · intro q t ⟨h1, h2⟩
    rw [bt_tb hu] at h1
    by_cases c : t < 8
    · rw [bt_nnt (by omega), bt_tb hw, q t c h1] at h2
      cases h2
    · rw [big t (by omega)] at h1
      cases h1
theorem pc_cN : ∀ u, u < 256 → pcn u = cN (fun s => u.testBit s) 8 := by decide +kernel
theorem cN_cut {p : Nat → Bool} {n : Nat} : ∀ m, n ≤ m → (∀ s, n ≤ s → p s = false) → cN p m = cN p n
  | 0, h, _ => by rw [show n = 0 from by omega]
  | m + 1, h, hp => by
    by_cases e : n = m + 1
    · rw [e]
    · show cN p m + (if p m = true then 1 else 0) = _
      rw [cN_cut m (by omega) hp, if_neg (by rw [hp m (by omega)]; decide)]
      rfl
theorem zc_cN {B z : Nat → Bool} : ∀ n, (∀ s, s < n → z s = true → B s = true) → zc B z n = cN z n
  | 0, _ => rfl
  | n + 1, h => by
    show (if B n = true then zc B z n + (if z n = true then 1 else 0) else zc B z n) = cN z n + (if z n = true then 1 else 0)
    rw [zc_cN n (fun s hs => h s (by omega))]
    by_cases b : B n = true
    · rw [if_pos b]
    · rw [if_neg b, if_neg (fun q => b (h n (by omega) q))]
      rfl
theorem tb_ex (f : Nat → Bool) : ∀ n, ∃ u, u < 2 ^ n ∧ ∀ s, s < n → u.testBit s = f s
  | 0 => ⟨0, by decide, fun s hs => absurd hs (Nat.not_lt_zero _)⟩
  | n + 1 => by
    obtain ⟨u, h1, h2⟩ := tb_ex f n
    have hn : u.testBit n = false := Nat.testBit_lt_two_pow h1
    cases b : f n
    · refine ⟨u, by rw [Nat.pow_succ]; omega, fun s hs => ?_⟩
      by_cases e : s = n
      · rw [e, hn, b]
      · exact h2 s (by omega)
    · refine ⟨2 ^ n + u, by rw [Nat.pow_succ]; omega, fun s hs => ?_⟩
      by_cases e : s = n
      · rw [e, Nat.testBit_two_pow_add_eq, hn, b]; rfl
      · rw [Nat.testBit_two_pow_add_gt (by omega)]; exact h2 s (by omega)
abbrev okz (w u : Nat) : Prop := (Int32.ofNat u &&& (Int32.ofNat w ^^^ (-1))) = 0 ∧ pcn u % 2 = 1
theorem okz_zc {n w u : Nat} (n8 : n ≤ 8) (hw : w < 256) (hu : u < 2 ^ n) (m2 : 2 ^ n ≤ 256) (h : (Int32.ofNat u &&& (Int32.ofNat w ^^^ (-1))) = 0) : pcn u = zc (hB (Int32.ofNat w)) (hB (Int32.ofNat u)) n := by
  have u2 : u < 256 := by omega
  have sb := (sub_iff u2 hw).mp h
  rw [zc_cN n (fun s hs q => by rw [hB_tb u u2 s (by omega)] at q; rw [hB_tb w hw s (by omega)]; exact sb s (by omega) q), pc_cN u u2]
  rw [cN_cut (p := fun s => u.testBit s) (n := n) 8 n8 (fun s hs => Nat.testBit_lt_two_pow (Nat.lt_of_lt_of_le hu (Nat.pow_le_pow_right (by decide) hs)))]
  exact cN_cg n (fun k hk => (hB_tb u u2 k (by omega)).symm)
theorem okz_ex {A : Nat → Int} {n w : Nat} (n8 : n ≤ 8) (hw : w < 256) (m2 : 2 ^ n ≤ 256) (z : Nat → Bool) (hz : zc (hB (Int32.ofNat w)) z n % 2 = 1) : ∃ u, u < 2 ^ n ∧ okz w u ∧ vS A (hB (Int32.ofNat w)) (hB (Int32.ofNat u)) n = vS A (hB (Int32.ofNat w)) z n := by
  obtain ⟨u, h1, h2⟩ := tb_ex (fun s => z s && hB (Int32.ofNat w) s) n
  have u2 : u < 256 := by omega
  have cg : ∀ s, s < n → hB (Int32.ofNat w) s = true → hB (Int32.ofNat u) s = z s := fun s hs hb => by
    rw [hB_tb u u2 s (by omega), h2 s hs]
    show (z s && hB (Int32.ofNat w) s) = z s
    rw [hb, Bool.and_true]
  have v := vS_cg (A := A) n cg
  have sb : (Int32.ofNat u &&& (Int32.ofNat w ^^^ (-1))) = 0 := (sub_iff u2 hw).mpr (fun t ht q => by
    by_cases c : t < n
    · have e := h2 t c
      rw [q] at e
      have e : true = (z t && hB (Int32.ofNat w) t) := e
      rw [← hB_tb w hw t (by omega)]
      cases k : hB (Int32.ofNat w) t
      · rw [k, Bool.and_false] at e; cases e
      · rfl
    · rw [Nat.testBit_lt_two_pow (Nat.lt_of_lt_of_le h1 (Nat.pow_le_pow_right (by decide) (by omega)))] at q
      cases q)
  exact ⟨u, h1, ⟨sb, by rw [okz_zc n8 hw h1 m2 sb, v.2]; exact hz⟩, v.1⟩
theorem vS_b {A : Nat → Int} {B z : Nat → Bool} : ∀ n, (∀ s, s < n → A s ≤ 60 ∧ -60 ≤ A s) → vS A B z n ≤ 60 * (n : Int) ∧ -60 * (n : Int) ≤ vS A B z n
  | 0, _ => ⟨Int.le_refl 0, Int.le_refl 0⟩
  | n + 1, h => by
    have i := vS_b (B := B) (z := z) n (fun s hs => h s (by omega))
    have a := h n (by omega)
    show (if B n = true then vS A B z n + sg A z n else vS A B z n) ≤ 60 * ((n + 1 : Nat) : Int) ∧ -60 * ((n + 1 : Nat) : Int) ≤ (if B n = true then vS A B z n + sg A z n else vS A B z n)
    unfold sg
    split
    · split <;> omega
    · omega
theorem v_excessOf {g : gT} {h : mh_T} {P : Int32 → mh_T → Prop} (l1 : Int32) (w : Nat) (ew : l1.toInt = (w : Int)) (hw : w < 256) (hx : ∃ s, s < sn (h.1 45) ∧ hB (Int32.ofNat w) s = true) (tz : TZ (h.1 45)) (hp : P (sfn (h.1 45) (mI h 45 49) w) h) : MCi g yX11_excessOf uX11_excessOf [.ref 11, .int l1] h P := by
  have n8 : sn (h.1 45) ≤ 8 := by unfold sn; have := tz.2.1; omega
  have en : (mI h 45 (Int32.toNatClampNeg 0)).toInt = (sn (h.1 45) : Int) := by show (h.1 45 0).toInt = _; unfold sn; have := tz.1; omega
  have e2 : (1 <<< ((mI h 45 (Int32.toNatClampNeg 0)) &&& 31) : Int32).toInt = ((2 ^ sn (h.1 45) : Nat) : Int) := by rw [i_of en (by omega)]; exact (p2M _ n8).1
  have m2 := (p2M _ n8).2
  have el := i_of ew (by omega)
  have a6 : ∀ s, s < sn (h.1 45) → al (h.1 45) s ≤ 60 ∧ -60 ≤ al (h.1 45) s := fun s hs => al_60 (tz.2.2 s hs).2
  have im : (-100000 : Int32).toInt = -100000 := by decide
  have L : ∀ (q v : Nat) (l2 l3 : Int32), l3.toInt = (v : Int) → v ≤ 2 ^ sn (h.1 45) → 2 ^ sn (h.1 45) - v < q → (∀ u, u < v → okz w u → vS (al (h.1 45)) (hB l1) (hB (Int32.ofNat u)) (sn (h.1 45)) ≤ l2.toInt) → (l2.toInt = -100000 ∨ ∃ u, u < v ∧ okz w u ∧ vS (al (h.1 45)) (hB l1) (hB (Int32.ofNat u)) (sn (h.1 45)) = l2.toInt) → ME g uX11_excessOf 6 [.ref 11, .int l1, .int l2, .int l3, .retAddr 0, .retAddr 0] [] h (qI P) := by
    intro q
    induction q with
    | zero => intro v l2 l3 _ _ hq; exact absurd hq (Nat.not_lt_zero _)
    | succ q iq =>
      intro v l2 l3 e3 hv hq up ex
      refine r_X11_excessOf_6 l1 l2 l3 ⟨fun d => ?_, fun d => ?_⟩
      · have d := i_le.mp d
        have e : v = 2 ^ sn (h.1 45) := by omega
        rw [e] at up ex
        refine w_bits l1 ew hw ?_
        show P (l2 - ((mI h 45 49) * (Int32.ofNat (pcn w) - 2))) h
        rw [sfn_i (a := h.1 45)]
        · exact hp
        · obtain ⟨z, z1, z2⟩ := exF_ex (al (h.1 45)) (hB (Int32.ofNat w)) (sn (h.1 45)) hx (fun s hs _ => a6 s hs)
          obtain ⟨u, u1, u2, u3⟩ := okz_ex (A := al (h.1 45)) n8 hw m2 z z1
          have k := up u u1 u2
          have bd := (vS_b (A := al (h.1 45)) (B := hB l1) (z := hB (Int32.ofNat u)) (sn (h.1 45)) a6).2
          rcases ex with x | ⟨u', v1, v2, v3⟩
          · omega
          · have k2 := exF_le (al (h.1 45)) (hB (Int32.ofNat w)) (hB (Int32.ofNat u')) (sn (h.1 45)) (by rw [← okz_zc n8 hw v1 m2 v2.1]; exact v2.2)
            rw [el] at k v3
            omega
      · have d := i_lt.mp (nle d)
        have ev := i_of e3 (by omega)
        have v2 : v < 256 := by omega
        have skip : ¬ okz w v → ME g uX11_excessOf 6 [.ref 11, .int l1, .int l2, .int (l3 + 1), .retAddr 0, .retAddr 0] [] h (qI P) := fun no => by
          refine iq (v + 1) l2 (l3 + 1) (i_inc e3 (by omega)) (by omega) (by omega) (fun u hu ok => ?_) ?_
          · by_cases e : u = v
            · rw [e] at ok; exact absurd ok no
            · exact up u (by omega) ok
          · rcases ex with x | ⟨u', v1, v2, v3⟩
            · exact Or.inl x
            · exact Or.inr ⟨u', by omega, v2, v3⟩
        refine ⟨fun z => skip (fun ok => z (by rw [ev, el]; exact ok.1)), fun z => w_bits l3 e3 v2 ⟨fun y => ?_, fun y => skip (fun ok => ((od_1 _ (show pcn v < 10 by have : pcn v ≤ 9 := s9_le _; omega)).2.mp y) ok.2)⟩⟩
        have i3' := i_inc e3 (by clear ex up; omega)
        have v3' : v + 1 ≤ 2 ^ sn (h.1 45) := by clear ex up; omega
        have q3' : 2 ^ sn (h.1 45) - (v + 1) < q := by clear ex up; omega
        have ok : okz w v := ⟨by rw [ev, el] at z; exact z, Decidable.not_not.mp (fun t => y ((od_1 _ (show pcn v < 10 by have : pcn v ≤ 9 := s9_le _; omega)).2.mpr t))⟩
        have I : ∀ (p s : Nat) (l4 l5 : Int32), l5.toInt = (s : Int) → s ≤ sn (h.1 45) → sn (h.1 45) - s < p → l4.toInt = vS (al (h.1 45)) (hB l1) (hB (Int32.ofNat v)) s → ME g uX11_excessOf 44 [.ref 11, .int l1, .int l2, .int l3, .int l4, .int l5] [] h (qI P) := by
          intro p
          induction p with
          | zero => intro s l4 l5 _ _ hp'; exact absurd hp' (Nat.not_lt_zero _)
          | succ p ip =>
            intro s l4 l5 e5 hs hp' e4
            have bd := vS_b (A := al (h.1 45)) (B := hB l1) (z := hB (Int32.ofNat v)) s (fun t ht => a6 t (by omega))
            refine r_X11_excessOf_44 l1 l2 l3 l4 l5 ⟨fun c => ?_, fun c => ?_⟩
            · have c := i_le.mp c
              have e : s = sn (h.1 45) := by omega
              rw [e] at e4
              refine ⟨fun y => ?_, fun y => ?_⟩
              · have y := i_le.mp y
                refine iq (v + 1) l2 (l3 + 1) i3' v3' q3' (fun u hu oku => ?_) ?_
                · by_cases e : u = v
                  · rw [e, ← e4]; exact y
                  · exact up u (by omega) oku
                · rcases ex with x | ⟨u', v1, v2, v3⟩
                  · exact Or.inl x
                  · exact Or.inr ⟨u', by omega, v2, v3⟩
              · have y := i_lt.mp (nle y)
                refine iq (v + 1) l4 (l3 + 1) i3' v3' q3' (fun u hu oku => ?_) (Or.inr ⟨v, by omega, ok, e4.symm⟩)
                by_cases e : u = v
                · rw [e, ← e4]; omega
                · have := up u (by omega) oku; omega
            · have c := i_lt.mp (nle c)
              have s8 : s < 8 := by omega
              have tp := (tz.2.2 s (by omega)).2
              have a := a6 s (by omega)
              have st : vS (al (h.1 45)) (hB l1) (hB (Int32.ofNat v)) (s + 1) = if hB l1 s = true then vS (al (h.1 45)) (hB l1) (hB (Int32.ofNat v)) s + sg (al (h.1 45)) (hB (Int32.ofNat v)) s else vS (al (h.1 45)) (hB l1) (hB (Int32.ofNat v)) s := rfl
              refine v_hasB l1 l5 s e5 s8 (fun b => ⟨fun y => absurd y (by decide), fun _ => v_hasB l3 l5 s e5 s8 (fun b2 => ⟨fun y => absurd y (by decide), fun _ => v_sameOf l5 s e5 s8 tp (fun r er x15 e15 => ?_)⟩) (fun b2 => ⟨fun _ => v_sameOf l5 s e5 s8 tp (fun r er x12 e12 => ?_), fun y => absurd rfl y⟩)⟩) (fun b => ⟨fun _ x6 e6 => ?_, fun y => absurd rfl y⟩)
              · refine ip (s + 1) x15 (l5 + 1) (i_inc e5 (by omega)) (by omega) (by omega) ?_
                rw [ev] at b2
                have en : (-r).toInt = -al (h.1 45) s := by
                  have : -r = 0 - r := by rw [Int32.zero_sub]
                  rw [this, i_sub i_0 er (by omega)]; omega
                rw [st, if_pos b, e15, i_add e4 en (by omega)]
                unfold sg
                rw [if_pos b2]
              · refine ip (s + 1) x12 (l5 + 1) (i_inc e5 (by omega)) (by omega) (by omega) ?_
                rw [ev] at b2
                rw [st, if_pos b, e12, i_add e4 er (by omega)]
                unfold sg
                rw [if_neg b2]
              · refine ip (s + 1) x6 (l5 + 1) (i_inc e5 (by omega)) (by omega) (by omega) ?_
                rw [st, if_neg b, e6, i_add e4 i_0 (by omega)]
                omega
        exact I 9 0 0 0 (by decide) (Nat.zero_le _) (by omega) rfl
  exact e_X11_excessOf l1 (L 258 0 (-100000) 0 (by decide) (Nat.zero_le _) (by omega) (fun u hu => absurd hu (Nat.not_lt_zero _)) (Or.inl im))
/-! cycles: greatest, widest -/
theorem rg_ex {a : Nat → Int32} {w : Nat} (n8 : sn a ≤ 8) (r : rgP a w) : w < 256 ∧ ∃ s, s < sn a ∧ hB (Int32.ofNat w) s = true := by
  have m2 := (p2M _ n8).2
  have wl := r.1
  obtain ⟨s0, s1, s2, s3⟩ := pc_ex w (by omega) r.2.1
  exact ⟨by omega, s0, (Nat.pow_lt_pow_iff_right (by omega)).mp (Nat.lt_of_le_of_lt s3 wl), s2⟩
theorem sS_cg {A D : Nat → Int} {B : Nat → Bool} : ∀ n, (∀ s, s < n → A s = D s) → sS A B n = sS D B n ∧ mS A B n = mS D B n ∧ zc B (ng A) n = zc B (ng D) n
  | 0, _ => ⟨rfl, rfl, rfl⟩
  | n + 1, h => by
    have i := sS_cg (B := B) n (fun s hs => h s (by omega))
    have e := h n (by omega)
    have e2 : ng A n = ng D n := by unfold ng; rw [e]
    refine ⟨?_, ?_, ?_⟩
    · show (if B n = true then sS A B n + (if 0 ≤ A n then A n else -A n) else sS A B n) = (if B n = true then sS D B n + (if 0 ≤ D n then D n else -D n) else sS D B n)
      rw [i.1, e]
    · show (if B n = true then (if (if 0 ≤ A n then A n else -A n) < mS A B n then (if 0 ≤ A n then A n else -A n) else mS A B n) else mS A B n) = (if B n = true then (if (if 0 ≤ D n then D n else -D n) < mS D B n then (if 0 ≤ D n then D n else -D n) else mS D B n) else mS D B n)
      rw [i.2.1, e]
    · show (if B n = true then zc B (ng A) n + (if ng A n = true then 1 else 0) else zc B (ng A) n) = (if B n = true then zc B (ng D) n + (if ng D n = true then 1 else 0) else zc B (ng D) n)
      rw [i.2.2, e2]
theorem sfn_cg {a b : Nat → Int32} (r : Rq a b) (law : Int32) : sfn a law = sfn b law := by
  funext w
  have en : sn a = sn b := by unfold sn; rw [r.1]
  have eA : ∀ s, s < sn b → al a s = al b s := fun s hs => by
    have q := (r.2.2 s hs).2.2
    have q0 := q 0 (by omega)
    have q0 : a (17 + 4 * s) = b (17 + 4 * s) := q0
    unfold al
    rw [q0, q 1 (by omega), q 2 (by omega), q 3 (by omega)]
  have c := sS_cg (B := hB (Int32.ofNat w)) (sn b) eA
  unfold sfn exF
  rw [en, c.1, c.2.1, c.2.2]
/-- the first of the greatest -/
def gtF (p : Nat → Bool) (f : Nat → Int32) : Nat → Int32
  | 0 => -2
  | k + 1 => if p k = true then (if gtF p f k = -2 then Int32.ofNat k else if f k ≤ f (gtF p f k).toInt.toNat then gtF p f k else Int32.ofNat k) else gtF p f k
theorem gtF_s {p : Nat → Bool} {f : Nat → Int32} : ∀ k, gtF p f k = -2 ∨ ∃ m, m < k ∧ p m = true ∧ gtF p f k = Int32.ofNat m
  | 0 => Or.inl rfl
  | k + 1 => by
    show (if p k = true then (if gtF p f k = -2 then Int32.ofNat k else if f k ≤ f (gtF p f k).toInt.toNat then gtF p f k else Int32.ofNat k) else gtF p f k) = -2 ∨ ∃ m, m < k + 1 ∧ p m = true ∧ (if p k = true then (if gtF p f k = -2 then Int32.ofNat k else if f k ≤ f (gtF p f k).toInt.toNat then gtF p f k else Int32.ofNat k) else gtF p f k) = Int32.ofNat m
    have i := gtF_s (p := p) (f := f) k
    have old : gtF p f k = -2 ∨ ∃ m, m < k + 1 ∧ p m = true ∧ gtF p f k = Int32.ofNat m := by
      rcases i with i | ⟨m, m1, m2, m3⟩
      · exact Or.inl i
      · exact Or.inr ⟨m, by omega, m2, m3⟩
    by_cases b : p k = true
    · rw [if_pos b]
      split
      · exact Or.inr ⟨k, by omega, b, rfl⟩
      · split
        · exact old
        · exact Or.inr ⟨k, by omega, b, rfl⟩
    · rw [if_neg b]
      exact old
theorem v_greatest {g : gT} {h : mh_T} {P : Int32 → mh_T → Prop} (tz : TZ (tC h)) (hp : P (gtF (rgB (tC h)) (sfn (tC h) (mI h 3 0)) (2 ^ sn (tC h))) h) : MCi g yX7_greatest uX7_greatest [.ref 4] h P := by
  have n8 : sn (tC h) ≤ 8 := by unfold sn; have := tz.2.1; omega
  have en : (mI h 3 2).toInt = (sn (tC h) : Int) := by show (tC h 0).toInt = _; unfold sn; have := tz.1; omega
  have e2 : (1 <<< ((mI h 3 2) &&& 31) : Int32).toInt = ((2 ^ sn (tC h) : Nat) : Int) := by rw [i_of en (by omega)]; exact (p2M _ n8).1
  have m2 := (p2M _ n8).2
  have L : ∀ (n : Nat) (l1 l2 : Int32) (k : Nat), l2.toInt = (k : Int) → k ≤ 2 ^ sn (tC h) → 2 ^ sn (tC h) - k < n → l1 = gtF (rgB (tC h)) (sfn (tC h) (mI h 3 0)) k → ME g uX7_greatest 5 [.ref 4, .int l1, .int l2] [] h (qI P) := by
    intro n
    induction n with
    | zero => intro l1 l2 k _ _ hn; exact absurd hn (Nat.not_lt_zero _)
    | succ n ih =>
      intro l1 l2 k ek hk hn e1
      have st : gtF (rgB (tC h)) (sfn (tC h) (mI h 3 0)) (k + 1) = if rgB (tC h) k = true then (if gtF (rgB (tC h)) (sfn (tC h) (mI h 3 0)) k = -2 then Int32.ofNat k else if sfn (tC h) (mI h 3 0) k ≤ sfn (tC h) (mI h 3 0) (gtF (rgB (tC h)) (sfn (tC h) (mI h 3 0)) k).toInt.toNat then gtF (rgB (tC h)) (sfn (tC h) (mI h 3 0)) k else Int32.ofNat k) else gtF (rgB (tC h)) (sfn (tC h) (mI h 3 0)) k := rfl
      rw [← e1] at st
      have ek' := i_of ek (by omega)
      refine r_X7_greatest_5 l1 l2 ⟨fun c => ?_, fun c => ?_⟩
      · have c := i_le.mp c
        have e : k = 2 ^ sn (tC h) := by omega
        rw [e] at e1
        rw [e1]
        exact hp
      · have c := i_lt.mp (nle c)
        have i3 := i_inc ek (by omega)
        have k3 : k + 1 ≤ 2 ^ sn (tC h) := by omega
        have q3 : 2 ^ sn (tC h) - (k + 1) < n := by omega
        have k2 : k < 256 := by omega
        refine v_isRing l2 tz (fun w ew _ z => ⟨fun y => absurd y (by decide), fun _ => ?_⟩) (fun z => ⟨fun _ => ih l1 (l2 + 1) (k + 1) i3 k3 q3 (by rw [st, if_neg (z k ek)]), fun y => absurd rfl y⟩)
        rw [show w = k from by omega] at z
        rw [if_pos z] at st
        have gs := gtF_s (p := rgB (tC h)) (f := sfn (tC h) (mI h 3 0)) k
        rw [← e1] at gs
        refine ⟨fun y => ih l2 (l2 + 1) (k + 1) i3 k3 q3 ?_, fun y => ?_⟩
        · rcases gs with gs | ⟨m, m1, -, m3⟩
          · rw [st, if_pos gs]; exact ek'
          · rw [m3] at y
            have y := i_lt.mp y
            rw [Int32.toInt_ofNat_of_lt (by omega), i_0] at y
            omega
        · rcases gs with gs | ⟨m, m1, -, m3⟩
          · rw [gs] at y; exact absurd (by decide) y
          · have em : l1.toInt = (m : Int) := by rw [m3, Int32.toInt_ofNat_of_lt (by omega)]
            have ne : ¬ l1 = -2 := fun t => by rw [t] at em; rw [show (-2 : Int32).toInt = -2 from by decide] at em; omega
            rw [if_neg ne, show l1.toInt.toNat = m from by omega] at st
            refine v_surplus l2 k ek k2 tz (v_surplus l1 m em (by omega) tz ⟨fun x => ih l1 (l2 + 1) (k + 1) i3 k3 q3 (by rw [st, if_pos x]), fun x => ih l2 (l2 + 1) (k + 1) i3 k3 q3 (by rw [st, if_neg x]; exact ek')⟩)
  exact e_X7_greatest (L 258 (-2) 0 0 (by decide) (Nat.zero_le _) (by omega) rfl)
theorem v_widest {g : gT} {h : mh_T} {P : Int32 → mh_T → Prop} (tz : TZ (h.1 45)) (pw : PW (h.1 45)) (hp : P (gtF (rgB (h.1 45)) (sfn (h.1 45) (mI h 45 49)) (2 ^ sn (h.1 45))) h) : ME g uX11_widest 24 [.ref 11, .int (-2), .int 0, .int 0, .retAddr 0] [] h (qI P) := by
  have n8 : sn (h.1 45) ≤ 8 := by unfold sn; have := tz.2.1; omega
  have en : (mI h 45 (Int32.toNatClampNeg 0)).toInt = (sn (h.1 45) : Int) := by show (h.1 45 0).toInt = _; unfold sn; have := tz.1; omega
  have e2 : (1 <<< ((mI h 45 (Int32.toNatClampNeg 0)) &&& 31) : Int32).toInt = ((2 ^ sn (h.1 45) : Nat) : Int) := by rw [i_of en (by omega)]; exact (p2M _ n8).1
  have m2 := (p2M _ n8).2
  have L : ∀ (n : Nat) (l1 l2 l3 : Int32) (k : Nat), l3.toInt = (k : Int) → k ≤ 2 ^ sn (h.1 45) → 2 ^ sn (h.1 45) - k < n → l1 = gtF (rgB (h.1 45)) (sfn (h.1 45) (mI h 45 49)) k → (¬ l1 = -2 → l2 = sfn (h.1 45) (mI h 45 49) l1.toInt.toNat) → ME g uX11_widest 24 [.ref 11, .int l1, .int l2, .int l3, .retAddr 0] [] h (qI P) := by
    intro n
    induction n with
    | zero => intro l1 l2 l3 k _ _ hn; exact absurd hn (Nat.not_lt_zero _)
    | succ n ih =>
      intro l1 l2 l3 k ek hk hn e1 el2
      have st : gtF (rgB (h.1 45)) (sfn (h.1 45) (mI h 45 49)) (k + 1) = if rgB (h.1 45) k = true then (if gtF (rgB (h.1 45)) (sfn (h.1 45) (mI h 45 49)) k = -2 then Int32.ofNat k else if sfn (h.1 45) (mI h 45 49) k ≤ sfn (h.1 45) (mI h 45 49) (gtF (rgB (h.1 45)) (sfn (h.1 45) (mI h 45 49)) k).toInt.toNat then gtF (rgB (h.1 45)) (sfn (h.1 45) (mI h 45 49)) k else Int32.ofNat k) else gtF (rgB (h.1 45)) (sfn (h.1 45) (mI h 45 49)) k := rfl
      rw [← e1] at st
      have ek' := i_of ek (by omega)
      refine r_X11_widest_24 l1 l2 l3 ⟨fun c => ?_, fun c => ?_⟩
      · have c := i_le.mp c
        have e : k = 2 ^ sn (h.1 45) := by omega
        rw [e] at e1
        rw [e1]
        exact hp
      · have c := i_lt.mp (nle c)
        have i3 := i_inc ek (by omega)
        have k3 : k + 1 ≤ 2 ^ sn (h.1 45) := by omega
        have q3 : 2 ^ sn (h.1 45) - (k + 1) < n := by omega
        have k2 : k < 256 := by omega
        have lk : l3.toInt.toNat = k := by omega
        refine v_isCycle l3 tz pw (fun w ew _ z => ⟨fun _ => ?_, fun y => absurd y (by decide)⟩) (fun z => ⟨fun y => absurd rfl y, fun _ => ih l1 l2 (l3 + 1) (k + 1) i3 k3 q3 (by rw [st, if_neg (z k ek)]) el2⟩)
        rw [show w = k from by omega] at z
        rw [if_pos z] at st
        refine v_excessOf l3 k ek k2 (rg_ex n8 (rgB_iff.mp z)).2 tz ⟨fun y => ih l3 _ (l3 + 1) (k + 1) i3 k3 q3 (by rw [st, if_pos y]; exact ek') (fun _ => by rw [lk]), fun y => ?_⟩
        rw [if_neg y, ← el2 y] at st
        refine ⟨fun x => ih l3 _ (l3 + 1) (k + 1) i3 k3 q3 ?_ (fun _ => by rw [lk]), fun x => ih l1 l2 (l3 + 1) (k + 1) i3 k3 q3 ?_ el2⟩
        · rw [st, if_neg (fun t => by have x := i_lt.mp x; have t := i_le.mp t; omega)]; exact ek'
        · rw [st, if_pos (i_le.mpr (by have x := i_le.mp (nlt x); exact x))]
  exact L 258 (-2) 0 0 0 (by decide) (Nat.zero_le _) (by omega) rfl (fun y => absurd rfl y)
