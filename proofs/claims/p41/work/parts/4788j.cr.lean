/-! cycles: isRing, isCycle -/
theorem lo_C {h : mh_T} {s : Nat} (hs : s < 8) : lo (tC h) s = (1 <<< ((mI h 24 s) &&& 31)) ||| (1 <<< ((mI h 25 s) &&& 31)) := by
  have e1 : tC h (1 + s) = mI h 24 s := by
    unfold tC
    rw [if_neg (by omega), if_pos (by omega), show 1 + s - 1 = s from by omega]
  have e2 : tC h (9 + s) = mI h 25 s := by
    unfold tC
    rw [if_neg (by omega), if_neg (by omega), if_pos (by omega), show 9 + s - 9 = s from by omega]
  unfold lo
  rw [e1, e2]
theorem tC_9s {h : mh_T} {s : Nat} (hs : s < 8) : tC h (9 + s) = mI h 25 s := by
  unfold tC
  rw [if_neg (by omega), if_neg (by omega), if_pos (by omega), show 9 + s - 9 = s from by omega]
theorem tC_1s {h : mh_T} {s : Nat} (hs : s < 8) : tC h (1 + s) = mI h 24 s := by
  unfold tC
  rw [if_neg (by omega), if_pos (by omega), show 1 + s - 1 = s from by omega]
theorem v_looksOf {g : gT} {h : mh_T} {P : Int32 → mh_T → Prop} (l1 : Int32) (s : Nat) (es : l1.toInt = (s : Int)) (hs : s < 8) (hp : P (lo (tC h) s) h) : MCi g yX7_looksOf uX7_looksOf [.ref 4, .int l1] h P := by
  refine e_X7_looksOf l1 ⟨i_vp es hs, i_vp es hs, ?_⟩
  rw [i_nat es, ← lo_C hs]
  exact hp
theorem hB_0 {l x : Int32} {s : Nat} (e : x.toInt = (s : Int)) (hs : s < 8) : ((l >>> (x &&& 31)) &&& 1) = 0 ↔ ¬ hB l s = true := by
  unfold hB bv
  rw [← i_of e (by omega), decide_eq_true_iff, Decidable.not_not]
theorem rd_no {E : Nat → Int32} {B : Nat → Bool} {x : Int32} {s : Nat} (h : ¬ B s = true) : rdF E B x (s + 1) = rdF E B x s := by
  show (if B s = true then (if (E s &&& rdF E B x s) = 0 then rdF E B x s else rdF E B x s ||| E s) else rdF E B x s) = _
  rw [if_neg h]
theorem rd_z {E : Nat → Int32} {B : Nat → Bool} {x : Int32} {s : Nat} (h : B s = true) (z : (E s &&& rdF E B x s) = 0) : rdF E B x (s + 1) = rdF E B x s := by
  show (if B s = true then (if (E s &&& rdF E B x s) = 0 then rdF E B x s else rdF E B x s ||| E s) else rdF E B x s) = _
  rw [if_pos h, if_pos z]
theorem rd_y {E : Nat → Int32} {B : Nat → Bool} {x : Int32} {s : Nat} (h : B s = true) (z : ¬ (E s &&& rdF E B x s) = 0) : rdF E B x (s + 1) = rdF E B x s ||| E s := by
  show (if B s = true then (if (E s &&& rdF E B x s) = 0 then rdF E B x s else rdF E B x s ||| E s) else rdF E B x s) = _
  rw [if_pos h, if_neg z]
theorem v_hangs {g : gT} {h : mh_T} {P : Int32 → mh_T → Prop} (l1 l2 : Int32) (tz : TZ (tC h)) (h1 : itR (lo (tC h)) (hB l1) (sn (tC h)) (l2 &&& (-l2)) 8 = l2 → P 1 h) (h0 : ¬ itR (lo (tC h)) (hB l1) (sn (tC h)) (l2 &&& (-l2)) 8 = l2 → P 0 h) : MCi g yX7_hangsTogether uX7_hangsTogether [.ref 4, .int l1, .int l2] h P := by
  have n8 : sn (tC h) ≤ 8 := by unfold sn; have := tz.2.1; omega
  have en : (mI h 3 2).toInt = (sn (tC h) : Int) := by show (tC h 0).toInt = _; unfold sn; have := tz.1; omega
  have i8 : (8 : Int32).toInt = 8 := by decide
  have L : ∀ (m k : Nat) (l4 : Int32), l4.toInt = (k : Int) → k ≤ 8 → 8 - k < m → ME g uX7_hangsTogether 8 [.ref 4, .int l1, .int l2, .int (itR (lo (tC h)) (hB l1) (sn (tC h)) (l2 &&& (-l2)) k), .int l4, .retAddr 0] [] h (qI P) := by
    intro m
    induction m with
    | zero => intro k l4 _ _ hm; exact absurd hm (Nat.not_lt_zero _)
    | succ m ih =>
      intro k l4 e4 hk hm
      refine r_X7_hangsTogether_8 l1 l2 _ l4 ⟨fun c => ?_, fun c => ?_⟩
      · have c := i_le.mp c
        have e : k = 8 := by omega
        rw [e]
        exact ⟨h0, h1⟩
      · have c := i_lt.mp (nle c)
        have I : ∀ (q s : Nat) (l5 : Int32), l5.toInt = (s : Int) → s ≤ sn (tC h) → sn (tC h) - s < q → ME g uX7_hangsTogether 18 [.ref 4, .int l1, .int l2, .int (rdF (lo (tC h)) (hB l1) (itR (lo (tC h)) (hB l1) (sn (tC h)) (l2 &&& (-l2)) k) s), .int l4, .int l5] [] h (qI P) := by
          intro q
          induction q with
          | zero => intro s l5 _ _ hq; exact absurd hq (Nat.not_lt_zero _)
          | succ q iq =>
            intro s l5 e5 hs hq
            refine r_X7_hangsTogether_18 l1 l2 _ l4 l5 ⟨fun d => ?_, fun d => ?_⟩
            · have d := i_le.mp d
              have e : s = sn (tC h) := by omega
              rw [e]
              exact ih (k + 1) (l4 + 1) (i_inc e4 (by omega)) (by omega) (by omega)
            · have d := i_lt.mp (nle d)
              have nx := iq (s + 1) (l5 + 1) (i_inc e5 (by omega)) (by omega) (by omega)
              refine ⟨fun z => ?_, fun z => ?_⟩
              · rw [rd_no ((hB_0 e5 (by omega)).mp z)] at nx
                exact nx
              · have b : hB l1 s = true := Decidable.not_not.mp (fun w => z ((hB_0 e5 (by omega)).mpr w))
                refine v_looksOf l5 s e5 (by omega) ⟨fun y => ?_, fun y => v_looksOf l5 s e5 (by omega) (fun x8 e8 => ?_)⟩
                · rw [rd_z b y] at nx
                  exact nx
                · rw [rd_y b y] at nx
                  rw [e8]
                  exact nx
        exact I 9 0 0 (by decide) (Nat.zero_le _) (by omega)
  exact e_X7_hangsTogether l1 l2 (fun x1 e1 => by rw [e1]; exact L 9 0 0 (by decide) (Nat.zero_le _) (by omega))
/-- what a ring is -/
def paB (a : Nat → Int32) (l : Int32) : Nat → Bool
  | 0 => true
  | s + 1 => paB a l s && (!hB l s || decide (0 ≤ (a (9 + s)).toInt))
theorem paB_iff {a : Nat → Int32} {l : Int32} : ∀ n, paB a l n = true ↔ ∀ s, s < n → hB l s = true → 0 ≤ (a (9 + s)).toInt
  | 0 => ⟨fun _ s hs => absurd hs (Nat.not_lt_zero _), fun _ => rfl⟩
  | n + 1 => by
    unfold paB
    rw [Bool.and_eq_true, paB_iff n, Bool.or_eq_true, Bool.not_eq_true', decide_eq_true_iff]
    constructor
    · rintro ⟨q1, q2⟩ s hs hb
      by_cases e : s = n
      · rw [e] at hb ⊢
        rcases q2 with q2 | q2
        · rw [q2] at hb; cases hb
        · exact q2
      · exact q1 s (by omega) hb
    · intro q
      refine ⟨fun s hs hb => q s (by omega) hb, ?_⟩
      cases b : hB l n
      · exact Or.inl rfl
      · exact Or.inr (q n (by omega) b)
abbrev rgP (a : Nat → Int32) (w : Nat) : Prop := w < 2 ^ sn a ∧ 3 ≤ pcn w ∧ paB a (Int32.ofNat w) (sn a) = true ∧ hF (lo a) (hB (Int32.ofNat w)) (sn a) = 0 ∧ oF (lo a) (hB (Int32.ofNat w)) (sn a) = tF (lo a) (hB (Int32.ofNat w)) (sn a) ∧ itR (lo a) (hB (Int32.ofNat w)) (sn a) (oF (lo a) (hB (Int32.ofNat w)) (sn a) &&& (-oF (lo a) (hB (Int32.ofNat w)) (sn a))) 8 = oF (lo a) (hB (Int32.ofNat w)) (sn a)
def rgB (a : Nat → Int32) (w : Nat) : Bool := decide (rgP a w)
theorem rgB_iff {a : Nat → Int32} {w : Nat} : rgB a w = true ↔ rgP a w := decide_eq_true_iff
theorem p2M : ∀ n, n ≤ 8 → (1 <<< (Int32.ofNat n &&& 31) : Int32).toInt = ((2 ^ n : Nat) : Int) ∧ 2 ^ n ≤ 256 := by decide
theorem i3p {w : Nat} : 3 ≤ Int32.ofNat (pcn w) ↔ 3 ≤ pcn w := by
  rw [i_le, pcn_i, show (3 : Int32).toInt = 3 from by decide]
  omega
theorem v_isRing {g : gT} {h : mh_T} {P : Int32 → mh_T → Prop} (l1 : Int32) (tz : TZ (tC h)) (h1 : ∀ w : Nat, l1.toInt = (w : Int) → w < 2 ^ sn (tC h) → rgB (tC h) w = true → P 1 h) (h0 : (∀ w : Nat, l1.toInt = (w : Int) → ¬ rgB (tC h) w = true) → P 0 h) : MCi g yX7_isRing uX7_isRing [.ref 4, .int l1] h P := by
  have n8 : sn (tC h) ≤ 8 := by unfold sn; have := tz.2.1; omega
  have en : (mI h 3 2).toInt = (sn (tC h) : Int) := by show (tC h 0).toInt = _; unfold sn; have := tz.1; omega
  have e2 : (1 <<< ((mI h 3 2) &&& 31) : Int32).toInt = ((2 ^ sn (tC h) : Nat) : Int) := by rw [i_of en (by omega)]; exact (p2M _ n8).1
  have m2 := (p2M _ n8).2
  refine e_X7_isRing l1 ⟨fun c => ?_, fun c => ⟨fun d => ?_, fun d => ?_⟩⟩
  · have c := i_lt.mp c
    rw [i_0] at c
    exact h0 (fun w e => by omega)
  · have d := i_le.mp d
    refine h0 (fun w e r => ?_)
    have := (rgB_iff.mp r).1
    omega
  · have c := i_le.mp (nlt c)
    have d := i_lt.mp (nle d)
    rw [i_0] at c
    obtain ⟨w, ew⟩ : ∃ w : Nat, l1.toInt = (w : Int) := ⟨l1.toInt.toNat, by omega⟩
    have wl : w < 2 ^ sn (tC h) := by omega
    have el := i_of ew (by omega)
    have no : ¬ rgP (tC h) w → P 0 h := fun q => h0 (fun v ev r => q (by rw [show v = w from by omega] at r; exact rgB_iff.mp r))
    refine v_bc l1 ew (by omega) ⟨fun p3 => ?_, fun p3 => no (fun q => p3 (i3p.mpr q.2.1))⟩
    have L : ∀ (q s : Nat) (l5 : Int32), l5.toInt = (s : Int) → s ≤ sn (tC h) → sn (tC h) - s < q → paB (tC h) l1 s = true → ME g uX7_isRing 37 [.ref 4, .int l1, .int (oF (lo (tC h)) (hB l1) s), .int (tF (lo (tC h)) (hB l1) s), .int (hF (lo (tC h)) (hB l1) s), .int l5, .retAddr 0] [] h (qI P) := by
      intro q
      induction q with
      | zero => intro s l5 _ _ hq; exact absurd hq (Nat.not_lt_zero _)
      | succ q iq =>
        intro s l5 e5 hs hq pa
        refine r_X7_isRing_37 l1 _ _ _ l5 ⟨fun d => ?_, fun d => ?_⟩
        · have d := i_le.mp d
          have e : s = sn (tC h) := by omega
          rw [e] at pa ⊢
          refine ⟨fun z => no (fun r => z ?_), fun z => ⟨fun y => no (fun r => y ?_), fun y => v_hangs l1 _ tz (fun x => ⟨fun v => absurd v (by decide), fun _ => h1 w ew wl (rgB_iff.mpr ?_)⟩) (fun x => ⟨fun _ => no (fun r => x ?_), fun v => absurd rfl v⟩)⟩⟩
          · rw [el]; exact r.2.2.2.1
          · rw [el]; exact r.2.2.2.2.1
          · rw [el] at pa z y x
            exact ⟨wl, i3p.mp p3, pa, z, y, x⟩
          · rw [el]; exact r.2.2.2.2.2
        · have d := i_lt.mp (nle d)
          have nx := iq (s + 1) (l5 + 1) (i_inc e5 (by omega)) (by omega) (by omega)
          refine ⟨fun z => ?_, fun z => ?_⟩
          · have b := (hB_0 e5 (by omega)).mp z
            have nx := nx (by unfold paB; rw [pa, Bool.eq_false_iff.mpr b]; rfl)
            rw [show oF (lo (tC h)) (hB l1) (s + 1) = oF (lo (tC h)) (hB l1) s from if_neg b, show tF (lo (tC h)) (hB l1) (s + 1) = tF (lo (tC h)) (hB l1) s from if_neg b, show hF (lo (tC h)) (hB l1) (s + 1) = hF (lo (tC h)) (hB l1) s from if_neg b] at nx
            exact nx
          · have b : hB l1 s = true := Decidable.not_not.mp (fun w => z ((hB_0 e5 (by omega)).mpr w))
            refine e_X8_hasPair l5 (v_hasSet l5 (fun _ => ⟨fun y => absurd y (by decide), fun _ => ⟨i_vp e5 (by omega), fun y => ?_, fun y => ?_⟩⟩) (fun k => absurd (⟨by omega, by show l5.toInt < (mI h 3 2).toInt; omega⟩ : SEb (tC h) l5) k))
            · refine ⟨fun v => absurd rfl v, fun _ => no (fun r => ?_)⟩
              have p := (paB_iff _).mp r.2.2.1 s (by omega) (by rw [← el]; exact b)
              rw [i_nat e5, ← tC_9s (by omega)] at y
              have y := i_lt.mp y
              rw [i_0] at y
              omega
            · refine ⟨fun _ => v_looksOf l5 s e5 (by omega) (fun x13 e13 x14 e14 x15 e15 => ?_), fun v => absurd v (by decide)⟩
              rw [i_nat e5, ← tC_9s (by omega)] at y
              have y := i_le.mp (nlt y)
              rw [i_0] at y
              have nx := nx (by unfold paB; rw [pa, decide_eq_true y, Bool.or_true]; rfl)
              rw [show oF (lo (tC h)) (hB l1) (s + 1) = oF (lo (tC h)) (hB l1) s ||| lo (tC h) s from if_pos b, show tF (lo (tC h)) (hB l1) (s + 1) = tF (lo (tC h)) (hB l1) s ||| (oF (lo (tC h)) (hB l1) s &&& lo (tC h) s) from if_pos b, show hF (lo (tC h)) (hB l1) (s + 1) = hF (lo (tC h)) (hB l1) s ||| (tF (lo (tC h)) (hB l1) s &&& lo (tC h) s) from if_pos b] at nx
              rw [e13, e14, e15]
              exact nx
    exact L 9 0 0 (by decide) (Nat.zero_le _) (by omega) rfl
