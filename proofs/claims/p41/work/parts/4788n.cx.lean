/-! cycles: surplus, excessOf -/
def al (a : Nat → Int32) (s : Nat) : Int := (a (17 + 4 * s)).toInt + (a (17 + 4 * s + 3)).toInt - (a (17 + 4 * s + 1)).toInt - (a (17 + 4 * s + 2)).toInt
theorem al_60 {a : Nat → Int32} {s : Nat} (tp : TP a s) : al a s ≤ 60 ∧ -60 ≤ al a s := by
  unfold al TP at *
  omega
theorem al_i {a : Nat → Int32} {s : Nat} (tp : TP a s) : (((a (17 + 4 * s) + a (17 + 4 * s + 3)) - a (17 + 4 * s + 1)) - a (17 + 4 * s + 2)).toInt = al a s := by
  unfold TP at tp
  unfold al
  rw [i_sub (i_sub (i_add rfl rfl (by omega)) rfl (by omega)) rfl (by omega)]
theorem v_alike {g : gT} {h : mh_T} {P : Int32 → mh_T → Prop} (l1 : Int32) (s : Nat) (es : l1.toInt = (s : Int)) (s8 : s < 8) (tp : TP (tC h) s) (hp : ∀ r : Int32, r.toInt = al (tC h) s → P r h) : MCi g yX8_alike uX8_alike [.ref 3, .int l1] h P := by
  refine e_X8_alike l1 (fun x1 e1 => ?_)
  have k0 : x1.toInt = ((4 * s : Nat) : Int) := by rw [e1]; exact i_4s es s8
  have k1 := i_off k0 1 1 (by decide) (by omega)
  have k2 := i_off k0 2 2 (by decide) (by omega)
  have k3 := i_off k0 3 3 (by decide) (by omega)
  rw [i_nat k0, i_nat k1, i_nat k2, i_nat k3]
  refine ⟨i_vp k0 (by omega), i_vp k3 (by omega), i_vp k1 (by omega), i_vp k2 (by omega), hp _ ?_⟩
  have e := al_i tp
  rw [show 17 + 4 * s + 3 = 17 + (4 * s + 3) by omega, show 17 + 4 * s + 1 = 17 + (4 * s + 1) by omega, show 17 + 4 * s + 2 = 17 + (4 * s + 2) by omega, tC_17, tC_17, tC_17, tC_17] at e
  exact e
theorem v_sameOf {g : gT} {h : mh_T} {P : Int32 → mh_T → Prop} (l1 : Int32) (s : Nat) (es : l1.toInt = (s : Int)) (s8 : s < 8) (tp : TP (h.1 45) s) (hp : ∀ r : Int32, r.toInt = al (h.1 45) s → P r h) : MCi g yX11_sameOf uX11_sameOf [.ref 11, .int l1] h P := by
  refine e_X11_sameOf l1 (fun x1 e1 => ?_)
  have k0 : x1.toInt = ((17 + 4 * s : Nat) : Int) := by rw [e1, i_add (show (17 : Int32).toInt = 17 from by decide) (i_4s es s8) (by omega)]; omega
  have k1 := i_off k0 1 1 (by decide) (by omega)
  have k2 := i_off k0 2 2 (by decide) (by omega)
  have k3 := i_off k0 3 3 (by decide) (by omega)
  rw [i_nat k0, i_nat k1, i_nat k2, i_nat k3]
  exact ⟨i_vp k0 (by omega), i_vp k3 (by omega), i_vp k1 (by omega), i_vp k2 (by omega), hp _ (al_i tp)⟩
def sfn (a : Nat → Int32) (law : Int32) (w : Nat) : Int32 := Int32.ofInt (exF (al a) (hB (Int32.ofNat w)) (sn a)) - law * (Int32.ofNat (pcn w) - 2)
theorem sfn_i {a : Nat → Int32} {law x : Int32} {w : Nat} (e : x.toInt = exF (al a) (hB (Int32.ofNat w)) (sn a)) : x - law * (Int32.ofNat (pcn w) - 2) = sfn a law w := by
  unfold sfn
  rw [← e, Int32.ofInt_toInt]
theorem od_1 : ∀ k, k < 10 → ((Int32.ofNat k - Int32.ofNat k / 2 * 2) = 1 ↔ k % 2 = 1) ∧ ((Int32.ofNat k - Int32.ofNat k / 2 * 2) = 0 ↔ ¬ k % 2 = 1) := by decide
theorem zc_le (B z : Nat → Bool) : ∀ n, zc B z n ≤ n
  | 0 => Nat.le_refl _
  | n + 1 => by
    have := zc_le B z n
    show (if B n = true then zc B z n + (if z n = true then 1 else 0) else zc B z n) ≤ n + 1
    split
    · split <;> omega
    · omega
theorem ab_i {r : Int32} {x : Int} (e : r.toInt = x) (hx : x ≤ 60 ∧ -60 ≤ x) : (if 0 ≤ r then r else 0 - r : Int32).toInt = (if 0 ≤ x then x else -x) := by
  have c : 0 ≤ r ↔ 0 ≤ x := by rw [i_le, i_0, e]
  by_cases q : 0 ≤ x
  · rw [if_pos (c.mpr q), if_pos q, e]
  · rw [if_neg (fun z => q (c.mp z)), if_neg q, i_sub i_0 e (by omega)]; omega
theorem i_2m {x : Int32} {m : Int} (e : x.toInt = m) (hm : 0 ≤ m ∧ m ≤ 60) : (2 * x).toInt = 2 * m := by
  obtain ⟨k, ek⟩ : ∃ k : Nat, m = (k : Int) := ⟨m.toNat, by omega⟩
  have : ∀ k, k < 61 → (2 * Int32.ofNat k).toInt = 2 * (k : Int) := by decide
  rw [ek] at e
  rw [i_of e (by omega), this k (by omega), ek]
theorem v_surplus {g : gT} {h : mh_T} {P : Int32 → mh_T → Prop} (l1 : Int32) (w : Nat) (ew : l1.toInt = (w : Int)) (hw : w < 256) (tz : TZ (tC h)) (hp : P (sfn (tC h) (mI h 3 0) w) h) : MCi g yX7_surplus uX7_surplus [.ref 4, .int l1] h P := by
  have n8 : sn (tC h) ≤ 8 := by unfold sn; have := tz.2.1; omega
  have en : (mI h 3 2).toInt = (sn (tC h) : Int) := by show (tC h 0).toInt = _; unfold sn; have := tz.1; omega
  have el := i_of ew (by omega)
  have L : ∀ (q s : Nat) (l2 l3 l4 l5 : Int32), l5.toInt = (s : Int) → s ≤ sn (tC h) → sn (tC h) - s < q → l2.toInt = sS (al (tC h)) (hB l1) s → l3.toInt = mS (al (tC h)) (hB l1) s → l4.toInt = (zc (hB l1) (ng (al (tC h))) s : Int) → 0 ≤ l2.toInt → l2.toInt ≤ 60 * (s : Int) → 0 ≤ l3.toInt → l3.toInt ≤ 60 → ME g uX7_surplus 11 [.ref 4, .int l1, .int l2, .int l3, .int l4, .int l5, .retAddr 0] [] h (qI P) := by
    intro q
    induction q with
    | zero => intro s l2 l3 l4 l5 _ _ hq; exact absurd hq (Nat.not_lt_zero _)
    | succ q iq =>
      intro s l2 l3 l4 l5 e5 hs hq e2 e3 e4 b2 c2 b3 c3
      have zl := zc_le (hB l1) (ng (al (tC h))) s
      refine r_X7_surplus_11 l1 l2 l3 l4 l5 ⟨fun d => ?_, fun d => ?_⟩
      · have d := i_le.mp d
        have e : s = sn (tC h) := by omega
        have o := od_1 _ (show zc (hB l1) (ng (al (tC h))) s < 10 by omega)
        rw [← i_of e4 (by omega)] at o
        rw [e] at e2 e3 o
        refine ⟨fun z x3 e3' => v_bc l1 ew hw ?_, fun z => v_bc l1 ew hw ?_⟩
        · rw [sfn_i (a := tC h)]
          · exact hp
          · unfold exF
            rw [← el, if_neg (fun y => z (o.1.mpr y)), e3', i_sub e2 (i_2m e3 (by omega)) (by omega)]
        · rw [sfn_i (a := tC h)]
          · exact hp
          · unfold exF
            rw [← el, if_pos (o.1.mp z), e2]
      · have d := i_lt.mp (nle d)
        have b8 : s < 8 := by omega
        have tp := (tz.2.2 s (by omega)).2
        have a6 := al_60 tp
        refine ⟨fun z => ?_, fun z => ?_⟩
        · have b := (hB_0 e5 b8).mp z
          refine iq (s + 1) l2 l3 l4 (l5 + 1) (i_inc e5 (by omega)) (by omega) (by omega) ?_ ?_ ?_ b2 (by omega) b3 c3
          · rw [e2]; exact (if_neg b).symm
          · rw [e3]; exact (if_neg b).symm
          · rw [e4]; exact congrArg _ (if_neg b : zc (hB l1) (ng (al (tC h))) (s + 1) = _).symm
        · have b : hB l1 s = true := Decidable.not_not.mp (fun v => z ((hB_0 e5 b8).mpr v))
          refine v_alike l5 s e5 b8 tp (fun r er => ?_)
          have ea := ab_i er a6
          have s1 : sS (al (tC h)) (hB l1) (s + 1) = sS (al (tC h)) (hB l1) s + (if 0 ≤ al (tC h) s then al (tC h) s else -al (tC h) s) := if_pos b
          have m1 : mS (al (tC h)) (hB l1) (s + 1) = (if (if 0 ≤ al (tC h) s then al (tC h) s else -al (tC h) s) < mS (al (tC h)) (hB l1) s then (if 0 ≤ al (tC h) s then al (tC h) s else -al (tC h) s) else mS (al (tC h)) (hB l1) s) := if_pos b
          have z1 : zc (hB l1) (ng (al (tC h))) (s + 1) = zc (hB l1) (ng (al (tC h))) s + (if ng (al (tC h)) s = true then 1 else 0) := if_pos b
          generalize (if 0 ≤ r then r else 0 - r) = u at ea ⊢
          have a0 : 0 ≤ (if 0 ≤ al (tC h) s then al (tC h) s else -al (tC h) s) ∧ (if 0 ≤ al (tC h) s then al (tC h) s else -al (tC h) s) ≤ 60 := by split <;> omega
          generalize (if 0 ≤ al (tC h) s then al (tC h) s else -al (tC h) s) = v at ea s1 m1 a0
          intro x11 e11 x12 e12
          have f11 : x11.toInt = sS (al (tC h)) (hB l1) (s + 1) := by rw [e11, s1, i_add e2 ea (by omega)]
          have f12 : x12.toInt = mS (al (tC h)) (hB l1) (s + 1) := by
            rw [e12, m1]
            have c : u < l3 ↔ v < mS (al (tC h)) (hB l1) s := by rw [i_lt, ea, e3]
            by_cases y : u < l3
            · rw [if_pos y, if_pos (c.mp y), ea]
            · rw [if_neg y, if_neg (fun t => y (c.mpr t)), e3]
          have g11 : 0 ≤ x11.toInt ∧ x11.toInt ≤ 60 * ((s + 1 : Nat) : Int) := by rw [e11, i_add e2 ea (by omega)]; omega
          have g12 : 0 ≤ x12.toInt ∧ x12.toInt ≤ 60 := by rw [e12]; split <;> omega
          refine ⟨fun y x14 e14 => ?_, fun y x15 e15 => ?_⟩
          · refine iq (s + 1) x11 x12 x14 (l5 + 1) (i_inc e5 (by omega)) (by omega) (by omega) f11 f12 ?_ g11.1 g11.2 g12.1 g12.2
            have y := i_le.mp y
            rw [i_0, er] at y
            rw [e14, z1, if_neg (fun t => by have := of_decide_eq_true t; omega), i_add e4 i_0 (by omega)]
            omega
          · refine iq (s + 1) x11 x12 x15 (l5 + 1) (i_inc e5 (by omega)) (by omega) (by omega) f11 f12 ?_ g11.1 g11.2 g12.1 g12.2
            have y := i_lt.mp (nle y)
            rw [i_0, er] at y
            rw [e15, z1, if_pos (show ng (al (tC h)) s = true from decide_eq_true y), i_inc e4 (by omega)]
  exact e_X7_surplus l1 (L 9 0 0 60 0 0 (by decide) (Nat.zero_le _) (by omega) rfl rfl rfl (by decide) (by decide) (by decide) (by decide))
