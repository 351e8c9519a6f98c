/-! cycles: excessOf -/
theorem bt_tb {u t : Nat} (hu : u < 256) : bt (Int32.ofNat u) t = u.testBit t := by
  unfold bt
  show (BitVec.ofNat 32 u).getLsbD t = _
  rw [BitVec.getLsbD_ofNat]
  by_cases h : t < 32
  · rw [decide_eq_true h, Bool.true_and]
  · rw [decide_eq_false h, Bool.false_and]
    have : u < 2 ^ t := Nat.lt_of_lt_of_le hu (Nat.le_trans (show 256 ≤ 2 ^ 32 by decide) (Nat.pow_le_pow_right (by decide) (by omega)))
    exact (Nat.testBit_lt_two_pow this).symm
theorem hB_tb : ∀ u, u < 256 → ∀ s, s < 8 → hB (Int32.ofNat u) s = u.testBit s := by decide +kernel
theorem bt_nnt {x : Int32} {t : Nat} (ht : t < 32) : bt (x ^^^ (-1)) t = !bt x t := by
  unfold bt
  rw [Int32.toBitVec_xor, BitVec.getLsbD_xor]
  have : ∀ t, t < 32 → (-1 : Int32).toBitVec.getLsbD t = true := by decide
  rw [this t ht, Bool.xor_true]
theorem sub_iff {u w : Nat} (hu : u < 256) (hw : w < 256) : (Int32.ofNat u &&& (Int32.ofNat w ^^^ (-1))) = 0 ↔ ∀ t, t < 8 → u.testBit t = true → w.testBit t = true := by
  have big : ∀ t, 8 ≤ t → u.testBit t = false := fun t ht => Nat.testBit_lt_two_pow (Nat.lt_of_lt_of_le hu (Nat.pow_le_pow_right (show 0 < 2 by decide) ht))
  rw [and_nul]
  constructor
  · intro q t ht hb
    by_cases c : w.testBit t = true
    · exact c
    · exact absurd ⟨by rw [bt_tb hu]; exact hb, by rw [bt_nnt (by omega), bt_tb hw, Bool.eq_false_iff.mpr c]; rfl⟩ (q t)
  · intro q t ⟨h1, h2⟩
    rw [bt_tb hu] at h1
    by_cases c : t < 8
    · rw [bt_nnt (by omega), bt_tb hw, q t c h1] at h2
      cases h2
    · rw [big t (by omega)] at h1
      cases h1
theorem pc_cN : ∀ u, u < 256 → pcn u = cN (fun s => u.testBit s) 8 := by decide +kernel
theorem cN_cut {p : Nat → Bool} {n : Nat} : ∀ m, n ≤ m → (∀ s, n ≤ s → p s = false) → cN p m = cN p n
  | 0, h, _ => by rw [show n = 0 from by omega]
  | m + 1, h, hp => by
    by_cases e : n = m + 1
    · rw [e]
    · show cN p m + (if p m = true then 1 else 0) = _
      rw [cN_cut m (by omega) hp, if_neg (by rw [hp m (by omega)]; decide)]
      rfl
theorem zc_cN {B z : Nat → Bool} : ∀ n, (∀ s, s < n → z s = true → B s = true) → zc B z n = cN z n
  | 0, _ => rfl
  | n + 1, h => by
    show (if B n = true then zc B z n + (if z n = true then 1 else 0) else zc B z n) = cN z n + (if z n = true then 1 else 0)
    rw [zc_cN n (fun s hs => h s (by omega))]
    by_cases b : B n = true
    · rw [if_pos b]
    · rw [if_neg b, if_neg (fun q => b (h n (by omega) q))]
      rfl
theorem tb_ex (f : Nat → Bool) : ∀ n, ∃ u, u < 2 ^ n ∧ ∀ s, s < n → u.testBit s = f s
  | 0 => ⟨0, by decide, fun s hs => absurd hs (Nat.not_lt_zero _)⟩
  | n + 1 => by
    obtain ⟨u, h1, h2⟩ := tb_ex f n
    have hn : u.testBit n = false := Nat.testBit_lt_two_pow h1
    cases b : f n
    · refine ⟨u, by rw [Nat.pow_succ]; omega, fun s hs => ?_⟩
      by_cases e : s = n
      · rw [e, hn, b]
      · exact h2 s (by omega)
    · refine ⟨2 ^ n + u, by rw [Nat.pow_succ]; omega, fun s hs => ?_⟩
      by_cases e : s = n
      · rw [e, Nat.testBit_two_pow_add_eq, hn, b]; rfl
      · rw [Nat.testBit_two_pow_add_gt (by omega)]; exact h2 s (by omega)
abbrev okz (w u : Nat) : Prop := (Int32.ofNat u &&& (Int32.ofNat w ^^^ (-1))) = 0 ∧ pcn u % 2 = 1
theorem okz_zc {n w u : Nat} (n8 : n ≤ 8) (hw : w < 256) (hu : u < 2 ^ n) (m2 : 2 ^ n ≤ 256) (h : (Int32.ofNat u &&& (Int32.ofNat w ^^^ (-1))) = 0) : pcn u = zc (hB (Int32.ofNat w)) (hB (Int32.ofNat u)) n := by
  have u2 : u < 256 := by omega
  have sb := (sub_iff u2 hw).mp h
  rw [zc_cN n (fun s hs q => by rw [hB_tb u u2 s (by omega)] at q; rw [hB_tb w hw s (by omega)]; exact sb s (by omega) q), pc_cN u u2]
  rw [cN_cut (p := fun s => u.testBit s) (n := n) 8 n8 (fun s hs => Nat.testBit_lt_two_pow (Nat.lt_of_lt_of_le hu (Nat.pow_le_pow_right (by decide) hs)))]
  exact cN_cg n (fun k hk => (hB_tb u u2 k (by omega)).symm)
theorem okz_ex {A : Nat → Int} {n w : Nat} (n8 : n ≤ 8) (hw : w < 256) (m2 : 2 ^ n ≤ 256) (z : Nat → Bool) (hz : zc (hB (Int32.ofNat w)) z n % 2 = 1) : ∃ u, u < 2 ^ n ∧ okz w u ∧ vS A (hB (Int32.ofNat w)) (hB (Int32.ofNat u)) n = vS A (hB (Int32.ofNat w)) z n := by
  obtain ⟨u, h1, h2⟩ := tb_ex (fun s => z s && hB (Int32.ofNat w) s) n
  have u2 : u < 256 := by omega
  have cg : ∀ s, s < n → hB (Int32.ofNat w) s = true → hB (Int32.ofNat u) s = z s := fun s hs hb => by
    rw [hB_tb u u2 s (by omega), h2 s hs]
    show (z s && hB (Int32.ofNat w) s) = z s
    rw [hb, Bool.and_true]
  have v := vS_cg (A := A) n cg
  have sb : (Int32.ofNat u &&& (Int32.ofNat w ^^^ (-1))) = 0 := (sub_iff u2 hw).mpr (fun t ht q => by
    by_cases c : t < n
    · have e := h2 t c
      rw [q] at e
      have e : true = (z t && hB (Int32.ofNat w) t) := e
      rw [← hB_tb w hw t (by omega)]
      cases k : hB (Int32.ofNat w) t
      · rw [k, Bool.and_false] at e; cases e
      · rfl
    · rw [Nat.testBit_lt_two_pow (Nat.lt_of_lt_of_le h1 (Nat.pow_le_pow_right (by decide) (by omega)))] at q
      cases q)
  exact ⟨u, h1, ⟨sb, by rw [okz_zc n8 hw h1 m2 sb, v.2]; exact hz⟩, v.1⟩
theorem vS_b {A : Nat → Int} {B z : Nat → Bool} : ∀ n, (∀ s, s < n → A s ≤ 60 ∧ -60 ≤ A s) → vS A B z n ≤ 60 * (n : Int) ∧ -60 * (n : Int) ≤ vS A B z n
  | 0, _ => ⟨Int.le_refl 0, Int.le_refl 0⟩
  | n + 1, h => by
    have i := vS_b (B := B) (z := z) n (fun s hs => h s (by omega))
    have a := h n (by omega)
    show (if B n = true then vS A B z n + sg A z n else vS A B z n) ≤ 60 * ((n + 1 : Nat) : Int) ∧ -60 * ((n + 1 : Nat) : Int) ≤ (if B n = true then vS A B z n + sg A z n else vS A B z n)
    unfold sg
    split
    · split <;> omega
    · omega
theorem v_excessOf {g : gT} {h : mh_T} {P : Int32 → mh_T → Prop} (l1 : Int32) (w : Nat) (ew : l1.toInt = (w : Int)) (hw : w < 256) (hx : ∃ s, s < sn (h.1 45) ∧ hB (Int32.ofNat w) s = true) (tz : TZ (h.1 45)) (hp : P (sfn (h.1 45) (mI h 45 49) w) h) : MCi g yX11_excessOf uX11_excessOf [.ref 11, .int l1] h P := by
  have n8 : sn (h.1 45) ≤ 8 := by unfold sn; have := tz.2.1; omega
  have en : (mI h 45 (Int32.toNatClampNeg 0)).toInt = (sn (h.1 45) : Int) := by show (h.1 45 0).toInt = _; unfold sn; have := tz.1; omega
  have e2 : (1 <<< ((mI h 45 (Int32.toNatClampNeg 0)) &&& 31) : Int32).toInt = ((2 ^ sn (h.1 45) : Nat) : Int) := by rw [i_of en (by omega)]; exact (p2M _ n8).1
  have m2 := (p2M _ n8).2
  have el := i_of ew (by omega)
  have a6 : ∀ s, s < sn (h.1 45) → al (h.1 45) s ≤ 60 ∧ -60 ≤ al (h.1 45) s := fun s hs => al_60 (tz.2.2 s hs).2
  have im : (-100000 : Int32).toInt = -100000 := by decide
  have L : ∀ (q v : Nat) (l2 l3 : Int32), l3.toInt = (v : Int) → v ≤ 2 ^ sn (h.1 45) → 2 ^ sn (h.1 45) - v < q → (∀ u, u < v → okz w u → vS (al (h.1 45)) (hB l1) (hB (Int32.ofNat u)) (sn (h.1 45)) ≤ l2.toInt) → (l2.toInt = -100000 ∨ ∃ u, u < v ∧ okz w u ∧ vS (al (h.1 45)) (hB l1) (hB (Int32.ofNat u)) (sn (h.1 45)) = l2.toInt) → ME g uX11_excessOf 6 [.ref 11, .int l1, .int l2, .int l3, .retAddr 0, .retAddr 0] [] h (qI P) := by
    intro q
    induction q with
    | zero => intro v l2 l3 _ _ hq; exact absurd hq (Nat.not_lt_zero _)
    | succ q iq =>
      intro v l2 l3 e3 hv hq up ex
      refine r_X11_excessOf_6 l1 l2 l3 ⟨fun d => ?_, fun d => ?_⟩
      · have d := i_le.mp d
        have e : v = 2 ^ sn (h.1 45) := by omega
        rw [e] at up ex
        refine w_bits l1 ew hw ?_
        show P (l2 - ((mI h 45 49) * (Int32.ofNat (pcn w) - 2))) h
        rw [sfn_i (a := h.1 45)]
        · exact hp
        · obtain ⟨z, z1, z2⟩ := exF_ex (al (h.1 45)) (hB (Int32.ofNat w)) (sn (h.1 45)) hx (fun s hs _ => a6 s hs)
          obtain ⟨u, u1, u2, u3⟩ := okz_ex (A := al (h.1 45)) n8 hw m2 z z1
          have k := up u u1 u2
          have bd := (vS_b (A := al (h.1 45)) (B := hB l1) (z := hB (Int32.ofNat u)) (sn (h.1 45)) a6).2
          rcases ex with x | ⟨u', v1, v2, v3⟩
          · omega
          · have k2 := exF_le (al (h.1 45)) (hB (Int32.ofNat w)) (hB (Int32.ofNat u')) (sn (h.1 45)) (by rw [← okz_zc n8 hw v1 m2 v2.1]; exact v2.2)
            rw [el] at k v3
            omega
      · have d := i_lt.mp (nle d)
        have ev := i_of e3 (by omega)
        have v2 : v < 256 := by omega
        have skip : ¬ okz w v → ME g uX11_excessOf 6 [.ref 11, .int l1, .int l2, .int (l3 + 1), .retAddr 0, .retAddr 0] [] h (qI P) := fun no => by
          refine iq (v + 1) l2 (l3 + 1) (i_inc e3 (by omega)) (by omega) (by omega) (fun u hu ok => ?_) ?_
          · by_cases e : u = v
            · rw [e] at ok; exact absurd ok no
            · exact up u (by omega) ok
          · rcases ex with x | ⟨u', v1, v2, v3⟩
            · exact Or.inl x
            · exact Or.inr ⟨u', by omega, v2, v3⟩
        refine ⟨fun z => skip (fun ok => z (by rw [ev, el]; exact ok.1)), fun z => w_bits l3 e3 v2 ⟨fun y => ?_, fun y => skip (fun ok => ((od_1 _ (show pcn v < 10 by have : pcn v ≤ 9 := s9_le _; omega)).2.mp y) ok.2)⟩⟩
        have i3' := i_inc e3 (by clear ex up; omega)
        have v3' : v + 1 ≤ 2 ^ sn (h.1 45) := by clear ex up; omega
        have q3' : 2 ^ sn (h.1 45) - (v + 1) < q := by clear ex up; omega
        have ok : okz w v := ⟨by rw [ev, el] at z; exact z, Decidable.not_not.mp (fun t => y ((od_1 _ (show pcn v < 10 by have : pcn v ≤ 9 := s9_le _; omega)).2.mpr t))⟩
        have I : ∀ (p s : Nat) (l4 l5 : Int32), l5.toInt = (s : Int) → s ≤ sn (h.1 45) → sn (h.1 45) - s < p → l4.toInt = vS (al (h.1 45)) (hB l1) (hB (Int32.ofNat v)) s → ME g uX11_excessOf 44 [.ref 11, .int l1, .int l2, .int l3, .int l4, .int l5] [] h (qI P) := by
          intro p
          induction p with
          | zero => intro s l4 l5 _ _ hp'; exact absurd hp' (Nat.not_lt_zero _)
          | succ p ip =>
            intro s l4 l5 e5 hs hp' e4
            have bd := vS_b (A := al (h.1 45)) (B := hB l1) (z := hB (Int32.ofNat v)) s (fun t ht => a6 t (by omega))
            refine r_X11_excessOf_44 l1 l2 l3 l4 l5 ⟨fun c => ?_, fun c => ?_⟩
            · have c := i_le.mp c
              have e : s = sn (h.1 45) := by omega
              rw [e] at e4
              refine ⟨fun y => ?_, fun y => ?_⟩
              · have y := i_le.mp y
                refine iq (v + 1) l2 (l3 + 1) i3' v3' q3' (fun u hu oku => ?_) ?_
                · by_cases e : u = v
                  · rw [e, ← e4]; exact y
                  · exact up u (by omega) oku
                · rcases ex with x | ⟨u', v1, v2, v3⟩
                  · exact Or.inl x
                  · exact Or.inr ⟨u', by omega, v2, v3⟩
              · have y := i_lt.mp (nle y)
                refine iq (v + 1) l4 (l3 + 1) i3' v3' q3' (fun u hu oku => ?_) (Or.inr ⟨v, by omega, ok, e4.symm⟩)
                by_cases e : u = v
                · rw [e, ← e4]; omega
                · have := up u (by omega) oku; omega
            · have c := i_lt.mp (nle c)
              have s8 : s < 8 := by omega
              have tp := (tz.2.2 s (by omega)).2
              have a := a6 s (by omega)
              have st : vS (al (h.1 45)) (hB l1) (hB (Int32.ofNat v)) (s + 1) = if hB l1 s = true then vS (al (h.1 45)) (hB l1) (hB (Int32.ofNat v)) s + sg (al (h.1 45)) (hB (Int32.ofNat v)) s else vS (al (h.1 45)) (hB l1) (hB (Int32.ofNat v)) s := rfl
              refine v_hasB l1 l5 s e5 s8 (fun b => ⟨fun y => absurd y (by decide), fun _ => v_hasB l3 l5 s e5 s8 (fun b2 => ⟨fun y => absurd y (by decide), fun _ => v_sameOf l5 s e5 s8 tp (fun r er x15 e15 => ?_)⟩) (fun b2 => ⟨fun _ => v_sameOf l5 s e5 s8 tp (fun r er x12 e12 => ?_), fun y => absurd rfl y⟩)⟩) (fun b => ⟨fun _ x6 e6 => ?_, fun y => absurd rfl y⟩)
              · refine ip (s + 1) x15 (l5 + 1) (i_inc e5 (by omega)) (by omega) (by omega) ?_
                rw [ev] at b2
                have en : (-r).toInt = -al (h.1 45) s := by
                  have : -r = 0 - r := by rw [Int32.zero_sub]
                  rw [this, i_sub i_0 er (by omega)]; omega
                rw [st, if_pos b, e15, i_add e4 en (by omega)]
                unfold sg
                rw [if_pos b2]
              · refine ip (s + 1) x12 (l5 + 1) (i_inc e5 (by omega)) (by omega) (by omega) ?_
                rw [ev] at b2
                rw [st, if_pos b, e12, i_add e4 er (by omega)]
                unfold sg
                rw [if_neg b2]
              · refine ip (s + 1) x6 (l5 + 1) (i_inc e5 (by omega)) (by omega) (by omega) ?_
                rw [st, if_neg b, e6, i_add e4 i_0 (by omega)]
                omega
        exact I 9 0 0 0 (by decide) (Nat.zero_le _) (by omega) rfl
  exact e_X11_excessOf l1 (L 258 0 (-100000) 0 (by decide) (Nat.zero_le _) (by omega) (fun u hu => absurd hu (Nat.not_lt_zero _)) (Or.inl im))
