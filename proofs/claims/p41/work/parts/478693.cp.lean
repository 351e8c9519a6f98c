theorem c_readRay {g : gT} {h0 h : mh_T} {P : Int32 → mh_T → Prop} {T : Nat → Int32} {n e : Nat} {f : Nat → Int32} (c : Cs h0 T n e f h) (hf : R 0 18 (f 85)) (hp : ∀ r h', Co h0 T n (rx_rayL T n e f) r h' → P r h') : MCi g yX6_readRay uX6_readRay [.ref 1] h P := by
  have e25 : mI h 2 5 = f 85 := c.2.2.2.2.1.1.2.2.2.2.2.1
  have i18 : (18 : Int32).toInt = 18 := by decide
  obtain ⟨l, el, l0, l18⟩ := i_R hf (by decide)
  refine e_X6_readRay ⟨fun z => ?_, fun z => ?_⟩
  · rw [e25, i_lt, el, i18] at z
    have n18 : ¬ f 85 = 18 := fun w => by rw [w, i18] at el; omega
    refine c_next c.1.1 c.2.1 c.2.2.1.2.1 (rx_e_le c.2.2.2.1) (fun h2 k2 t2 => ?_)
    refine c_readRay_L (l := l) (by omega) 4 0 0 false _ f h2 (Cs_next c k2 t2) (fun k hk => absurd hk (by omega)) el (Nat.le_refl _) (by decide) (by simp) (fun q h' o => hp q h' ?_)
    unfold rx_rayL
    rw [if_neg n18, i_nat el]
    exact o
  · rw [e25, i_lt, el, i18] at z
    have n18 : f 85 = 18 := Int32.toInt_inj.mp (by rw [el, i18]; omega)
    refine c_refuse 5 ⟨Or.inl rfl, hp 0 _ (Co_rf c (by decide) ?_)⟩
    unfold rx_rayL
    rw [if_pos n18]
/-- bit p of a set of points -/
theorem sm_nat : ∀ p, p < 9 → ((nI p &&& 31).toBitVec.smod 32) = BitVec.ofNat 32 p ∧ (BitVec.ofNat 32 p).toNat = p := by decide
theorem bt_0 {x r : Int32} {p : Nat} (e : r.toInt = (p : Int)) (hp : p < 9) : ((x >>> (r &&& 31)) &&& 1) = 0 ↔ bt x p = false := by
  have er : r = nI p := i_nI e (by omega)
  subst er
  obtain ⟨s1, s2⟩ := sm_nat p hp
  rw [← Int32.toBitVec_inj, Int32.toBitVec_and, Int32.toBitVec_shiftRight, s1]
  have h1 : (1 : Int32).toBitVec = 1#32 := rfl
  have h0 : (0 : Int32).toBitVec = 0#32 := rfl
  rw [h1, h0]
  unfold bt
  have key : (x.toBitVec.sshiftRight p)[0] = x.toBitVec.getLsbD p := by
    rw [← BitVec.getLsbD_eq_getElem (by decide), BitVec.getLsbD_sshiftRight]
    simp [show p < 32 by omega]
  constructor
  · intro h
    have := congrArg (fun b => b.getLsbD 0) h
    simp [BitVec.sshiftRight', s2] at this
    rw [key] at this
    exact this
  · intro h
    apply BitVec.eq_of_getLsbD_eq
    intro i hi
    by_cases z : i = 0
    · subst z
      simp [BitVec.sshiftRight', s2]
      rw [key]
      exact h
    · simp [z]
theorem bt_or {x r : Int32} {p q : Nat} (e : r.toInt = (p : Int)) (hp : p < 9) (hq : q < 9) : bt (x ||| (1 <<< (r &&& 31))) q = (q == p || bt x q) := by
  have er : r = nI p := i_nI e (by omega)
  subst er
  obtain ⟨s1, s2⟩ := sm_nat p hp
  unfold bt
  rw [Int32.toBitVec_or, Int32.toBitVec_shiftLeft, s1]
  have h1 : (1 : Int32).toBitVec = 1#32 := rfl
  rw [h1, BitVec.getLsbD_or]
  have : (1#32 <<< BitVec.ofNat 32 p).getLsbD q = (q == p) := by
    rw [BitVec.shiftLeft_eq', s2, BitVec.getLsbD_shiftLeft]
    have d : ∀ p, p < 9 → ∀ q, q < 9 → (decide (q < 32) && !decide (q < p) && (1#32).getLsbD (q - p)) = (q == p) := by decide
    exact d p hp q hq
  rw [this, Bool.or_comm]
theorem c_readParity_L {g : gT} {h0 : mh_T} {P : Int32 → mh_T → Prop} {T : Nat → Int32} {n l : Nat} (hl : l < 8) : ∀ (r : Nat) (l1 l2 : Int32) (u : Nat → Bool) (e : Nat) (f : Nat → Int32) (h : mh_T), Cs h0 T n e f h → (∃ ps : Nat → Nat, (∀ k, k < 3 - r → ps k < 9 ∧ f (53 + 3 * l + k) = Int32.ofNat (ps k)) ∧ (∀ k k', k < k' → k' < 3 - r → ¬ ps k = ps k') ∧ ∀ q, (u q = true ↔ ∃ k, k < 3 - r ∧ ps k = q)) → (f 52).toInt = (l : Int) → r ≤ 3 → l2.toInt = ((3 - r : Nat) : Int) → (∀ q, q < 9 → u q = bt l1 q) → (∀ q h', Co h0 T n (rx_bind (rx_pt T n l r u e f) (fun _ e1 f1 => rx_bind (rx_word T n 9 e1 f1) (fun _ e2 f2 => if rx_wd T n e2 (bytJS.getD 11 []) = true then .inr ((), rx_e T n e2, rx_set (rx_set f2 (77 + l) 1) 52 (f 52 + 1)) else if rx_wd T n e2 (bytJS.getD 10 []) = true then .inr ((), rx_e T n e2, rx_set f2 52 (f 52 + 1)) else rx_no T n e2 1))) q h' → P q h') → ME g uX6_readParity 26 [.ref 1, .int l1, .int l2, .retAddr 0] [] h (qI P) := by
  intro r
  have i0 : (0 : Int32).toInt = 0 := by decide
  have i3 : (3 : Int32).toInt = 3 := by decide
  induction r with
  | zero =>
    intro l1 l2 u e f h c hx el hr e2 ha hp
    refine r_X6_readParity_26 l1 l2 ⟨fun _ => ?_, fun z => ?_⟩
    · refine c_passWord 9 (by decide) c.1.1 c.2.1 c.2.2.1 c.2.2.2.1 (fun w h2 k2 t2 => ⟨fun _ => ?_, fun y => absurd y (by decide)⟩) (fun w => ⟨fun y => absurd rfl y, fun _ => hp 0 _ (Co_rf c (by decide) ?_)⟩)
      · have c2 := Cs_next c k2 t2
        have hp2 : ∀ q h', Co h0 T n (if rx_wd T n (rx_e T n e) (bytJS.getD 11 []) = true then .inr ((), rx_e T n (rx_e T n e), rx_set (rx_set f (77 + l) 1) 52 (f 52 + 1)) else if rx_wd T n (rx_e T n e) (bytJS.getD 10 []) = true then .inr ((), rx_e T n (rx_e T n e), rx_set f 52 (f 52 + 1)) else rx_no T n (rx_e T n e) 1) q h' → P q h' := by
          intro q h' o
          refine hp q h' ?_
          show Co h0 T n (rx_bind (rx_word T n 9 e f) _) q h'
          unfold rx_word
          rw [if_pos w]
          exact o
        have e24 : ∀ k : mh_T, Cs h0 T n (rx_e T n e) f k → mI k 2 4 = f 52 := fun k ck => ck.2.2.2.2.1.1.2.2.2.2.1
        have cA := Cs_arr0 c2 (k := 18) (j := l) (v := l1) (lo := -2147483648) (hi := 2147483647) rfl (R_full _) (by decide) (by decide) (by decide) (Ar_l el (Or.inl rfl) c2.2.2.2.2.2.2.2)
        have lp : Lp l1 (f (53 + 3 * l)) (f (54 + 3 * l)) (f (55 + 3 * l)) := by
          obtain ⟨ps, p1, p2, p3⟩ := hx
          refine ⟨ps, fun k hk => (p1 k hk).1, p2, ⟨?_, ?_, ?_⟩, fun t ht => ?_⟩
          · exact (p1 0 (by decide)).2
          · have := (p1 1 (by decide)).2
            rw [show 53 + 3 * l + 1 = 54 + 3 * l by omega] at this
            exact this
          · have := (p1 2 (by decide)).2
            rw [show 53 + 3 * l + 2 = 55 + 3 * l by omega] at this
            exact this
          · rw [← ha t ht]
            exact p3 t
        have fin : ∀ (b : Int32), (∀ h', Cs h0 T n (rx_e T n (rx_e T n e)) (rx_set (rx_set f (77 + l) b) 52 (f 52 + 1)) h' → P 1 h') → (vp_in (mI (wI h2 18 (mI h2 2 4).toNatClampNeg l1) 2 4) 8) ∧ (MCv g yX6_next uX6_next [.ref 1] (wI (wI (wI h2 18 (mI h2 2 4).toNatClampNeg l1) 19 (mI (wI h2 18 (mI h2 2 4).toNatClampNeg l1) 2 4).toNatClampNeg b) 2 4 ((mI (wI (wI h2 18 (mI h2 2 4).toNatClampNeg l1) 19 (mI (wI h2 18 (mI h2 2 4).toNatClampNeg l1) 2 4).toNatClampNeg b) 2 4) + 1)) (fun h13 => P 1 h13)) := by
          intro b hpp
          rw [e24 h2 c2, i_nat el]
          have s1 : mI (wI h2 18 l l1) 2 4 = f 52 := by rw [mI_wI, if_neg (fun z => absurd z.1 (by decide))]; exact e24 h2 c2
          rw [s1, i_nat el]
          have s2 : mI (wI (wI h2 18 l l1) 19 l b) 2 4 = f 52 := by rw [mI_wI, if_neg (fun z => absurd z.1 (by decide))]; exact s1
          rw [s2]
          refine ⟨i_vp el hl, ?_⟩
          have iu := i_inc el (by omega)
          have c3 := Cs_arr0 cA (k := 19) (j := l) (v := b) (lo := -2147483648) (hi := 2147483647) rfl (R_full _) (by decide) (by decide) (by decide) (Ar_l el (Or.inr rfl) cA.2.2.2.2.2.2.2)
          have hA4 : Ar (wI (wI h2 18 l l1) 19 l b) (rx_set (rx_set f (77 + l) b) 52 (f 52 + 1)) := Ar_52 (Cs_r0 c3) (Cs_y0 c3) el hl (by rw [mI_wI, if_pos ⟨rfl, rfl⟩]) (by rw [mI_wI, if_neg (fun z => absurd z.1 (by decide)), mI_wI, if_pos ⟨rfl, rfl⟩]; exact lp) c3.2.2.2.2.2.2.2
          have c4 : Cs h0 T n (rx_e T n e) (rx_set (rx_set f (77 + l) b) 52 (f 52 + 1)) (wI (wI (wI h2 18 l l1) 19 l b) 2 4 (f 52 + 1)) := Cs_w c3 (k := 2) (j := 4) (lo := 0) (hi := 8) (by decide) ⟨by omega, by omega⟩ (by decide) (by decide) (Dr_cnt (Dr_same (f := f) (fun q hq => rx_set_o (by omega)) c3.2.2.2.2.1) (by omega)) (Nv_same (f := f) (fun q hq => by rw [rx_set_o (by omega), rx_set_o (by omega)]) c3.2.2.2.2.2.1) (Ar_k (by decide) hA4)
          exact c_next c4.1.1 c4.2.1 c4.2.2.1.2.1 (rx_e_le c4.2.2.2.1) (fun h13 k13 t13 => hpp h13 (Cs_next c4 k13 t13))
        have ez : rx_set f (77 + l) 0 = f := by
          funext i
          unfold rx_set
          split
          · rename_i z
            rw [z]
            exact (c.2.2.2.2.2.2.2.2.2.2.2.1 l hl (by omega)).symm
          · rfl
        have eidx : (mI h2 2 4).toNatClampNeg = l := by rw [e24 h2 c2, i_nat el]
        have odd : rx_wd T n (rx_e T n e) (bytJS.getD 11 []) = true → (vp_in (mI (wI h2 18 (mI h2 2 4).toNatClampNeg l1) 2 4) 8) ∧ (MCv g yX6_next uX6_next [.ref 1] (wI (wI (wI h2 18 (mI h2 2 4).toNatClampNeg l1) 19 (mI (wI h2 18 (mI h2 2 4).toNatClampNeg l1) 2 4).toNatClampNeg 1) 2 4 ((mI (wI (wI h2 18 (mI h2 2 4).toNatClampNeg l1) 19 (mI (wI h2 18 (mI h2 2 4).toNatClampNeg l1) 2 4).toNatClampNeg 1) 2 4) + 1)) (fun h13 => P 1 h13)) := by
          intro wo
          rw [if_pos wo] at hp2
          exact fin 1 (fun h' c' => hp2 1 h' (Or.inl ⟨_, _, rfl, rfl, c'⟩))
        have evn : ¬ rx_wd T n (rx_e T n e) (bytJS.getD 11 []) = true → rx_wd T n (rx_e T n e) (bytJS.getD 10 []) = true → (vp_in (mI (wI h2 18 (mI h2 2 4).toNatClampNeg l1) 2 4) 8) ∧ (MCv g yX6_next uX6_next [.ref 1] (wI (wI (wI h2 18 (mI h2 2 4).toNatClampNeg l1) 19 (mI (wI h2 18 (mI h2 2 4).toNatClampNeg l1) 2 4).toNatClampNeg 0) 2 4 ((mI (wI (wI h2 18 (mI h2 2 4).toNatClampNeg l1) 19 (mI (wI h2 18 (mI h2 2 4).toNatClampNeg l1) 2 4).toNatClampNeg 0) 2 4) + 1)) (fun h13 => P 1 h13)) := by
          intro wo we
          rw [if_neg wo, if_pos we] at hp2
          exact fin 0 (fun h' c' => hp2 1 h' (Or.inl ⟨_, _, rfl, rfl, by rw [ez] at c'; exact c'⟩))
        have v8 : vp_in (mI h2 2 4) 8 := by rw [e24 h2 c2]; exact i_vp el hl
        have cA' : Cs h0 T n (rx_e T n e) f (wI h2 18 (mI h2 2 4).toNatClampNeg l1) := by rw [eidx]; exact cA
        refine c_says 10 (by decide) c2.2.1 c2.2.2.1 c2.2.2.2.1 (fun we => ⟨fun _ => ⟨v8, ?_⟩, fun y => absurd y (by decide)⟩) (fun we => ⟨fun y => absurd rfl y, fun _ => ?_⟩)
        · exact c_says 11 (by decide) cA'.2.1 cA'.2.2.1 cA'.2.2.2.1 (fun wo => ⟨fun y => absurd y (by decide), fun _ => odd wo⟩) (fun wo => ⟨fun _ => evn wo we, fun y => absurd rfl y⟩)
        · refine c_says 11 (by decide) c2.2.1 c2.2.2.1 c2.2.2.2.1 (fun wo => ⟨fun _ => ⟨v8, ?_⟩, fun y => absurd y (by decide)⟩) (fun wo => ⟨fun y => absurd rfl y, fun _ => ?_⟩)
          · exact c_says 11 (by decide) cA'.2.1 cA'.2.2.1 cA'.2.2.2.1 (fun wo => ⟨fun y => absurd y (by decide), fun _ => odd wo⟩) (fun wo2 => absurd wo wo2)
          · rw [if_neg wo, if_neg we] at hp2
            exact c_refuse 1 ⟨Or.inl rfl, hp2 0 _ (Co_rf c2 (by decide) rfl)⟩
      · show rx_bind (rx_word T n 9 e f) _ = _
        unfold rx_word
        rw [if_neg w]
        rfl
    · rw [i_le, e2, i3] at z
      omega
  | succ r ih =>
    intro l1 l2 u e f h c hx el hr e2 ha hp
    have body : ∀ (h3 : mh_T) (e0 : Nat), Cs h0 T n e0 f h3 → (∀ q h', Co h0 T n (rx_bind (rx_bind (rx_name T n false e0 f) (fun p e1 f1 => if u p = true then rx_no T n e0 3 else rx_pt T n l r (fun q => q == p || u q) e1 (rx_set f1 (53 + 3 * l + (2 - r)) (Int32.ofNat p)))) (fun _ e1 f1 => rx_bind (rx_word T n 9 e1 f1) (fun _ e2 f2 => if rx_wd T n e2 (bytJS.getD 11 []) = true then .inr ((), rx_e T n e2, rx_set (rx_set f2 (77 + l) 1) 52 (f 52 + 1)) else if rx_wd T n e2 (bytJS.getD 10 []) = true then .inr ((), rx_e T n e2, rx_set f2 52 (f 52 + 1)) else rx_no T n e2 1))) q h' → P q h') → MCi g yX6_nameAmong uX6_nameAmong [.ref 1, .ref 14, .int (mI h3 2 2)] h3 (fun r31 h30 => (0 ≤ r31 → (((l1 >>> (r31 &&& 31)) &&& 1) = 0 → ∀ x34 : Int32, x34 = (l1 ||| (1 <<< (r31 &&& 31))) → MCv g yX6_next uX6_next [.ref 1] h30 (fun h35 => ME g uX6_readParity 26 [.ref 1, .int x34, .int (l2 + 1), .retAddr 0] [] h35 (qI P))) ∧ (¬ ((l1 >>> (r31 &&& 31)) &&& 1) = 0 → MCi g yX6_refuse uX6_refuse [.ref 1, .int 3] h30 (fun r37 h36 => (r37 = 0 ∨ r37 = 1) ∧ P r37 h36))) ∧ (¬ 0 ≤ r31 → P 0 h30)) := by
      intro h3 e0 c3 hp3
      refine c_nameP c3.2.1 c3.2.2.1 c3.2.2.2.1 c3.2.2.2.2.1 c3.2.2.2.2.2.1 (fun r31 p ep er p9 => ⟨fun _ => ?_, fun w => ?_⟩) (fun w hw ep => ⟨fun y => absurd y (by decide), fun _ => hp3 0 _ (Co_rf c3 hw ?_)⟩)
      · rw [ep] at hp3
        rw [bt_0 er p9, ← ha p p9]
        refine ⟨fun z x ex => ?_, fun z => ?_⟩
        · have nz : ¬ u p = true := by rw [z]; decide
          refine c_next c3.1.1 c3.2.1 c3.2.2.1.2.1 (rx_e_le c3.2.2.2.1) (fun h35 k35 t35 => ?_)
          have c4 := Cs_f (Cs_next c3 k35 t35) (i := 53 + 3 * l + (2 - r)) (w := Int32.ofNat p) (by omega) (Ar_p (Cs_r0 c3) (Cs_y0 c3) el (by omega) (Cs_next c3 k35 t35).2.2.2.2.2.2.2)
          refine ih x (l2 + 1) (fun q => q == p || u q) _ _ h35 c4 ?_ ?_ (by omega) ?_ ?_ (fun q h' o => hp3 q h' ?_)
          · obtain ⟨ps, p1, p2, p3⟩ := hx
            have np : ∀ k, k < 3 - (r + 1) → ¬ ps k = p := fun k hk y => nz ((p3 p).mpr ⟨k, hk, y⟩)
            refine ⟨fun k => if k = 2 - r then p else ps k, fun k hk => ?_, fun k k' h1 h2 => ?_, fun q => ?_⟩
            · show (if k = 2 - r then p else ps k) < 9 ∧ _ = Int32.ofNat (if k = 2 - r then p else ps k)
              by_cases y : k = 2 - r
              · rw [if_pos y, y, rx_set_i]
                exact ⟨p9, rfl⟩
              · rw [if_neg y, rx_set_o (by omega)]
                exact p1 k (by omega)
            · show ¬ (if k = 2 - r then p else ps k) = (if k' = 2 - r then p else ps k')
              rw [if_neg (by omega : ¬ k = 2 - r)]
              by_cases y : k' = 2 - r
              · rw [if_pos y]
                exact np k (by omega)
              · rw [if_neg y]
                exact p2 k k' h1 (by omega)
            · show ((q == p || u q) = true) ↔ _
              rw [Bool.or_eq_true, beq_iff_eq, p3 q]
              constructor
              · rintro (y | ⟨k, y1, y2⟩)
                · exact ⟨2 - r, by omega, by show (if 2 - r = 2 - r then p else ps (2 - r)) = q; rw [if_pos rfl, y]⟩
                · exact ⟨k, by omega, by show (if k = 2 - r then p else ps k) = q; rw [if_neg (by omega)]; exact y2⟩
              · rintro ⟨k, y1, y2⟩
                have y2 : (if k = 2 - r then p else ps k) = q := y2
                by_cases y : k = 2 - r
                · rw [if_pos y] at y2
                  exact Or.inl y2.symm
                · rw [if_neg y] at y2
                  exact Or.inr ⟨k, by omega, y2⟩
          · rw [rx_set_o (by omega)]; exact el
          · rw [i_inc e2 (by omega)]; omega
          · intro q hq
            rw [ex, bt_or er p9 hq, ha q hq]
          · show Co h0 T n (rx_bind (if u p = true then _ else _) _) q h'
            rw [if_neg nz]
            rw [rx_set_o (by omega)] at o
            exact o
        · have nz : u p = true := by
            cases hup : u p with
            | true => rfl
            | false => exact absurd hup z
          refine c_refuse 3 ⟨Or.inl rfl, hp3 0 _ (Co_rf c3 (by decide) ?_)⟩
          show rx_bind (if u p = true then _ else _) _ = _
          rw [if_pos nz]
          rfl
      · exfalso
        apply w
        rw [i_le, i0, er]
        omega
      · rw [ep]
        rfl
    refine r_X6_readParity_26 l1 l2 ⟨fun z => ?_, fun _ => ⟨fun z => ?_, fun z => ?_⟩⟩
    · rw [i_le, e2, i3] at z
      omega
    · rw [i_le, e2, i0] at z
      have hr2 : r = 2 := by omega
      refine body h e c (fun q h' o => hp q h' ?_)
      show Co h0 T n (rx_bind (rx_bind (if r = 2 then .inr ((), e, f) else rx_sign T n 44 e f) _) _) q h'
      rw [if_pos hr2]
      exact o
    · rw [i_le, e2, i0] at z
      have hr2 : ¬ r = 2 := by omega
      refine c_pass 44 c.1.1 c.2.1 c.2.2.1 c.2.2.2.1 (fun k h1 k1 t1 => ⟨fun _ => ?_, fun y => absurd y (by decide)⟩) (fun k => ⟨fun y => absurd rfl y, fun _ => hp 0 _ (Co_rf c (by decide) ?_)⟩)
      · refine body h1 _ (Cs_next c k1 t1) (fun q h' o => hp q h' ?_)
        show Co h0 T n (rx_bind (rx_bind (if r = 2 then .inr ((), e, f) else rx_sign T n 44 e f) _) _) q h'
        rw [if_neg hr2]
        unfold rx_sign
        rw [if_pos k]
        exact o
      · show rx_bind (rx_bind (if r = 2 then .inr ((), e, f) else rx_sign T n 44 e f) _) _ = _
        rw [if_neg hr2]
        unfold rx_sign
        rw [if_neg k]
        rfl
