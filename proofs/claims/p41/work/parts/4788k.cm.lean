/-! cycles: the reference's isCycle -/
theorem bt_1A {r : Int32} {p : Nat} (e : r.toInt = (p : Int)) (hp : p < 32) (q : Nat) : bt (1 <<< (r &&& 31)) q = decide (p = q) := by
  have := bt_orA (x := 0) e hp q
  rw [bt_oro, (bt_nul (x := 0)).mp rfl q, Bool.false_or, Bool.false_or] at this
  exact this
theorem lo_w6 {a : Nat → Int32} {s : Nat} (h1 : R 0 5 (a (1 + s))) (h2 : R 0 5 (a (9 + s))) : w6 (lo a s) ∧ ∃ t, bt (lo a s) t = true := by
  obtain ⟨p, ep, -, hp⟩ := i_R h1 (by decide)
  obtain ⟨q, eq, -, hq⟩ := i_R h2 (by decide)
  unfold lo
  refine ⟨fun t ht => ?_, p, ?_⟩
  · rw [bt_oro, bt_1A ep (by omega), bt_1A eq (by omega), decide_eq_false (by omega), decide_eq_false (by omega)]
    rfl
  · rw [bt_oro, bt_1A ep (by omega), decide_eq_true rfl]
    rfl
abbrev PW (a : Nat → Int32) : Prop := ∀ s, s < sn a → R 0 5 (a (1 + s)) ∧ R (-2) 5 (a (9 + s))
theorem orz (x : Int32) : x ||| 0 = x := bt_ext2 (fun t => by rw [bt_oro, (bt_nul (x := 0)).mp rfl t, Bool.or_false])
theorem v_hasB {g : gT} {h : mh_T} {P : Int32 → mh_T → Prop} (l x : Int32) (s : Nat) (e : x.toInt = (s : Int)) (hs : s < 8) (h1 : hB l s = true → P 1 h) (h0 : ¬ hB l s = true → P 0 h) : MCi g yX11_has uX11_has [.int l, .int x] h P := by
  refine e_X11_has l x ⟨fun z => h0 ?_, fun z => h1 ?_⟩
  · have := bv_01 l x
    exact (hB_0 e hs).mp (this.resolve_right z)
  · exact Decidable.not_not.mp (fun q => by
      have y := (hB_0 e hs).mpr q
      rw [z] at y
      exact absurd y (by decide))
theorem clo_o {E : Nat → Int32} {B : Nat → Bool} {n : Nat} : cloP E B n (fun t => bt (oF E B n) t = true) := fun s hs hb _ t ht => (oF_bt n t).mpr ⟨s, hs, hb, ht⟩
theorem cy_conn {E : Nat → Int32} {B : Nat → Bool} {n : Nat} {x : Int32} (hE : ∀ s, s < n → B s = true → w6 (E s)) (hne : ∀ s, s < n → B s = true → ∃ t, bt (E s) t = true) (hs : ∃ s, s < n ∧ B s = true) (fx : rdF E B x n = x) (sx : sbx (lF E B n) x) (mx : ∀ p : Nat → Prop, cloP E B n p → (∀ t, bt (lF E B n) t = true → p t) → ∀ t, bt x t = true → p t) : itR E B n (oF E B n &&& (-oF E B n)) 8 = oF E B n ↔ x = oF E B n := by
  have wo : w6 (oF E B n) := by
    intro t ht
    cases q : bt (oF E B n) t
    · rfl
    · obtain ⟨s, s1, s2, s3⟩ := (oF_bt n t).mp q
      rw [hE s s1 s2 t ht] at s3
      cases s3
  obtain ⟨s, s1, s2, s3⟩ := lF_s (E := E) n hs
  obtain ⟨u, hu⟩ := hne s s1 s2
  have no : ¬ oF E B n = 0 := fun z => by
    have := bt_nul.mp z u
    rw [(oF_bt n u).mpr ⟨s, s1, s2, hu⟩] at this
    cases this
  obtain ⟨t, t1, t2⟩ := low_bit wo no
  have w0 : w6 (oF E B n &&& (-oF E B n)) := by
    intro q hq
    rw [bt_ano, wo q hq]
    rfl
  have lo_ : ∀ q, bt (lF E B n) q = true → bt (oF E B n) q = true := by
    intro q hq
    rw [s3] at hq
    exact (oF_bt n q).mpr ⟨s, s1, s2, hq⟩
  refine conn_iff (x0 := oF E B n &&& (-oF E B n)) (y0 := lF E B n) (oF_bt n) (rd_fix (it_fix hE w0)) (fun p c q => it_min c q 8) (rd_fix fx) mx (fun q hq => it_min clo_o (fun v hv => by rw [(t2 v).mp hv]; exact t1) 8 q hq) (fun q hq => mx _ clo_o lo_ q hq) (fun p c => ?_) (fun p c => ?_) ⟨t, it_sub 8 t ((t2 t).mpr rfl)⟩ ⟨u, sx u (by rw [s3]; exact hu)⟩
  · by_cases h : p t
    · exact Or.inl (fun v hv => by rw [(t2 v).mp hv]; exact h)
    · exact Or.inr (fun v hv => by rw [(t2 v).mp hv]; exact ⟨t1, h⟩)
  · by_cases h : ∃ v, bt (E s) v = true ∧ p v
    · exact Or.inl (fun v hv => by rw [s3] at hv; exact c s s1 s2 h v hv)
    · exact Or.inr (fun v hv => ⟨lo_ v hv, fun y => h ⟨v, by rw [← s3]; exact hv, y⟩⟩)
theorem pc_ex : ∀ w, w < 256 → 3 ≤ pcn w → ∃ s, s < 8 ∧ hB (Int32.ofNat w) s = true ∧ 2 ^ s ≤ w := by decide +kernel
theorem v_isCycle {g : gT} {h : mh_T} {P : Int32 → mh_T → Prop} (l1 : Int32) (tz : TZ (h.1 45)) (pw : PW (h.1 45)) (h1 : ∀ w : Nat, l1.toInt = (w : Int) → w < 2 ^ sn (h.1 45) → rgB (h.1 45) w = true → P 1 h) (h0 : (∀ w : Nat, l1.toInt = (w : Int) → ¬ rgB (h.1 45) w = true) → P 0 h) : MCi g yX11_isCycle uX11_isCycle [.ref 11, .int l1] h P := by
  have n8 : sn (h.1 45) ≤ 8 := by unfold sn; have := tz.2.1; omega
  have en : (mI h 45 (Int32.toNatClampNeg 0)).toInt = (sn (h.1 45) : Int) := by show (h.1 45 0).toInt = _; unfold sn; have := tz.1; omega
  have e2 : (1 <<< ((mI h 45 (Int32.toNatClampNeg 0)) &&& 31) : Int32).toInt = ((2 ^ sn (h.1 45) : Nat) : Int) := by rw [i_of en (by omega)]; exact (p2M _ n8).1
  have m2 := (p2M _ n8).2
  have m1 : 1 ≤ 2 ^ sn (h.1 45) := Nat.one_le_two_pow
  have e3 := i_sub e2 (show (1 : Int32).toInt = 1 from by decide) (by omega)
  refine e_X11_isCycle l1 (e_X11_within _ _ _ ⟨fun c => ⟨fun _ => ?_, fun y => absurd rfl y⟩, fun c => ⟨fun d => ⟨fun _ => ?_, fun y => absurd rfl y⟩, fun d => ⟨fun y => absurd y (by decide), fun _ => ?_⟩⟩⟩)
  · have c := i_lt.mp c
    rw [i_0] at c
    exact h0 (fun w e => by omega)
  · have d := i_lt.mp d
    refine h0 (fun w e r => ?_)
    have := (rgB_iff.mp r).1
    omega
  · have c := i_le.mp (nlt c)
    have d := i_le.mp (nlt d)
    rw [i_0] at c
    obtain ⟨w, ew⟩ : ∃ w : Nat, l1.toInt = (w : Int) := ⟨l1.toInt.toNat, by omega⟩
    have wl : w < 2 ^ sn (h.1 45) := by omega
    have el := i_of ew (by omega)
    have no : ¬ rgP (h.1 45) w → P 0 h := fun q => h0 (fun v ev r => q (by rw [show v = w from by omega] at r; exact rgB_iff.mp r))
    refine w_bits l1 ew (by omega) ⟨fun p3 => ?_, fun p3 => no (fun q => p3 (i3p.mpr q.2.1))⟩
    have p3 := i3p.mp p3
    obtain ⟨s0, s1, s2, s3⟩ := pc_ex w (by omega) p3
    have s4 : s0 < sn (h.1 45) := (Nat.pow_lt_pow_iff_right (by omega)).mp (Nat.lt_of_le_of_lt s3 wl)
    rw [← el] at s2
    have End : ∀ x : Int32, paB (h.1 45) l1 (sn (h.1 45)) = true → hF (lo (h.1 45)) (hB l1) (sn (h.1 45)) = 0 → oF (lo (h.1 45)) (hB l1) (sn (h.1 45)) = tF (lo (h.1 45)) (hB l1) (sn (h.1 45)) → rdF (lo (h.1 45)) (hB l1) x (sn (h.1 45)) = x → sbx (lF (lo (h.1 45)) (hB l1) (sn (h.1 45))) x → (∀ p : Nat → Prop, cloP (lo (h.1 45)) (hB l1) (sn (h.1 45)) p → (∀ t, bt (lF (lo (h.1 45)) (hB l1) (sn (h.1 45))) t = true → p t) → ∀ t, bt x t = true → p t) → ME g uX11_isCycle 145 [.ref 11, .int l1, .int (oF (lo (h.1 45)) (hB l1) (sn (h.1 45))), .int (tF (lo (h.1 45)) (hB l1) (sn (h.1 45))), .int x, .int x, .retAddr 0, .retAddr 0] [] h (qI P) := by
      intro x pa hz ot fx sx mx
      have pp := (paB_iff _).mp pa
      have lw : ∀ s, s < sn (h.1 45) → hB l1 s = true → w6 (lo (h.1 45) s) ∧ ∃ t, bt (lo (h.1 45) s) t = true := fun s hs hb => lo_w6 (pw s hs).1 ⟨pp s hs hb, (pw s hs).2.2⟩
      have cc := cy_conn (fun s hs hb => (lw s hs hb).1) (fun s hs hb => (lw s hs hb).2) ⟨s0, s4, s2⟩ fx sx mx
      refine r_X11_isCycle_145 l1 _ _ x x ⟨fun _ => ⟨fun z => no (fun r => z (cc.mp ?_)), fun z => h1 w ew wl (rgB_iff.mpr ?_)⟩, fun z => absurd rfl z⟩
      · rw [el]; exact r.2.2.2.2.2
      · have k := cc.mpr z
        rw [el] at pa hz ot k
        exact ⟨wl, p3, pa, hz, ot, k⟩
    have M : ∀ (m : Nat) (x y : Int32), paB (h.1 45) l1 (sn (h.1 45)) = true → hF (lo (h.1 45)) (hB l1) (sn (h.1 45)) = 0 → oF (lo (h.1 45)) (hB l1) (sn (h.1 45)) = tF (lo (h.1 45)) (hB l1) (sn (h.1 45)) → ¬ x = y → w6 x → 7 - cb x < m → sbx (lF (lo (h.1 45)) (hB l1) (sn (h.1 45))) x → (∀ p : Nat → Prop, cloP (lo (h.1 45)) (hB l1) (sn (h.1 45)) p → (∀ t, bt (lF (lo (h.1 45)) (hB l1) (sn (h.1 45))) t = true → p t) → ∀ t, bt x t = true → p t) → ME g uX11_isCycle 145 [.ref 11, .int l1, .int (oF (lo (h.1 45)) (hB l1) (sn (h.1 45))), .int (tF (lo (h.1 45)) (hB l1) (sn (h.1 45))), .int x, .int y, .retAddr 0, .retAddr 0] [] h (qI P) := by
      intro m
      induction m with
      | zero => intro x y _ _ _ _ _ hm; exact absurd hm (Nat.not_lt_zero _)
      | succ m ih =>
        intro x y pa hz ot ne wx hm sx mx
        have pp := (paB_iff _).mp pa
        have lw : ∀ s, s < sn (h.1 45) → hB l1 s = true → w6 (lo (h.1 45) s) := fun s hs hb => (lo_w6 (pw s hs).1 ⟨pp s hs hb, (pw s hs).2.2⟩).1
        refine r_X11_isCycle_145 l1 _ _ x y ⟨fun z => absurd z ne, fun _ => ?_⟩
        have I : ∀ (q s : Nat) (l6 : Int32), l6.toInt = (s : Int) → s ≤ sn (h.1 45) → sn (h.1 45) - s < q → ME g uX11_isCycle 159 [.ref 11, .int l1, .int (oF (lo (h.1 45)) (hB l1) (sn (h.1 45))), .int (tF (lo (h.1 45)) (hB l1) (sn (h.1 45))), .int (rdF (lo (h.1 45)) (hB l1) x s), .int x, .int l6, .retAddr 0] [] h (qI P) := by
          intro q
          induction q with
          | zero => intro s l6 _ _ hq; exact absurd hq (Nat.not_lt_zero _)
          | succ q iq =>
            intro s l6 e6 hs hq
            refine r_X11_isCycle_159 l1 _ _ _ x l6 ⟨fun d => ?_, fun d => ?_⟩
            · have d := i_le.mp d
              have e : s = sn (h.1 45) := by omega
              rw [e]
              by_cases f : rdF (lo (h.1 45)) (hB l1) x (sn (h.1 45)) = x
              · rw [f]
                exact End x pa hz ot f sx mx
              · have w2 := rd_w6 (N := sn (h.1 45)) lw wx _ (Nat.le_refl _)
                have mo := rd_mono (E := lo (h.1 45)) (B := hB l1) (x := x) (j := 0) (sn (h.1 45)) (Nat.zero_le _)
                have lt : cb x < cb (rdF (lo (h.1 45)) (hB l1) x (sn (h.1 45))) := cb_lt w2 mo f
                have le := cN_le (fun t => bt (rdF (lo (h.1 45)) (hB l1) x (sn (h.1 45))) t) 6
                have le : cb (rdF (lo (h.1 45)) (hB l1) x (sn (h.1 45))) ≤ 6 := le
                exact ih _ x pa hz ot f w2 (by omega) (fun t ht => mo t (sx t ht)) (fun p c hp => rd_min c (mx p c hp) _ (Nat.le_refl _))
            · have d := i_lt.mp (nle d)
              have nx := iq (s + 1) (l6 + 1) (i_inc e6 (by omega)) (by omega) (by omega)
              have k1 : (1 + l6).toInt = ((1 + s : Nat) : Int) := by rw [i_add (show (1 : Int32).toInt = 1 from by decide) e6 (by omega)]; omega
              have k9 : (9 + l6).toInt = ((9 + s : Nat) : Int) := by rw [i_add (show (9 : Int32).toInt = 9 from by decide) e6 (by omega)]; omega
              refine v_hasB l1 l6 s e6 (by omega) (fun b => ⟨fun v => absurd v (by decide), fun _ => ⟨i_vp k1 (by omega), i_vp k9 (by omega), fun x10 e10 => ?_⟩⟩) (fun b => ⟨fun _ => ?_, fun v => absurd rfl v⟩)
              · have e10 : x10 = lo (h.1 45) s := by rw [e10, i_nat k1, i_nat k9]; rfl
                rw [e10]
                refine ⟨fun z x12 e12 => ?_, fun z x13 e13 => ?_⟩
                · rw [rd_z b z] at nx
                  rw [e12, orz]
                  exact nx
                · rw [rd_y b z] at nx
                  rw [e13]
                  exact nx
              · rw [rd_no b] at nx
                refine ⟨fun _ x6 e => ?_, fun _ x7 e => ?_⟩
                · rw [e, orz]; exact nx
                · rw [e, orz]; exact nx
        exact I 9 0 0 (by decide) (Nat.zero_le _) (by omega)
    have L : ∀ (q s : Nat) (l5 : Int32), l5.toInt = (s : Int) → s ≤ sn (h.1 45) → sn (h.1 45) - s < q → paB (h.1 45) l1 s = true → hF (lo (h.1 45)) (hB l1) s = 0 → ME g uX11_isCycle 38 [.ref 11, .int l1, .int (oF (lo (h.1 45)) (hB l1) s), .int (tF (lo (h.1 45)) (hB l1) s), .int (lF (lo (h.1 45)) (hB l1) s), .int l5, .retAddr 0, .retAddr 0] [] h (qI P) := by
      intro q
      induction q with
      | zero => intro s l5 _ _ hq; exact absurd hq (Nat.not_lt_zero _)
      | succ q iq =>
        intro s l5 e5 hs hq pa hz
        refine r_X11_isCycle_38 l1 _ _ _ l5 ⟨fun d => ?_, fun d => ?_⟩
        · have d := i_le.mp d
          have e : s = sn (h.1 45) := by omega
          rw [e] at pa hz ⊢
          refine ⟨fun z => ?_, fun z => no (fun r => z (by rw [el]; exact r.2.2.2.2.1))⟩
          obtain ⟨s', q1, q2, q3⟩ := lF_s (E := lo (h.1 45)) (B := hB l1) (sn (h.1 45)) ⟨s0, s4, s2⟩
          have lw := lo_w6 (pw s' q1).1 ⟨(paB_iff _).mp pa s' q1 q2, (pw s' q1).2.2⟩
          refine M 8 _ 0 pa hz z (fun y => ?_) (by rw [q3]; exact lw.1) (by omega) (fun _ y => y) (fun p _ hp => hp)
          obtain ⟨t, ht⟩ := lw.2
          have := bt_nul.mp y t
          rw [q3, ht] at this
          cases this
        · have d := i_lt.mp (nle d)
          have nx := iq (s + 1) (l5 + 1) (i_inc e5 (by omega)) (by omega) (by omega)
          have k1 : (1 + l5).toInt = ((1 + s : Nat) : Int) := by rw [i_add (show (1 : Int32).toInt = 1 from by decide) e5 (by omega)]; omega
          have k9 : (9 + l5).toInt = ((9 + s : Nat) : Int) := by rw [i_add (show (9 : Int32).toInt = 9 from by decide) e5 (by omega)]; omega
          refine v_hasB l1 l5 s e5 (by omega) (fun b => ⟨fun _ => ⟨i_vp k9 (by omega), fun y => ⟨i_vp k1 (by omega), i_vp k9 (by omega), fun x10 e10 => ?_⟩, fun y => no (fun r => ?_)⟩, fun v => absurd v (by decide)⟩) (fun b => ⟨fun v => absurd rfl v, fun _ => ?_⟩)
          · have e10 : x10 = lo (h.1 45) s := by rw [e10, i_nat k1, i_nat k9]; rfl
            rw [e10]
            rw [i_nat k9] at y
            have y0 : 0 ≤ (h.1 45 (9 + s)).toInt := by
              rcases (tz.2.2 s (by omega)).1 with v | v
              · exact absurd v.1 y
              · exact v
            refine ⟨fun z x12 e12 x13 e13 => ?_, fun z => no (fun r => z ?_)⟩
            · have nx := nx (by unfold paB; rw [pa, decide_eq_true y0, Bool.or_true]; rfl) (by
                show (if hB l1 s = true then hF (lo (h.1 45)) (hB l1) s ||| (tF (lo (h.1 45)) (hB l1) s &&& lo (h.1 45) s) else hF (lo (h.1 45)) (hB l1) s) = 0
                rw [if_pos b, hz, z]; decide)
              rw [show oF (lo (h.1 45)) (hB l1) (s + 1) = oF (lo (h.1 45)) (hB l1) s ||| lo (h.1 45) s from if_pos b, show tF (lo (h.1 45)) (hB l1) (s + 1) = tF (lo (h.1 45)) (hB l1) s ||| (oF (lo (h.1 45)) (hB l1) s &&& lo (h.1 45) s) from if_pos b, show lF (lo (h.1 45)) (hB l1) (s + 1) = lo (h.1 45) s from if_pos b] at nx
              rw [e12, e13]
              exact nx
            · have := (hF_0 _).mp r.2.2.2.1 s (by omega) (by rw [← el]; exact b)
              rw [← el] at this
              exact this
          · have p := (paB_iff _).mp r.2.2.1 s (by omega) (by rw [← el]; exact b)
            rw [i_nat k9] at y
            have y : h.1 45 (9 + s) = -2 := y
            rw [y] at p
            exact absurd p (by decide)
          · have nx := nx (by unfold paB; rw [pa, Bool.eq_false_iff.mpr b]; rfl) (by
              show (if hB l1 s = true then hF (lo (h.1 45)) (hB l1) s ||| (tF (lo (h.1 45)) (hB l1) s &&& lo (h.1 45) s) else hF (lo (h.1 45)) (hB l1) s) = 0
              rw [if_neg b]; exact hz)
            rw [show oF (lo (h.1 45)) (hB l1) (s + 1) = oF (lo (h.1 45)) (hB l1) s from if_neg b, show tF (lo (h.1 45)) (hB l1) (s + 1) = tF (lo (h.1 45)) (hB l1) s from if_neg b, show lF (lo (h.1 45)) (hB l1) (s + 1) = lF (lo (h.1 45)) (hB l1) s from if_neg b] at nx
            exact nx
    exact L 9 0 0 (by decide) (Nat.zero_le _) (by omega) rfl rfl
