/-! what the acts of the reference leave of THE TABLE -/
def tq (f : Nat → Int32) (off s : Nat) : Prop := 0 ≤ (f (off + 17 + 4 * s)).toInt ∧ 0 ≤ (f (off + 17 + 4 * s + 1)).toInt ∧ 0 ≤ (f (off + 17 + 4 * s + 2)).toInt ∧ 0 ≤ (f (off + 17 + 4 * s + 3)).toInt ∧ (f (off + 17 + 4 * s)).toInt + (f (off + 17 + 4 * s + 1)).toInt + (f (off + 17 + 4 * s + 2)).toInt + (f (off + 17 + 4 * s + 3)).toInt ≤ 240
theorem TQ_cp {f g : Nat → Int32} {a c : Nat} (t : TQ f a) (h : ∀ j, j < 49 → g (c + j) = f (a + j)) : TQ g c := by
  intro s hs
  have e : ∀ o, o < 4 → g (c + 17 + 4 * s + o) = f (a + 17 + 4 * s + o) := fun o ho => by
    have := h (17 + 4 * s + o) (by omega)
    rw [show c + 17 + 4 * s + o = c + (17 + 4 * s + o) by omega, show a + 17 + 4 * s + o = a + (17 + 4 * s + o) by omega]
    exact this
  have e0 := e 0 (by omega)
  rw [Nat.add_zero, Nat.add_zero] at e0
  rw [e0, e 1 (by omega), e 2 (by omega), e 3 (by omega)]
  exact t s hs
/-- copy, as it is -/
def CPd (l0 a l2 c : Nat) (n : Nat) (h h' : mh_T) : Prop := (∀ j, j < n → h'.1 l2 (c + j) = h.1 l0 (a + j)) ∧ ∀ j, (j < c ∨ c + n ≤ j) → h'.1 l2 j = h.1 l2 j
set_option maxRecDepth 100000 in
set_option maxHeartbeats 4000000 in
theorem t_copy {g : gT} {h : mh_T} {P : mh_T → Prop} (l0 nl0 : Nat) (l1 : Int32) (l2 nl2 : Nat) (l3 : Int32) (sl0 : shp l0 = (20, nl0, [])) (sl2 : shp l2 = (20, nl2, [])) (hne : l0 ≠ l2) (h62 : l0 < 62) (p q : Nat) (e1 : l1.toInt = 49 * p) (e3 : l3.toInt = 49 * q) (b0 : 49 * p + 49 ≤ nl0) (b2 : 49 * q + 49 ≤ nl2) (bp : p ≤ 20) (bq : q ≤ 20) (hr0 : ∀ j, j < 49 → rgT l0 (49 * p + j) = rgRowM j) (hr2 : ∀ j, j < 49 → rgT l2 (49 * q + j) = rgRowM j) (hk : l2 ≠ 0 ∧ l2 ≠ 11 ∧ l2 ≠ 3 ∧ l2 ≠ 8 ∧ l2 < 62) (hG : GI h) (hp : ∀ h', Ok [l2] h h' → CPd l0 (49 * p) l2 (49 * q) 49 h h' → P h') (hq45 : l2 = 45 → q = 0 := by first | exact fun _ => rfl | exact fun z => absurd z (by decide)) : MCv g yX11_copy uX11_copy [.ref l0, .int l1, .ref l2, .int l3, .int 49] h P := by
  have e4 : (49 : Int32).toInt = 49 := by decide
  have hm : l2 ∈ [l2] := List.mem_cons_self
  have L : ∀ (n : Nat) (l5 : Int32) (k : Nat) (h' : mh_T), l5.toInt = (k : Int) → k ≤ 49 → 49 - k < n → Ok [l2] h h' → CPd l0 (49 * p) l2 (49 * q) k h h' → ME g uX11_copy 3 [.ref l0, .int l1, .ref l2, .int l3, .int 49, .int l5] [] h' (qV P) := by
    intro n
    induction n with
    | zero => intro l5 k h' _ _ hn; exact absurd hn (Nat.not_lt_zero _)
    | succ n ih =>
      intro l5 k h' hk5 hk49 hn ok cp
      refine r_X11_copy_3 l0 nl0 l1 l2 nl2 l3 49 l5 sl0 sl2 ⟨fun c => ?_, fun c => ?_⟩
      · have c := i_le.mp c
        have : k = 49 := by omega
        subst this
        exact hp h' ok cp
      · have c := i_lt.mp (nle c)
        have s1 : (l1 + l5).toInt = ((49 * p + k : Nat) : Int) := by rw [i_add e1 hk5 (by omega)]; omega
        have s3 : (l3 + l5).toInt = ((49 * q + k : Nat) : Int) := by rw [i_add e3 hk5 (by omega)]; omega
        refine ⟨i_vp s1 (by omega), i_vp s3 (by omega), ?_⟩
        rw [i_nat s1, i_nat s3]
        have fv : R (rgRowM k).1 (rgRowM k).2 (mI h' l0 (49 * p + k)) := by
          have := ok.1.1 l0 (49 * p + k)
          rw [hr0 _ (by omega)] at this
          exact this
        have e0 : h'.1 l0 = h.1 l0 := (ok.2.1 l0 h62 (fun z => hne (List.mem_singleton.mp z))).1
        refine ih (l5 + 1) (k + 1) _ (i_inc hk5 (by omega)) (by omega) (by omega) (Ok_w ok (k := l2) (j := 49 * q + k) (v := mI h' l0 (49 * p + k)) (lo := (rgRowM k).1) (hi := (rgRowM k).2) (hr2 _ (by omega)) fv (Or.inl ⟨hm, hk.2.2.2.2⟩) (nt_c ⟨hk.1, hk.2.1, hk.2.2.1, hk.2.2.2.1⟩ (fun z => by have := hq45 z; omega))) ⟨fun j hj => ?_, fun j hj => ?_⟩
        · show mI (wI h' l2 (49 * q + k) (mI h' l0 (49 * p + k))) l2 (49 * q + j) = _
          rw [mI_wI]
          by_cases e : j = k
          · rw [if_pos ⟨rfl, by rw [e]⟩, e]
            show h'.1 l0 _ = _
            rw [e0]
          · rw [if_neg (fun z => e (by have := z.2; omega))]
            exact cp.1 j (by omega)
        · show mI (wI h' l2 (49 * q + k) (mI h' l0 (49 * p + k))) l2 j = _
          rw [mI_wI, if_neg (fun z => by have := z.2; omega)]
          exact cp.2 j (by omega)
  exact e_X11_copy l0 nl0 l1 l2 nl2 l3 49 sl0 sl2 (L 50 0 0 h (by decide) (Nat.zero_le _) (by omega) (Ok_rf hG) ⟨fun j hj => absurd hj (Nat.not_lt_zero _), fun j _ => rfl⟩)
theorem OkC {ms : List Nat} {h h' : mh_T} (a : Ok ms h h') {k : Nat} (hk : k < 62 ∧ k ∉ ms) : h'.1 k = h.1 k := (a.2.1 k hk.1 hk.2).1
theorem TVs_45 {h h' : mh_T} (t : TVs h) (a : TQ (h'.1 45) 0) (e48 : h'.1 48 = h.1 48) (e49 : h'.1 49 = h.1 49) (e50 : h'.1 50 = h.1 50) (e51 : h'.1 51 = h.1 51) (l49 : h'.1 45 49 = h.1 45 49) (l50 : h'.1 45 50 = h.1 45 50) : TVs h' := by
  refine ⟨a, ?_, ?_, ?_, ?_, ?_⟩
  · rw [e48]; exact t.2.1
  · rw [e49]; exact t.2.2.1
  · rw [e50]; exact t.2.2.2.1
  · rw [e51]; exact t.2.2.2.2.1
  · rw [l49, l50]; exact t.2.2.2.2.2
/-- THE TABLE is kept -/
theorem t_was {g : gT} {h : mh_T} {P : mh_T → Prop} (hG : GI h) (t : TVs h) (hp : ∀ h', Ok [48] h h' → TVs h' → P h') : MCv g yX11_copy uX11_copy [.ref 45, .int 0, .ref 48, .int 0, .int 49] h P := by
  refine t_copy 45 346 0 48 49 0 rfl rfl (by decide) (by decide) 0 0 (by decide) (by decide) (by decide) (by decide) (by decide) (by decide) rr45 rr48 (by decide) hG (fun h' ok cp => hp h' ok ?_)
  have e45 := OkC ok (k := 45) (by decide)
  refine ⟨?_, TQ_cp t.1 cp.1, ?_, ?_, ?_, ?_⟩
  · rw [e45]; exact t.1
  · rw [OkC ok (k := 49) (by decide)]; exact t.2.2.1
  · rw [OkC ok (k := 50) (by decide)]; exact t.2.2.2.1
  · rw [OkC ok (k := 51) (by decide)]; exact t.2.2.2.2.1
  · rw [e45]; exact t.2.2.2.2.2
/-- a kept table is THE TABLE again -/
theorem TVs_back {h h' : mh_T} {l0 a : Nat} (t : TVs h) (ok : Ok [45] h h') (s : TQ (h.1 l0) a) (cp : CPd l0 a 45 (49 * 0) 49 h h') : TVs h' := by
  refine TVs_45 t (TQ_cp s cp.1) (OkC ok (by decide)) (OkC ok (by decide)) (OkC ok (by decide)) (OkC ok (by decide)) (cp.2 49 (by omega)) (cp.2 50 (by omega))
/-- keep -/
def TQs (f : Nat → Int32) : Prop := ∀ p, p < 20 → TQ f (49 * p)
set_option maxRecDepth 100000 in
set_option maxHeartbeats 4000000 in
theorem t_keep {g : gT} {h0 : mh_T} {P : mh_T → Prop} (l0 l1 : Nat) (l2 l4 l5 l6 l7 l8 : Int32) (sl0 : shp l0 = (20, 980, [])) (sl1 : shp l1 = (20, 100, [])) (k0 : l0 ≠ 0 ∧ l0 ≠ 11 ∧ l0 ≠ 45 ∧ l0 ≠ 3 ∧ l0 ≠ 8) (k1 : l1 ≠ 0 ∧ l1 ≠ 11 ∧ l1 ≠ 45 ∧ l1 ≠ 3 ∧ l1 ≠ 8) (k01 : l0 ≠ l1 ∧ l0 ≠ 48 ∧ l1 ≠ 48 ∧ l0 < 62 ∧ l1 < 62) (r0 : ∀ j, rgT l0 j = rgRowM (j % 49)) (r1 : ∀ j, rgT l1 j = (-2147483648, 2147483647)) (hG0 : GI h0) (f2 : R 0 20 l2) (t48 : TQ (h0.1 48) 0) (t0 : TQs (h0.1 l0)) (hp : ∀ h', Ok [l0, l1] h0 h' → TQs (h'.1 l0) → P h') : MCv g yX11_keep uX11_keep [.ref l0, .ref l1, .int l2, .ref 48, .int l4, .int l5, .int l6, .int l7, .int l8] h0 P := by
  have c1 : R 1 1 1 := ⟨by decide, by decide⟩
  have c2 : R 2 2 2 := ⟨by decide, by decide⟩
  have c3 : R 3 3 3 := ⟨by decide, by decide⟩
  have c4 : R 4 4 4 := ⟨by decide, by decide⟩
  have c5 : R 5 5 5 := ⟨by decide, by decide⟩
  have c49 : R 49 49 49 := ⟨by decide, by decide⟩
  have m0 : l0 ∈ [l0, l1] := List.mem_cons_self
  have m1 : l1 ∈ [l0, l1] := List.mem_cons_of_mem _ List.mem_cons_self
  have n48 : 48 ∉ [l0, l1] := fun z => by
    rcases List.mem_cons.mp z with y | y
    · exact k01.2.1 y.symm
    · exact k01.2.2.1 (List.mem_singleton.mp y).symm
  have fin : ∀ (x : Int32) (h : mh_T), R 0 19 x → Ok [l0, l1] h0 h → (∀ p : Nat, p < 20 → (p : Int) ≠ x.toInt → TQ (h.1 l0) (49 * p)) → MCv g yX11_copy uX11_copy [.ref 48, .int 0, .ref l0, .int (49 * x), .int 49] h (fun h2 => (vp_in (5 * x) 100) ∧ ((vp_in ((5 * x) + 1) 100) ∧ ((vp_in ((5 * x) + 2) 100) ∧ ((vp_in ((5 * x) + 3) 100) ∧ ((vp_in ((5 * x) + 4) 100) ∧ (P (wI (wI (wI (wI (wI h2 l1 (5 * x).toNatClampNeg l4) l1 ((5 * x) + 1).toNatClampNeg l5) l1 ((5 * x) + 2).toNatClampNeg l6) l1 ((5 * x) + 3).toNatClampNeg l7) l1 ((5 * x) + 4).toNatClampNeg l8))))))) := by
    intro x h fx ok tt
    have fx1 := fx.1
    have fx2 := fx.2
    obtain ⟨q, hq⟩ : ∃ q : Nat, x.toInt = (q : Int) := ⟨x.toInt.toNat, by omega⟩
    have eq : (49 * x).toInt = 49 * q := by rw [Int32.toInt_mul, show (49 : Int32).toInt = 49 from by decide, bm (by omega) (by omega), hq]
    have f5 : R 0 95 (5 * x) := R_mul c5 fx 0 95 (by decide)
    have e48 : h.1 48 = h0.1 48 := OkC ok ⟨by decide, n48⟩
    refine t_copy 48 49 0 l0 980 (49 * x) rfl sl0 (fun z => k01.2.1 z.symm) (by decide) 0 q (by decide) eq (by decide) (by omega) (by decide) (by omega) rr48 (fun j hj => ?_) ⟨k0.1, k0.2.1, k0.2.2.2.1, k0.2.2.2.2, k01.2.2.2.1⟩ ok.1 (fun h2 k2 cp => ?_) (fun z => absurd z k0.2.2.1)
    · rw [r0, show (49 * q + j) % 49 = j by omega]
    · have o2 : Ok [l0, l1] h0 h2 := Ok_tr ok k2 (fun y z => by rw [List.mem_singleton.mp z]; exact m0)
      have w : ∀ {h : mh_T} (j : Nat) (v : Int32), Ok [l0, l1] h0 h → Ok [l0, l1] h0 (wI h l1 j v) := fun j v o => Ok_w o (k := l1) (j := j) (v := v) (r1 j) (R_full _) (Or.inl ⟨m1, k01.2.2.2.2⟩) (nt_k k1)
      have e1 : ∀ (h : mh_T) (j : Nat) (v : Int32), (wI h l1 j v).1 l0 = h.1 l0 := fun h j v => by
        funext b
        show mI (wI h l1 j v) l0 b = _
        rw [mI_wI, if_neg (fun z => k01.1 z.1)]
        rfl
      have tz : TQs (h2.1 l0) := by
        intro p hp20
        by_cases e : p = q
        · rw [e]
          exact TQ_cp t48 (fun j hj => by rw [cp.1 j hj, e48])
        · refine TQ_cp (tt p hp20 (by omega)) (fun j hj => cp.2 _ (by omega))
      exact ⟨vin f5 (by decide), vin (R_add f5 c1 0 96 (by decide)) (by decide), vin (R_add f5 c2 0 97 (by decide)) (by decide), vin (R_add f5 c3 0 98 (by decide)) (by decide), vin (R_add f5 c4 0 99 (by decide)) (by decide), hp _ (w _ _ (w _ _ (w _ _ (w _ _ (w _ _ o2))))) (by rw [e1, e1, e1, e1, e1]; exact tz)⟩
  have z20 : (20 : Int32).toInt = 20 := by decide
  have z95 : (95 : Int32).toInt = 95 := by decide
  have z931 : (931 : Int32).toInt = 931 := by decide
  have L40 : ∀ (n : Nat) (l10 : Int32) (h : mh_T), Ok [l0, l1] h0 h → (∀ p, p < 20 → p ≠ 19 → TQ (h.1 l0) (49 * p)) → R 0 95 l10 → gap 95 l10 < n → ME g uX11_keep 40 [.ref l0, .ref l1, .int l2, .ref 48, .int l4, .int l5, .int l6, .int l7, .int l8, .int 20, .int l10] [] h (qV P) := by
    intro n
    induction n with
    | zero => intro l10 h _ _ _ hn; exact absurd hn (Nat.not_lt_zero _)
    | succ n ih =>
      intro l10 h ok tt f10 hn
      refine r_X11_keep_40 l0 980 l1 100 l2 48 49 l4 l5 l6 l7 l8 20 l10 sl0 sl1 rfl ⟨fun _ => fin (20 + (-1)) h ⟨by decide, by decide⟩ ok (fun p h1 h2 => tt p h1 (fun z => h2 (by rw [z]; decide))), fun c => ?_⟩
      have c := lt_ti (nle c)
      have g10 : R 0 94 l10 := ⟨f10.1, by omega⟩
      have gi := gap_inc (N := 95) g10 (by decide)
      refine ⟨vin (R_add g10 c5 5 99 (by decide)) (by decide), vin g10 (by decide), ih (l10 + 1) _ (Ok_w ok (k := l1) (j := l10.toNatClampNeg) (v := mI h l1 (l10 + 5).toNatClampNeg) (r1 _) (R_full _) (Or.inl ⟨m1, k01.2.2.2.2⟩) (nt_k k1)) (fun p h1 h2 => TQ_cp (tt p h1 h2) (fun j _ => ?_)) (R_add g10 c1 0 95 (by decide)) (by omega)⟩
      show mI (wI h l1 l10.toNatClampNeg (mI h l1 (l10 + 5).toNatClampNeg)) l0 _ = _
      rw [mI_wI, if_neg (fun z => k01.1 z.1)]
      rfl
  have L12 : ∀ (n : Nat) (l10 : Int32) (k : Nat) (h : mh_T), Ok [l0, l1] h0 h → l10.toInt = (k : Int) → k ≤ 931 → (∀ j, h.1 l0 j = if j < k then h0.1 l0 (j + 49) else h0.1 l0 j) → 931 - k < n → ME g uX11_keep 12 [.ref l0, .ref l1, .int l2, .ref 48, .int l4, .int l5, .int l6, .int l7, .int l8, .int 20, .int l10] [] h (qV P) := by
    intro n
    induction n with
    | zero => intro l10 k h _ _ _ _ hn; exact absurd hn (Nat.not_lt_zero _)
    | succ n ih =>
      intro l10 k h ok hk hk2 hf hn
      refine r_X11_keep_12 l0 980 l1 100 l2 48 49 l4 l5 l6 l7 l8 20 l10 sl0 sl1 rfl ⟨fun c => ?_, fun c => ?_⟩
      · have c := le_ti c
        have : k = 931 := by omega
        subst this
        refine L40 96 0 h ok (fun p h1 h2 => TQ_cp (t0 (p + 1) (by omega)) (fun j hj => ?_)) ⟨by decide, by decide⟩ (by decide)
        rw [hf, if_pos (by omega), show 49 * p + j + 49 = 49 * (p + 1) + j by omega]
      · have c := lt_ti (nle c)
        have s1 : (l10 + 49).toInt = ((k + 49 : Nat) : Int) := by rw [i_add hk (show (49 : Int32).toInt = 49 from by decide) (by omega)]; omega
        have fv : R (rgRowM (k % 49)).1 (rgRowM (k % 49)).2 (mI h l0 (k + 49)) := by
          have := ok.1.1 l0 (k + 49)
          rw [r0, show (k + 49) % 49 = k % 49 by omega] at this
          exact this
        refine ⟨i_vp s1 (by omega), i_vp hk (by omega), ?_⟩
        rw [i_nat s1, i_nat hk]
        refine ih (l10 + 1) (k + 1) _ (Ok_w ok (k := l0) (j := k) (v := mI h l0 (k + 49)) (r0 _) fv (Or.inl ⟨m0, k01.2.2.2.1⟩) (nt_k k0)) (i_inc hk (by omega)) (by omega) (fun j => ?_) (by omega)
        show mI (wI h l0 k (mI h l0 (k + 49))) l0 j = _
        rw [mI_wI]
        by_cases e : j = k
        · rw [if_pos ⟨rfl, e⟩, if_pos (by omega), e]
          show h.1 l0 (k + 49) = _
          rw [hf, if_neg (by omega)]
        · rw [if_neg (fun z => e z.2)]
          show h.1 l0 j = _
          rw [hf]
          by_cases e2 : j < k
          · rw [if_pos e2, if_pos (by omega)]
          · rw [if_neg e2, if_neg (by omega)]
  refine e_X11_keep l0 980 l1 100 l2 48 49 l4 l5 l6 l7 l8 sl0 sl1 rfl ⟨fun c => ?_, fun c => ?_⟩
  · have n2 : l2.toInt ≠ 20 := fun z => c (Int32.toInt_inj.mp (by rw [z, z20]))
    exact fin l2 h0 ⟨f2.1, by have := f2.2; omega⟩ (Ok_rf hG0) (fun p h1 _ => t0 p h1)
  · subst c
    exact L12 932 0 0 h0 (Ok_rf hG0) (by decide) (Nat.zero_le _) (fun j => by rw [if_neg (Nat.not_lt_zero _)]) (by omega)
theorem t_keep49 {g : gT} {h : mh_T} {P : mh_T → Prop} (l2 l4 l5 l6 l7 l8 : Int32) (hG : GI h) (f2 : R 0 20 l2) (t : TVs h) (hp : ∀ h', Ok [49, 52] h h' → TVs h' → P h') : MCv g yX11_keep uX11_keep [.ref 49, .ref 52, .int l2, .ref 48, .int l4, .int l5, .int l6, .int l7, .int l8] h P :=
  t_keep 49 52 l2 l4 l5 l6 l7 l8 rfl rfl (by decide) (by decide) (by decide) (fun _ => rfl) (fun _ => rfl) hG f2 t.2.1 t.2.2.1 (fun h' ok tz => hp h' ok (by
    have e45 := OkC ok (k := 45) (by decide)
    refine ⟨?_, ?_, tz, ?_, ?_, ?_⟩
    · rw [e45]; exact t.1
    · rw [OkC ok (k := 48) (by decide)]; exact t.2.1
    · rw [OkC ok (k := 50) (by decide)]; exact t.2.2.2.1
    · rw [OkC ok (k := 51) (by decide)]; exact t.2.2.2.2.1
    · rw [e45]; exact t.2.2.2.2.2))
theorem t_keep50 {g : gT} {h : mh_T} {P : mh_T → Prop} (l2 l4 l5 l6 l7 l8 : Int32) (hG : GI h) (f2 : R 0 20 l2) (t : TVs h) (hp : ∀ h', Ok [50, 53] h h' → TVs h' → P h') : MCv g yX11_keep uX11_keep [.ref 50, .ref 53, .int l2, .ref 48, .int l4, .int l5, .int l6, .int l7, .int l8] h P :=
  t_keep 50 53 l2 l4 l5 l6 l7 l8 rfl rfl (by decide) (by decide) (by decide) (fun _ => rfl) (fun _ => rfl) hG f2 t.2.1 t.2.2.2.1 (fun h' ok tz => hp h' ok (by
    have e45 := OkC ok (k := 45) (by decide)
    refine ⟨?_, ?_, ?_, tz, ?_, ?_⟩
    · rw [e45]; exact t.1
    · rw [OkC ok (k := 48) (by decide)]; exact t.2.1
    · rw [OkC ok (k := 49) (by decide)]; exact t.2.2.1
    · rw [OkC ok (k := 51) (by decide)]; exact t.2.2.2.2.1
    · rw [e45]; exact t.2.2.2.2.2))
abbrev msA : List Nat := [301, 300, 11, 45, 47, 48, 49, 50, 51, 52, 53]
theorem TVs_11 {h : mh_T} {j : Nat} {v : Int32} (t : TVs h) : TVs (wI h 11 j v) := by
  have e : ∀ k, k ≠ 11 → (wI h 11 j v).1 k = h.1 k := fun k hk => by
    funext b
    show mI (wI h 11 j v) k b = _
    rw [mI_wI, if_neg (fun z => hk z.1)]
    rfl
  unfold TVs
  rw [e 45 (by decide), e 48 (by decide), e 49 (by decide), e 50 (by decide), e 51 (by decide)]
  exact t
theorem u_X11_did {g : gT} {h0 h : mh_T} {P : Int32 → mh_T → Prop} (l1 l2 l3 l4 l5 : Int32) (ok : Ok msA h0 h) (t : TVs h) (hp : ∀ h', Ok msA h0 h' → TVs h' → P 1 h') : MCi g yX11_did uX11_did [.ref 11, .int l1, .int l2, .int l3, .int l4, .int l5] h P := by
  have f24 : R 0 20 (mI h 11 24) := GI_rd ok.1 11 24 rfl
  refine e_X11_did l1 l2 l3 l4 l5 (t_keep49 _ l1 l2 l3 l4 l5 ok.1 f24 t (fun h1 k1 t1 => ?_))
  have o1 := Ok_tr ok k1 (by decide)
  have f1 : R 0 20 (mI h1 11 24) := GI_rd o1.1 11 24 rfl
  have c1 : R 1 1 1 := ⟨by decide, by decide⟩
  refine ⟨fun ne => hp _ (Ok_w (Ok_w o1 (k := 11) (j := 24) (v := (mI h1 11 24) + 1) (lo := 0) (hi := 20) rfl ?_ (by decide) (by decide)) (k := 11) (j := 25) (v := 0) (lo := 0) (hi := 20) rfl ⟨by decide, by decide⟩ (by decide) (by decide)) (TVs_11 (TVs_11 t1)), fun _ => hp _ (Ok_w (Ok_w o1 (k := 11) (j := 24) (v := 20) (lo := 0) (hi := 20) rfl ⟨by decide, by decide⟩ (by decide) (by decide)) (k := 11) (j := 25) (v := 0) (lo := 0) (hi := 20) rfl ⟨by decide, by decide⟩ (by decide) (by decide)) (TVs_11 (TVs_11 t1))⟩
  have g1 : R 0 19 (mI h1 11 24) := rf_ne_hi f1 ne (by decide) 19 (by decide)
  exact R_add g1 c1 0 20 (by decide)
