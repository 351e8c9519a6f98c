/-! undo, redo, mark, back, book of the reference -/
theorem TVs_47 {h h' : mh_T} (t : TVs h) (ok : Ok [47] h h') : TVs h' := TVs_fr ok.2.1 (by decide) t
set_option maxRecDepth 100000 in
set_option maxHeartbeats 4000000 in
theorem t_restore {g : gT} {h0 h : mh_T} {P : Int32 → mh_T → Prop} (l0 : Nat) (l1 : Int32) (nl0 p : Nat) (sl0 : shp l0 = (20, nl0, [])) (h45 : l0 ≠ 45) (h62 : l0 < 62) (e1 : l1.toInt = 49 * p) (bp : p ≤ 20) (b0 : 49 * p + 49 ≤ nl0) (hr0 : ∀ j, j < 49 → rgT l0 (49 * p + j) = rgRowM j) (ok : Ok msA h0 h) (t : TVs h) (s : TQ (h.1 l0) (49 * p)) (hp : ∀ (h' : mh_T), Ok msA h0 h' → TVs h' → P 1 h') : MCv g yX11_copy uX11_copy [.ref l0, .int l1, .ref 45, .int 0, .int 49] h (fun h12 => MCv g yX11_noCoins uX11_noCoins [.ref 11] h12 (fun h13 => P 1 h13)) := by
  refine t_copy l0 nl0 l1 45 346 0 sl0 rfl h45 h62 p 0 e1 (by decide) b0 (by decide) bp (by decide) hr0 rr45 (by decide) ok.1 (fun h2 k2 cp => ?_)
  have o2 := Ok_tr ok k2 (by decide)
  refine s_X11_noCoins o2.1 (fun h3 k3 => hp h3 (Ok_tr o2 k3 (by decide)) (TVs_47 (TVs_back t k2 s cp) k3))
theorem i_49 {x : Int32} (f : R 0 19 x) : ∃ p : Nat, (49 * x).toInt = 49 * (p : Int) ∧ p < 20 := by
  have f1 := f.1
  have f2 := f.2
  refine ⟨x.toInt.toNat, ?_, by omega⟩
  rw [Int32.toInt_mul, show (49 : Int32).toInt = 49 from by decide, bm (by omega) (by omega)]
  omega
set_option maxRecDepth 100000 in
set_option maxHeartbeats 4000000 in
theorem u_X11_undo {g : gT} {h : mh_T} {P : Int32 → mh_T → Prop} (hG : GI h) (hI : TVs h) (hp : ∀ (v : Int32) (h' : mh_T), Ok msA h h' → TVs h' → P v h') : MCi g yX11_undo uX11_undo [.ref 11] h P := by
  refine e_X11_undo (s_X11_good hG (fun h1 k1 => ?_))
  have o1 : Ok msA h h1 := Ok_mono k1 (by decide)
  have t1 : TVs h1 := TVs_fr k1.2.1 (by decide) hI
  have f24 : R 0 20 (mI h1 11 24) := GI_rd o1.1 11 24 rfl
  refine ⟨fun nz => ?_, fun _ => t_isNot o1 t1 hp 6⟩
  have c1 : R 1 1 1 := ⟨by decide, by decide⟩
  have c2 : R 2 2 2 := ⟨by decide, by decide⟩
  have c3 : R 3 3 3 := ⟨by decide, by decide⟩
  have c4 : R 4 4 4 := ⟨by decide, by decide⟩
  have c5 : R 5 5 5 := ⟨by decide, by decide⟩
  have g24 : R 0 19 ((mI h1 11 24) - 1) := R_sub (rf_ne_lo f24 nz (by decide) 1 (by decide)) c1 0 19 (by decide)
  have o2 := Ok_w o1 (k := 11) (j := 24) (v := (mI h1 11 24) - 1) (lo := 0) (hi := 20) rfl (R_w g24 (by decide)) (by decide) (by decide)
  refine t_was o2.1 (TVs_11 t1) (fun h3 k3 t3 x4 e4 => ?_)
  have o3 := Ok_tr o2 k3 (by decide)
  have e24 : mI h3 11 24 = (mI h1 11 24) - 1 := by rw [Ok_eq k3 (by decide), mI_wI, if_pos ⟨rfl, rfl⟩]
  have fx : R 0 95 x4 := by rw [e4, e24]; exact R_mul c5 g24 0 95 (by decide)
  have f25 : R 0 20 (mI h3 11 25) := GI_rd o3.1 11 25 rfl
  refine ⟨vin fx (by decide), vin (R_add fx c1 0 96 (by decide)) (by decide), vin (R_add fx c2 0 97 (by decide)) (by decide), vin (R_add fx c3 0 98 (by decide)) (by decide), vin (R_add fx c4 0 99 (by decide)) (by decide), t_keep50 _ _ _ _ _ _ o3.1 f25 t3 (fun h10 k10 t10 => ?_)⟩
  have o10 := Ok_tr o3 k10 (by decide)
  have e24' : mI h10 11 24 = (mI h1 11 24) - 1 := by rw [Ok_eq k10 (by decide), e24]
  have f25' : R 0 20 (mI h10 11 25) := GI_rd o10.1 11 25 rfl
  obtain ⟨p, ep, hp20⟩ := i_49 g24
  have fin : ∀ v : Int32, R 0 20 v → MCv g yX11_copy uX11_copy [.ref 49, .int (49 * (mI (wI h10 11 25 v) 11 24)), .ref 45, .int 0, .int 49] (wI h10 11 25 v) (fun h12 => MCv g yX11_noCoins uX11_noCoins [.ref 11] h12 (fun h13 => P 1 h13)) := fun v fv => by
    rw [mI_wI, if_neg (by decide), e24']
    exact t_restore 49 _ 980 p rfl (by decide) (by decide) ep (by omega) (by omega) (rr49 p) (Ok_w o10 (k := 11) (j := 25) (v := v) (lo := 0) (hi := 20) rfl fv (by decide) (by decide)) (TVs_11 t10) (by rw [wI_o (by decide)]; exact t10.2.2.1 p hp20) (fun h' ok' t' => hp 1 h' ok' t')
  exact ⟨fun ne => fin _ (R_add (rf_ne_hi f25' ne (by decide) 19 (by decide)) c1 0 20 (by decide)), fun _ => fin 20 ⟨by decide, by decide⟩⟩
set_option maxRecDepth 100000 in
set_option maxHeartbeats 4000000 in
theorem u_X11_redo {g : gT} {h : mh_T} {P : Int32 → mh_T → Prop} (hG : GI h) (hI : TVs h) (hp : ∀ (v : Int32) (h' : mh_T), Ok msA h h' → TVs h' → P v h') : MCi g yX11_redo uX11_redo [.ref 11] h P := by
  refine e_X11_redo (s_X11_good hG (fun h1 k1 => ?_))
  have o1 : Ok msA h h1 := Ok_mono k1 (by decide)
  have t1 : TVs h1 := TVs_fr k1.2.1 (by decide) hI
  have f24 : R 0 20 (mI h1 11 25) := GI_rd o1.1 11 25 rfl
  refine ⟨fun nz => ?_, fun _ => t_isNot o1 t1 hp 6⟩
  have c1 : R 1 1 1 := ⟨by decide, by decide⟩
  have c2 : R 2 2 2 := ⟨by decide, by decide⟩
  have c3 : R 3 3 3 := ⟨by decide, by decide⟩
  have c4 : R 4 4 4 := ⟨by decide, by decide⟩
  have c5 : R 5 5 5 := ⟨by decide, by decide⟩
  have g24 : R 0 19 ((mI h1 11 25) - 1) := R_sub (rf_ne_lo f24 nz (by decide) 1 (by decide)) c1 0 19 (by decide)
  have o2 := Ok_w o1 (k := 11) (j := 25) (v := (mI h1 11 25) - 1) (lo := 0) (hi := 20) rfl (R_w g24 (by decide)) (by decide) (by decide)
  refine t_was o2.1 (TVs_11 t1) (fun h3 k3 t3 x4 e4 => ?_)
  have o3 := Ok_tr o2 k3 (by decide)
  have e24 : mI h3 11 25 = (mI h1 11 25) - 1 := by rw [Ok_eq k3 (by decide), mI_wI, if_pos ⟨rfl, rfl⟩]
  have fx : R 0 95 x4 := by rw [e4, e24]; exact R_mul c5 g24 0 95 (by decide)
  have f25 : R 0 20 (mI h3 11 24) := GI_rd o3.1 11 24 rfl
  refine ⟨vin fx (by decide), vin (R_add fx c1 0 96 (by decide)) (by decide), vin (R_add fx c2 0 97 (by decide)) (by decide), vin (R_add fx c3 0 98 (by decide)) (by decide), vin (R_add fx c4 0 99 (by decide)) (by decide), t_keep49 _ _ _ _ _ _ o3.1 f25 t3 (fun h10 k10 t10 => ?_)⟩
  have o10 := Ok_tr o3 k10 (by decide)
  have e24' : mI h10 11 25 = (mI h1 11 25) - 1 := by rw [Ok_eq k10 (by decide), e24]
  have f25' : R 0 20 (mI h10 11 24) := GI_rd o10.1 11 24 rfl
  obtain ⟨p, ep, hp20⟩ := i_49 g24
  have fin : ∀ v : Int32, R 0 20 v → MCv g yX11_copy uX11_copy [.ref 50, .int (49 * (mI (wI h10 11 24 v) 11 25)), .ref 45, .int 0, .int 49] (wI h10 11 24 v) (fun h12 => MCv g yX11_noCoins uX11_noCoins [.ref 11] h12 (fun h13 => P 1 h13)) := fun v fv => by
    rw [mI_wI, if_neg (by decide), e24']
    exact t_restore 50 _ 980 p rfl (by decide) (by decide) ep (by omega) (by omega) (rr50 p) (Ok_w o10 (k := 11) (j := 24) (v := v) (lo := 0) (hi := 20) rfl fv (by decide) (by decide)) (TVs_11 t10) (by rw [wI_o (by decide)]; exact t10.2.2.2.1 p hp20) (fun h' ok' t' => hp 1 h' ok' t')
  exact ⟨fun ne => fin _ (R_add (rf_ne_hi f25' ne (by decide) 19 (by decide)) c1 0 20 (by decide)), fun _ => fin 20 ⟨by decide, by decide⟩⟩
set_option maxRecDepth 100000 in
set_option maxHeartbeats 4000000 in
theorem u_X11_mark {g : gT} {h : mh_T} {P : Int32 → mh_T → Prop} (hG : GI h) (hI : TVs h) (hp : ∀ (v : Int32) (h' : mh_T), Ok msA h h' → TVs h' → P v h') : MCi g yX11_mark uX11_mark [.ref 11] h P := by
  refine e_X11_mark (s_X11_good hG (fun h1 k1 => ?_))
  have o1 : Ok msA h h1 := Ok_mono k1 (by decide)
  have t1 : TVs h1 := TVs_fr k1.2.1 (by decide) hI
  have no : ∀ l : Int32, MCi g yX11_no uX11_no [.ref 11, .int l] h1 (fun r6 h5 => P r6 h5) := fun l => e_X11_no l (hp _ _ (Ok_w o1 (k := 11) (j := 11) (lo := -2147483648) (hi := 2147483647) rfl (R_full _) (by decide) (by decide)) (TVs_11 t1))
  refine ⟨fun _ => ⟨fun ne => ?_, fun _ => no 3⟩, fun _ => no 1⟩
  have c1 : R 1 1 1 := ⟨by decide, by decide⟩
  have f26 : R 0 4 (mI h1 11 26) := GI_rd o1.1 11 26 rfl
  have g26 : R 0 3 (mI h1 11 26) := rf_ne_hi f26 ne (by decide) 3 (by decide)
  obtain ⟨p, ep, _⟩ := i_49 (R_w g26 (by decide))
  have p4 : p < 4 := by
    have a1 := g26.1
    have a2 := g26.2
    have : (49 * (mI h1 11 26)).toInt = 49 * (mI h1 11 26).toInt := by rw [Int32.toInt_mul, show (49 : Int32).toInt = 49 from by decide, bm (by omega) (by omega)]
    omega
  refine t_copy 45 346 0 51 196 (49 * (mI h1 11 26)) rfl rfl (by decide) (by decide) 0 p (by decide) ep (by decide) (by omega) (by decide) (by omega) rr45 (rr51 p) (by decide) o1.1 (fun h4 k4 cp => ?_)
  have o4 := Ok_tr o1 k4 (by decide)
  have e26 : mI h4 11 26 = mI h1 11 26 := Ok_eq k4 (by decide)
  have t4 : TVs h4 := by
    have e45 := OkC k4 (k := 45) (by decide)
    refine ⟨?_, ?_, ?_, ?_, ?_, ?_⟩
    · rw [e45]; exact t1.1
    · rw [OkC k4 (k := 48) (by decide)]; exact t1.2.1
    · rw [OkC k4 (k := 49) (by decide)]; exact t1.2.2.1
    · rw [OkC k4 (k := 50) (by decide)]; exact t1.2.2.2.1
    · intro q hq
      by_cases e : q = p
      · rw [e]
        exact TQ_cp t1.1 cp.1
      · exact TQ_cp (t1.2.2.2.2.1 q hq) (fun j hj => cp.2 _ (by omega))
    · rw [e45]; exact t1.2.2.2.2.2
  refine hp _ _ (Ok_w o4 (k := 11) (j := 26) (v := (mI h4 11 26) + 1) (lo := 0) (hi := 4) rfl (by rw [e26]; exact R_add g26 c1 0 4 (by decide)) (by decide) (by decide)) (TVs_11 t4)
set_option maxRecDepth 100000 in
set_option maxHeartbeats 4000000 in
theorem u_X11_back {g : gT} {h : mh_T} {P : Int32 → mh_T → Prop} (l1 : Int32) (hG : GI h) (hI : TVs h) (hp : ∀ (v : Int32) (h' : mh_T), Ok msA h h' → TVs h' → P v h') : MCi g yX11_back uX11_back [.ref 11, .int l1] h P := by
  refine e_X11_back l1 (s_X11_good hG (fun h1 k1 => ?_))
  have o1 : Ok msA h h1 := Ok_mono k1 (by decide)
  have t1 : TVs h1 := TVs_fr k1.2.1 (by decide) hI
  have f26 : R 0 4 (mI h1 11 26) := GI_rd o1.1 11 26 rfl
  refine s_X11_within _ _ _ o1.1 (fun v _ hv => ⟨fun nz => ?_, fun _ => t_isNot o1 t1 hp 1⟩)
  obtain ⟨a, b⟩ := hv nz
  have a := i_le.mp a
  have b := i_le.mp b
  rw [i_0] at a
  rw [sub1, ti_dec f26 (by decide)] at b
  have m1 := f26.2
  have g1 : R 0 3 l1 := ⟨a, by omega⟩
  obtain ⟨p, ep, _⟩ := i_49 (R_w g1 (by decide))
  have p4 : p < 4 := by
    have a2 := g1.2
    have : (49 * l1).toInt = 49 * l1.toInt := by rw [Int32.toInt_mul, show (49 : Int32).toInt = 49 from by decide, bm (by omega) (by omega)]
    omega
  refine t_copy 51 196 (49 * l1) 45 346 0 rfl rfl (by decide) (by decide) p 0 ep (by decide) (by omega) (by decide) (by omega) (by decide) (rr51 p) rr45 (by decide) o1.1 (fun h2 k2 cp => ?_)
  have o2 := Ok_tr o1 k2 (by decide)
  have t2 := TVs_back t1 k2 (t1.2.2.2.2.1 p p4) cp
  have o3 := Ok_w o2 (k := 11) (j := 24) (v := 0) (lo := 0) (hi := 20) rfl ⟨by decide, by decide⟩ (by decide) (by decide)
  have o4 := Ok_w o3 (k := 11) (j := 25) (v := 0) (lo := 0) (hi := 20) rfl ⟨by decide, by decide⟩ (by decide) (by decide)
  exact s_X11_noCoins o4.1 (fun h3 k3 => hp 1 h3 (Ok_tr o4 k3 (by decide)) (TVs_47 (TVs_11 (TVs_11 t2)) k3))
-- book
set_option maxRecDepth 100000 in
set_option maxHeartbeats 4000000 in
theorem t_book_179 {g : gT} {h0 : mh_T} {P : Int32 → mh_T → Prop} (l1 : Int32) (hp : ∀ r k, Ok msM h0 k → TVs k → P r k) (k0 : mh_T) (t0 : TVs k0) (law : ¬ mI k0 46 (Int32.toNatClampNeg 49) = 0) : ∀ (n : Nat) (l2 : Int32) (q : Nat) (k : mh_T), l2.toInt = (q : Int) → q ≤ 346 → 346 - q < n → Ok msM h0 k → Ok [45] k0 k → (∀ j, j < q → k.1 45 j = k0.1 46 j) → ME g uX11_book 179 [.ref 11, .int l1, .int l2] [] k (qI P) := by
  intro n
  induction n with
  | zero => intro l2 q k _ _ hn; exact absurd hn (Nat.not_lt_zero _)
  | succ n ih =>
    intro l2 q k eq hq hn kO kk cc
    have c1 : R 1 1 1 := ⟨by decide, by decide⟩
    have z0 : R 0 0 0 := ⟨by decide, by decide⟩
    have z6 : (346 : Int32).toInt = 346 := by decide
    have e46 := OkC kk (k := 46) (by decide)
    refine r_X11_book_179 l1 l2 ⟨fun c => ?_, fun c => ?_⟩
    · have c := i_le.mp c
      have : q = 346 := by omega
      subst this
      have tk : TVs k := by
        refine ⟨TQ_i (fun s hs => ?_), ?_, ?_, ?_, ?_, fun _ => ?_⟩
        · have b : ∀ o, o < 4 → 0 ≤ (k.1 45 (17 + 4 * s + o)).toInt ∧ (k.1 45 (17 + 4 * s + o)).toInt ≤ 60 := fun o ho => by
            rw [cc _ (by omega), ← e46]
            exact GI_rd kk.1 46 (17 + 4 * s + o) (rgp_46_15 (by omega) (by omega))
          have b0 := b 0 (by omega)
          have b1 := b 1 (by omega)
          have b2 := b 2 (by omega)
          have b3 := b 3 (by omega)
          rw [Nat.add_zero] at b0
          exact tq_v rfl rfl rfl rfl (by omega)
        · rw [OkC kk (k := 48) (by decide)]; exact t0.2.1
        · rw [OkC kk (k := 49) (by decide)]; exact t0.2.2.1
        · rw [OkC kk (k := 50) (by decide)]; exact t0.2.2.2.1
        · rw [OkC kk (k := 51) (by decide)]; exact t0.2.2.2.2.1
        · have r49 : R 0 60 (mI k 46 49) := GI_rd kk.1 46 49 rfl
          have r1 : 0 ≤ (k.1 46 49).toInt := r49.1
          rw [cc 49 (by omega), ← e46]
          have ne : ¬ (k.1 46 49).toInt = 0 := fun z => law (by
            show k0.1 46 49 = 0
            rw [← e46]
            exact Int32.toInt_inj.mp (by rw [z, i_0]))
          omega
      have o1 := Ok_w kO (k := 11) (j := 14) (v := 1) (lo := 0) (hi := 1) (by decide) (R_w c1 (by decide)) (by decide) (by decide)
      refine s_X11_noCoins o1.1 (fun h2 k2 => ?_)
      have o2 := Ok_tr o1 k2 (by decide)
      have o3 := Ok_w o2 (k := 11) (j := 24) (v := 0) (lo := 0) (hi := 20) (by decide) (R_w z0 (by decide)) (by decide) (by decide)
      have o4 := Ok_w o3 (k := 11) (j := 25) (v := 0) (lo := 0) (hi := 20) (by decide) (R_w z0 (by decide)) (by decide) (by decide)
      have o5 := Ok_w o4 (k := 11) (j := 26) (v := 0) (lo := 0) (hi := 4) (by decide) (R_w z0 (by decide)) (by decide) (by decide)
      exact hp _ _ o5 (TVs_11 (TVs_11 (TVs_11 (TVs_47 (TVs_11 tk) k2))))
    · have c := i_lt.mp (nle c)
      refine ⟨i_vp eq (by omega), i_vp eq (by omega), ?_⟩
      rw [i_nat eq]
      have w : ∀ {ms : List Nat} {a : mh_T}, Ok ms a k → 45 ∈ ms → Ok ms a (wI k 45 q (mI k 46 q)) := fun o hm => Ok_w o (k := 45) (j := q) (v := mI k 46 q) (lo := (rgT 45 q).1) (hi := (rgT 45 q).2) rfl (R_w (kO.1.1 46 _) (rg4645 _ (by omega))) (Or.inl hm) (nt_k (by decide))
      refine ih (l2 + 1) (q + 1) _ (i_inc eq (by omega)) (by omega) (by omega) (w kO (by decide)) (w kk (by decide)) (fun j hj => ?_)
      rw [wI_i]
      by_cases e : j = q
      · rw [if_pos e, e]
        show k.1 46 q = _
        rw [e46]
      · rw [if_neg e]
        exact cc j (by omega)
set_option maxRecDepth 100000 in
set_option maxHeartbeats 4000000 in
theorem t_book_77 {g : gT} {h0 : mh_T} {P : Int32 → mh_T → Prop} (l1 l2 : Int32) (t0 : TVs h0) (hp : ∀ r k, Ok msM h0 k → TVs k → P r k) : ∀ (n : Nat) (k : mh_T), Ok [11, 44, 46] h0 k → (Mz k).toNat < n → ME g uX11_book 77 [.ref 11, .int l1, .int l2] [] k (qI P) := by
  intro n
  induction n with
  | zero => intro k _ hn; exact absurd hn (Nat.not_lt_zero _)
  | succ n ih =>
    intro k kO hn
    have TT : ∀ k, Ok [11, 44, 46] h0 k → TVs k := fun k kO => TVs_fr kO.2.1 (by decide) t0
    have no : ∀ k, Ok [11, 44, 46] h0 k → MCi g yX11_no uX11_no [.ref 11, .int 4] k (fun r6 h5 => P r6 h5) := fun k kO => s_X11_no 4 kO.1 (fun r h' k' _ => hp r h' (Ok_mono (Ok_tr kO k' (by decide)) (by decide)) (TT h' (Ok_tr kO k' (by decide))))
    have go : ∀ k, Ok [11, 44, 46] h0 k → ¬ mI k 46 (Int32.toNatClampNeg 49) = 0 → ME g uX11_book 179 [.ref 11, .int l1, .int 0] [] k (qI P) := fun k kO law => t_book_179 l1 hp k (TT k kO) law 347 0 0 k (by decide) (Nat.zero_le _) (by omega) (Ok_mono kO (by decide)) (Ok_rf kO.1) (fun j hj => absurd hj (Nat.not_lt_zero _))
    have w6 : ∀ k, Ok [11, 44, 46] h0 k → MCv g yX11_wrong uX11_wrong [.ref 11, .int 6, .int (mI k 11 4)] k (fun h8 => ((mI h8 11 13) = 0 → ME g uX11_book 179 [.ref 11, .int l1, .int 0] [] h8 (qI P)) ∧ (¬ (mI h8 11 13) = 0 → MCi g yX11_no uX11_no [.ref 11, .int 4] h8 (fun r11 h10 => P r11 h10))) := fun k kO => s_X11_wrong _ _ kO.1 (fun h' k' e => ⟨fun z => absurd z (by rw [e]; decide), fun _ => no h' (Ok_tr kO k' (by decide))⟩)
    have mid : ∀ k, Ok [11, 44, 46] h0 k → (¬ (mI k 11 13) = 0 → ((mI k 11 13) = 0 → ME g uX11_book 179 [.ref 11, .int l1, .int 0] [] k (qI P)) ∧ (¬ (mI k 11 13) = 0 → MCi g yX11_no uX11_no [.ref 11, .int 4] k (fun r6 h5 => P r6 h5))) ∧ ((mI k 11 13) = 0 → ((mI k 46 (Int32.toNatClampNeg 49)) = 0 → MCv g yX11_wrong uX11_wrong [.ref 11, .int 6, .int (mI k 11 4)] k (fun h8 => ((mI h8 11 13) = 0 → ME g uX11_book 179 [.ref 11, .int l1, .int 0] [] h8 (qI P)) ∧ (¬ (mI h8 11 13) = 0 → MCi g yX11_no uX11_no [.ref 11, .int 4] h8 (fun r11 h10 => P r11 h10)))) ∧ (¬ (mI k 46 (Int32.toNatClampNeg 49)) = 0 → (¬ (mI k 46 (Int32.toNatClampNeg 50)) = 0 → ((mI k 11 13) = 0 → ME g uX11_book 179 [.ref 11, .int l1, .int 0] [] k (qI P)) ∧ (¬ (mI k 11 13) = 0 → MCi g yX11_no uX11_no [.ref 11, .int 4] k (fun r15 h14 => P r15 h14))) ∧ ((mI k 46 (Int32.toNatClampNeg 50)) = 0 → MCv g yX11_wrong uX11_wrong [.ref 11, .int 6, .int (mI k 11 4)] k (fun h16 => ((mI h16 11 13) = 0 → ME g uX11_book 179 [.ref 11, .int l1, .int 0] [] h16 (qI P)) ∧ (¬ (mI h16 11 13) = 0 → MCi g yX11_no uX11_no [.ref 11, .int 4] h16 (fun r19 h18 => P r19 h18)))))) := fun k kO => ⟨fun nz => ⟨fun z => absurd z nz, fun _ => no k kO⟩, fun _ => ⟨fun _ => w6 k kO, fun law => ⟨fun _ => ⟨fun _ => go k kO law, fun _ => no k kO⟩, fun _ => w6 k kO⟩⟩⟩
    refine r_X11_book_77 l1 l2 ⟨fun _ => ⟨fun _ => mid k kO, fun _ => ⟨fun _ => mid k kO, fun _ => ?_⟩⟩, fun _ => ⟨fun _ => ⟨fun _ => mid k kO, fun _ => ⟨fun _ => mid k kO, fun _ => ?_⟩⟩, fun c => ?_⟩⟩
    · exact s_X11_wrong _ _ kO.1 (fun h' k' _ => mid h' (Ok_tr kO k' (by decide)))
    · exact s_X11_wrong _ _ kO.1 (fun h' k' _ => mid h' (Ok_tr kO k' (by decide)))
    · refine s_X11_next_N kO.1 (fun h2 k2 _ m2 => ?_)
      have o2 := Ok_tr kO k2 (by decide)
      have m2 := m2 (by rw [c]; decide)
      refine s_X11_readLine o2.1 (fun h3 k3 => ?_)
      have o3 := Ok_tr o2 k3 (by decide)
      have m3 := k3.2.2.2.2
      have := Mz_nn o3.1
      exact ih h3 o3 (by omega)
set_option maxRecDepth 100000 in
set_option maxHeartbeats 4000000 in
theorem t_book_39 {g : gT} {h0 : mh_T} {P : Int32 → mh_T → Prop} (l1 : Int32) (f1 : R 0 900 l1) (t0 : TVs h0) (hp : ∀ r k, GI k → Fr msM h0 k → mI k 0 10 = mI h0 0 10 → mI k 11 2 = mI h0 11 2 → TVs k → P r k) : ∀ (n : Nat) (l2 : Int32) (k : mh_T), Ok [11, 44, 46] h0 k → R 0 346 l2 → gap 346 l2 < n → ME g uX11_book 39 [.ref 11, .int l1, .int l2] [] k (qI P) := by
  intro n
  induction n with
  | zero => intro l2 k _ _ hn; exact absurd hn (Nat.not_lt_zero _)
  | succ n ih =>
    intro l2 k kO f2 hn
    have c1 : R 1 1 1 := ⟨by decide, by decide⟩
    refine r_X11_book_39 l1 l2 ⟨fun _ => ?_, fun c => ?_⟩
    · have o1 := Ok_w kO (k := 11) (j := 3) (v := l1) (lo := 0) (hi := 900) (by decide) f1 (by decide) (by decide)
      have g5 : GI (wI (wI k 11 3 l1) 11 5 0) := GI_w o1.1 (k := 11) (j := 5) (lo := 0) (hi := 900) (by decide) ⟨by decide, by decide⟩
      have fr5 : Fr [11, 44, 46] h0 (wI (wI k 11 3 l1) 11 5 0) := Fr_w o1.2.1 (by decide)
      have e1 : mI (wI (wI k 11 3 l1) 11 5 0) 0 10 = mI h0 0 10 := by
        rw [mI_wI, if_neg (by decide)]
        exact o1.2.2.1
      have e2 : mI (wI (wI k 11 3 l1) 11 5 0) 11 2 = mI h0 11 2 := by
        rw [mI_wI, if_neg (by decide)]
        exact o1.2.2.2.1
      generalize wI (wI k 11 3 l1) 11 5 0 = k5 at g5 fr5 e1 e2
      have t5 : TVs k5 := TVs_fr fr5 (by decide) t0
      have ok5 : Ok [11, 44, 46] k5 k5 := Ok_rf g5
      have frM : Fr msM h0 k5 := fun k hk hm => fr5 k hk (fun z => hm (by
        rcases List.mem_cons.mp z with y | y
        · rw [y]; decide
        · rcases List.mem_cons.mp y with y | y
          · rw [y]; decide
          · rw [List.mem_singleton.mp y]; decide))
      refine s_X11_next g5 (fun h2 k2 => ?_)
      have ok2 := Ok_tr ok5 k2 (by decide)
      refine s_X11_readLine ok2.1 (fun h3 k3 => ?_)
      have ok3 := Ok_tr ok2 k3 (by decide)
      exact t_book_77 l1 l2 t5 (fun r q qO tq => hp r q qO.1 (Fr_tr frM qO.2.1) (qO.2.2.1.trans e1) (qO.2.2.2.1.trans e2) tq) _ h3 ok3 (Nat.lt_succ_self _)
    · have c := lt_ti (nle c)
      have z6 : (346 : Int32).toInt = 346 := by decide
      have z0 : (0 : Int32).toInt = 0 := by decide
      have g2 : R 0 345 l2 := ⟨f2.1, by omega⟩
      have gi := gap_inc (N := 346) g2 (by decide)
      have r0 := rg46_0 l2.toNatClampNeg (ix_lt g2 (by decide))
      have o1 := Ok_w kO (k := 46) (j := l2.toNatClampNeg) (v := 0) (lo := (rgT 46 l2.toNatClampNeg).1) (hi := (rgT 46 l2.toNatClampNeg).2) rfl (by unfold R; rw [z0]; exact r0) (by decide) (nt_k (by decide))
      exact ⟨vin g2 (by decide), ih (l2 + 1) _ o1 (R_add g2 c1 0 346 (by decide)) (by omega)⟩
set_option maxRecDepth 100000 in
set_option maxHeartbeats 4000000 in
theorem u_X11_book {g : gT} {h : mh_T} {P : Int32 → mh_T → Prop} (l1 : Int32) (hG : GI h) (hI : TVs h) (hp : ∀ r h', GI h' → Fr msM h h' → mI h' 0 10 = mI h 0 10 → ((0 ≤ l1.toInt ∧ l1.toInt ≤ (mI h 11 2).toInt) → mI h' 11 2 = 0) → (¬ (0 ≤ l1.toInt ∧ l1.toInt ≤ (mI h 11 2).toInt) → mI h' 11 2 = mI h 11 2) → TVs h' → P r h') : MCi g yX11_book uX11_book [.ref 11, .int l1] h P := by
  refine e_X11_book l1 (s_X11_good hG (fun h1 k1 => ?_))
  have ok1 : Ok msM h h1 := Ok_mono k1 (by decide)
  have t1 : TVs h1 := TVs_fr k1.2.1 (by decide) hI
  have e2 : mI h1 11 2 = mI h 11 2 := k1.2.2.2.1
  have z0 : (0 : Int32).toInt = 0 := by decide
  have f2 : R 0 900 (mI h 11 2) := GI_rd hG 11 2 (by decide)
  have no : ¬ (0 ≤ l1.toInt ∧ l1.toInt ≤ (mI h 11 2).toInt) → MCi g yX11_no uX11_no [.ref 11, .int 2] h1 (fun r6 h5 => P r6 h5) := fun z => s_X11_no 2 ok1.1 (fun r h' k' _ => by
    have o := Ok_tr ok1 k' (by decide)
    exact hp r h' o.1 o.2.1 o.2.2.1 (fun y => absurd y z) (fun _ => o.2.2.2.1) (TVs_fr k'.2.1 (by decide) t1))
  refine e_X11_within _ _ _ ⟨fun c => ⟨fun z => absurd rfl z, fun _ => no (fun y => ?_)⟩, fun c => ⟨fun c2 => ⟨fun z => absurd rfl z, fun _ => no (fun y => ?_)⟩, fun c2 => ⟨fun _ => ?_, fun z => absurd z (by decide)⟩⟩⟩
  · have := lt_ti c
    omega
  · have := lt_ti c2
    rw [e2] at this
    omega
  · have a1 := le_ti (nlt c)
    have a2 := le_ti (nlt c2)
    rw [e2] at a2
    have g3 : GI (wI (wI (wI h1 11 2 0) 11 9 0) 11 13 0) := GI_w (GI_w (GI_w ok1.1 (k := 11) (j := 2) (lo := 0) (hi := 900) (by decide) ⟨by decide, by decide⟩) (k := 11) (j := 9) (lo := -2147483648) (hi := 2147483647) (by decide) (R_full _)) (k := 11) (j := 13) (lo := 0) (hi := 1) (by decide) ⟨by decide, by decide⟩
    have fr3 : Fr msM h (wI (wI (wI h1 11 2 0) 11 9 0) 11 13 0) := Fr_w (Fr_w (Fr_w ok1.2.1 (by decide)) (by decide)) (by decide)
    have t3 : TVs (wI (wI (wI h1 11 2 0) 11 9 0) 11 13 0) := TVs_11 (TVs_11 (TVs_11 t1))
    have e10 : mI (wI (wI (wI h1 11 2 0) 11 9 0) 11 13 0) 0 10 = mI h 0 10 := by
      rw [mI_wI, if_neg (by decide), mI_wI, if_neg (by decide), mI_wI, if_neg (by decide)]
      exact ok1.2.2.1
    have e11 : mI (wI (wI (wI h1 11 2 0) 11 9 0) 11 13 0) 11 2 = 0 := by
      rw [mI_wI, if_neg (by decide), mI_wI, if_neg (by decide), mI_wI, if_pos ⟨rfl, rfl⟩]
    generalize wI (wI (wI h1 11 2 0) 11 9 0) 11 13 0 = k3 at g3 fr3 e10 e11 t3
    refine t_book_39 l1 ⟨by omega, by have := f2.2; omega⟩ t3 (fun r k kG kF k10 k11 tk => hp r k kG (Fr_tr fr3 kF) (k10.trans e10) (fun _ => k11.trans e11) (fun z => absurd (by omega) z) tk) 347 0 k3 (Ok_rf g3) ⟨by decide, by decide⟩ (by decide)
