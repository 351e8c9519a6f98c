/-! undo, redo, mark, back, book of the reference -/
theorem TVs_47 {h h' : mh_T} (t : TVs h) (ok : Ok [47] h h') : TVs h' := TVs_fr ok.2.1 (by decide) t
set_option maxRecDepth 100000 in
set_option maxHeartbeats 4000000 in
theorem t_restore {g : gT} {h0 h : mh_T} {P : Int32 → mh_T → Prop} (l0 : Nat) (l1 : Int32) (nl0 p : Nat) (sl0 : shp l0 = (20, nl0, [])) (h45 : l0 ≠ 45) (h62 : l0 < 62) (e1 : l1.toInt = 49 * p) (bp : p ≤ 20) (b0 : 49 * p + 49 ≤ nl0) (hr0 : ∀ j, j < 49 → rgT l0 (49 * p + j) = rgRowM j) (ok : Ok msA h0 h) (t : TVs h) (s : TQ (h.1 l0) (49 * p)) (hp : ∀ (h' : mh_T), Ok msA h0 h' → TVs h' → P 1 h') : MCv g yX11_copy uX11_copy [.ref l0, .int l1, .ref 45, .int 0, .int 49] h (fun h12 => MCv g yX11_noCoins uX11_noCoins [.ref 11] h12 (fun h13 => P 1 h13)) := by
  refine t_copy l0 nl0 l1 45 346 0 sl0 rfl h45 h62 p 0 e1 (by decide) b0 (by decide) bp (by decide) hr0 rr45 (by decide) ok.1 (fun h2 k2 cp => ?_)
  have o2 := Ok_tr ok k2 (by decide)
  refine s_X11_noCoins o2.1 (fun h3 k3 => hp h3 (Ok_tr o2 k3 (by decide)) (TVs_47 (TVs_back t k2 s cp) k3))
theorem i_49 {x : Int32} (f : R 0 19 x) : ∃ p : Nat, (49 * x).toInt = 49 * (p : Int) ∧ p < 20 := by
  have f1 := f.1
  have f2 := f.2
  refine ⟨x.toInt.toNat, ?_, by omega⟩
  rw [Int32.toInt_mul, show (49 : Int32).toInt = 49 from by decide, bm (by omega) (by omega)]
  omega
set_option maxRecDepth 100000 in
set_option maxHeartbeats 4000000 in
theorem u_X11_undo {g : gT} {h : mh_T} {P : Int32 → mh_T → Prop} (hG : GI h) (hI : TVs h) (hp : ∀ (v : Int32) (h' : mh_T), Ok msA h h' → TVs h' → ¬ mI h' 11 11 = 4 → P v h') : MCi g yX11_undo uX11_undo [.ref 11] h P := by
  refine e_X11_undo (s_X11_good hG (fun h1 k1 t4 => ?_))
  have o1 : Ok msA h h1 := Ok_mono k1 (by decide)
  have hp : ∀ (v : Int32) (h' : mh_T), Ok msA h1 h' → TVs h' → P v h' := fun v h' k t => hp v h' (Ok_tr o1 k (by decide)) t (k.2.2.2.2.2.2.1 t4)
  have o1 : Ok msA h1 h1 := Ok_rf o1.1
  have t1 : TVs h1 := TVs_fr k1.2.1 (by decide) hI
  have f24 : R 0 20 (mI h1 11 24) := GI_rd o1.1 11 24 rfl
  refine ⟨fun nz => ?_, fun _ => t_isNot o1 t1 hp 6⟩
  have c1 : R 1 1 1 := ⟨by decide, by decide⟩
  have c2 : R 2 2 2 := ⟨by decide, by decide⟩
  have c3 : R 3 3 3 := ⟨by decide, by decide⟩
  have c4 : R 4 4 4 := ⟨by decide, by decide⟩
  have c5 : R 5 5 5 := ⟨by decide, by decide⟩
  have g24 : R 0 19 ((mI h1 11 24) - 1) := R_sub (rf_ne_lo f24 nz (by decide) 1 (by decide)) c1 0 19 (by decide)
  have o2 := Ok_w o1 (k := 11) (j := 24) (v := (mI h1 11 24) - 1) (lo := 0) (hi := 20) rfl (R_w g24 (by decide)) (by decide) (by decide)
  refine t_was o2.1 (TVs_11 t1) (fun h3 k3 t3 x4 e4 => ?_)
  have o3 := Ok_tr o2 k3 (by decide)
  have e24 : mI h3 11 24 = (mI h1 11 24) - 1 := by rw [Ok_eq k3 (by decide), mI_wI, if_pos ⟨rfl, rfl⟩]
  have fx : R 0 95 x4 := by rw [e4, e24]; exact R_mul c5 g24 0 95 (by decide)
  have f25 : R 0 20 (mI h3 11 25) := GI_rd o3.1 11 25 rfl
  refine ⟨vin fx (by decide), vin (R_add fx c1 0 96 (by decide)) (by decide), vin (R_add fx c2 0 97 (by decide)) (by decide), vin (R_add fx c3 0 98 (by decide)) (by decide), vin (R_add fx c4 0 99 (by decide)) (by decide), t_keep50 _ _ _ _ _ _ o3.1 f25 t3 (fun h10 k10 t10 => ?_)⟩
  have o10 := Ok_tr o3 k10 (by decide)
  have e24' : mI h10 11 24 = (mI h1 11 24) - 1 := by rw [Ok_eq k10 (by decide), e24]
  have f25' : R 0 20 (mI h10 11 25) := GI_rd o10.1 11 25 rfl
  obtain ⟨p, ep, hp20⟩ := i_49 g24
  have fin : ∀ v : Int32, R 0 20 v → MCv g yX11_copy uX11_copy [.ref 49, .int (49 * (mI (wI h10 11 25 v) 11 24)), .ref 45, .int 0, .int 49] (wI h10 11 25 v) (fun h12 => MCv g yX11_noCoins uX11_noCoins [.ref 11] h12 (fun h13 => P 1 h13)) := fun v fv => by
    rw [mI_wI, if_neg (by decide), e24']
    exact t_restore 49 _ 980 p rfl (by decide) (by decide) ep (by omega) (by omega) (rr49 p) (Ok_w o10 (k := 11) (j := 25) (v := v) (lo := 0) (hi := 20) rfl fv (by decide) (by decide)) (TVs_11 t10) (by rw [wI_o (by decide)]; exact t10.2.2.1 p hp20) (fun h' ok' t' => hp 1 h' ok' t')
  exact ⟨fun ne => fin _ (R_add (rf_ne_hi f25' ne (by decide) 19 (by decide)) c1 0 20 (by decide)), fun _ => fin 20 ⟨by decide, by decide⟩⟩
set_option maxRecDepth 100000 in
set_option maxHeartbeats 4000000 in
theorem u_X11_redo {g : gT} {h : mh_T} {P : Int32 → mh_T → Prop} (hG : GI h) (hI : TVs h) (hp : ∀ (v : Int32) (h' : mh_T), Ok msA h h' → TVs h' → ¬ mI h' 11 11 = 4 → P v h') : MCi g yX11_redo uX11_redo [.ref 11] h P := by
  refine e_X11_redo (s_X11_good hG (fun h1 k1 t4 => ?_))
  have o1 : Ok msA h h1 := Ok_mono k1 (by decide)
  have hp : ∀ (v : Int32) (h' : mh_T), Ok msA h1 h' → TVs h' → P v h' := fun v h' k t => hp v h' (Ok_tr o1 k (by decide)) t (k.2.2.2.2.2.2.1 t4)
  have o1 : Ok msA h1 h1 := Ok_rf o1.1
  have t1 : TVs h1 := TVs_fr k1.2.1 (by decide) hI
  have f24 : R 0 20 (mI h1 11 25) := GI_rd o1.1 11 25 rfl
  refine ⟨fun nz => ?_, fun _ => t_isNot o1 t1 hp 6⟩
  have c1 : R 1 1 1 := ⟨by decide, by decide⟩
  have c2 : R 2 2 2 := ⟨by decide, by decide⟩
  have c3 : R 3 3 3 := ⟨by decide, by decide⟩
  have c4 : R 4 4 4 := ⟨by decide, by decide⟩
  have c5 : R 5 5 5 := ⟨by decide, by decide⟩
  have g24 : R 0 19 ((mI h1 11 25) - 1) := R_sub (rf_ne_lo f24 nz (by decide) 1 (by decide)) c1 0 19 (by decide)
  have o2 := Ok_w o1 (k := 11) (j := 25) (v := (mI h1 11 25) - 1) (lo := 0) (hi := 20) rfl (R_w g24 (by decide)) (by decide) (by decide)
  refine t_was o2.1 (TVs_11 t1) (fun h3 k3 t3 x4 e4 => ?_)
  have o3 := Ok_tr o2 k3 (by decide)
  have e24 : mI h3 11 25 = (mI h1 11 25) - 1 := by rw [Ok_eq k3 (by decide), mI_wI, if_pos ⟨rfl, rfl⟩]
  have fx : R 0 95 x4 := by rw [e4, e24]; exact R_mul c5 g24 0 95 (by decide)
  have f25 : R 0 20 (mI h3 11 24) := GI_rd o3.1 11 24 rfl
  refine ⟨vin fx (by decide), vin (R_add fx c1 0 96 (by decide)) (by decide), vin (R_add fx c2 0 97 (by decide)) (by decide), vin (R_add fx c3 0 98 (by decide)) (by decide), vin (R_add fx c4 0 99 (by decide)) (by decide), t_keep49 _ _ _ _ _ _ o3.1 f25 t3 (fun h10 k10 t10 => ?_)⟩
  have o10 := Ok_tr o3 k10 (by decide)
  have e24' : mI h10 11 25 = (mI h1 11 25) - 1 := by rw [Ok_eq k10 (by decide), e24]
  have f25' : R 0 20 (mI h10 11 24) := GI_rd o10.1 11 24 rfl
  obtain ⟨p, ep, hp20⟩ := i_49 g24
  have fin : ∀ v : Int32, R 0 20 v → MCv g yX11_copy uX11_copy [.ref 50, .int (49 * (mI (wI h10 11 24 v) 11 25)), .ref 45, .int 0, .int 49] (wI h10 11 24 v) (fun h12 => MCv g yX11_noCoins uX11_noCoins [.ref 11] h12 (fun h13 => P 1 h13)) := fun v fv => by
    rw [mI_wI, if_neg (by decide), e24']
    exact t_restore 50 _ 980 p rfl (by decide) (by decide) ep (by omega) (by omega) (rr50 p) (Ok_w o10 (k := 11) (j := 24) (v := v) (lo := 0) (hi := 20) rfl fv (by decide) (by decide)) (TVs_11 t10) (by rw [wI_o (by decide)]; exact t10.2.2.2.1 p hp20) (fun h' ok' t' => hp 1 h' ok' t')
  exact ⟨fun ne => fin _ (R_add (rf_ne_hi f25' ne (by decide) 19 (by decide)) c1 0 20 (by decide)), fun _ => fin 20 ⟨by decide, by decide⟩⟩
set_option maxRecDepth 100000 in
set_option maxHeartbeats 4000000 in
theorem u_X11_mark {g : gT} {h : mh_T} {P : Int32 → mh_T → Prop} (hG : GI h) (hI : TVs h) (hp : ∀ (v : Int32) (h' : mh_T), Ok msA h h' → TVs h' → ¬ mI h' 11 11 = 4 → P v h') : MCi g yX11_mark uX11_mark [.ref 11] h P := by
  refine e_X11_mark (s_X11_good hG (fun h1 k1 t4 => ?_))
  have o1 : Ok msA h h1 := Ok_mono k1 (by decide)
  have hp : ∀ (v : Int32) (h' : mh_T), Ok msA h1 h' → TVs h' → P v h' := fun v h' k t => hp v h' (Ok_tr o1 k (by decide)) t (k.2.2.2.2.2.2.1 t4)
  have o1 : Ok msA h1 h1 := Ok_rf o1.1
  have t1 : TVs h1 := TVs_fr k1.2.1 (by decide) hI
  have no : ∀ l : Int32, ¬ l = 4 → MCi g yX11_no uX11_no [.ref 11, .int l] h1 (fun r6 h5 => P r6 h5) := fun l l4 => e_X11_no l (hp _ _ (Ok_w11 o1 l4 (by decide)) (TVs_11 t1))
  refine ⟨fun _ => ⟨fun ne => ?_, fun _ => no 3 (by decide)⟩, fun _ => no 1 (by decide)⟩
  have c1 : R 1 1 1 := ⟨by decide, by decide⟩
  have f26 : R 0 4 (mI h1 11 26) := GI_rd o1.1 11 26 rfl
  have g26 : R 0 3 (mI h1 11 26) := rf_ne_hi f26 ne (by decide) 3 (by decide)
  obtain ⟨p, ep, _⟩ := i_49 (R_w g26 (by decide))
  have p4 : p < 4 := by
    have a1 := g26.1
    have a2 := g26.2
    have : (49 * (mI h1 11 26)).toInt = 49 * (mI h1 11 26).toInt := by rw [Int32.toInt_mul, show (49 : Int32).toInt = 49 from by decide, bm (by omega) (by omega)]
    omega
  refine t_copy 45 346 0 51 196 (49 * (mI h1 11 26)) rfl rfl (by decide) (by decide) 0 p (by decide) ep (by decide) (by omega) (by decide) (by omega) rr45 (rr51 p) (by decide) o1.1 (fun h4 k4 cp => ?_)
  have o4 := Ok_tr o1 k4 (by decide)
  have e26 : mI h4 11 26 = mI h1 11 26 := Ok_eq k4 (by decide)
  have t4 : TVs h4 := by
    have e45 := OkC k4 (k := 45) (by decide)
    refine ⟨?_, ?_, ?_, ?_, ?_, ?_⟩
    · rw [e45]; exact t1.1
    · rw [OkC k4 (k := 48) (by decide)]; exact t1.2.1
    · rw [OkC k4 (k := 49) (by decide)]; exact t1.2.2.1
    · rw [OkC k4 (k := 50) (by decide)]; exact t1.2.2.2.1
    · intro q hq
      by_cases e : q = p
      · rw [e]
        exact TQ_cp t1.1 cp.1
      · exact TQ_cp (t1.2.2.2.2.1 q hq) (fun j hj => cp.2 _ (by omega))
    · rw [e45]; exact t1.2.2.2.2.2
  refine hp _ _ (Ok_w o4 (k := 11) (j := 26) (v := (mI h4 11 26) + 1) (lo := 0) (hi := 4) rfl (by rw [e26]; exact R_add g26 c1 0 4 (by decide)) (by decide) (by decide)) (TVs_11 t4)
set_option maxRecDepth 100000 in
set_option maxHeartbeats 4000000 in
theorem u_X11_back {g : gT} {h : mh_T} {P : Int32 → mh_T → Prop} (l1 : Int32) (hG : GI h) (hI : TVs h) (hp : ∀ (v : Int32) (h' : mh_T), Ok msA h h' → TVs h' → ¬ mI h' 11 11 = 4 → P v h') : MCi g yX11_back uX11_back [.ref 11, .int l1] h P := by
  refine e_X11_back l1 (s_X11_good hG (fun h1 k1 t4 => ?_))
  have o1 : Ok msA h h1 := Ok_mono k1 (by decide)
  have hp : ∀ (v : Int32) (h' : mh_T), Ok msA h1 h' → TVs h' → P v h' := fun v h' k t => hp v h' (Ok_tr o1 k (by decide)) t (k.2.2.2.2.2.2.1 t4)
  have o1 : Ok msA h1 h1 := Ok_rf o1.1
  have t1 : TVs h1 := TVs_fr k1.2.1 (by decide) hI
  have f26 : R 0 4 (mI h1 11 26) := GI_rd o1.1 11 26 rfl
  refine s_X11_within _ _ _ o1.1 (fun v _ hv => ⟨fun nz => ?_, fun _ => t_isNot o1 t1 hp 1⟩)
  obtain ⟨a, b⟩ := hv nz
  have a := i_le.mp a
  have b := i_le.mp b
  rw [i_0] at a
  rw [sub1, ti_dec f26 (by decide)] at b
  have m1 := f26.2
  have g1 : R 0 3 l1 := ⟨a, by omega⟩
  obtain ⟨p, ep, _⟩ := i_49 (R_w g1 (by decide))
  have p4 : p < 4 := by
    have a2 := g1.2
    have : (49 * l1).toInt = 49 * l1.toInt := by rw [Int32.toInt_mul, show (49 : Int32).toInt = 49 from by decide, bm (by omega) (by omega)]
    omega
  refine t_copy 51 196 (49 * l1) 45 346 0 rfl rfl (by decide) (by decide) p 0 ep (by decide) (by omega) (by decide) (by omega) (by decide) (rr51 p) rr45 (by decide) o1.1 (fun h2 k2 cp => ?_)
  have o2 := Ok_tr o1 k2 (by decide)
  have t2 := TVs_back t1 k2 (t1.2.2.2.2.1 p p4) cp
  have o3 := Ok_w o2 (k := 11) (j := 24) (v := 0) (lo := 0) (hi := 20) rfl ⟨by decide, by decide⟩ (by decide) (by decide)
  have o4 := Ok_w o3 (k := 11) (j := 25) (v := 0) (lo := 0) (hi := 20) rfl ⟨by decide, by decide⟩ (by decide) (by decide)
  exact s_X11_noCoins o4.1 (fun h3 k3 => hp 1 h3 (Ok_tr o4 k3 (by decide)) (TVs_47 (TVs_11 (TVs_11 t2)) k3))
