/-! goesAway, drop, forget, undo, redo, mark, back of the reference -/
theorem Z45_tr {a b c : mh_T} (x : Z45 a b) (y : Z45 b c) : Z45 a c := ⟨y.1.trans x.1, y.2.1.trans x.2.1, y.2.2.1.trans x.2.2.1, y.2.2.2.1.trans x.2.2.2.1, y.2.2.2.2.1.trans x.2.2.2.2.1, y.2.2.2.2.2.trans x.2.2.2.2.2⟩
theorem tq_w {h : mh_T} {j s : Nat} {v : Int32} (t : tq (h.1 45) 0 s) (hj : j < 17 + 4 * s ∨ 17 + 4 * s + 4 ≤ j) : tq ((wI h 45 j v).1 45) 0 s := tq_x t (fun i hi => by rw [wI_i, if_neg (by omega)])
theorem tq_o {h : mh_T} {k j s : Nat} {v : Int32} (t : tq (h.1 45) 0 s) (hk : 45 ≠ k) : tq ((wI h k j v).1 45) 0 s := by rw [wI_o hk]; exact t
set_option maxRecDepth 100000 in
set_option maxHeartbeats 4000000 in
theorem t_goesAway_159 {g : gT} {h0 : mh_T} {P : mh_T → Prop} (l1 l2 m : Int32) (s : Nat) (es : l2.toInt = (s : Int)) (hs : s < 8) (hp : ∀ h', Ok [45, 47] h0 h' → mI h' 45 (Int32.toNatClampNeg 0) = m → Z45 h0 h' → TQ (h'.1 45) 0 → P h') : ∀ (n : Nat) (l3 : Int32) (k : Nat) (h : mh_T), l3.toInt = (k : Int) → k ≤ 4 → 4 - k < n → Ok [45, 47] h0 h → mI h 45 (Int32.toNatClampNeg 0) = m → Z45 h0 h → (∀ s', s' < 8 → s' ≠ s → tq (h.1 45) 0 s') → (∀ i, i < k → h.1 45 (17 + 4 * s + i) = 0) → ME g uX11_goesAway 159 [.ref 11, .int l1, .int l2, .int l3] [] h (qV P) := by
  intro n
  induction n with
  | zero => intro l3 k h _ _ hn; exact absurd hn (Nat.not_lt_zero _)
  | succ n ih =>
    intro l3 k h ek hk hn ok e0 zz tt zr
    refine r_X11_goesAway_159 l1 l2 l3 ⟨fun c => hp h ok e0 zz (TQ_i (fun s' hs' => ?_)), fun c => ?_⟩
    · have c := i_le.mp c
      rw [show (4 : Int32).toInt = 4 from by decide, ek] at c
      by_cases e : s' = s
      · subst e
        have z0 := zr 0 (by omega)
        rw [Nat.add_zero] at z0
        refine tq_v (a := 0) (b := 0) (c := 0) (d := 0) ?_ ?_ ?_ ?_ (by decide)
        · rw [z0]; exact i_0
        · rw [zr 1 (by omega)]; exact i_0
        · rw [zr 2 (by omega)]; exact i_0
        · rw [zr 3 (by omega)]; exact i_0
      · exact tt s' hs' e
    · have c := i_lt.mp (nle c)
      rw [show (4 : Int32).toInt = 4 from by decide, ek] at c
      have ia := i_17 es hs ek (by omega)
      have ib : ((4 * l2) + l3).toInt = ((4 * s + k : Nat) : Int) := by rw [i_add (i_4s es hs) ek (by omega)]; omega
      refine ⟨i_vp ia (by omega), i_vp ib (by omega), ?_⟩
      rw [i_nat ia, i_nat ib]
      refine ih (l3 + 1) (k + 1) _ (i_inc ek (by omega)) (by omega) (by omega) (Ok_w (Ok_w ok (k := 45) (j := 17 + 4 * s + k) (lo := -2147483648) (hi := 2147483647) (rgg_45_0 (by omega) (by omega)) (R_full _) (by decide) (nt_45 (by first | omega | decide))) (k := 47) (rgc_47 _) (R_full _) (by decide) (nt_k (by decide))) (w47_0 (w45_0 e0 (by omega))) (Z45_o (Z45_w zz (by omega)) (by decide)) (fun s' hs' hn' => tq_o (tq_w (tt s' hs' hn') (by omega)) (by decide)) (fun i hi => ?_)
      rw [wI_o (by decide), wI_i]
      by_cases e : i = k
      · rw [if_pos (by omega)]
      · rw [if_neg (by omega)]
        exact zr i (by omega)
set_option maxRecDepth 100000 in
set_option maxHeartbeats 4000000 in
theorem t_goesAway_2 {g : gT} {h0 : mh_T} {P : mh_T → Prop} (l1 m : Int32) (fm : R 1 8 m) (hp : ∀ h', Ok [45, 47] h0 h' → mI h' 45 (Int32.toNatClampNeg 0) = m - 1 → Z45 h0 h' → TQ (h'.1 45) 0 → P h') : ∀ n : Nat, (∀ (l2 : Int32) (s : Nat) (h : mh_T), l2.toInt = (s : Int) → s < 8 → 10 * (8 - s) + 9 < n → Ok [45, 47] h0 h → mI h 45 (Int32.toNatClampNeg 0) = m → Z45 h0 h → TQ (h.1 45) 0 → ME g uX11_goesAway 2 [.ref 11, .int l1, .int l2, .retAddr 0] [] h (qV P)) ∧ (∀ (l2 l3 : Int32) (s k : Nat) (h : mh_T), l2.toInt = (s : Int) → s < 7 → l3.toInt = (k : Int) → k ≤ 4 → 10 * (8 - s) + (4 - k) < n → Ok [45, 47] h0 h → mI h 45 (Int32.toNatClampNeg 0) = m → Z45 h0 h → (∀ s', s' < 8 → s' ≠ s → tq (h.1 45) 0 s') → (∀ i, i < k → h.1 45 (17 + 4 * s + i) = h.1 45 (17 + 4 * (s + 1) + i)) → ME g uX11_goesAway 54 [.ref 11, .int l1, .int l2, .int l3] [] h (qV P)) := by
  intro n
  induction n with
  | zero => exact ⟨fun _ _ _ _ _ hn => absurd hn (Nat.not_lt_zero _), fun _ _ _ _ _ _ _ _ _ hn => absurd hn (Nat.not_lt_zero _)⟩
  | succ n ih =>
    have c1 : R 1 1 1 := ⟨by decide, by decide⟩
    have c9 : R 9 9 9 := ⟨by decide, by decide⟩
    have fm2 := fm.2
    refine ⟨fun l2 s h es hs hn ok e zz tt => ?_, fun l2 l3 s k h es hs ek hk hn ok e zz tt cc => ?_⟩
    · have e21 := i_inc es (by omega)
      have f2 : R 0 7 l2 := ⟨by omega, by omega⟩
      refine r_X11_goesAway_2 l1 l2 ⟨fun _ x2 e2 => ?_, fun c => ?_⟩
      · have e2 : x2 = m - 1 := by rw [e2, mI_wI, if_pos ⟨rfl, rfl⟩, e]
        have fx : R 0 7 x2 := by rw [e2]; exact R_sub fm c1 0 7 (by decide)
        have fa : R 1 8 (1 + x2) := R_add c1 fx 1 8 (by decide)
        have fb : R 9 16 (9 + x2) := R_add c9 fx 9 16 (by decide)
        obtain ⟨q, eq, _, hq⟩ := i_R fx (by decide)
        rw [e, ← e2]
        have a1 : 1 ≤ (1 + x2).toNatClampNeg := ix_ge fa (m := 1) (by decide)
        have a2 : (1 + x2).toNatClampNeg ≤ 8 := ix_le fa (m := 8) (by decide)
        have b1 : 9 ≤ (9 + x2).toNatClampNeg := ix_ge fb (m := 9) (by decide)
        have b2 : (9 + x2).toNatClampNeg ≤ 16 := ix_le fb (m := 16) (by decide)
        have o1 := Ok_w ok (k := 45) (j := Int32.toNatClampNeg 0) (v := x2) (lo := 0) (hi := 8) (by decide) (R_w fx (by decide)) (by decide) (nt_45 (by first | omega | decide))
        have o2 := Ok_w o1 (k := 45) (j := (1 + x2).toNatClampNeg) (v := 0) (lo := -1) (hi := 5) (rgp_45_1 a1 a2) ⟨by decide, by decide⟩ (by decide) (nt_45 (by first | omega | decide))
        have o3 := Ok_w o2 (k := 45) (j := (9 + x2).toNatClampNeg) (v := 0) (lo := -2) (hi := 5) (rgp_45_2 b1 b2) ⟨by decide, by decide⟩ (by decide) (nt_45 (by first | omega | decide))
        refine ⟨vin fa (by decide), vin fb (by decide), t_goesAway_159 l1 x2 (m - 1) q eq (by omega) hp 5 0 0 _ (by decide) (Nat.zero_le _) (by omega) o3 ?_ (Z45_w (Z45_w (Z45_w zz (by decide)) (by omega)) (by omega)) (fun s' hs' _ => tq_w (tq_w (tq_w (tt s' hs') (Or.inl (by show 0 < _; omega))) (by omega)) (by omega)) (fun i hi => absurd hi (Nat.not_lt_zero _))⟩
        refine w45_0 (w45_0 ?_ a1) (by omega)
        rw [mI_wI, if_pos ⟨rfl, rfl⟩, e2]
      · rw [e] at c
        have c := lt_ti (nle c)
        have hs7 : s < 7 := by omega
        have g2 : R 0 6 l2 := ⟨by omega, by omega⟩
        have fa : R 1 7 (1 + l2) := R_add c1 g2 1 7 (by decide)
        have fa1 : R 2 8 ((1 + l2) + 1) := R_add fa c1 2 8 (by decide)
        have fb : R 9 15 (9 + l2) := R_add c9 g2 9 15 (by decide)
        have fb1 : R 10 16 ((9 + l2) + 1) := R_add fb c1 10 16 (by decide)
        have a1 : 1 ≤ (1 + l2).toNatClampNeg := ix_ge fa (m := 1) (by decide)
        have a2 : (1 + l2).toNatClampNeg ≤ 8 := ix_le fa (m := 8) (by decide)
        have b1 : 9 ≤ (9 + l2).toNatClampNeg := ix_ge fb (m := 9) (by decide)
        have b2 : (9 + l2).toNatClampNeg ≤ 16 := ix_le fb (m := 16) (by decide)
        have va : R (-1) 5 (mI h 45 ((1 + l2) + 1).toNatClampNeg) := GI_rd ok.1 45 _ (rgp_45_1 (ix_ge fa1 (by decide)) (ix_le fa1 (by decide)))
        have o1 := Ok_w ok (k := 45) (j := (1 + l2).toNatClampNeg) (v := mI h 45 ((1 + l2) + 1).toNatClampNeg) (lo := -1) (hi := 5) (rgp_45_1 a1 a2) va (by decide) (nt_45 (by first | omega | decide))
        have vb : R (-2) 5 (mI (wI h 45 (1 + l2).toNatClampNeg (mI h 45 ((1 + l2) + 1).toNatClampNeg)) 45 ((9 + l2) + 1).toNatClampNeg) := GI_rd o1.1 45 _ (rgp_45_2 (ix_ge fb1 (by decide)) (ix_le fb1 (by decide)))
        have o2 := Ok_w o1 (k := 45) (j := (9 + l2).toNatClampNeg) (v := mI (wI h 45 (1 + l2).toNatClampNeg (mI h 45 ((1 + l2) + 1).toNatClampNeg)) 45 ((9 + l2) + 1).toNatClampNeg) (lo := -2) (hi := 5) (rgp_45_2 b1 b2) vb (by decide) (nt_45 (by first | omega | decide))
        exact ⟨vin fa1 (by decide), vin fa (by decide), vin fb1 (by decide), vin fb (by decide), ih.2 l2 0 s 0 _ es hs7 (by decide) (Nat.zero_le _) (by omega) o2 (w45_0 (w45_0 e a1) (by omega)) (Z45_w (Z45_w zz (by omega)) (by omega)) (fun s' hs' _ => tq_w (tq_w (tt s' hs') (by omega)) (by omega)) (fun i hi => absurd hi (Nat.not_lt_zero _))⟩
    · refine r_X11_goesAway_54 l1 l2 l3 ⟨fun c => ?_, fun c => ?_⟩
      · have c := i_le.mp c
        rw [show (4 : Int32).toInt = 4 from by decide, ek] at c
        refine ih.1 (l2 + 1) (s + 1) h (i_inc es (by omega)) (by omega) (by omega) ok e zz (TQ_i (fun s' hs' => ?_))
        by_cases e' : s' = s
        · subst e'
          have t1 := tq_g (tt (s' + 1) (by omega) (by omega))
          have y0 := cc 0 (by omega)
          rw [Nat.add_zero, Nat.add_zero] at y0
          refine tq_v rfl rfl rfl rfl ?_
          rw [y0, cc 1 (by omega), cc 2 (by omega), cc 3 (by omega)]
          exact t1
        · exact tt s' hs' e'
      · have c := i_lt.mp (nle c)
        rw [show (4 : Int32).toInt = 4 from by decide, ek] at c
        have e4 := i_4s es (show s < 8 by omega)
        have ia := i_17 es (show s < 8 by omega) ek (by omega)
        have ia4 : (((17 + (4 * l2)) + 4) + l3).toInt = ((17 + 4 * (s + 1) + k : Nat) : Int) := by rw [i_add (i_add (i_add (show (17 : Int32).toInt = 17 from by decide) e4 (by omega)) (show (4 : Int32).toInt = 4 from by decide) (by omega)) ek (by omega)]; omega
        have ib : ((4 * l2) + l3).toInt = ((4 * s + k : Nat) : Int) := by rw [i_add e4 ek (by omega)]; omega
        have ib4 : (((4 * l2) + 4) + l3).toInt = ((4 * (s + 1) + k : Nat) : Int) := by rw [i_add (i_add e4 (show (4 : Int32).toInt = 4 from by decide) (by omega)) ek (by omega)]; omega
        refine ⟨i_vp ia4 (by omega), i_vp ia (by omega), i_vp ib4 (by omega), i_vp ib (by omega), ?_⟩
        rw [i_nat ia, i_nat ia4, i_nat ib, i_nat ib4]
        refine ih.2 l2 (l3 + 1) s (k + 1) _ es hs (i_inc ek (by omega)) (by omega) (by omega) (Ok_w (Ok_w ok (k := 45) (j := 17 + 4 * s + k) (lo := -2147483648) (hi := 2147483647) (rgg_45_0 (by omega) (by omega)) (R_full _) (by decide) (nt_45 (by first | omega | decide))) (k := 47) (rgc_47 _) (R_full _) (by decide) (nt_k (by decide))) (w47_0 (w45_0 e (by omega))) (Z45_o (Z45_w zz (by omega)) (by decide)) (fun s' hs' hn' => tq_o (tq_w (tt s' hs' hn') (by omega)) (by decide)) (fun i hi => ?_)
        rw [wI_o (by decide), wI_i, wI_i, if_neg (show ¬ 17 + 4 * (s + 1) + i = 17 + 4 * s + k by omega)]
        by_cases e' : i = k
        · rw [if_pos (by omega), e']
          rfl
        · rw [if_neg (by omega)]
          exact cc i (by omega)
theorem t_goesAway {g : gT} {h : mh_T} {P : mh_T → Prop} (l1 : Int32) (hG : GI h) (fl1 : R 0 7 l1) (fm : R 1 8 (mI h 45 (Int32.toNatClampNeg 0))) (t : TQ (h.1 45) 0) (hp : ∀ h', Ok [45, 47] h h' → mI h' 45 (Int32.toNatClampNeg 0) = (mI h 45 (Int32.toNatClampNeg 0)) - 1 → Z45 h h' → TQ (h'.1 45) 0 → P h') : MCv g yX11_goesAway uX11_goesAway [.ref 11, .int l1] h P := by
  obtain ⟨s, es, _, hs⟩ := i_R fl1 (by decide)
  exact e_X11_goesAway l1 ((t_goesAway_2 l1 _ fm hp 100).1 l1 s h es (by omega) (by omega) (Ok_rf hG) rfl (Z45_rf h) t)
theorem t_isNot {g : gT} {h0 h1 : mh_T} {P : Int32 → mh_T → Prop} (o1 : Ok msA h0 h1) (t1 : TVs h1) (hp : ∀ (v : Int32) (h' : mh_T), Ok msA h0 h' → TVs h' → P v h') (l : Int32) (l4 : ¬ l = 4 := by decide) : MCi g yX11_isNot uX11_isNot [.ref 11, .int l] h1 (fun r6 h5 => (r6 = 0 ∨ r6 = 1) ∧ P r6 h5) := e_X11_isNot l ⟨Or.inl rfl, hp 0 _ (Ok_w11 o1 l4 (by decide)) (TVs_11 t1)⟩
theorem u_X11_drop {g : gT} {h : mh_T} {P : Int32 → mh_T → Prop} (l1 : Int32) (hG : GI h) (hI : TVs h) (hp : ∀ (v : Int32) (h' : mh_T), Ok msA h h' → TVs h' → ¬ mI h' 11 11 = 4 → P v h') : MCi g yX11_drop uX11_drop [.ref 11, .int l1] h P := by
  refine e_X11_drop l1 (s_X11_good hG (fun h1 k1 t4 => ?_))
  have o1 : Ok msA h h1 := Ok_mono k1 (by decide)
  have hp : ∀ (v : Int32) (h' : mh_T), Ok msA h1 h' → TVs h' → P v h' := fun v h' k t => hp v h' (Ok_tr o1 k (by decide)) t (k.2.2.2.2.2.2.1 t4)
  have o1 : Ok msA h1 h1 := Ok_rf o1.1
  have t1 : TVs h1 := TVs_fr k1.2.1 (by decide) hI
  refine s_X11_isSet l1 o1.1 (fun v _ hv => ⟨fun nz => t_was o1.1 t1 (fun h2 k2 t2 => ?_), fun _ => t_isNot o1 t1 hp 1⟩)
  have o2 := Ok_tr o1 k2 (by decide)
  have fm : R 1 8 (mI h2 45 (Int32.toNatClampNeg 0)) := Ok_rd k2 (by decide) (hv nz).2
  refine t_goesAway l1 o2.1 (hv nz).1 fm t2.1 (fun h3 k3 _ zz tq3 => ?_)
  exact u_X11_did _ _ _ _ _ (Ok_tr o2 k3 (by decide)) (TVs_Z t2 zz tq3) (fun h' ok' t' => ⟨Or.inr rfl, hp 1 h' ok' t'⟩)
/-- two numbers for four -/
theorem fg_TV {h : mh_T} {s : Nat} {u w x y : Int32} (t : TVs h) (hs : s < 8) (hx : 0 ≤ x.toInt) (hy : 0 ≤ y.toInt) (hxy : x.toInt + y.toInt ≤ 240) : TVs (wI (wI (wI (wI (wI (wI h 45 (1 + s) u) 45 (9 + s) w) 45 (17 + 4 * s) x) 45 (17 + 4 * s + 1) y) 45 (17 + 4 * s + 2) 0) 45 (17 + 4 * s + 3) 0) := by
  refine TVs_Z t (Z45_w (Z45_w (Z45_w (Z45_w (Z45_w (Z45_w (Z45_rf h) (by omega)) (by omega)) (by omega)) (by omega)) (by omega)) (by omega)) (TQ_i (fun s' hs' => ?_))
  by_cases e : s' = s
  · subst e
    refine tq_v (a := x.toInt) (b := y.toInt) (c := 0) (d := 0) ?_ ?_ ?_ ?_ (by omega)
    · rw [wI_i, if_neg (by omega), wI_i, if_neg (by omega), wI_i, if_neg (by omega), wI_i, if_pos rfl]
    · rw [wI_i, if_neg (by omega), wI_i, if_neg (by omega), wI_i, if_pos rfl]
    · rw [wI_i, if_neg (by omega), wI_i, if_pos rfl]; exact i_0
    · rw [wI_i, if_pos rfl]; exact i_0
  · exact tq_w (tq_w (tq_w (tq_w (tq_w (tq_w (t.1 s' hs') (by omega)) (by omega)) (by omega)) (by omega)) (by omega)) (by omega)
theorem fg_Ok {h0 h : mh_T} {s : Nat} {u w x y : Int32} (ok : Ok msA h0 h) (hs : s < 8) (fu : R (-1) 5 u) (fw : R (-2) 5 w) : Ok msA h0 (wI (wI (wI (wI (wI (wI h 45 (1 + s) u) 45 (9 + s) w) 45 (17 + 4 * s) x) 45 (17 + 4 * s + 1) y) 45 (17 + 4 * s + 2) 0) 45 (17 + 4 * s + 3) 0) := by
  have o1 := Ok_w ok (k := 45) (j := 1 + s) (v := u) (lo := -1) (hi := 5) (rgp_45_1 (by omega) (by omega)) fu (by decide) (nt_45 (by first | omega | decide))
  have o2 := Ok_w o1 (k := 45) (j := 9 + s) (v := w) (lo := -2) (hi := 5) (rgp_45_2 (by omega) (by omega)) fw (by decide) (nt_45 (by first | omega | decide))
  have o3 := Ok_w o2 (k := 45) (j := 17 + 4 * s) (v := x) (lo := -2147483648) (hi := 2147483647) (rgg_45_0 (by omega) (by omega)) (R_full _) (by decide) (nt_45 (by first | omega | decide))
  have o4 := Ok_w o3 (k := 45) (j := 17 + 4 * s + 1) (v := y) (lo := -2147483648) (hi := 2147483647) (rgg_45_0 (by omega) (by omega)) (R_full _) (by decide) (nt_45 (by first | omega | decide))
  have o5 := Ok_w o4 (k := 45) (j := 17 + 4 * s + 2) (v := 0) (lo := -2147483648) (hi := 2147483647) (rgg_45_0 (by omega) (by omega)) (R_full _) (by decide) (nt_45 (by first | omega | decide))
  exact Ok_w o5 (k := 45) (j := 17 + 4 * s + 3) (v := 0) (lo := -2147483648) (hi := 2147483647) (rgg_45_0 (by omega) (by omega)) (R_full _) (by decide) (nt_45 (by first | omega | decide))
theorem fg_0 {h : mh_T} {s : Nat} {u w x y m : Int32} (e : mI h 45 (Int32.toNatClampNeg 0) = m) : mI (wI (wI (wI (wI (wI (wI h 45 (1 + s) u) 45 (9 + s) w) 45 (17 + 4 * s) x) 45 (17 + 4 * s + 1) y) 45 (17 + 4 * s + 2) 0) 45 (17 + 4 * s + 3) 0) 45 (Int32.toNatClampNeg 0) = m := w45_0 (w45_0 (w45_0 (w45_0 (w45_0 (w45_0 e (by omega)) (by omega)) (by omega)) (by omega)) (by omega)) (by omega)
theorem i_off {x : Int32} {k : Nat} (h : x.toInt = (k : Int)) (c : Int32) (d : Nat) (hc : c.toInt = (d : Int)) (hk : k + d < 2147483647) : (x + c).toInt = ((k + d : Nat) : Int) := by
  rw [i_add h hc (by omega)]
  omega
set_option maxRecDepth 100000 in
set_option maxHeartbeats 4000000 in
theorem t_forget_L {g : gT} {h0 : mh_T} {P : Int32 → mh_T → Prop} (l1 l2 : Int32) (hp : ∀ (v : Int32) (h' : mh_T), Ok msA h0 h' → TVs h' → P v h') : ∀ n : Nat, (∀ (l3 : Int32) (h : mh_T), Ok msA h0 h → TVs h → R (-1) 7 l3 → l3.toInt < (mI h 45 (Int32.toNatClampNeg 0)).toInt → 10 * (l3.toInt + 1).toNat + 9 < n → ME g uX11_forget 107 [.ref 11, .int l1, .int l2, .int l3, .retAddr 0, .retAddr 0, .retAddr 0, .retAddr 0, .retAddr 0] [] h (qI P)) ∧ (∀ (l3 l4 l5 l6 l7 l8 : Int32) (h : mh_T), Ok msA h0 h → TVs h → R 0 7 l3 → l3.toInt < (mI h 45 (Int32.toNatClampNeg 0)).toInt → R 0 4 l8 → 10 * (l3.toInt + 1).toNat + gap 4 l8 < n → ME g uX11_forget 360 [.ref 11, .int l1, .int l2, .int l3, .int l4, .int l5, .int l6, .int l7, .int l8] [] h (qI P)) := by
  intro n
  induction n with
  | zero => exact ⟨fun _ _ _ _ _ _ hn => absurd hn (Nat.not_lt_zero _), fun _ _ _ _ _ _ _ _ _ _ _ _ hn => absurd hn (Nat.not_lt_zero _)⟩
  | succ n ih =>
    have c1 : R 1 1 1 := ⟨by decide, by decide⟩
    have c4 : R 4 4 4 := ⟨by decide, by decide⟩
    have z0 : R 0 4 0 := ⟨by decide, by decide⟩
    have g0 := gap_le (N := 4) z0 (m := 4) (by decide)
    refine ⟨fun l3 h ok t f3 lt hn => ?_, fun l3 l4 l5 l6 l7 l8 h ok t f3 lt f8 hn => ?_⟩
    · refine r_X11_forget_107 l1 l2 l3 ⟨fun _ => u_X11_did _ _ _ _ _ ok t (fun h' ok' t' => ⟨Or.inr rfl, hp 1 h' ok' t'⟩), fun c => ?_⟩
      have c : ¬ l3.toInt < (0 : Int32).toInt := fun z => c (i_lt.mpr z)
      rw [i_0] at c
      have g3 : R 0 7 l3 := ⟨by omega, f3.2⟩
      obtain ⟨s, es, _, hs⟩ := i_R g3 (by decide)
      have dec := ti_dec g3 (by decide)
      have g3' : R (-1) 7 (l3 + (-1)) := ⟨by omega, by omega⟩
      have nx : ∀ h' : mh_T, Ok msA h0 h' → TVs h' → l3.toInt - 1 < (mI h' 45 (Int32.toNatClampNeg 0)).toInt → ME g uX11_forget 107 [.ref 11, .int l1, .int l2, .int (l3 + (-1)), .retAddr 0, .retAddr 0, .retAddr 0, .retAddr 0, .retAddr 0] [] h' (qI P) := fun h' ok' t' lt' => ih.1 (l3 + (-1)) h' ok' t' g3' (by omega) (by omega)
      have j1 : (1 + l3).toInt = ((1 + s : Nat) : Int) := by rw [i_add (show (1 : Int32).toInt = 1 from by decide) es (by omega)]; omega
      have j9 : (9 + l3).toInt = ((9 + s : Nat) : Int) := by rw [i_add (show (9 : Int32).toInt = 9 from by decide) es (by omega)]; omega
      have v1 : vp_in (1 + l3) 346 := i_vp j1 (by omega)
      have v9 : vp_in (9 + l3) 346 := i_vp j9 (by omega)
      have fm : R 0 8 (mI h 45 (Int32.toNatClampNeg 0)) := GI_rd ok.1 45 0 rfl
      have fm' : R 1 8 (mI h 45 (Int32.toNatClampNeg 0)) := ⟨by omega, fm.2⟩
      have away : MCv g yX11_goesAway uX11_goesAway [.ref 11, .int l3] h (fun h28 => ME g uX11_forget 107 [.ref 11, .int l1, .int l2, .int (l3 + (-1)), .retAddr 0, .retAddr 0, .retAddr 0, .retAddr 0, .retAddr 0] [] h28 (qI P)) := by
        refine t_goesAway l3 ok.1 g3 fm' t.1 (fun h2 k2 e2 zz tq2 => nx h2 (Ok_tr ok k2 (by decide)) (TVs_Z t zz tq2) ?_)
        rw [e2, sub1, ti_dec fm' (by decide)]
        omega
      have tg := tq_g (t.1 s (by omega))
      have r1 : R (-1) 5 (mI h 45 (1 + s)) := GI_rd ok.1 45 _ (rgp_45_1 (by omega) (by omega))
      have r9 : R (-2) 5 (mI h 45 (9 + s)) := GI_rd ok.1 45 _ (rgp_45_2 (by omega) (by omega))
      have fn2 : R (-2) 5 (-2) := ⟨by decide, by decide⟩
      rw [i_nat j1, i_nat j9]
      have e17 : ∀ x : Int32, x = 17 + (4 * l3) → x.toInt = ((17 + 4 * s : Nat) : Int) := fun x ex => by rw [ex, i_add (show (17 : Int32).toInt = 17 from by decide) (i_4s es (by omega)) (by omega)]; omega
      have mrg : ∀ (u x y l4 l5 l6 l7 : Int32), R (-1) 5 u → 0 ≤ x.toInt → 0 ≤ y.toInt → x.toInt + y.toInt ≤ 240 → ME g uX11_forget 360 [.ref 11, .int l1, .int l2, .int l3, .int l4, .int l5, .int l6, .int l7, .int 0] [] (wI (wI (wI (wI (wI (wI h 45 (1 + s) u) 45 (9 + s) (-2)) 45 (17 + 4 * s) x) 45 (17 + 4 * s + 1) y) 45 (17 + 4 * s + 2) 0) 45 (17 + 4 * s + 3) 0) (qI P) := fun u x y l4 l5 l6 l7 fu hx hy hxy => ih.2 l3 l4 l5 l6 l7 0 _ (fg_Ok ok (by omega) fu fn2) (fg_TV t (by omega) hx hy hxy) g3 (by rw [fg_0 rfl]; exact lt) z0 (by omega)
      refine ⟨v1, fun _ => ⟨v9, fun _ => ⟨v9, fun _ x11 e11 => ?_, fun _ => away⟩, fun _ => nx h ok t (by omega)⟩, fun _ => ⟨v9, fun ne2 x32 e32 => ?_, fun _ => away⟩⟩
      · have k0 := e17 x11 e11
        have k1 := i_off k0 1 1 (by decide) (by omega)
        have k2 := i_off k0 2 2 (by decide) (by omega)
        have k3 := i_off k0 3 3 (by decide) (by omega)
        refine ⟨i_vp k0 (by omega), i_vp k1 (by omega), fun x15 e15 => ⟨i_vp k2 (by omega), i_vp k3 (by omega), fun x19 e19 => ⟨v1, v1, v9, i_vp k0 (by omega), i_vp k1 (by omega), i_vp k2 (by omega), i_vp k3 (by omega), ?_⟩⟩⟩
        rw [i_nat k0, i_nat k1] at e15
        rw [i_nat k2, i_nat k3] at e19
        rw [i_nat k0, i_nat k1, i_nat k2, i_nat k3]
        have w1 : x15.toInt = (h.1 45 (17 + 4 * s)).toInt + (h.1 45 (17 + 4 * s + 1)).toInt := by rw [e15]; exact i_add (x := mI h 45 (17 + 4 * s)) (y := mI h 45 (17 + 4 * s + 1)) rfl rfl (by show -2147483648 ≤ (h.1 45 (17 + 4 * s)).toInt + (h.1 45 (17 + 4 * s + 1)).toInt ∧ (h.1 45 (17 + 4 * s)).toInt + (h.1 45 (17 + 4 * s + 1)).toInt ≤ 2147483647; omega)
        have w2 : x19.toInt = (h.1 45 (17 + 4 * s + 2)).toInt + (h.1 45 (17 + 4 * s + 3)).toInt := by rw [e19]; exact i_add (x := mI h 45 (17 + 4 * s + 2)) (y := mI h 45 (17 + 4 * s + 3)) rfl rfl (by show -2147483648 ≤ (h.1 45 (17 + 4 * s + 2)).toInt + (h.1 45 (17 + 4 * s + 3)).toInt ∧ (h.1 45 (17 + 4 * s + 2)).toInt + (h.1 45 (17 + 4 * s + 3)).toInt ≤ 2147483647; omega)
        exact mrg _ x15 x19 _ _ _ _ r1 (by omega) (by omega) (by omega)
      · have k0 := e17 x32 e32
        have k1 := i_off k0 1 1 (by decide) (by omega)
        have k2 := i_off k0 2 2 (by decide) (by omega)
        have k3 := i_off k0 3 3 (by decide) (by omega)
        refine ⟨i_vp k0 (by omega), i_vp k2 (by omega), fun x36 e36 => ⟨i_vp k1 (by omega), i_vp k3 (by omega), fun x40 e40 => ⟨v9, v1, v9, i_vp k0 (by omega), i_vp k1 (by omega), i_vp k2 (by omega), i_vp k3 (by omega), ?_⟩⟩⟩
        rw [i_nat k0, i_nat k2] at e36
        rw [i_nat k1, i_nat k3] at e40
        rw [i_nat k0, i_nat k1, i_nat k2, i_nat k3]
        have w1 : x36.toInt = (h.1 45 (17 + 4 * s)).toInt + (h.1 45 (17 + 4 * s + 2)).toInt := by rw [e36]; exact i_add (x := mI h 45 (17 + 4 * s)) (y := mI h 45 (17 + 4 * s + 2)) rfl rfl (by show -2147483648 ≤ (h.1 45 (17 + 4 * s)).toInt + (h.1 45 (17 + 4 * s + 2)).toInt ∧ (h.1 45 (17 + 4 * s)).toInt + (h.1 45 (17 + 4 * s + 2)).toInt ≤ 2147483647; omega)
        have w2 : x40.toInt = (h.1 45 (17 + 4 * s + 1)).toInt + (h.1 45 (17 + 4 * s + 3)).toInt := by rw [e40]; exact i_add (x := mI h 45 (17 + 4 * s + 1)) (y := mI h 45 (17 + 4 * s + 3)) rfl rfl (by show -2147483648 ≤ (h.1 45 (17 + 4 * s + 1)).toInt + (h.1 45 (17 + 4 * s + 3)).toInt ∧ (h.1 45 (17 + 4 * s + 1)).toInt + (h.1 45 (17 + 4 * s + 3)).toInt ≤ 2147483647; omega)
        exact mrg _ x36 x40 _ _ _ _ (rf_ne_lo r9 ne2 (by decide) (-1) (by decide)) (by omega) (by omega) (by omega)
    · have dec := ti_dec f3 (by decide)
      have f31 := f3.1
      have f32 := f3.2
      refine r_X11_forget_360 l1 l2 l3 l4 l5 l6 l7 l8 ⟨fun _ => ih.1 (l3 + (-1)) h ok t ⟨by omega, by omega⟩ (by omega) (by omega), fun c => ?_⟩
      have g8 : R 0 3 l8 := rf_lt_l f8 c4 (nle c) 3 (by decide)
      have gi := gap_inc (N := 4) g8 (by decide)
      have fx : R 0 31 ((4 * l3) + l8) := R_add (R_mul c4 f3 0 28 (by decide)) g8 0 31 (by decide)
      refine ⟨vin fx (by decide), ih.2 l3 l4 l5 l6 l7 (l8 + 1) _ (Ok_w ok (k := 47) (rgc_47 _) (R_full _) (by decide) (nt_k (by decide))) (TVs_Z t (Z45_o (Z45_rf h) (by decide)) (TQ_o t.1 (by decide))) f3 (by rw [w47_0 rfl]; exact lt) (R_add g8 c1 0 4 (by decide)) (by omega)⟩
set_option maxRecDepth 100000 in
set_option maxHeartbeats 4000000 in
theorem t_forget_22 {g : gT} {h0 h : mh_T} {P : Int32 → mh_T → Prop} (l1 : Int32) (ok : Ok msA h0 h) (t : TVs h) (hp : ∀ (v : Int32) (h' : mh_T), Ok msA h0 h' → TVs h' → P v h') : ∀ (n : Nat) (l2 l3 : Int32), R 0 8 l3 → gap 8 l3 < n → ME g uX11_forget 22 [.ref 11, .int l1, .int l2, .int l3, .retAddr 0, .retAddr 0, .retAddr 0, .retAddr 0, .retAddr 0] [] h (qI P) := by
  intro n
  induction n with
  | zero => intro l2 l3 _ hn; exact absurd hn (Nat.not_lt_zero _)
  | succ n ih =>
    intro l2 l3 f3 hn
    have c1 : R 1 1 1 := ⟨by decide, by decide⟩
    have c9 : R 9 9 9 := ⟨by decide, by decide⟩
    have fm : R 0 8 (mI h 45 (Int32.toNatClampNeg 0)) := GI_rd ok.1 45 0 rfl
    refine r_X11_forget_22 l1 l2 l3 ⟨fun _ => ⟨fun _ => t_was ok.1 t (fun h2 k2 t2 x4 e4 => ?_), fun _ => t_isNot ok t hp 5⟩, fun c => ?_⟩
    · have o2 := Ok_tr ok k2 (by decide)
      have fm2 : R 0 8 (mI h2 45 (Int32.toNatClampNeg 0)) := GI_rd o2.1 45 0 rfl
      have a1 := fm2.1
      have a2 := fm2.2
      have ex : x4.toInt = (mI h2 45 (Int32.toNatClampNeg 0)).toInt - 1 := by rw [e4, sub1, ti_dec fm2 (by decide)]
      exact (t_forget_L l1 l2 hp 200).1 x4 h2 o2 t2 ⟨by omega, by omega⟩ (by omega) (by omega)
    · have g3 : R 0 7 l3 := rf_lt_l f3 fm (nle c) 7 (by decide)
      have gi := gap_inc (N := 8) g3 (by decide)
      have nx : ∀ l2 : Int32, ME g uX11_forget 22 [.ref 11, .int l1, .int l2, .int (l3 + 1), .retAddr 0, .retAddr 0, .retAddr 0, .retAddr 0, .retAddr 0] [] h (qI P) := fun l2 => ih l2 (l3 + 1) (R_add g3 c1 0 8 (by decide)) (by omega)
      exact ⟨fun _ => nx 1, fun _ => ⟨vin (R_add c1 g3 1 8 (by decide)) (by decide), fun _ => nx 1, fun _ => ⟨vin (R_add c9 g3 9 16 (by decide)) (by decide), fun _ => nx 0, fun _ => nx 1⟩⟩⟩
theorem u_X11_forget {g : gT} {h : mh_T} {P : Int32 → mh_T → Prop} (l1 : Int32) (hG : GI h) (hI : TVs h) (hp : ∀ (v : Int32) (h' : mh_T), Ok msA h h' → TVs h' → ¬ mI h' 11 11 = 4 → P v h') : MCi g yX11_forget uX11_forget [.ref 11, .int l1] h P := by
  refine e_X11_forget l1 (s_X11_good hG (fun h1 k1 t4 => ?_))
  have o1 : Ok msA h h1 := Ok_mono k1 (by decide)
  have hp : ∀ (v : Int32) (h' : mh_T), Ok msA h1 h' → TVs h' → P v h' := fun v h' k t => hp v h' (Ok_tr o1 k (by decide)) t (k.2.2.2.2.2.2.1 t4)
  have o1 : Ok msA h1 h1 := Ok_rf o1.1
  have t1 : TVs h1 := TVs_fr k1.2.1 (by decide) hI
  have z0 : R 0 8 0 := ⟨by decide, by decide⟩
  have g0 := gap_le (N := 8) z0 (m := 8) (by decide)
  exact t_isLook l1 o1.1 (fun v _ => ⟨fun _ => t_forget_22 l1 o1 t1 hp 10 0 0 z0 (by omega), fun _ => t_isNot o1 t1 hp 1⟩)
