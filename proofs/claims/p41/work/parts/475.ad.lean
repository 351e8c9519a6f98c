/-! flip, drop, forget, shift, undo, redo, mark, back of the reference -/
theorem TQ_i {f : Nat → Int32} (h : ∀ s, s < 8 → tq f 0 s) : TQ f 0 := h
theorem tq_x {f g : Nat → Int32} {s : Nat} (t : tq f 0 s) (h : ∀ o, o < 4 → g (17 + 4 * s + o) = f (17 + 4 * s + o)) : tq g 0 s := by
  unfold tq at *
  have e0 := h 0 (by omega)
  have e1 := h 1 (by omega)
  have e2 := h 2 (by omega)
  have e3 := h 3 (by omega)
  rw [Nat.add_zero] at e0
  rw [Nat.zero_add] at *
  rw [e0, e1, e2, e3]
  exact t
/-- a set's four numbers, by what they come to -/
theorem tq_v {g : Nat → Int32} {s : Nat} {a b c d : Int} (h0 : (g (17 + 4 * s)).toInt = a) (h1 : (g (17 + 4 * s + 1)).toInt = b) (h2 : (g (17 + 4 * s + 2)).toInt = c) (h3 : (g (17 + 4 * s + 3)).toInt = d) (h : 0 ≤ a ∧ 0 ≤ b ∧ 0 ≤ c ∧ 0 ≤ d ∧ a + b + c + d ≤ 240) : tq g 0 s := by
  unfold tq
  rw [Nat.zero_add, h0, h1, h2, h3]
  exact h
theorem tq_g {f : Nat → Int32} {s : Nat} (t : tq f 0 s) : 0 ≤ (f (17 + 4 * s)).toInt ∧ 0 ≤ (f (17 + 4 * s + 1)).toInt ∧ 0 ≤ (f (17 + 4 * s + 2)).toInt ∧ 0 ≤ (f (17 + 4 * s + 3)).toInt ∧ (f (17 + 4 * s)).toInt + (f (17 + 4 * s + 1)).toInt + (f (17 + 4 * s + 2)).toInt + (f (17 + 4 * s + 3)).toInt ≤ 240 := by
  unfold tq at t
  rw [Nat.zero_add] at t
  exact t
/-- two numbers of a set change places, or n goes from one to the other -/
theorem tq_2 {f g : Nat → Int32} {s o p : Nat} (t : tq f 0 s) (ho : o < 4) (hp : p < 4) (hop : o ≠ p) (ge : ∀ i, i < 4 → i ≠ o → i ≠ p → g (17 + 4 * s + i) = f (17 + 4 * s + i)) (g0 : 0 ≤ (g (17 + 4 * s + o)).toInt) (g1 : 0 ≤ (g (17 + 4 * s + p)).toInt) (gs : (g (17 + 4 * s + o)).toInt + (g (17 + 4 * s + p)).toInt = (f (17 + 4 * s + o)).toInt + (f (17 + 4 * s + p)).toInt) : tq g 0 s := by
  have t := tq_g t
  have e0 := ge 0 (by omega)
  have e1 := ge 1 (by omega)
  have e2 := ge 2 (by omega)
  have e3 := ge 3 (by omega)
  rw [Nat.add_zero] at e0
  refine tq_v rfl rfl rfl rfl ?_
  have ho' : o = 0 ∨ o = 1 ∨ o = 2 ∨ o = 3 := by omega
  have hp' : p = 0 ∨ p = 1 ∨ p = 2 ∨ p = 3 := by omega
  rcases ho' with z | z | z | z <;> rcases hp' with y | y | y | y <;> subst z <;> subst y
  · exact absurd rfl hop
  · simp only [Nat.add_zero] at g0 g1 gs; rw [e2 (by omega) (by omega), e3 (by omega) (by omega)]; omega
  · simp only [Nat.add_zero] at g0 g1 gs; rw [e1 (by omega) (by omega), e3 (by omega) (by omega)]; omega
  · simp only [Nat.add_zero] at g0 g1 gs; rw [e1 (by omega) (by omega), e2 (by omega) (by omega)]; omega
  · simp only [Nat.add_zero] at g0 g1 gs; rw [e2 (by omega) (by omega), e3 (by omega) (by omega)]; omega
  · exact absurd rfl hop
  · rw [e0 (by omega) (by omega), e3 (by omega) (by omega)]; omega
  · rw [e0 (by omega) (by omega), e2 (by omega) (by omega)]; omega
  · simp only [Nat.add_zero] at g0 g1 gs; rw [e1 (by omega) (by omega), e3 (by omega) (by omega)]; omega
  · rw [e0 (by omega) (by omega), e3 (by omega) (by omega)]; omega
  · exact absurd rfl hop
  · rw [e0 (by omega) (by omega), e1 (by omega) (by omega)]; omega
  · simp only [Nat.add_zero] at g0 g1 gs; rw [e1 (by omega) (by omega), e2 (by omega) (by omega)]; omega
  · rw [e0 (by omega) (by omega), e2 (by omega) (by omega)]; omega
  · rw [e0 (by omega) (by omega), e1 (by omega) (by omega)]; omega
  · exact absurd rfl hop
theorem wI_o {h : mh_T} {k j q : Nat} {v : Int32} (hk : q ≠ k) : (wI h k j v).1 q = h.1 q := by
  funext b
  show mI (wI h k j v) q b = _
  rw [mI_wI, if_neg (fun z => hk z.1)]
  rfl
theorem wI_i {h : mh_T} {k j : Nat} {v : Int32} (b : Nat) : (wI h k j v).1 k b = if b = j then v else h.1 k b := by
  show mI (wI h k j v) k b = _
  rw [mI_wI]
  by_cases e : b = j
  · rw [if_pos ⟨rfl, e⟩, if_pos e]
  · rw [if_neg (fun z => e z.2), if_neg e]
    rfl
/-- what of cell 45 and of the kept tables stays while a set's numbers change -/
def Z45 (h h' : mh_T) : Prop := h'.1 48 = h.1 48 ∧ h'.1 49 = h.1 49 ∧ h'.1 50 = h.1 50 ∧ h'.1 51 = h.1 51 ∧ h'.1 45 49 = h.1 45 49 ∧ h'.1 45 50 = h.1 45 50
theorem Z45_rf (h : mh_T) : Z45 h h := ⟨rfl, rfl, rfl, rfl, rfl, rfl⟩
theorem Z45_w {h0 h : mh_T} {j : Nat} {v : Int32} (z : Z45 h0 h) (hj : j ≠ 49 ∧ j ≠ 50) : Z45 h0 (wI h 45 j v) := by
  obtain ⟨a, b, c, d, e, f⟩ := z
  refine ⟨?_, ?_, ?_, ?_, ?_, ?_⟩
  · rw [wI_o (by decide)]; exact a
  · rw [wI_o (by decide)]; exact b
  · rw [wI_o (by decide)]; exact c
  · rw [wI_o (by decide)]; exact d
  · rw [wI_i, if_neg (fun z => hj.1 z.symm)]; exact e
  · rw [wI_i, if_neg (fun z => hj.2 z.symm)]; exact f
theorem Z45_o {h0 h : mh_T} {k j : Nat} {v : Int32} (z : Z45 h0 h) (hk : k ≠ 45 ∧ k ≠ 48 ∧ k ≠ 49 ∧ k ≠ 50 ∧ k ≠ 51) : Z45 h0 (wI h k j v) := by
  obtain ⟨a, b, c, d, e, f⟩ := z
  refine ⟨?_, ?_, ?_, ?_, ?_, ?_⟩
  · rw [wI_o (fun y => hk.2.1 y.symm)]; exact a
  · rw [wI_o (fun y => hk.2.2.1 y.symm)]; exact b
  · rw [wI_o (fun y => hk.2.2.2.1 y.symm)]; exact c
  · rw [wI_o (fun y => hk.2.2.2.2 y.symm)]; exact d
  · rw [wI_o (fun y => hk.1 y.symm)]; exact e
  · rw [wI_o (fun y => hk.1 y.symm)]; exact f
theorem TVs_Z {h h' : mh_T} (t : TVs h) (z : Z45 h h') (a : TQ (h'.1 45) 0) : TVs h' := TVs_45 t a z.1 z.2.1 z.2.2.1 z.2.2.2.1 z.2.2.2.2.1 z.2.2.2.2.2
theorem i_4s {l : Int32} {s : Nat} (h : l.toInt = (s : Int)) (hs : s < 8) : (4 * l).toInt = ((4 * s : Nat) : Int) := by
  rw [Int32.toInt_mul, show (4 : Int32).toInt = 4 from by decide, h, bm (by omega) (by omega)]
  omega
theorem i_17 {l m : Int32} {s o : Nat} (h : l.toInt = (s : Int)) (hs : s < 8) (k : m.toInt = (o : Int)) (ho : o < 4) : ((17 + (4 * l)) + m).toInt = ((17 + 4 * s + o : Nat) : Int) := by
  rw [i_add (i_add (show (17 : Int32).toInt = 17 from by decide) (i_4s h hs) (by omega)) k (by omega)]
  omega
theorem i_R {lo hi : Int} {x : Int32} (f : R lo hi x) (h : 0 ≤ lo) : ∃ k : Nat, x.toInt = (k : Int) ∧ lo ≤ (k : Int) ∧ (k : Int) ≤ hi := ⟨x.toInt.toNat, by have := f.1; omega, by have := f.1; omega, by have := f.2; have := f.1; omega⟩
-- shift
set_option maxRecDepth 100000 in
set_option maxHeartbeats 4000000 in
theorem u_X11_shift {g : gT} {h : mh_T} {P : Int32 → mh_T → Prop} (l1 l2 l3 l4 : Int32) (hG : GI h) (hI : TVs h) (hp : ∀ (v : Int32) (h' : mh_T), Ok msA h h' → TVs h' → ¬ mI h' 11 11 = 4 → P v h') : MCi g yX11_shift uX11_shift [.ref 11, .int l1, .int l2, .int l3, .int l4] h P := by
  refine e_X11_shift l1 l2 l3 l4 (s_X11_good hG (fun h1 k1 t4 => ?_))
  have o1 : Ok msA h h1 := Ok_mono k1 (by decide)
  have hp : ∀ (v : Int32) (h' : mh_T), Ok msA h1 h' → TVs h' → P v h' := fun v h' k t => hp v h' (Ok_tr o1 k (by decide)) t (k.2.2.2.2.2.2.1 t4)
  have o1 : Ok msA h1 h1 := Ok_rf o1.1
  have t1 : TVs h1 := TVs_fr k1.2.1 (by decide) hI
  have no : ∀ (l : Int32), ¬ l = 4 → MCi g yX11_isNot uX11_isNot [.ref 11, .int l] h1 (fun r6 h5 => (r6 = 0 ∨ r6 = 1) ∧ P r6 h5) := fun l l4 => e_X11_isNot l ⟨Or.inl rfl, hp 0 _ (Ok_w11 o1 l4 (by decide)) (TVs_11 t1)⟩
  refine s_X11_isOutcome l1 l2 o1.1 (fun v fv hv => ⟨fun _ => no 1 (by decide), fun nz => s_X11_isOutcome l1 l3 o1.1 (fun v2 fv2 hv2 => ⟨fun _ => no 1 (by decide), fun nz2 => ⟨fun ne => s_X11_within l4 1 60 o1.1 (fun v3 fv3 hv3 => ⟨fun nz3 => ?_, fun _ => no 2 (by decide)⟩), fun _ => no 1 (by decide)⟩⟩)⟩)
  have r1 := (hv nz).1
  have r2 := (hv nz).2
  have r3 := (hv2 nz2).2
  obtain ⟨q1, q2⟩ := hv3 nz3
  have q1 := i_le.mp q1
  have q2 := i_le.mp q2
  rw [show (1 : Int32).toInt = 1 from by decide] at q1
  rw [show (60 : Int32).toInt = 60 from by decide] at q2
  obtain ⟨s, es, _, hs⟩ := i_R r1 (by decide)
  obtain ⟨o, eo, _, ho⟩ := i_R r2 (by decide)
  obtain ⟨p, ep, _, hpp⟩ := i_R r3 (by decide)
  have hop : o ≠ p := fun z => ne (Int32.toInt_inj.mp (by rw [eo, ep, z]))
  have ia := i_17 es (by omega) eo (by omega)
  have ib := i_17 es (by omega) ep (by omega)
  have va : vp_in ((17 + (4 * l1)) + l2) 346 := i_vp ia (by omega)
  have vb : vp_in ((17 + (4 * l1)) + l3) 346 := i_vp ib (by omega)
  rw [i_nat ia, i_nat ib]
  refine ⟨va, fun le => t_was o1.1 t1 (fun h2 k2 t2 => ⟨va, va, vb, vb, ?_⟩), fun _ => no 5 (by decide)⟩
  have o2 := Ok_tr o1 k2 (by decide)
  have e45 := OkC k2 (k := 45) (by decide)
  have le := i_le.mp le
  have le : l4.toInt ≤ (h2.1 45 (17 + 4 * s + o)).toInt := by rw [e45]; exact le
  have tA := TQ_at t2.1 (s := s) (o := o) (by omega) (by omega)
  have tB := TQ_at t2.1 (s := s) (o := p) (by omega) (by omega)
  unfold tx_tm at tA tB
  have w1 : ((mI h2 45 (17 + 4 * s + o)) - l4).toInt = (h2.1 45 (17 + 4 * s + o)).toInt - l4.toInt := i_sub (x := mI h2 45 (17 + 4 * s + o)) rfl rfl (by show -2147483648 ≤ (h2.1 45 (17 + 4 * s + o)).toInt - l4.toInt ∧ (h2.1 45 (17 + 4 * s + o)).toInt - l4.toInt ≤ 2147483647; omega)
  rw [show mI (wI h2 45 (17 + 4 * s + o) ((mI h2 45 (17 + 4 * s + o)) - l4)) 45 (17 + 4 * s + p) = mI h2 45 (17 + 4 * s + p) by rw [mI_wI, if_neg (fun z => by have := z.2; omega)]]
  have w2 : ((mI h2 45 (17 + 4 * s + p)) + l4).toInt = (h2.1 45 (17 + 4 * s + p)).toInt + l4.toInt := i_add (x := mI h2 45 (17 + 4 * s + p)) rfl rfl (by show -2147483648 ≤ (h2.1 45 (17 + 4 * s + p)).toInt + l4.toInt ∧ (h2.1 45 (17 + 4 * s + p)).toInt + l4.toInt ≤ 2147483647; omega)
  have o3 := Ok_w o2 (k := 45) (j := 17 + 4 * s + o) (v := (mI h2 45 (17 + 4 * s + o)) - l4) (lo := -2147483648) (hi := 2147483647) (rgg_45_0 (by omega) (by omega)) (R_full _) (by decide) (nt_45 (by first | omega | decide))
  have o4 := Ok_w o3 (k := 45) (j := 17 + 4 * s + p) (v := (mI h2 45 (17 + 4 * s + p)) + l4) (lo := -2147483648) (hi := 2147483647) (rgg_45_0 (by omega) (by omega)) (R_full _) (by decide) (nt_45 (by first | omega | decide))
  have z2 := Z45_w (v := (mI h2 45 (17 + 4 * s + p)) + l4) (j := 17 + 4 * s + p) (Z45_w (v := (mI h2 45 (17 + 4 * s + o)) - l4) (j := 17 + 4 * s + o) (Z45_rf h2) (by omega)) (by omega)
  refine u_X11_did _ _ _ _ _ o4 (TVs_Z t2 z2 (TQ_i (fun s' hs' => ?_))) (fun h' ok' t' => ⟨Or.inr rfl, hp 1 h' ok' t'⟩)
  by_cases e : s' = s
  · subst e
    refine tq_2 (t2.1 s' hs') (o := o) (p := p) (by omega) (by omega) hop (fun i hi h1 h2 => ?_) ?_ ?_ ?_
    · rw [wI_i, if_neg (by omega), wI_i, if_neg (by omega)]
    · rw [wI_i, if_neg (by omega), wI_i, if_pos rfl, w1]
      omega
    · rw [wI_i, if_pos rfl, w2]
      omega
    · rw [wI_i, if_neg (by omega), wI_i, if_pos rfl, w1, wI_i, if_pos rfl, w2]
      omega
  · refine tq_x (t2.1 s' hs') (fun i hi => ?_)
    rw [wI_i, if_neg (by omega), wI_i, if_neg (by omega)]
/-- a write off the numbers -/
theorem TQ_w {h : mh_T} {j : Nat} {v : Int32} (t : TQ (h.1 45) 0) (hj : j < 17 ∨ 49 ≤ j) : TQ ((wI h 45 j v).1 45) 0 := TQ_i (fun s hs => tq_x (t s hs) (fun i hi => by rw [wI_i, if_neg (by omega)]))
theorem TQ_o {h : mh_T} {k j : Nat} {v : Int32} (t : TQ (h.1 45) 0) (hk : 45 ≠ k) : TQ ((wI h k j v).1 45) 0 := by rw [wI_o hk]; exact t
-- flip
set_option maxRecDepth 100000 in
set_option maxHeartbeats 4000000 in
theorem t_flip_L {g : gT} {h0 : mh_T} {P : Int32 → mh_T → Prop} (l1 : Int32) (hp : ∀ (v : Int32) (h' : mh_T), Ok msA h0 h' → TVs h' → P v h') : ∀ n : Nat, (∀ (l2 : Int32) (h : mh_T), Ok msA h0 h → TVs h → R 0 8 l2 → 10 * gap 8 l2 + 9 < n → ME g uX11_flip 35 [.ref 11, .int l1, .int l2, .retAddr 0, .retAddr 0, .retAddr 0, .retAddr 0, .retAddr 0, .retAddr 0] [] h (qI P)) ∧ (∀ (l2 l3 l4 : Int32) (h : mh_T), Ok msA h0 h → TVs h → R 0 7 l2 → (l3 = 1 ∨ l3 = 2) → R 0 4 l4 → 10 * gap 8 l2 + gap 4 l4 < n → ME g uX11_flip 124 [.ref 11, .int l1, .int l2, .int l3, .int l4, .retAddr 0, .retAddr 0, .retAddr 0, .retAddr 0] [] h (qI P)) := by
  intro n
  induction n with
  | zero => exact ⟨fun _ _ _ _ _ hn => absurd hn (Nat.not_lt_zero _), fun _ _ _ _ _ _ _ _ _ hn => absurd hn (Nat.not_lt_zero _)⟩
  | succ n ih =>
    have c1 : R 1 1 1 := ⟨by decide, by decide⟩
    have c9 : R 9 9 9 := ⟨by decide, by decide⟩
    have z0 : R 0 4 0 := ⟨by decide, by decide⟩
    have g0 := gap_le (N := 4) z0 (m := 4) (by decide)
    refine ⟨fun l2 h ok t f2 hn => ?_, fun l2 l3 l4 h ok t f2 h3 f4 hn => ?_⟩
    · have fm : R 0 8 (mI h 45 (Int32.toNatClampNeg 0)) := GI_rd ok.1 45 0 rfl
      refine r_X11_flip_35 l1 l2 ⟨fun _ => u_X11_did _ _ _ _ _ ok t (fun h' ok' t' => ⟨Or.inr rfl, hp 1 h' ok' t'⟩), fun c => ?_⟩
      have g2 : R 0 7 l2 := rf_lt_l f2 fm (nle c) 7 (by decide)
      have gi := gap_inc (N := 8) g2 (by decide)
      have v1 : vp_in (1 + l2) 346 := vin (R_add c1 g2 1 8 (by decide)) (by decide)
      have v9 : vp_in (9 + l2) 346 := vin (R_add c9 g2 9 16 (by decide)) (by decide)
      have nx : ME g uX11_flip 35 [.ref 11, .int l1, .int (l2 + 1), .retAddr 0, .retAddr 0, .retAddr 0, .retAddr 0, .retAddr 0, .retAddr 0] [] h (qI P) := ih.1 (l2 + 1) h ok t (R_add g2 c1 0 8 (by decide)) (by omega)
      exact ⟨v9, fun _ => ⟨v1, fun _ => ⟨v9, fun _ => nx, fun _ => ih.2 l2 1 0 h ok t g2 (Or.inl rfl) z0 (by omega)⟩, fun _ => ih.2 l2 2 0 h ok t g2 (Or.inr rfl) z0 (by omega)⟩, fun _ => ⟨v1, fun _ => nx, fun _ => ih.2 l2 1 0 h ok t g2 (Or.inl rfl) z0 (by omega)⟩⟩
    · have gj := gap_inc (N := 8) f2 (by decide)
      refine r_X11_flip_124 l1 l2 l3 l4 (s_X11_outcomes l2 ok.1 f2 (fun v fv => ⟨fun _ => ih.1 (l2 + 1) h ok t (R_add f2 c1 0 8 (by decide)) (by omega), fun c x4 e4 => ?_⟩))
      have g4 : R 0 3 l4 := rf_lt_l f4 fv (nle c) 3 (by decide)
      have gi := gap_inc (N := 4) g4 (by decide)
      have f3 : R 1 2 l3 := by rcases h3 with z | z <;> subst z <;> exact ⟨by decide, by decide⟩
      have fx : R 0 3 x4 := by rw [e4]; exact R_xor g4 f3 2 3 (by decide)
      have nx : ∀ h' : mh_T, Ok msA h0 h' → TVs h' → ME g uX11_flip 124 [.ref 11, .int l1, .int l2, .int l3, .int (l4 + 1), .retAddr 0, .retAddr 0, .retAddr 0, .retAddr 0] [] h' (qI P) := fun h' ok' t' => ih.2 l2 l3 (l4 + 1) h' ok' t' f2 h3 (R_add g4 c1 0 4 (by decide)) (by omega)
      refine ⟨fun _ x6 e6 x7 e7 => ?_, fun _ => nx h ok t⟩
      obtain ⟨s, es, _, hs⟩ := i_R f2 (by decide)
      obtain ⟨o, eo, _, ho⟩ := i_R g4 (by decide)
      obtain ⟨p, ep, _, hpp⟩ := i_R fx (by decide)
      have i6 : x6.toInt = ((4 * s + o : Nat) : Int) := by rw [e6, i_add (i_4s es (by omega)) eo (by omega)]; omega
      have i7 : x7.toInt = ((4 * s + p : Nat) : Int) := by rw [e7, i_add (i_4s es (by omega)) ep (by omega)]; omega
      have j6 : (17 + x6).toInt = ((17 + 4 * s + o : Nat) : Int) := by rw [i_add (show (17 : Int32).toInt = 17 from by decide) i6 (by omega)]; omega
      have j7 : (17 + x7).toInt = ((17 + 4 * s + p : Nat) : Int) := by rw [i_add (show (17 : Int32).toInt = 17 from by decide) i7 (by omega)]; omega
      have v6 : vp_in (17 + x6) 346 := i_vp j6 (by omega)
      have v7 : vp_in (17 + x7) 346 := i_vp j7 (by omega)
      have u6 : vp_in x6 32 := i_vp i6 (by omega)
      have u7 : vp_in x7 32 := i_vp i7 (by omega)
      rw [i_nat j6, i_nat j7, i_nat i6, i_nat i7]
      refine ⟨v6, fun x9 e9 => ⟨v7, v6, v7, u6, fun x14 _ => ⟨u7, u6, u7, nx _ ?_ ?_⟩⟩⟩
      · exact Ok_w (Ok_w (Ok_w (Ok_w ok (k := 45) (j := 17 + 4 * s + o) (lo := -2147483648) (hi := 2147483647) (rgg_45_0 (by omega) (by omega)) (R_full _) (by decide) (nt_45 (by first | omega | decide))) (k := 45) (j := 17 + 4 * s + p) (lo := -2147483648) (hi := 2147483647) (rgg_45_0 (by omega) (by omega)) (R_full _) (by decide) (nt_45 (by first | omega | decide))) (k := 47) (rgc_47 _) (R_full _) (by decide) (nt_k (by decide))) (k := 47) (rgc_47 _) (R_full _) (by decide) (nt_k (by decide))
      · refine TVs_Z t (Z45_o (Z45_o (Z45_w (Z45_w (Z45_rf h) (by omega)) (by omega)) (by decide)) (by decide)) (TQ_o (TQ_o (TQ_i (fun s' hs' => ?_)) (by decide)) (by decide))
        by_cases e : s' = s
        · subst e
          have e9 : x9 = h.1 45 (17 + 4 * s' + o) := e9
          by_cases hop : o = p
          · subst hop
            refine tq_x (t.1 s' hs') (fun i hi => ?_)
            rw [wI_i]
            by_cases ei : i = o
            · rw [if_pos (by omega), e9, ei]
            · rw [if_neg (by omega), wI_i, if_neg (by omega)]
          · have tA := TQ_at t.1 (s := s') (o := o) (by omega) (by omega)
            have tB := TQ_at t.1 (s := s') (o := p) (by omega) (by omega)
            unfold tx_tm at tA tB
            refine tq_2 (t.1 s' hs') (o := o) (p := p) (by omega) (by omega) hop (fun i hi h1 h2 => ?_) ?_ ?_ ?_
            · rw [wI_i, if_neg (by omega), wI_i, if_neg (by omega)]
            · rw [wI_i, if_neg (by omega), wI_i, if_pos rfl]
              exact tB.1
            · rw [wI_i, if_pos rfl, e9]
              exact tA.1
            · rw [wI_i, if_neg (by omega), wI_i, if_pos rfl, wI_i, if_pos rfl, e9]
              show (h.1 45 (17 + 4 * s' + p)).toInt + _ = _
              omega
        · refine tq_x (t.1 s' hs') (fun i hi => ?_)
          rw [wI_i, if_neg (by omega), wI_i, if_neg (by omega)]
theorem u_X11_flip {g : gT} {h : mh_T} {P : Int32 → mh_T → Prop} (l1 : Int32) (hG : GI h) (hI : TVs h) (hp : ∀ (v : Int32) (h' : mh_T), Ok msA h h' → TVs h' → ¬ mI h' 11 11 = 4 → P v h') : MCi g yX11_flip uX11_flip [.ref 11, .int l1] h P := by
  refine e_X11_flip l1 (s_X11_good hG (fun h1 k1 t4 => ?_))
  have o1 : Ok msA h h1 := Ok_mono k1 (by decide)
  have hp : ∀ (v : Int32) (h' : mh_T), Ok msA h1 h' → TVs h' → P v h' := fun v h' k t => hp v h' (Ok_tr o1 k (by decide)) t (k.2.2.2.2.2.2.1 t4)
  have o1 : Ok msA h1 h1 := Ok_rf o1.1
  have t1 : TVs h1 := TVs_fr k1.2.1 (by decide) hI
  have z0 : R 0 8 0 := ⟨by decide, by decide⟩
  have g0 := gap_le (N := 8) z0 (m := 8) (by decide)
  refine t_isLook l1 o1.1 (fun v _ => ⟨fun _ => t_was o1.1 t1 (fun h2 k2 t2 => (t_flip_L l1 hp 100).1 0 h2 (Ok_tr o1 k2 (by decide)) t2 z0 (by omega)), fun _ => e_X11_isNot 1 ⟨Or.inl rfl, hp 0 _ (Ok_w11 o1 (by decide) (by decide)) (TVs_11 t1)⟩⟩)
