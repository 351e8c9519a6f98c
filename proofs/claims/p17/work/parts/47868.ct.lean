/-- a slot of the draft's lists: f changes where neither counts nor names stand -/
theorem Cs_arr {h0 h : mh_T} {T : Nat → Int32} {n e : Nat} {f : Nat → Int32} (c : Cs h0 T n e f h) {k j i : Nat} {v w : Int32} {lo hi : Int} (er : rgT k j = (lo, hi)) (fr : R lo hi v) (hk : k ∈ cms) (h1 : ¬ k = 1) (h2 : ¬ k = 2) (hi : ¬ (i = 49 ∨ i = 50 ∨ i = 51 ∨ i = 0 ∨ i = 52 ∨ i = 85 ∨ i = 158 ∨ 211 ≤ i)) (hA : Ar (wI h k j v) (rx_set f i w)) : Cs h0 T n e (rx_set f i w) (wI h k j v) :=
  Cs_w c er fr hk h1 (Dr_same (f := f) (fun q hq => rx_set_o (by omega)) (Dr_eq (h := h) (by funext b; exact if_neg (fun z => h2 z.1.symm)) rfl rfl c.2.2.2.2.1)) (Nv_same (f := f) (fun q hq => rx_set_o (by omega)) c.2.2.2.2.2.1) hA
theorem Cs_f {h0 h : mh_T} {T : Nat → Int32} {n e : Nat} {f : Nat → Int32} (c : Cs h0 T n e f h) {i : Nat} {w : Int32} (hi : ¬ (i = 49 ∨ i = 50 ∨ i = 51 ∨ i = 0 ∨ i = 52 ∨ i = 85 ∨ i = 158 ∨ 211 ≤ i)) (hA : Ar h (rx_set f i w)) : Cs h0 T n e (rx_set f i w) h :=
  ⟨c.1, c.2.1, c.2.2.1, c.2.2.2.1, Dr_same (f := f) (fun q hq => rx_set_o (by omega)) c.2.2.2.2.1, Nv_same (f := f) (fun q hq => rx_set_o (by omega)) c.2.2.2.2.2.1, c.2.2.2.2.2.2.1, hA⟩
theorem c_readTimes {g : gT} {h0 : mh_T} {P : Int32 → mh_T → Prop} {T : Nat → Int32} {n : Nat} (many s : Nat) (l1 : Int32) (e1 : l1.toInt = (many : Int)) (hm : many ≤ 4) (hs8 : s < 8) : ∀ (r : Nat) (l2 l3 : Int32) (e : Nat) (f : Nat → Int32) (h : mh_T), Cs h0 T n e f h → (mI h 15 s = f (1 + s) ∧ mI h 16 s = f (9 + s)) → (f 0).toInt = (s : Int) → r ≤ many → l3.toInt = ((many - r : Nat) : Int) → (∀ q h', Co h0 T n (rx_tm T n s many r l2 e f) q h' → P q h') → ME g uX6_readTimes 4 [.ref 1, .int l1, .int l2, .int l3] [] h (qI P) := by
  intro r
  induction r with
  | zero =>
    intro l2 l3 e f h c hx es hr e3 hp
    refine r_X6_readTimes_4 l1 l2 l3 ⟨fun _ => ?_, fun z => ?_⟩
    · have e23 : mI h 2 3 = f 0 := c.2.2.2.2.1.1.2.2.2.1
      rw [e23]
      have i1 := i_inc es (by omega)
      exact hp 1 _ (Or.inl ⟨_, _, rfl, rfl, Cs_cnt c (j := 3) (i := 0) (by omega) (lo := 0) (hi := 8) (by decide) ⟨by omega, by omega⟩ (Ar_0 es hs8 hx c.2.2.2.2.2.2.2)⟩)
    · rw [i_le, e1, e3] at z
      omega
  | succ r ih =>
    intro l2 l3 e f h c hx es hr e3 hp
    have body : ∀ (h3 : mh_T) (e0 : Nat), Cs h0 T n e0 f h3 → (mI h3 15 s = f (1 + s) ∧ mI h3 16 s = f (9 + s)) → (∀ q h', Co h0 T n (rx_bind (rx_num T n 0 60 e0 f) (fun v e1 f1 => if r = 0 ∧ ¬ l2 + v = f1 49 then rx_no T n e0 4 else rx_tm T n s many r (l2 + v) e1 (rx_set f1 (17 + 4 * s + (many - (r + 1))) v))) q h' → P q h') → MCi g yX6_needWhole uX6_needWhole [.ref 1, .int 0, .int 60] h3 (fun r4 h3 => (¬ r4 = 0 → ∀ x6 : Int32, x6 = (l2 + (mI h3 1 11)) → (¬ l3 = (l1 - 1) → (vp_in ((4 * (mI h3 2 3)) + l3) 32) ∧ (MCv g yX6_next uX6_next [.ref 1] (wI h3 17 ((4 * (mI h3 2 3)) + l3).toNatClampNeg (mI h3 1 11)) (fun h9 => ME g uX6_readTimes 4 [.ref 1, .int l1, .int x6, .int (l3 + 1)] [] h9 (qI P)))) ∧ (l3 = (l1 - 1) → (x6 = (mI h3 2 0) → (vp_in ((4 * (mI h3 2 3)) + l3) 32) ∧ (MCv g yX6_next uX6_next [.ref 1] (wI h3 17 ((4 * (mI h3 2 3)) + l3).toNatClampNeg (mI h3 1 11)) (fun h12 => ME g uX6_readTimes 4 [.ref 1, .int l1, .int x6, .int (l3 + 1)] [] h12 (qI P)))) ∧ (¬ x6 = (mI h3 2 0) → MCi g yX6_refuse uX6_refuse [.ref 1, .int 4] h3 (fun r14 h13 => (r14 = 0 ∨ r14 = 1) ∧ P r14 h13)))) ∧ (r4 = 0 → P 0 h3)) := by
      intro h3 e0 c3 hx3 hp3
      have e20 : mI h3 2 0 = f 49 := c3.2.2.2.2.1.1.1
      have e23 : mI h3 2 3 = f 0 := c3.2.2.2.2.1.1.2.2.2.1
      refine c_needWhole 0 60 c3.2.2.1 (fun k3 v => ⟨fun _ x ex => ?_, fun y => absurd y (by decide)⟩) (fun k3 v => ⟨fun y => absurd rfl y, fun _ => hp3 0 _ (Co_rf c3 (by decide) ?_)⟩) (fun k3 => ⟨fun y => absurd rfl y, fun _ => hp3 0 _ (Co_rf c3 (by decide) ?_)⟩)
      · have ev := c3.2.2.1.2.2.2.1 k3
        rw [ev] at ex
        have un : rx_num T n 0 60 e0 f = .inr (rx_v T n e0, rx_e T n e0, f) := by
          unfold rx_num
          rw [if_neg (fun y => y k3), if_pos v]
        rw [un] at hp3
        have hp3 : ∀ q h', Co h0 T n (if r = 0 ∧ ¬ l2 + rx_v T n e0 = f 49 then rx_no T n e0 4 else rx_tm T n s many r (l2 + rx_v T n e0) (rx_e T n e0) (rx_set f (17 + 4 * s + (many - (r + 1))) (rx_v T n e0))) q h' → P q h' := hp3
        have ix : ((4 * (mI h3 2 3)) + l3).toInt = ((4 * s + (many - (r + 1)) : Nat) : Int) := by
          rw [e23, i_add (i_4s es hs8) e3 (by omega)]
          omega
        have il : (l1 - 1).toInt = (many : Int) - 1 := i_sub e1 (by decide) (by omega)
        have iq : l3 = l1 - 1 ↔ r = 0 := by
          rw [← Int32.toInt_inj, e3, il]
          omega
        have go : ¬ (r = 0 ∧ ¬ l2 + rx_v T n e0 = f 49) → (vp_in ((4 * (mI h3 2 3)) + l3) 32) ∧ (MCv g yX6_next uX6_next [.ref 1] (wI h3 17 ((4 * (mI h3 2 3)) + l3).toNatClampNeg (mI h3 1 11)) (fun h9 => ME g uX6_readTimes 4 [.ref 1, .int l1, .int x, .int (l3 + 1)] [] h9 (qI P))) := by
          intro hc
          rw [if_neg hc] at hp3
          refine ⟨i_vp ix (by omega), ?_⟩
          rw [i_nat ix, ev, ex]
          have c4 := Cs_arr c3 (k := 17) (j := 4 * s + (many - (r + 1))) (i := 17 + 4 * s + (many - (r + 1))) (v := rx_v T n e0) (w := rx_v T n e0) (lo := -2147483648) (hi := 2147483647) rfl (R_full _) (by decide) (by decide) (by decide) (by omega) (by rw [show 17 + 4 * s + (many - (r + 1)) = 17 + (4 * s + (many - (r + 1))) by omega]; exact Ar_17 (Cs_r0 c3) (by omega) c3.2.2.2.2.2.2.2)
          refine c_next c4.1.1 c4.2.1 c4.2.2.1.2.1 (rx_e_le c4.2.2.2.1) (fun h9 k9 t9 => ih _ _ _ _ h9 (Cs_next c4 k9 t9) ?_ ?_ (by omega) ?_ hp3)
          · have q15 : mI h9 15 s = mI (wI h3 17 (4 * s + (many - (r + 1))) (rx_v T n e0)) 15 s := congrFun (Kp_2 k9 (by decide) (by decide)).1 s
            have q16 : mI h9 16 s = mI (wI h3 17 (4 * s + (many - (r + 1))) (rx_v T n e0)) 16 s := congrFun (Kp_2 k9 (by decide) (by decide)).1 s
            rw [q15, q16, mI_wI, if_neg (by omega), mI_wI, if_neg (by omega), rx_set_o (by omega), rx_set_o (by omega)]
            exact hx3
          · rw [rx_set_o (by omega)]; exact es
          · rw [i_inc e3 (by omega)]; omega
        rw [iq, e20, ex]
        refine ⟨fun y => by rw [← ex]; exact go (fun z => y z.1), fun y => ⟨fun z => by rw [← ex]; exact go (fun w => w.2 z), fun z => ?_⟩⟩
        rw [if_pos ⟨y, z⟩] at hp3
        exact c_refuse 4 ⟨Or.inl rfl, hp3 0 _ (Co_rf c3 (by decide) rfl)⟩
      · unfold rx_num
        rw [if_neg (fun y => y k3), if_neg v]
        rfl
      · unfold rx_num
        rw [if_pos k3]
        rfl
    have i0 : (0 : Int32).toInt = 0 := by decide
    refine r_X6_readTimes_4 l1 l2 l3 ⟨fun z => ?_, fun _ => ⟨fun z => ?_, fun z => ?_⟩⟩
    · rw [i_le, e1, e3] at z
      omega
    · rw [i_le, e3, i0] at z
      have hmr : many = r + 1 := by omega
      refine body h e c hx (fun q h' o => hp q h' ?_)
      show Co h0 T n (rx_bind (if many = r + 1 then .inr ((), e, f) else rx_sign T n 44 e f) _) q h'
      rw [if_pos hmr]
      exact o
    · rw [i_le, e3, i0] at z
      have hmr : ¬ many = r + 1 := by omega
      have un : rx_tm T n s many (r + 1) l2 e f = rx_bind (rx_sign T n 44 e f) (fun _ e0 f0 => rx_bind (rx_num T n 0 60 e0 f0) (fun v e1 f1 => if r = 0 ∧ ¬ l2 + v = f1 49 then rx_no T n e0 4 else rx_tm T n s many r (l2 + v) e1 (rx_set f1 (17 + 4 * s + (many - (r + 1))) v))) := by
        show rx_bind (if many = r + 1 then .inr ((), e, f) else rx_sign T n 44 e f) _ = _
        rw [if_neg hmr]
      rw [un] at hp
      refine c_pass 44 c.1.1 c.2.1 c.2.2.1 c.2.2.2.1 (fun k h1 k1 t1 => ⟨fun _ => ?_, fun y => absurd y (by decide)⟩) (fun k => ⟨fun y => absurd rfl y, fun _ => hp 0 _ (Co_rf c (by decide) ?_)⟩)
      · refine body h1 _ (Cs_next c k1 t1) ⟨by rw [show mI h1 15 s = mI h 15 s from congrFun (Kp_2 k1 (by decide) (by decide)).1 s]; exact hx.1, by rw [show mI h1 16 s = mI h 16 s from congrFun (Kp_2 k1 (by decide) (by decide)).1 s]; exact hx.2⟩ (fun q h' o => hp q h' ?_)
        unfold rx_sign
        rw [if_pos k]
        exact o
      · unfold rx_sign
        rw [if_neg k]
        rfl
theorem c_tells {g : gT} {h0 h : mh_T} {P : Int32 → mh_T → Prop} {T : Nat → Int32} {n e : Nat} {f : Nat → Int32} (c : Cs h0 T n e f h) (one : Nat) (two r5 : Int32) (e5 : r5.toInt = (one : Int)) (h6 : one < 6) (r2 : R (-2) 5 two) {s : Nat} (es : (f 0).toInt = (s : Int)) (hs : s < 8) (many : Int32) (em : many.toInt = if two = -2 then 2 else 4) (hp : ∀ q h', Co h0 T n (rx_tell T n one two e f) q h' → (q = 0 → P 0 h') ∧ (¬ q = 0 → P 1 h')) : (vp_in (mI h 2 3) 8) ∧ ((vp_in (mI (wI h 15 (mI h 2 3).toNatClampNeg r5) 2 3) 8) ∧ (MCi g yX6_passWord uX6_passWord [.ref 1, .ref (1000 + 8)] (wI (wI h 15 (mI h 2 3).toNatClampNeg r5) 16 (mI (wI h 15 (mI h 2 3).toNatClampNeg r5) 2 3).toNatClampNeg two) (fun r12 h11 => (r12 = 0 → P 0 h11) ∧ (¬ r12 = 0 → MCi g yX6_readTimes uX6_readTimes [.ref 1, .int many] h11 (fun r16 h15 => (r16 = 0 → P 0 h15) ∧ (¬ r16 = 0 → P 1 h15)))))) := by
  have e23 : mI h 2 3 = f 0 := c.2.2.2.2.1.1.2.2.2.1
  have o1 : r5 = Int32.ofNat one := i_nI e5 (by omega)
  rw [mI_wI, if_neg (fun z => absurd z.1 (by decide)), e23, i_nat es]
  refine ⟨i_vp es hs, i_vp es hs, ?_⟩
  have c1 := Cs_arr c (k := 15) (j := s) (i := 1 + s) (v := r5) (w := Int32.ofNat one) (lo := 0) (hi := 5) rfl ⟨by omega, by omega⟩ (by decide) (by decide) (by decide) (by omega) (by rw [o1]; exact Ar_15 es hs c.2.2.2.2.2.2.2)
  have c2 := Cs_arr c1 (k := 16) (j := s) (i := 9 + s) (v := two) (w := two) (lo := -2) (hi := 5) rfl r2 (by decide) (by decide) (by decide) (by omega) (Ar_16 (by rw [rx_set_o (by omega)]; exact es) hs c1.2.2.2.2.2.2.2)
  unfold rx_tell at hp
  rw [i_nat es] at hp
  refine c_passWord 8 (by decide) c2.1.1 c2.2.1 c2.2.2.1 c2.2.2.2.1 (fun w h11 k11 t11 => ⟨fun y => absurd y (by decide), fun _ => ?_⟩) (fun w => ⟨fun _ => (hp 0 _ (Co_rf c2 (by decide) ?_)).1 rfl, fun y => absurd rfl y⟩)
  · have c3 := Cs_next c2 k11 t11
    refine e_X6_readTimes many ?_
    refine c_readTimes (if two = -2 then 2 else 4) s many (by rw [em]; split <;> rfl) (by split <;> decide) hs (if two = -2 then 2 else 4) 0 0 _ _ h11 c3 ?_ ?_ (Nat.le_refl _) (by rw [Nat.sub_self]; decide) (fun q h' o => hp q h' ?_)
    · have q15 : mI h11 15 s = mI (wI (wI h 15 s r5) 16 s two) 15 s := congrFun (Kp_2 k11 (by decide) (by decide)).1 s
      have q16 : mI h11 16 s = mI (wI (wI h 15 s r5) 16 s two) 16 s := congrFun (Kp_2 k11 (by decide) (by decide)).1 s
      rw [q15, q16, rx_set_i, rx_set_o (by omega), rx_set_i, mI_wI, if_neg (by omega), mI_wI, if_pos ⟨rfl, rfl⟩, mI_wI, if_pos ⟨rfl, rfl⟩]
      exact ⟨o1, rfl⟩
    · rw [rx_set_o (by omega), rx_set_o (by omega)]; exact es
    · unfold rx_word
      rw [if_pos w]
      exact o
  · unfold rx_word
    rw [if_neg w]
    rfl
theorem c_readSet {g : gT} {h0 h : mh_T} {P : Int32 → mh_T → Prop} {T : Nat → Int32} {n e : Nat} {f : Nat → Int32} (c : Cs h0 T n e f h) (hf : R 0 8 (f 0)) (hp : ∀ r h', Co h0 T n (rx_setL T n e f) r h' → P r h') : MCi g yX6_readSet uX6_readSet [.ref 1] h P := by
  have e20 : mI h 2 0 = f 49 := c.2.2.2.2.1.1.1
  have e23 : mI h 2 3 = f 0 := c.2.2.2.2.1.1.2.2.2.1
  have hp2 : ∀ r h', Co h0 T n (rx_setL T n e f) r h' → (r = 0 → P 0 h') ∧ (¬ r = 0 → P 1 h') := by
    intro r h' o
    have q := hp r h' o
    rcases o with ⟨_, _, _, z, _⟩ | ⟨_, _, _, z, _⟩ <;> subst z
    · exact ⟨fun y => absurd y (by decide), fun _ => q⟩
    · exact ⟨fun _ => q, fun y => absurd rfl y⟩
  have i0 : (0 : Int32).toInt = 0 := by decide
  have i8 : (8 : Int32).toInt = 8 := by decide
  obtain ⟨s, es, s0, s8⟩ := i_R hf (by decide)
  refine e_X6_readSet ⟨fun z => ⟨fun y => ?_, fun y => ?_⟩, fun z => ?_⟩
  · rw [e20] at z
    rw [e23, i_lt, es, i8] at y
    have n8 : ¬ f 0 = 8 := fun w => by rw [w, i8] at es; omega
    have un : rx_setL T n e f = rx_bind (rx_name T n true (rx_e T n e) f) (fun one e1 f1 => if rx_k T n e1 = 44 then rx_bind (rx_name T n true (rx_e T n e1) f1) (fun two e2 f2 => if two = one then rx_no T n (rx_e T n e1) 3 else rx_tell T n one (Int32.ofNat two) e2 f2) else rx_tell T n one (-2) e1 f1) := by
      unfold rx_setL
      rw [if_neg z, if_neg n8]
    rw [un] at hp hp2
    refine c_next c.1.1 c.2.1 c.2.2.1.2.1 (rx_e_le c.2.2.2.1) (fun h3 k3 t3 => ?_)
    have c3 := Cs_next c k3 t3
    refine c_nameL c3.2.1 c3.2.2.1 c3.2.2.2.1 c3.2.2.2.2.1 c3.2.2.2.2.2.1 (fun r5 one eo e5 o6 => ⟨fun _ => ?_, fun w => ?_⟩) (fun w hw eo => ⟨fun y => absurd y (by decide), fun _ => hp 0 _ (Co_rf c3 hw ?_)⟩)
    · rw [eo] at hp hp2
      have hp : ∀ r h', Co h0 T n (if rx_k T n (rx_e T n (rx_e T n e)) = 44 then rx_bind (rx_name T n true (rx_e T n (rx_e T n (rx_e T n e))) f) (fun two e2 f2 => if two = one then rx_no T n (rx_e T n (rx_e T n (rx_e T n e))) 3 else rx_tell T n one (Int32.ofNat two) e2 f2) else rx_tell T n one (-2) (rx_e T n (rx_e T n e)) f) r h' → P r h' := hp
      have hp2 : ∀ r h', Co h0 T n (if rx_k T n (rx_e T n (rx_e T n e)) = 44 then rx_bind (rx_name T n true (rx_e T n (rx_e T n (rx_e T n e))) f) (fun two e2 f2 => if two = one then rx_no T n (rx_e T n (rx_e T n (rx_e T n e))) 3 else rx_tell T n one (Int32.ofNat two) e2 f2) else rx_tell T n one (-2) (rx_e T n (rx_e T n e)) f) r h' → (r = 0 → P 0 h') ∧ (¬ r = 0 → P 1 h') := hp2
      refine c_next c3.1.1 c3.2.1 c3.2.2.1.2.1 (rx_e_le c3.2.2.2.1) (fun h7 k7 t7 => ?_)
      have c7 := Cs_next c3 k7 t7
      rw [c7.2.2.1.2.2.1]
      refine ⟨fun w => ?_, fun w => ?_⟩
      · rw [if_neg w] at hp2
        exact c_tells c7 one (-2) r5 e5 o6 ⟨by decide, by decide⟩ es (by omega) 2 (by rw [if_pos rfl]; decide) hp2
      · rw [if_pos w] at hp hp2
        refine c_next c7.1.1 c7.2.1 c7.2.2.1.2.1 (rx_e_le c7.2.2.2.1) (fun h18 k18 t18 => ?_)
        have c18 := Cs_next c7 k18 t18
        refine c_nameL c18.2.1 c18.2.2.1 c18.2.2.2.1 c18.2.2.2.2.1 c18.2.2.2.2.2.1 (fun r20 two et e2 t6 => ⟨fun u => ?_, fun u => ?_⟩) (fun w hw et => ⟨fun y => absurd y (by decide), fun _ => hp 0 _ (Co_rf c18 hw ?_)⟩)
        · rw [et] at hp hp2
          have hp : ∀ r h', Co h0 T n (if two = one then rx_no T n (rx_e T n (rx_e T n (rx_e T n e))) 3 else rx_tell T n one (Int32.ofNat two) (rx_e T n (rx_e T n (rx_e T n (rx_e T n e)))) f) r h' → P r h' := hp
          have hp2 : ∀ r h', Co h0 T n (if two = one then rx_no T n (rx_e T n (rx_e T n (rx_e T n e))) 3 else rx_tell T n one (Int32.ofNat two) (rx_e T n (rx_e T n (rx_e T n (rx_e T n e)))) f) r h' → (r = 0 → P 0 h') ∧ (¬ r = 0 → P 1 h') := hp2
          have iq : r20 = r5 ↔ two = one := by
            rw [← Int32.toInt_inj, e2, e5]
            omega
          rw [iq]
          refine ⟨fun v => ?_, fun v => ?_⟩
          · rw [if_neg v] at hp2
            refine c_next c18.1.1 c18.2.1 c18.2.2.1.2.1 (rx_e_le c18.2.2.2.1) (fun h23 k23 t23 => ?_)
            have c23 := Cs_next c18 k23 t23
            have o2 : r20 = Int32.ofNat two := i_nI e2 (by omega)
            have n2 : ¬ Int32.ofNat two = -2 := by
              rw [← o2]
              intro q
              rw [q, show (-2 : Int32).toInt = -2 from by decide] at e2
              omega
            have q := c_tells (g := g) (P := P) c23 one (Int32.ofNat two) r5 e5 o6 (by rw [← o2]; exact ⟨by omega, by omega⟩) es (by omega) 4 (by rw [if_neg n2]; decide) hp2
            rw [← o2] at q
            refine ⟨q.1, q.2.1, ?_⟩
            exact MC_mono q.2.2 (fun v h' qq => by
              obtain ⟨rr, q1, q2⟩ := qq
              exact ⟨rr, q1, q2.1, fun a => ⟨fun _ => q2.2 a, fun b => absurd u b⟩⟩)
          · rw [if_pos v] at hp
            exact c_refuse 3 ⟨Or.inl rfl, hp 0 _ (Co_rf c18 (by decide) rfl)⟩
        · exfalso
          apply u
          rw [i_le, i0, e2]
          omega
        · rw [et]
          rfl
    · exfalso
      apply w
      rw [i_le, i0, e5]
      omega
    · rw [eo]
      rfl
  · rw [e20] at z
    rw [e23, i_lt, es, i8] at y
    have n8 : f 0 = 8 := Int32.toInt_inj.mp (by rw [es, i8]; omega)
    refine c_refuse 5 ⟨Or.inl rfl, hp 0 _ (Co_rf c (by decide) ?_)⟩
    unfold rx_setL
    rw [if_neg z, if_pos n8]
  · rw [e20] at z
    refine c_refuse 6 ⟨Or.inl rfl, hp 0 _ (Co_rf c (by decide) ?_)⟩
    unfold rx_setL
    rw [if_pos z]
theorem Cs_arr0 {h0 h : mh_T} {T : Nat → Int32} {n e : Nat} {f : Nat → Int32} (c : Cs h0 T n e f h) {k j : Nat} {v : Int32} {lo hi : Int} (er : rgT k j = (lo, hi)) (fr : R lo hi v) (hk : k ∈ cms) (h1 : ¬ k = 1) (h2 : ¬ k = 2) (hA : Ar (wI h k j v) f) : Cs h0 T n e f (wI h k j v) :=
  Cs_w c er fr hk h1 (Dr_eq (h := h) (by funext b; exact if_neg (fun z => h2 z.1.symm)) rfl rfl c.2.2.2.2.1) c.2.2.2.2.2.1 hA
theorem i_6s {l m : Int32} {s o : Nat} (h : l.toInt = (s : Int)) (hs : s < 4) (k : m.toInt = (o : Int)) (ho : o < 6) : ((6 * l) + m).toInt = ((6 * s + o : Nat) : Int) := by
  have a : (6 * l).toInt = 6 * (s : Int) := by
    rw [Int32.toInt_mul, h, show (6 : Int32).toInt = 6 from by decide, bm (by omega) (by omega)]
  rw [i_add a k (by omega)]
  omega
theorem c_readRun_L {g : gT} {h0 : mh_T} {P : Int32 → mh_T → Prop} {T : Nat → Int32} {n u : Nat} (hu : u < 4) : ∀ (r : Nat) (l1 : Int32) (e : Nat) (f : Nat → Int32) (h : mh_T), Cs h0 T n e f h → (f 158).toInt = (u : Int) → r ≤ 6 → l1.toInt = ((6 - r : Nat) : Int) → (∀ q h', Co h0 T n (rx_st T n u r (rx_e T n e) f) q h' → P q h') → ME g uX6_readRun 19 [.ref 1, .int l1, .retAddr 0] [] h (qI P) := by
  intro r
  have i6 : (6 : Int32).toInt = 6 := by decide
  have i0 : (0 : Int32).toInt = 0 := by decide
  induction r with
  | zero =>
    intro l1 e f h c eu hr e1 hp
    refine r_X6_readRun_19 l1 ⟨fun z => ?_, fun _ => ?_⟩
    · rw [i_lt, e1, i6] at z
      omega
    refine c_next c.1.1 c.2.1 c.2.2.1.2.1 (rx_e_le c.2.2.2.1) (fun h4 k4 t4 => ?_)
    have c4 := Cs_next c k4 t4
    refine c_nameL c4.2.1 c4.2.2.1 c4.2.2.2.1 c4.2.2.2.2.1 c4.2.2.2.2.2.1 (fun r6 k ek e6 k6 => ⟨fun _ => ⟨fun z => ?_, fun _ => ?_⟩, fun w => ?_⟩) (fun w hw ek => ⟨fun y => absurd y (by decide), fun _ => hp 0 _ (Co_rf c4 hw ?_)⟩)
    · rw [i_lt, e1, i6] at z
      omega
    · refine c_refuse 5 ⟨Or.inl rfl, hp 0 _ (Co_rf c4 (by decide) ?_)⟩
      show rx_bind (rx_name T n true (rx_e T n e) f) _ = _
      rw [ek]
      rfl
    · exfalso
      apply w
      rw [i_le, i0, e6]
      omega
    · show rx_bind (rx_name T n true (rx_e T n e) f) _ = _
      rw [ek]
      rfl
  | succ r ih =>
    intro l1 e f h c eu hr e1 hp
    refine r_X6_readRun_19 l1 ⟨fun z => ?_, fun _ => ?_⟩
    · rw [i_lt, e1, i6] at z
      omega
    refine c_next c.1.1 c.2.1 c.2.2.1.2.1 (rx_e_le c.2.2.2.1) (fun h4 k4 t4 => ?_)
    have c4 := Cs_next c k4 t4
    have un : rx_st T n u (r + 1) (rx_e T n e) f = rx_bind (rx_name T n true (rx_e T n e) f) (fun k e1 f1 => rx_bind (rx_num T n 0 1 e1 f1) (fun v e2 f2 => if rx_k T n e2 = 44 then rx_st T n u r (rx_e T n e2) (rx_set (rx_set f2 (163 + 6 * u + (5 - r)) (Int32.ofNat k)) (187 + 6 * u + (5 - r)) v) else .inr ((), e2, rx_set (rx_set (rx_set (rx_set f2 (163 + 6 * u + (5 - r)) (Int32.ofNat k)) (187 + 6 * u + (5 - r)) v) (159 + u) (Int32.ofNat (6 - r))) 158 (f 158 + 1)))) := rfl
    rw [un] at hp
    refine c_nameL c4.2.1 c4.2.2.1 c4.2.2.2.1 c4.2.2.2.2.1 c4.2.2.2.2.2.1 (fun r6 k ek e6 k6 => ⟨fun _ => ⟨fun _ => ?_, fun z => ?_⟩, fun w => ?_⟩) (fun w hw ek => ⟨fun y => absurd y (by decide), fun _ => hp 0 _ (Co_rf c4 hw ?_)⟩)
    · rw [ek] at hp
      refine c_next c4.1.1 c4.2.1 c4.2.2.1.2.1 (rx_e_le c4.2.2.2.1) (fun h9 k9 t9 => ?_)
      have c9 := Cs_next c4 k9 t9
      refine c_needWhole 0 1 c9.2.2.1 (fun k3 v => ⟨fun _ => ?_, fun y => absurd y (by decide)⟩) (fun k3 v => ⟨fun y => absurd rfl y, fun _ => hp 0 _ (Co_rf c9 (by decide) ?_)⟩) (fun k3 => ⟨fun y => absurd rfl y, fun _ => hp 0 _ (Co_rf c9 (by decide) ?_)⟩)
      · have ev := c9.2.2.1.2.2.2.1 k3
        have e26 : mI h9 2 6 = f 158 := c9.2.2.2.2.1.1.2.2.2.2.2.2
        have ix : ((6 * (mI h9 2 6)) + l1).toInt = ((6 * u + (5 - r) : Nat) : Int) := by
          rw [e26]
          exact (i_6s (o := 5 - r) eu hu (by rw [e1]; omega) (by omega))
        have rv : R 0 1 (rx_v T n (rx_e T n (rx_e T n e))) := by
          rw [i_le, i_le] at v
          exact ⟨by have := v.1; rw [i0] at this; exact this, by have := v.2; rw [show (1 : Int32).toInt = 1 from by decide] at this; exact this⟩
        have s1 : ∀ a b : Nat, ∀ w : Int32, mI (wI h9 22 a w) 2 b = mI h9 2 b := fun a b w => by rw [mI_wI, if_neg (fun z => absurd z.1 (by decide))]
        have s2 : ∀ a b : Nat, ∀ w : Int32, mI (wI h9 22 a w) 1 b = mI h9 1 b := fun a b w => by rw [mI_wI, if_neg (fun z => absurd z.1 (by decide))]
        have s3 : ∀ a a2 b : Nat, ∀ w w2 : Int32, mI (wI (wI h9 22 a w) 23 a2 w2) 2 b = mI h9 2 b := fun a a2 b w w2 => by rw [mI_wI, if_neg (fun z => absurd z.1 (by decide)), s1]
        simp only [s1, s2, s3]
        rw [i_nat ix, ev]
        refine ⟨i_vp ix (by omega), i_vp ix (by omega), by rw [e26]; exact i_vp eu hu, ?_⟩
        rw [e26, i_nat eu]
        have a1 := Cs_arr c9 (k := 22) (j := 6 * u + (5 - r)) (i := 163 + 6 * u + (5 - r)) (v := r6) (w := Int32.ofNat k) (lo := 0) (hi := 5) rfl ⟨by omega, by omega⟩ (by decide) (by decide) (by decide) (by omega) (Ar_k (by decide) (Cs_Af c9 (by omega)))
        have a2 := Cs_arr a1 (k := 23) (j := 6 * u + (5 - r)) (i := 187 + 6 * u + (5 - r)) (v := rx_v T n (rx_e T n (rx_e T n e))) (w := rx_v T n (rx_e T n (rx_e T n e))) (lo := 0) (hi := 1) rfl rv (by decide) (by decide) (by decide) (by omega) (Ar_k (by decide) (Cs_Af a1 (by omega)))
        have j1 : (l1 + 1).toInt = ((6 - r : Nat) : Int) := by
          rw [i_inc e1 (by omega)]
          omega
        have a3 := Cs_arr0 a2 (k := 21) (j := u) (v := l1 + 1) (lo := 0) (hi := 6) rfl ⟨by omega, by omega⟩ (by decide) (by decide) (by decide) (Ar_k (by decide) a2.2.2.2.2.2.2.2)
        have un2 : rx_num T n 0 1 (rx_e T n (rx_e T n e)) f = .inr (rx_v T n (rx_e T n (rx_e T n e)), rx_e T n (rx_e T n (rx_e T n e)), f) := by
          unfold rx_num
          rw [if_neg (fun y => y k3), if_pos v]
        have hp : ∀ q h', Co h0 T n (rx_bind (rx_num T n 0 1 (rx_e T n (rx_e T n e)) f) (fun v e2 f2 => if rx_k T n e2 = 44 then rx_st T n u r (rx_e T n e2) (rx_set (rx_set f2 (163 + 6 * u + (5 - r)) (Int32.ofNat k)) (187 + 6 * u + (5 - r)) v) else .inr ((), e2, rx_set (rx_set (rx_set (rx_set f2 (163 + 6 * u + (5 - r)) (Int32.ofNat k)) (187 + 6 * u + (5 - r)) v) (159 + u) (Int32.ofNat (6 - r))) 158 (f 158 + 1)))) q h' → P q h' := hp
        rw [un2] at hp
        refine c_next a3.1.1 a3.2.1 a3.2.2.1.2.1 (rx_e_le a3.2.2.2.1) (fun h16 k16 t16 => ?_)
        have c16 := Cs_next a3 k16 t16
        rw [c16.2.2.1.2.2.1]
        have eu2 : (rx_set (rx_set f (163 + 6 * u + (5 - r)) (Int32.ofNat k)) (187 + 6 * u + (5 - r)) (rx_v T n (rx_e T n (rx_e T n e))) 158).toInt = (u : Int) := by
          rw [rx_set_o (by omega), rx_set_o (by omega)]; exact eu
        refine ⟨fun y => ?_, fun y => ?_⟩
        · refine ih (l1 + 1) _ _ h16 c16 eu2 (by omega) j1 (fun q h' o => hp q h' ?_)
          show Co h0 T n (if rx_k T n (rx_e T n (rx_e T n (rx_e T n e))) = 44 then _ else _) q h'
          rw [if_pos y]
          exact o
        · have c17 := Cs_f c16 (i := 159 + u) (w := Int32.ofNat (6 - r)) (by omega) (Cs_Af c16 (by omega))
          have e2 : mI h16 2 6 = f 158 := by
            have := c16.2.2.2.2.1.1.2.2.2.2.2.2
            rw [rx_set_o (by omega), rx_set_o (by omega)] at this
            exact this
          have iu := i_inc eu (by omega)
          have c18 := Cs_cnt c17 (j := 6) (i := 158) (v := f 158 + 1) (by omega) (lo := 0) (hi := 4) (by decide) ⟨by omega, by omega⟩ (Cs_Af c17 (by decide))
          rw [e2]
          refine hp 1 _ (Or.inl ⟨_, _, ?_, rfl, c18⟩)
          show (if rx_k T n (rx_e T n (rx_e T n (rx_e T n e))) = 44 then _ else _) = _
          rw [if_neg y]
      · show rx_bind (rx_num T n 0 1 (rx_e T n (rx_e T n e)) f) _ = _
        unfold rx_num
        rw [if_neg (fun y => y k3), if_neg v]
        rfl
      · show rx_bind (rx_num T n 0 1 (rx_e T n (rx_e T n e)) f) _ = _
        unfold rx_num
        rw [if_pos k3]
        rfl
    · exfalso
      apply z
      rw [i_lt, e1, i6]
      omega
    · exfalso
      apply w
      rw [i_le, i0, e6]
      omega
    · rw [ek]
      rfl
theorem c_readRun {g : gT} {h0 h : mh_T} {P : Int32 → mh_T → Prop} {T : Nat → Int32} {n e : Nat} {f : Nat → Int32} (c : Cs h0 T n e f h) (hf : R 0 4 (f 158)) (hp : ∀ r h', Co h0 T n (rx_runL T n e f) r h' → P r h') : MCi g yX6_readRun uX6_readRun [.ref 1] h P := by
  have e26 : mI h 2 6 = f 158 := c.2.2.2.2.1.1.2.2.2.2.2.2
  have i4 : (4 : Int32).toInt = 4 := by decide
  obtain ⟨u, eu, u0, u4⟩ := i_R hf (by decide)
  refine e_X6_readRun ⟨fun z => ?_, fun z => ?_⟩
  · rw [e26, i_lt, eu, i4] at z
    have n4 : ¬ f 158 = 4 := fun w => by rw [w, i4] at eu; omega
    refine c_readRun_L (u := u) (by omega) 6 0 e f h c eu (Nat.le_refl _) (by decide) (fun q h' o => hp q h' ?_)
    unfold rx_runL
    rw [if_neg n4, i_nat eu]
    exact o
  · rw [e26, i_lt, eu, i4] at z
    have n4 : f 158 = 4 := Int32.toInt_inj.mp (by rw [eu, i4]; omega)
    refine c_refuse 5 ⟨Or.inl rfl, hp 0 _ (Co_rf c (by decide) ?_)⟩
    unfold rx_runL
    rw [if_pos n4]
theorem i_4t {l m : Int32} {s o : Nat} (h : l.toInt = (s : Int)) (hs : s < 18) (k : m.toInt = (o : Int)) (ho : o < 4) : ((4 * l) + m).toInt = ((4 * s + o : Nat) : Int) := by
  have a : (4 * l).toInt = 4 * (s : Int) := by
    rw [Int32.toInt_mul, h, show (4 : Int32).toInt = 4 from by decide, bm (by omega) (by omega)]
  rw [i_add a k (by omega)]
  omega
theorem or_0 {a b : Int32} : a ||| b = 0 ↔ a = 0 ∧ b = 0 := by
  constructor
  · intro h
    have h := congrArg Int32.toBitVec h
    rw [Int32.toBitVec_or] at h
    have h0 : a.toBitVec ||| b.toBitVec = 0#32 := h
    have := BitVec.or_eq_zero_iff.mp h0
    exact ⟨Int32.toBitVec_inj.mp this.1, Int32.toBitVec_inj.mp this.2⟩
  · rintro ⟨h1, h2⟩
    rw [h1, h2]
    decide
theorem c_readRay_L {g : gT} {h0 : mh_T} {P : Int32 → mh_T → Prop} {T : Nat → Int32} {n l : Nat} (hl : l < 18) : ∀ (r : Nat) (l1 l2 : Int32) (an : Bool) (e : Nat) (f : Nat → Int32) (h : mh_T), Cs h0 T n e f h → (∀ k, k < 4 - r → mI h 20 (4 * l + k) = f (86 + 4 * l + k)) → (f 85).toInt = (l : Int) → r ≤ 4 → l2.toInt = ((4 - r : Nat) : Int) → (an = false ↔ l1 = 0) → (∀ q h', Co h0 T n (rx_pa T n l r an e f) q h' → P q h') → ME g uX6_readRay 26 [.ref 1, .int l1, .int l2, .retAddr 0] [] h (qI P) := by
  intro r
  have i0 : (0 : Int32).toInt = 0 := by decide
  have i3 : (3 : Int32).toInt = 3 := by decide
  have i4 : (4 : Int32).toInt = 4 := by decide
  induction r with
  | zero =>
    intro l1 l2 an e f h c hx el hr e2 ha hp
    refine r_X6_readRay_26 l1 l2 ⟨fun _ => ?_, fun z => ?_⟩
    · have e25 : mI h 2 5 = f 85 := c.2.2.2.2.1.1.2.2.2.2.2.1
      rw [e25]
      have iu := i_inc el (by omega)
      exact hp 1 _ (Or.inl ⟨_, _, rfl, rfl, Cs_cnt c (j := 5) (i := 85) (by omega) (lo := 0) (hi := 18) (by decide) ⟨by omega, by omega⟩ (Ar_85 (Cs_r0 c) el hl (fun k hk => hx k (by omega)) c.2.2.2.2.2.2.2)⟩)
    · rw [i_le, e2, i4] at z
      omega
  | succ r ih =>
    intro l1 l2 an e f h c hx el hr e2 ha hp
    have tail : ∀ (φ : Int32 → Int32) (h5 : mh_T) (e1 : Nat), Cs h0 T n e1 f h5 → (∀ k, k < 3 - r → mI h5 20 (4 * l + k) = f (86 + 4 * l + k)) → (∀ q h', Co h0 T n (rx_bind (rx_num T n 0 3 e1 f) (fun v e2 f2 => if r = 0 ∧ an = false ∧ v = 0 then rx_no T n e1 4 else rx_pa T n l r (an || decide (¬ v = 0)) e2 (rx_set f2 (86 + 4 * l + (3 - r)) (φ v)))) q h' → P q h') → MCi g yX6_needWhole uX6_needWhole [.ref 1, .int 0, .int 3] h5 (fun r6 h5 => (¬ r6 = 0 → ∀ x8 : Int32, x8 = (l1 ||| (mI h5 1 11)) → (¬ l2 = 3 → (vp_in ((4 * (mI h5 2 5)) + l2) 72) ∧ (MCv g yX6_next uX6_next [.ref 1] (wI h5 20 ((4 * (mI h5 2 5)) + l2).toNatClampNeg (φ (mI h5 1 11))) (fun h12 => ME g uX6_readRay 26 [.ref 1, .int x8, .int (l2 + 1), .retAddr 0] [] h12 (qI P)))) ∧ (l2 = 3 → (¬ x8 = 0 → (vp_in ((4 * (mI h5 2 5)) + l2) 72) ∧ (MCv g yX6_next uX6_next [.ref 1] (wI h5 20 ((4 * (mI h5 2 5)) + l2).toNatClampNeg (φ (mI h5 1 11))) (fun h16 => ME g uX6_readRay 26 [.ref 1, .int x8, .int (l2 + 1), .retAddr 0] [] h16 (qI P)))) ∧ (x8 = 0 → MCi g yX6_refuse uX6_refuse [.ref 1, .int 4] h5 (fun r18 h17 => (r18 = 0 ∨ r18 = 1) ∧ P r18 h17)))) ∧ (r6 = 0 → P 0 h5)) := by
      intro φ h5 e1 c5 hx5 hp5
      have e25 : mI h5 2 5 = f 85 := c5.2.2.2.2.1.1.2.2.2.2.2.1
      refine c_needWhole 0 3 c5.2.2.1 (fun k3 v => ⟨fun _ x ex => ?_, fun y => absurd y (by decide)⟩) (fun k3 v => ⟨fun y => absurd rfl y, fun _ => hp5 0 _ (Co_rf c5 (by decide) ?_)⟩) (fun k3 => ⟨fun y => absurd rfl y, fun _ => hp5 0 _ (Co_rf c5 (by decide) ?_)⟩)
      · have ev := c5.2.2.1.2.2.2.1 k3
        rw [ev] at ex
        have un : rx_num T n 0 3 e1 f = .inr (rx_v T n e1, rx_e T n e1, f) := by
          unfold rx_num
          rw [if_neg (fun y => y k3), if_pos v]
        rw [un] at hp5
        have hp5 : ∀ q h', Co h0 T n (if r = 0 ∧ an = false ∧ rx_v T n e1 = 0 then rx_no T n e1 4 else rx_pa T n l r (an || decide (¬ rx_v T n e1 = 0)) (rx_e T n e1) (rx_set f (86 + 4 * l + (3 - r)) (φ (rx_v T n e1)))) q h' → P q h' := hp5
        have ix : ((4 * (mI h5 2 5)) + l2).toInt = ((4 * l + (3 - r) : Nat) : Int) := by
          rw [e25]
          exact i_4t (o := 3 - r) el hl (by rw [e2]; omega) (by omega)
        have iq : l2 = 3 ↔ r = 0 := by
          rw [← Int32.toInt_inj, e2, i3]
          omega
        have x0 : x = 0 ↔ an = false ∧ rx_v T n e1 = 0 := by rw [ex, or_0, ha]
        have go : ¬ (r = 0 ∧ an = false ∧ rx_v T n e1 = 0) → (vp_in ((4 * (mI h5 2 5)) + l2) 72) ∧ (MCv g yX6_next uX6_next [.ref 1] (wI h5 20 ((4 * (mI h5 2 5)) + l2).toNatClampNeg (φ (mI h5 1 11))) (fun h12 => ME g uX6_readRay 26 [.ref 1, .int x, .int (l2 + 1), .retAddr 0] [] h12 (qI P))) := by
          intro hc
          rw [if_neg hc] at hp5
          refine ⟨i_vp ix (by omega), ?_⟩
          rw [i_nat ix, ev]
          have c6 := Cs_arr c5 (k := 20) (j := 4 * l + (3 - r)) (i := 86 + 4 * l + (3 - r)) (v := φ (rx_v T n e1)) (w := φ (rx_v T n e1)) (lo := -2147483648) (hi := 2147483647) rfl (R_full _) (by decide) (by decide) (by decide) (by omega) (by rw [show 86 + 4 * l + (3 - r) = 86 + (4 * l + (3 - r)) by omega]; exact Ar_20 (Cs_r0 c5) el (by omega) c5.2.2.2.2.2.2.2)
          refine c_next c6.1.1 c6.2.1 c6.2.2.1.2.1 (rx_e_le c6.2.2.2.1) (fun h9 k9 t9 => ih _ _ (an || decide (¬ rx_v T n e1 = 0)) _ _ h9 (Cs_next c6 k9 t9) ?_ ?_ (by omega) ?_ ?_ hp5)
          · intro k hk
            have q20 : mI h9 20 (4 * l + k) = mI (wI h5 20 (4 * l + (3 - r)) (φ (rx_v T n e1))) 20 (4 * l + k) := congrFun (Kp_2 k9 (by decide) (by decide)).1 _
            rw [q20, mI_wI]
            by_cases z : k = 3 - r
            · rw [if_pos ⟨rfl, by omega⟩, z, rx_set_i]
            · rw [if_neg (by omega), rx_set_o (by omega)]
              exact hx5 k (by omega)
          · rw [rx_set_o (by omega)]; exact el
          · rw [i_inc e2 (by omega)]; omega
          · rw [Bool.or_eq_false_iff, x0]
            refine and_congr_right (fun _ => ?_)
            rw [decide_eq_false_iff_not, Classical.not_not]
        rw [iq]
        refine ⟨fun y => go (fun z => y z.1), fun y => ⟨fun z => go (fun w => z (x0.mpr w.2)), fun z => ?_⟩⟩
        rw [if_pos ⟨y, x0.mp z⟩] at hp5
        exact c_refuse 4 ⟨Or.inl rfl, hp5 0 _ (Co_rf c5 (by decide) rfl)⟩
      · unfold rx_num
        rw [if_neg (fun y => y k3), if_neg v]
        rfl
      · unfold rx_num
        rw [if_pos k3]
        rfl
    have mid : ∀ (h3 : mh_T) (e0 : Nat), Cs h0 T n e0 f h3 → (∀ k, k < 3 - r → mI h3 20 (4 * l + k) = f (86 + 4 * l + k)) → (∀ q h', Co h0 T n (rx_bind (rx_num T n 0 3 (if rx_k T n e0 = 45 then rx_e T n e0 else e0) f) (fun v e1 f1 => if r = 0 ∧ an = false ∧ v = 0 then rx_no T n (if rx_k T n e0 = 45 then rx_e T n e0 else e0) 4 else rx_pa T n l r (an || decide (¬ v = 0)) e1 (rx_set f1 (86 + 4 * l + (3 - r)) (if rx_k T n e0 = 45 then -v else v)))) q h' → P q h') → _ := fun h3 e0 c3 hx3 hp3 => (show ((¬ rx_k T n e0 = 45 → _) ∧ (rx_k T n e0 = 45 → _)) from ⟨fun k => tail (fun x => x) h3 e0 c3 hx3 (by simp only [if_neg k] at hp3; exact hp3), fun k => fun (h20 : mh_T) (k20 : Kp h3 h20) (t20 : Tk h20 T n (rx_e T n e0)) => tail (fun x => -x) h20 (rx_e T n e0) (Cs_next c3 k20 t20) (fun k hk => by rw [show mI h20 20 (4 * l + k) = mI h3 20 (4 * l + k) from congrFun (Kp_2 k20 (by decide) (by decide)).1 _]; exact hx3 k hk) (by simp only [if_pos k] at hp3; exact hp3)⟩)
    refine r_X6_readRay_26 l1 l2 ⟨fun z => ?_, fun _ => ⟨fun z => ?_, fun z => ?_⟩⟩
    · rw [i_le, e2, i4] at z
      omega
    · rw [i_le, e2, i0] at z
      have hr3 : r = 3 := by omega
      have q := mid h e c (fun k hk => hx k (by omega)) (fun q h' o => hp q h' (by
        show Co h0 T n (rx_bind (if r = 3 then .inr ((), e, f) else rx_sign T n 44 e f) _) q h'
        rw [if_pos hr3]
        exact o))
      rw [c.2.2.1.2.2.1]
      exact ⟨q.1, fun k => c_next c.1.1 c.2.1 c.2.2.1.2.1 (rx_e_le c.2.2.2.1) (q.2 k)⟩
    · rw [i_le, e2, i0] at z
      have hr3 : ¬ r = 3 := by omega
      refine c_pass 44 c.1.1 c.2.1 c.2.2.1 c.2.2.2.1 (fun k h1 k1 t1 => ⟨fun _ => ?_, fun y => absurd y (by decide)⟩) (fun k => ⟨fun y => absurd rfl y, fun _ => hp 0 _ (Co_rf c (by decide) ?_)⟩)
      · have c1 := Cs_next c k1 t1
        have q := mid h1 _ c1 (fun k hk => by rw [show mI h1 20 (4 * l + k) = mI h 20 (4 * l + k) from congrFun (Kp_2 k1 (by decide) (by decide)).1 _]; exact hx k (by omega)) (fun q h' o => hp q h' (by
          show Co h0 T n (rx_bind (if r = 3 then .inr ((), e, f) else rx_sign T n 44 e f) _) q h'
          rw [if_neg hr3]
          unfold rx_sign
          rw [if_pos k]
          exact o))
        rw [c1.2.2.1.2.2.1]
        exact ⟨q.1, fun k => c_next c1.1.1 c1.2.1 c1.2.2.1.2.1 (rx_e_le c1.2.2.2.1) (q.2 k)⟩
      · show rx_bind (if r = 3 then .inr ((), e, f) else rx_sign T n 44 e f) _ = _
        rw [if_neg hr3]
        unfold rx_sign
        rw [if_neg k]
        rfl
theorem c_readRay {g : gT} {h0 h : mh_T} {P : Int32 → mh_T → Prop} {T : Nat → Int32} {n e : Nat} {f : Nat → Int32} (c : Cs h0 T n e f h) (hf : R 0 18 (f 85)) (hp : ∀ r h', Co h0 T n (rx_rayL T n e f) r h' → P r h') : MCi g yX6_readRay uX6_readRay [.ref 1] h P := by
  have e25 : mI h 2 5 = f 85 := c.2.2.2.2.1.1.2.2.2.2.2.1
  have i18 : (18 : Int32).toInt = 18 := by decide
  obtain ⟨l, el, l0, l18⟩ := i_R hf (by decide)
  refine e_X6_readRay ⟨fun z => ?_, fun z => ?_⟩
  · rw [e25, i_lt, el, i18] at z
    have n18 : ¬ f 85 = 18 := fun w => by rw [w, i18] at el; omega
    refine c_next c.1.1 c.2.1 c.2.2.1.2.1 (rx_e_le c.2.2.2.1) (fun h2 k2 t2 => ?_)
    refine c_readRay_L (l := l) (by omega) 4 0 0 false _ f h2 (Cs_next c k2 t2) (fun k hk => absurd hk (by omega)) el (Nat.le_refl _) (by decide) (by simp) (fun q h' o => hp q h' ?_)
    unfold rx_rayL
    rw [if_neg n18, i_nat el]
    exact o
  · rw [e25, i_lt, el, i18] at z
    have n18 : f 85 = 18 := Int32.toInt_inj.mp (by rw [el, i18]; omega)
    refine c_refuse 5 ⟨Or.inl rfl, hp 0 _ (Co_rf c (by decide) ?_)⟩
    unfold rx_rayL
    rw [if_pos n18]
/-- bit p of a set of points -/
theorem sm_nat : ∀ p, p < 9 → ((nI p &&& 31).toBitVec.smod 32) = BitVec.ofNat 32 p ∧ (BitVec.ofNat 32 p).toNat = p := by decide
theorem bt_0 {x r : Int32} {p : Nat} (e : r.toInt = (p : Int)) (hp : p < 9) : ((x >>> (r &&& 31)) &&& 1) = 0 ↔ bt x p = false := by
  have er : r = nI p := i_nI e (by omega)
  subst er
  obtain ⟨s1, s2⟩ := sm_nat p hp
  rw [← Int32.toBitVec_inj, Int32.toBitVec_and, Int32.toBitVec_shiftRight, s1]
  have h1 : (1 : Int32).toBitVec = 1#32 := rfl
  have h0 : (0 : Int32).toBitVec = 0#32 := rfl
  rw [h1, h0]
  unfold bt
  have key : (x.toBitVec.sshiftRight p)[0] = x.toBitVec.getLsbD p := by
    rw [← BitVec.getLsbD_eq_getElem (by decide), BitVec.getLsbD_sshiftRight]
    simp [show p < 32 by omega]
  constructor
  · intro h
    have := congrArg (fun b => b.getLsbD 0) h
    simp [BitVec.sshiftRight', s2] at this
    rw [key] at this
    exact this
  · intro h
    apply BitVec.eq_of_getLsbD_eq
    intro i hi
    by_cases z : i = 0
    · subst z
      simp [BitVec.sshiftRight', s2]
      rw [key]
      exact h
    · simp [z]
theorem bt_or {x r : Int32} {p q : Nat} (e : r.toInt = (p : Int)) (hp : p < 9) (hq : q < 9) : bt (x ||| (1 <<< (r &&& 31))) q = (q == p || bt x q) := by
  have er : r = nI p := i_nI e (by omega)
  subst er
  obtain ⟨s1, s2⟩ := sm_nat p hp
  unfold bt
  rw [Int32.toBitVec_or, Int32.toBitVec_shiftLeft, s1]
  have h1 : (1 : Int32).toBitVec = 1#32 := rfl
  rw [h1, BitVec.getLsbD_or]
  have : (1#32 <<< BitVec.ofNat 32 p).getLsbD q = (q == p) := by
    rw [BitVec.shiftLeft_eq', s2, BitVec.getLsbD_shiftLeft]
    have d : ∀ p, p < 9 → ∀ q, q < 9 → (decide (q < 32) && !decide (q < p) && (1#32).getLsbD (q - p)) = (q == p) := by decide
    exact d p hp q hq
  rw [this, Bool.or_comm]
theorem c_readParity_L {g : gT} {h0 : mh_T} {P : Int32 → mh_T → Prop} {T : Nat → Int32} {n l : Nat} (hl : l < 8) : ∀ (r : Nat) (l1 l2 : Int32) (u : Nat → Bool) (e : Nat) (f : Nat → Int32) (h : mh_T), Cs h0 T n e f h → (∃ ps : Nat → Nat, (∀ k, k < 3 - r → ps k < 9 ∧ f (53 + 3 * l + k) = Int32.ofNat (ps k)) ∧ (∀ k k', k < k' → k' < 3 - r → ¬ ps k = ps k') ∧ ∀ q, (u q = true ↔ ∃ k, k < 3 - r ∧ ps k = q)) → (f 52).toInt = (l : Int) → r ≤ 3 → l2.toInt = ((3 - r : Nat) : Int) → (∀ q, q < 9 → u q = bt l1 q) → (∀ q h', Co h0 T n (rx_bind (rx_pt T n l r u e f) (fun _ e1 f1 => rx_bind (rx_word T n 9 e1 f1) (fun _ e2 f2 => if rx_wd T n e2 (bytJS.getD 11 []) = true then .inr ((), rx_e T n e2, rx_set (rx_set f2 (77 + l) 1) 52 (f 52 + 1)) else if rx_wd T n e2 (bytJS.getD 10 []) = true then .inr ((), rx_e T n e2, rx_set f2 52 (f 52 + 1)) else rx_no T n e2 1))) q h' → P q h') → ME g uX6_readParity 26 [.ref 1, .int l1, .int l2, .retAddr 0] [] h (qI P) := by
  intro r
  have i0 : (0 : Int32).toInt = 0 := by decide
  have i3 : (3 : Int32).toInt = 3 := by decide
  induction r with
  | zero =>
    intro l1 l2 u e f h c hx el hr e2 ha hp
    refine r_X6_readParity_26 l1 l2 ⟨fun _ => ?_, fun z => ?_⟩
    · refine c_passWord 9 (by decide) c.1.1 c.2.1 c.2.2.1 c.2.2.2.1 (fun w h2 k2 t2 => ⟨fun _ => ?_, fun y => absurd y (by decide)⟩) (fun w => ⟨fun y => absurd rfl y, fun _ => hp 0 _ (Co_rf c (by decide) ?_)⟩)
      · have c2 := Cs_next c k2 t2
        have hp2 : ∀ q h', Co h0 T n (if rx_wd T n (rx_e T n e) (bytJS.getD 11 []) = true then .inr ((), rx_e T n (rx_e T n e), rx_set (rx_set f (77 + l) 1) 52 (f 52 + 1)) else if rx_wd T n (rx_e T n e) (bytJS.getD 10 []) = true then .inr ((), rx_e T n (rx_e T n e), rx_set f 52 (f 52 + 1)) else rx_no T n (rx_e T n e) 1) q h' → P q h' := by
          intro q h' o
          refine hp q h' ?_
          show Co h0 T n (rx_bind (rx_word T n 9 e f) _) q h'
          unfold rx_word
          rw [if_pos w]
          exact o
        have e24 : ∀ k : mh_T, Cs h0 T n (rx_e T n e) f k → mI k 2 4 = f 52 := fun k ck => ck.2.2.2.2.1.1.2.2.2.2.1
        have cA := Cs_arr0 c2 (k := 18) (j := l) (v := l1) (lo := -2147483648) (hi := 2147483647) rfl (R_full _) (by decide) (by decide) (by decide) (Ar_l el (Or.inl rfl) c2.2.2.2.2.2.2.2)
        have lp : Lp l1 (f (53 + 3 * l)) (f (54 + 3 * l)) (f (55 + 3 * l)) := by
          obtain ⟨ps, p1, p2, p3⟩ := hx
          refine ⟨ps, fun k hk => (p1 k hk).1, p2, ⟨?_, ?_, ?_⟩, fun t ht => ?_⟩
          · exact (p1 0 (by decide)).2
          · have := (p1 1 (by decide)).2
            rw [show 53 + 3 * l + 1 = 54 + 3 * l by omega] at this
            exact this
          · have := (p1 2 (by decide)).2
            rw [show 53 + 3 * l + 2 = 55 + 3 * l by omega] at this
            exact this
          · rw [← ha t ht]
            exact p3 t
        have fin : ∀ (b : Int32), (∀ h', Cs h0 T n (rx_e T n (rx_e T n e)) (rx_set (rx_set f (77 + l) b) 52 (f 52 + 1)) h' → P 1 h') → (vp_in (mI (wI h2 18 (mI h2 2 4).toNatClampNeg l1) 2 4) 8) ∧ (MCv g yX6_next uX6_next [.ref 1] (wI (wI (wI h2 18 (mI h2 2 4).toNatClampNeg l1) 19 (mI (wI h2 18 (mI h2 2 4).toNatClampNeg l1) 2 4).toNatClampNeg b) 2 4 ((mI (wI (wI h2 18 (mI h2 2 4).toNatClampNeg l1) 19 (mI (wI h2 18 (mI h2 2 4).toNatClampNeg l1) 2 4).toNatClampNeg b) 2 4) + 1)) (fun h13 => P 1 h13)) := by
          intro b hpp
          rw [e24 h2 c2, i_nat el]
          have s1 : mI (wI h2 18 l l1) 2 4 = f 52 := by rw [mI_wI, if_neg (fun z => absurd z.1 (by decide))]; exact e24 h2 c2
          rw [s1, i_nat el]
          have s2 : mI (wI (wI h2 18 l l1) 19 l b) 2 4 = f 52 := by rw [mI_wI, if_neg (fun z => absurd z.1 (by decide))]; exact s1
          rw [s2]
          refine ⟨i_vp el hl, ?_⟩
          have iu := i_inc el (by omega)
          have c3 := Cs_arr0 cA (k := 19) (j := l) (v := b) (lo := -2147483648) (hi := 2147483647) rfl (R_full _) (by decide) (by decide) (by decide) (Ar_l el (Or.inr rfl) cA.2.2.2.2.2.2.2)
          have hA4 : Ar (wI (wI h2 18 l l1) 19 l b) (rx_set (rx_set f (77 + l) b) 52 (f 52 + 1)) := Ar_52 (Cs_r0 c3) (Cs_y0 c3) el hl (by rw [mI_wI, if_pos ⟨rfl, rfl⟩]) (by rw [mI_wI, if_neg (fun z => absurd z.1 (by decide)), mI_wI, if_pos ⟨rfl, rfl⟩]; exact lp) c3.2.2.2.2.2.2.2
          have c4 : Cs h0 T n (rx_e T n e) (rx_set (rx_set f (77 + l) b) 52 (f 52 + 1)) (wI (wI (wI h2 18 l l1) 19 l b) 2 4 (f 52 + 1)) := Cs_w c3 (k := 2) (j := 4) (lo := 0) (hi := 8) (by decide) ⟨by omega, by omega⟩ (by decide) (by decide) (Dr_cnt (Dr_same (f := f) (fun q hq => rx_set_o (by omega)) c3.2.2.2.2.1) (by omega)) (Nv_same (f := f) (fun q hq => by rw [rx_set_o (by omega), rx_set_o (by omega)]) c3.2.2.2.2.2.1) (Ar_k (by decide) hA4)
          exact c_next c4.1.1 c4.2.1 c4.2.2.1.2.1 (rx_e_le c4.2.2.2.1) (fun h13 k13 t13 => hpp h13 (Cs_next c4 k13 t13))
        have ez : rx_set f (77 + l) 0 = f := by
          funext i
          unfold rx_set
          split
          · rename_i z
            rw [z]
            exact (c.2.2.2.2.2.2.2.2.2.2.2.1 l hl (by omega)).symm
          · rfl
        have eidx : (mI h2 2 4).toNatClampNeg = l := by rw [e24 h2 c2, i_nat el]
        have odd : rx_wd T n (rx_e T n e) (bytJS.getD 11 []) = true → (vp_in (mI (wI h2 18 (mI h2 2 4).toNatClampNeg l1) 2 4) 8) ∧ (MCv g yX6_next uX6_next [.ref 1] (wI (wI (wI h2 18 (mI h2 2 4).toNatClampNeg l1) 19 (mI (wI h2 18 (mI h2 2 4).toNatClampNeg l1) 2 4).toNatClampNeg 1) 2 4 ((mI (wI (wI h2 18 (mI h2 2 4).toNatClampNeg l1) 19 (mI (wI h2 18 (mI h2 2 4).toNatClampNeg l1) 2 4).toNatClampNeg 1) 2 4) + 1)) (fun h13 => P 1 h13)) := by
          intro wo
          rw [if_pos wo] at hp2
          exact fin 1 (fun h' c' => hp2 1 h' (Or.inl ⟨_, _, rfl, rfl, c'⟩))
        have evn : ¬ rx_wd T n (rx_e T n e) (bytJS.getD 11 []) = true → rx_wd T n (rx_e T n e) (bytJS.getD 10 []) = true → (vp_in (mI (wI h2 18 (mI h2 2 4).toNatClampNeg l1) 2 4) 8) ∧ (MCv g yX6_next uX6_next [.ref 1] (wI (wI (wI h2 18 (mI h2 2 4).toNatClampNeg l1) 19 (mI (wI h2 18 (mI h2 2 4).toNatClampNeg l1) 2 4).toNatClampNeg 0) 2 4 ((mI (wI (wI h2 18 (mI h2 2 4).toNatClampNeg l1) 19 (mI (wI h2 18 (mI h2 2 4).toNatClampNeg l1) 2 4).toNatClampNeg 0) 2 4) + 1)) (fun h13 => P 1 h13)) := by
          intro wo we
          rw [if_neg wo, if_pos we] at hp2
          exact fin 0 (fun h' c' => hp2 1 h' (Or.inl ⟨_, _, rfl, rfl, by rw [ez] at c'; exact c'⟩))
        have v8 : vp_in (mI h2 2 4) 8 := by rw [e24 h2 c2]; exact i_vp el hl
        have cA' : Cs h0 T n (rx_e T n e) f (wI h2 18 (mI h2 2 4).toNatClampNeg l1) := by rw [eidx]; exact cA
        refine c_says 10 (by decide) c2.2.1 c2.2.2.1 c2.2.2.2.1 (fun we => ⟨fun _ => ⟨v8, ?_⟩, fun y => absurd y (by decide)⟩) (fun we => ⟨fun y => absurd rfl y, fun _ => ?_⟩)
        · exact c_says 11 (by decide) cA'.2.1 cA'.2.2.1 cA'.2.2.2.1 (fun wo => ⟨fun y => absurd y (by decide), fun _ => odd wo⟩) (fun wo => ⟨fun _ => evn wo we, fun y => absurd rfl y⟩)
        · refine c_says 11 (by decide) c2.2.1 c2.2.2.1 c2.2.2.2.1 (fun wo => ⟨fun _ => ⟨v8, ?_⟩, fun y => absurd y (by decide)⟩) (fun wo => ⟨fun y => absurd rfl y, fun _ => ?_⟩)
          · exact c_says 11 (by decide) cA'.2.1 cA'.2.2.1 cA'.2.2.2.1 (fun wo => ⟨fun y => absurd y (by decide), fun _ => odd wo⟩) (fun wo2 => absurd wo wo2)
          · rw [if_neg wo, if_neg we] at hp2
            exact c_refuse 1 ⟨Or.inl rfl, hp2 0 _ (Co_rf c2 (by decide) rfl)⟩
      · show rx_bind (rx_word T n 9 e f) _ = _
        unfold rx_word
        rw [if_neg w]
        rfl
    · rw [i_le, e2, i3] at z
      omega
  | succ r ih =>
    intro l1 l2 u e f h c hx el hr e2 ha hp
    have body : ∀ (h3 : mh_T) (e0 : Nat), Cs h0 T n e0 f h3 → (∀ q h', Co h0 T n (rx_bind (rx_bind (rx_name T n false e0 f) (fun p e1 f1 => if u p = true then rx_no T n e0 3 else rx_pt T n l r (fun q => q == p || u q) e1 (rx_set f1 (53 + 3 * l + (2 - r)) (Int32.ofNat p)))) (fun _ e1 f1 => rx_bind (rx_word T n 9 e1 f1) (fun _ e2 f2 => if rx_wd T n e2 (bytJS.getD 11 []) = true then .inr ((), rx_e T n e2, rx_set (rx_set f2 (77 + l) 1) 52 (f 52 + 1)) else if rx_wd T n e2 (bytJS.getD 10 []) = true then .inr ((), rx_e T n e2, rx_set f2 52 (f 52 + 1)) else rx_no T n e2 1))) q h' → P q h') → MCi g yX6_nameAmong uX6_nameAmong [.ref 1, .ref 14, .int (mI h3 2 2)] h3 (fun r31 h30 => (0 ≤ r31 → (((l1 >>> (r31 &&& 31)) &&& 1) = 0 → ∀ x34 : Int32, x34 = (l1 ||| (1 <<< (r31 &&& 31))) → MCv g yX6_next uX6_next [.ref 1] h30 (fun h35 => ME g uX6_readParity 26 [.ref 1, .int x34, .int (l2 + 1), .retAddr 0] [] h35 (qI P))) ∧ (¬ ((l1 >>> (r31 &&& 31)) &&& 1) = 0 → MCi g yX6_refuse uX6_refuse [.ref 1, .int 3] h30 (fun r37 h36 => (r37 = 0 ∨ r37 = 1) ∧ P r37 h36))) ∧ (¬ 0 ≤ r31 → P 0 h30)) := by
      intro h3 e0 c3 hp3
      refine c_nameP c3.2.1 c3.2.2.1 c3.2.2.2.1 c3.2.2.2.2.1 c3.2.2.2.2.2.1 (fun r31 p ep er p9 => ⟨fun _ => ?_, fun w => ?_⟩) (fun w hw ep => ⟨fun y => absurd y (by decide), fun _ => hp3 0 _ (Co_rf c3 hw ?_)⟩)
      · rw [ep] at hp3
        rw [bt_0 er p9, ← ha p p9]
        refine ⟨fun z x ex => ?_, fun z => ?_⟩
        · have nz : ¬ u p = true := by rw [z]; decide
          refine c_next c3.1.1 c3.2.1 c3.2.2.1.2.1 (rx_e_le c3.2.2.2.1) (fun h35 k35 t35 => ?_)
          have c4 := Cs_f (Cs_next c3 k35 t35) (i := 53 + 3 * l + (2 - r)) (w := Int32.ofNat p) (by omega) (Ar_p (Cs_r0 c3) (Cs_y0 c3) el (by omega) (Cs_next c3 k35 t35).2.2.2.2.2.2.2)
          refine ih x (l2 + 1) (fun q => q == p || u q) _ _ h35 c4 ?_ ?_ (by omega) ?_ ?_ (fun q h' o => hp3 q h' ?_)
          · obtain ⟨ps, p1, p2, p3⟩ := hx
            have np : ∀ k, k < 3 - (r + 1) → ¬ ps k = p := fun k hk y => nz ((p3 p).mpr ⟨k, hk, y⟩)
            refine ⟨fun k => if k = 2 - r then p else ps k, fun k hk => ?_, fun k k' h1 h2 => ?_, fun q => ?_⟩
            · show (if k = 2 - r then p else ps k) < 9 ∧ _ = Int32.ofNat (if k = 2 - r then p else ps k)
              by_cases y : k = 2 - r
              · rw [if_pos y, y, rx_set_i]
                exact ⟨p9, rfl⟩
              · rw [if_neg y, rx_set_o (by omega)]
                exact p1 k (by omega)
            · show ¬ (if k = 2 - r then p else ps k) = (if k' = 2 - r then p else ps k')
              rw [if_neg (by omega : ¬ k = 2 - r)]
              by_cases y : k' = 2 - r
              · rw [if_pos y]
                exact np k (by omega)
              · rw [if_neg y]
                exact p2 k k' h1 (by omega)
            · show ((q == p || u q) = true) ↔ _
              rw [Bool.or_eq_true, beq_iff_eq, p3 q]
              constructor
              · rintro (y | ⟨k, y1, y2⟩)
                · exact ⟨2 - r, by omega, by show (if 2 - r = 2 - r then p else ps (2 - r)) = q; rw [if_pos rfl, y]⟩
                · exact ⟨k, by omega, by show (if k = 2 - r then p else ps k) = q; rw [if_neg (by omega)]; exact y2⟩
              · rintro ⟨k, y1, y2⟩
                have y2 : (if k = 2 - r then p else ps k) = q := y2
                by_cases y : k = 2 - r
                · rw [if_pos y] at y2
                  exact Or.inl y2.symm
                · rw [if_neg y] at y2
                  exact Or.inr ⟨k, by omega, y2⟩
          · rw [rx_set_o (by omega)]; exact el
          · rw [i_inc e2 (by omega)]; omega
          · intro q hq
            rw [ex, bt_or er p9 hq, ha q hq]
          · show Co h0 T n (rx_bind (if u p = true then _ else _) _) q h'
            rw [if_neg nz]
            rw [rx_set_o (by omega)] at o
            exact o
        · have nz : u p = true := by
            cases hup : u p with
            | true => rfl
            | false => exact absurd hup z
          refine c_refuse 3 ⟨Or.inl rfl, hp3 0 _ (Co_rf c3 (by decide) ?_)⟩
          show rx_bind (if u p = true then _ else _) _ = _
          rw [if_pos nz]
          rfl
      · exfalso
        apply w
        rw [i_le, i0, er]
        omega
      · rw [ep]
        rfl
    refine r_X6_readParity_26 l1 l2 ⟨fun z => ?_, fun _ => ⟨fun z => ?_, fun z => ?_⟩⟩
    · rw [i_le, e2, i3] at z
      omega
    · rw [i_le, e2, i0] at z
      have hr2 : r = 2 := by omega
      refine body h e c (fun q h' o => hp q h' ?_)
      show Co h0 T n (rx_bind (rx_bind (if r = 2 then .inr ((), e, f) else rx_sign T n 44 e f) _) _) q h'
      rw [if_pos hr2]
      exact o
    · rw [i_le, e2, i0] at z
      have hr2 : ¬ r = 2 := by omega
      refine c_pass 44 c.1.1 c.2.1 c.2.2.1 c.2.2.2.1 (fun k h1 k1 t1 => ⟨fun _ => ?_, fun y => absurd y (by decide)⟩) (fun k => ⟨fun y => absurd rfl y, fun _ => hp 0 _ (Co_rf c (by decide) ?_)⟩)
      · refine body h1 _ (Cs_next c k1 t1) (fun q h' o => hp q h' ?_)
        show Co h0 T n (rx_bind (rx_bind (if r = 2 then .inr ((), e, f) else rx_sign T n 44 e f) _) _) q h'
        rw [if_neg hr2]
        unfold rx_sign
        rw [if_pos k]
        exact o
      · show rx_bind (rx_bind (if r = 2 then .inr ((), e, f) else rx_sign T n 44 e f) _) _ = _
        rw [if_neg hr2]
        unfold rx_sign
        rw [if_neg k]
        rfl
theorem c_readParity {g : gT} {h0 h : mh_T} {P : Int32 → mh_T → Prop} {T : Nat → Int32} {n e : Nat} {f : Nat → Int32} (c : Cs h0 T n e f h) (hf : R 0 8 (f 52)) (hp : ∀ r h', Co h0 T n (rx_lineL T n e f) r h' → P r h') : MCi g yX6_readParity uX6_readParity [.ref 1] h P := by
  have e24 : mI h 2 4 = f 52 := c.2.2.2.2.1.1.2.2.2.2.1
  have i8 : (8 : Int32).toInt = 8 := by decide
  obtain ⟨l, el, l0, l8⟩ := i_R hf (by decide)
  refine e_X6_readParity ⟨fun z => ?_, fun z => ?_⟩
  · rw [e24, i_lt, el, i8] at z
    have n8 : ¬ f 52 = 8 := fun w => by rw [w, i8] at el; omega
    refine c_next c.1.1 c.2.1 c.2.2.1.2.1 (rx_e_le c.2.2.2.1) (fun h2 k2 t2 => ?_)
    refine c_readParity_L (l := l) (by omega) 3 0 0 (fun _ => false) _ f h2 (Cs_next c k2 t2) ⟨fun _ => 0, fun k hk => absurd hk (by omega), fun k k' _ hk => absurd hk (by omega), fun q => ⟨fun z => (by cases z), fun ⟨k, hk, _⟩ => absurd hk (by omega)⟩⟩ el (Nat.le_refl _) (by decide) (fun q _ => by unfold bt; simp) (fun q h' o => hp q h' ?_)
    unfold rx_lineL
    rw [if_neg n8, i_nat el]
    exact o
  · rw [e24, i_lt, el, i8] at z
    have n8 : f 52 = 8 := Int32.toInt_inj.mp (by rw [el, i8]; omega)
    refine c_refuse 5 ⟨Or.inl rfl, hp 0 _ (Co_rf c (by decide) ?_)⟩
    unfold rx_lineL
    rw [if_pos n8]
theorem Cs_rg {h0 h : mh_T} {T : Nat → Int32} {n e : Nat} {f : Nat → Int32} (c : Cs h0 T n e f h) : R 0 8 (f 0) ∧ R 0 8 (f 52) ∧ R 0 18 (f 85) ∧ R 0 4 (f 158) := by
  obtain ⟨d0, d1, d2, d3, d4, d5, d6⟩ := c.2.2.2.2.1.1
  rw [← d3, ← d4, ← d5, ← d6]
  exact ⟨GI_rd c.1.1 2 3 (by decide), GI_rd c.1.1 2 4 (by decide), GI_rd c.1.1 2 5 (by decide), GI_rd c.1.1 2 6 (by decide)⟩
theorem c_readLine {g : gT} {h0 h : mh_T} {P : Int32 → mh_T → Prop} {T : Nat → Int32} {n e : Nat} {f : Nat → Int32} (c : Cs h0 T n e f h) (hp : ∀ r h', Co h0 T n (rx_line T n e f) r h' → P r h') : MCi g yX6_readLine uX6_readLine [.ref 1] h P := by
  obtain ⟨r0, r52, r85, r158⟩ := Cs_rg c
  have hp2 : ∀ r h', Co h0 T n (rx_line T n e f) r h' → (r = 0 ∨ r = 1) ∧ P r h' := by
    intro r h' o
    have q := hp r h' o
    rcases o with ⟨_, _, _, z, _⟩ | ⟨_, _, _, z, _⟩
    · exact ⟨Or.inr z, q⟩
    · exact ⟨Or.inl z, q⟩
  unfold rx_line at hp2
  refine e_X6_readLine ?_
  refine c_says 0 (by decide) c.2.1 c.2.2.1 c.2.2.2.1 (fun z => ⟨fun y => absurd y (by decide), fun _ => ?_⟩) (fun z0 => ⟨fun _ => ?_, fun y => absurd rfl y⟩)
  · rw [if_pos z] at hp2
    exact c_readLaw c hp2
  rw [if_neg z0] at hp2
  refine c_says 1 (by decide) c.2.1 c.2.2.1 c.2.2.2.1 (fun z => ⟨fun y => absurd y (by decide), fun _ => ?_⟩) (fun z1 => ⟨fun _ => ?_, fun y => absurd rfl y⟩)
  · rw [if_pos z] at hp2
    refine e_X6_readNames 13 6 1 rfl ?_
    exact c_readNames 13 1 50 0 6 1 6 (Or.inl ⟨rfl, rfl, rfl, rfl, rfl, by decide, rfl⟩) 7 0 e f h c (by decide) (by decide) (by have := c.2.2.2.2.2.1.1.1; rw [show (0 : Int32).toInt = 0 from by decide]; exact this) hp2
  rw [if_neg z1] at hp2
  refine c_says 2 (by decide) c.2.1 c.2.2.1 c.2.2.2.1 (fun z => ⟨fun y => absurd y (by decide), fun _ => ?_⟩) (fun z2 => ⟨fun _ => ?_, fun y => absurd rfl y⟩)
  · rw [if_pos z] at hp2
    refine e_X6_readNames 14 9 0 rfl ?_
    exact c_readNames 14 2 51 6 9 0 9 (Or.inr ⟨rfl, rfl, rfl, rfl, rfl, rfl, rfl⟩) 10 0 e f h c (by decide) (by decide) (by have := c.2.2.2.2.2.1.2.1.1; rw [show (0 : Int32).toInt = 0 from by decide]; exact this) hp2
  rw [if_neg z2] at hp2
  refine c_says 3 (by decide) c.2.1 c.2.2.1 c.2.2.2.1 (fun z => ⟨fun y => absurd y (by decide), fun _ => ?_⟩) (fun z3 => ⟨fun _ => ?_, fun y => absurd rfl y⟩)
  · rw [if_pos z] at hp2
    exact c_readSet c r0 hp2
  rw [if_neg z3] at hp2
  refine c_says 4 (by decide) c.2.1 c.2.2.1 c.2.2.2.1 (fun z => ⟨fun y => absurd y (by decide), fun _ => ?_⟩) (fun z4 => ⟨fun _ => ?_, fun y => absurd rfl y⟩)
  · rw [if_pos z] at hp2
    exact c_readParity c r52 hp2
  rw [if_neg z4] at hp2
  refine c_says 5 (by decide) c.2.1 c.2.2.1 c.2.2.2.1 (fun z => ⟨fun y => absurd y (by decide), fun _ => ?_⟩) (fun z5 => ⟨fun _ => ?_, fun y => absurd rfl y⟩)
  · rw [if_pos z] at hp2
    exact c_readRay c r85 hp2
  rw [if_neg z5] at hp2
  refine c_says 6 (by decide) c.2.1 c.2.2.1 c.2.2.2.1 (fun z => ⟨fun y => absurd y (by decide), fun _ => ?_⟩) (fun z6 => ⟨fun _ => ?_, fun y => absurd rfl y⟩)
  · rw [if_pos z] at hp2
    exact c_readRun c r158 hp2
  rw [if_neg z6] at hp2
  exact c_refuse 1 (hp2 0 _ (Co_rf c (by decide) rfl))
/-- what follows a line -/
def rx_on (T : Nat → Int32) (n e1 : Nat) (f1 : Nat → Int32) : rx_O Bool := if rx_k T n e1 = 0 then (if f1 49 = 0 ∨ f1 50 = 0 then rx_no T n e1 6 else .inr (false, e1, f1)) else if rx_k T n e1 = 59 then .inr (true, rx_e T n e1, f1) else rx_no T n e1 1
theorem c_goesOn {g : gT} {h0 h : mh_T} {P : Int32 → mh_T → Prop} {T : Nat → Int32} {n e : Nat} {f : Nat → Int32} (c : Cs h0 T n e f h) (h1 : rx_on T n e f = .inr (true, rx_e T n e, f) → ∀ h', Cs h0 T n (rx_e T n e) f h' → P 1 h') (h2 : rx_on T n e f = .inr (false, e, f) → P 0 h) (h3 : ∀ w, rx_on T n e f = rx_no T n e w → ∀ h', Cx h0 w (rx_s T n e) h' → P 0 h') : MCi g yX6_goesOn uX6_goesOn [.ref 1] h P := by
  obtain ⟨d0, d1, -⟩ := c.2.2.2.2.1.1
  unfold rx_on at h1 h2 h3
  refine e_X6_goesOn ⟨fun z => ?_, fun z => ?_⟩
  · rw [c.2.2.1.2.2.1] at z
    rw [if_neg z] at h1 h2 h3
    refine c_pass 59 c.1.1 c.2.1 c.2.2.1 c.2.2.2.1 (fun k h' k1 t1 => ⟨Or.inr rfl, ?_⟩) (fun k => ⟨Or.inl rfl, ?_⟩)
    · rw [if_pos k] at h1
      exact h1 rfl h' (Cs_next c k1 t1)
    · rw [if_neg k] at h3
      exact h3 1 rfl _ (Cs_rf c (by decide))
  · rw [c.2.2.1.2.2.1] at z
    rw [if_pos z] at h1 h2 h3
    rw [d0, d1]
    refine ⟨fun y => ?_, fun y => ⟨fun x => ?_, fun x => ?_⟩⟩
    · rw [if_pos (Or.inl y)] at h3
      exact c_refuse 6 (h3 6 rfl _ (Cs_rf c (by decide)))
    · rw [if_neg (by rintro (q | q); exact y q; exact x q)] at h2
      exact h2 rfl
    · rw [if_pos (Or.inr x)] at h3
      exact c_refuse 6 (h3 6 rfl _ (Cs_rf c (by decide)))
/-! the text is read forward -/
def rx_up {α : Type} (e : Nat) (o : rx_O α) : Prop := ∀ a e1 f1, o = .inr (a, e1, f1) → e ≤ e1
theorem up_no {α : Type} {T : Nat → Int32} {n e e0 : Nat} {w : Int32} : rx_up (α := α) e (rx_no T n e0 w) := fun _ _ _ h => by cases h
theorem up_ok {α : Type} {e e1 : Nat} {a : α} {f : Nat → Int32} (h : e ≤ e1) : rx_up e (.inr (a, e1, f)) := fun _ _ _ z => by cases z; exact h
theorem up_bind {α β : Type} {e : Nat} {x : rx_O α} {k : α → Nat → (Nat → Int32) → rx_O β} (hx : rx_up e x) (hk : ∀ a e1 f1, e ≤ e1 → rx_up e1 (k a e1 f1)) : rx_up e (rx_bind x k) := by
  intro b e2 f2 h
  cases x with
  | inl q => cases h
  | inr q =>
    obtain ⟨a, e1, f1⟩ := q
    have h1 := hx a e1 f1 rfl
    exact Nat.le_trans h1 (hk a e1 f1 h1 b e2 f2 h)
theorem up_tr {α : Type} {e e0 : Nat} {o : rx_O α} (h : e ≤ e0) (u : rx_up e0 o) : rx_up e o := fun a e1 f1 z => Nat.le_trans h (u a e1 f1 z)
theorem up_e (T : Nat → Int32) (n e : Nat) : e ≤ rx_e T n e := Nat.le_trans (rx_s_ge T n e) (rx_e_ge T n e)
theorem up_word {T : Nat → Int32} {n i e : Nat} {f : Nat → Int32} : rx_up e (rx_word T n i e f) := by
  unfold rx_word
  split
  · exact up_ok (up_e T n e)
  · exact up_no
theorem up_sign {T : Nat → Int32} {n e : Nat} {c : Int32} {f : Nat → Int32} : rx_up e (rx_sign T n c e f) := by
  unfold rx_sign
  split
  · exact up_ok (up_e T n e)
  · exact up_no
theorem up_num {T : Nat → Int32} {n e : Nat} {lo hi : Int32} {f : Nat → Int32} : rx_up e (rx_num T n lo hi e f) := by
  unfold rx_num
  split
  · exact up_no
  · split
    · exact up_ok (up_e T n e)
    · exact up_no
theorem up_name {T : Nat → Int32} {n e : Nat} {b : Bool} {f : Nat → Int32} : rx_up e (rx_name T n b e f) := by
  unfold rx_name
  split
  · split
    · exact up_no
    · split
      · exact up_ok (up_e T n e)
      · exact up_no
  · exact up_no
theorem up_nn {T : Nat → Int32} {n c fs : Nat} {mo : Int32} : ∀ k e f, rx_up e (rx_nn T n c fs mo k e f)
  | 0, e, f => up_no
  | k + 1, e, f => by
    unfold rx_nn
    split
    · split
      · exact up_no
      · split
        · exact up_no
        · split
          · exact up_tr (Nat.le_trans (up_e T n e) (up_e T n _)) (up_nn k _ _)
          · exact up_ok (up_e T n e)
    · exact up_no
theorem up_tm {T : Nat → Int32} {n s many : Nat} : ∀ r sum e f, rx_up e (rx_tm T n s many r sum e f)
  | 0, sum, e, f => up_ok (Nat.le_refl e)
  | r + 1, sum, e, f => by
    unfold rx_tm
    refine up_bind ?_ (fun _ e0 f0 _ => up_bind up_num (fun v e1 f1 _ => ?_))
    · split
      · exact up_ok (Nat.le_refl e)
      · exact up_sign
    · split
      · exact up_no
      · exact up_tm r _ _ _
theorem up_tell {T : Nat → Int32} {n one e : Nat} {two : Int32} {f : Nat → Int32} : rx_up e (rx_tell T n one two e f) := up_bind up_word (fun _ _ _ _ => up_tm _ _ _ _)
theorem up_pt {T : Nat → Int32} {n l : Nat} : ∀ r u e f, rx_up e (rx_pt T n l r u e f)
  | 0, u, e, f => up_ok (Nat.le_refl e)
  | r + 1, u, e, f => by
    unfold rx_pt
    refine up_bind ?_ (fun _ e0 f0 _ => up_bind up_name (fun v e1 f1 _ => ?_))
    · split
      · exact up_ok (Nat.le_refl e)
      · exact up_sign
    · split
      · exact up_no
      · exact up_pt r _ _ _
theorem up_pa {T : Nat → Int32} {n l : Nat} : ∀ r an e f, rx_up e (rx_pa T n l r an e f)
  | 0, an, e, f => up_ok (Nat.le_refl e)
  | r + 1, an, e, f => by
    unfold rx_pa
    refine up_bind ?_ (fun _ e0 f0 _ => up_tr (e0 := if rx_k T n e0 = 45 then rx_e T n e0 else e0) ?_ (up_bind up_num (fun v e1 f1 _ => ?_)))
    · split
      · exact up_ok (Nat.le_refl e)
      · exact up_sign
    · split
      · exact up_e T n e0
      · exact Nat.le_refl e0
    · split
      · exact up_no
      · exact up_pa r _ _ _
theorem up_st {T : Nat → Int32} {n l : Nat} : ∀ r e f, rx_up e (rx_st T n l r e f)
  | 0, e, f => up_bind up_name (fun _ _ _ _ => up_no)
  | r + 1, e, f => by
    unfold rx_st
    refine up_bind up_name (fun k e1 f1 _ => up_bind up_num (fun v e2 f2 _ => ?_))
    split
    · exact up_tr (up_e T n e2) (up_st r _ _)
    · exact up_ok (Nat.le_refl e2)
theorem up_line {T : Nat → Int32} {n e : Nat} {f : Nat → Int32} : rx_up e (rx_line T n e f) := by
  have ue := up_e T n e
  unfold rx_line
  split
  · unfold rx_lawL
    split
    · exact up_tr ue (up_bind up_word (fun _ e1 f1 _ => up_bind up_num (fun v e2 f2 _ => up_ok (Nat.le_refl e2))))
    · exact up_no
  split
  · exact up_tr ue (up_nn _ _ _)
  split
  · exact up_tr ue (up_nn _ _ _)
  split
  · unfold rx_setL
    split
    · exact up_no
    · split
      · exact up_no
      · refine up_tr ue (up_bind up_name (fun one e1 f1 _ => ?_))
        split
        · refine up_tr (up_e T n e1) (up_bind up_name (fun two e2 f2 _ => ?_))
          split
          · exact up_no
          · exact up_tell
        · exact up_tell
  split
  · unfold rx_lineL
    split
    · exact up_no
    · refine up_tr ue (up_bind (up_pt _ _ _ _) (fun _ e1 f1 _ => up_bind up_word (fun _ e2 f2 _ => ?_)))
      split
      · exact up_ok (up_e T n e2)
      · split
        · exact up_ok (up_e T n e2)
        · exact up_no
  split
  · unfold rx_rayL
    split
    · exact up_no
    · exact up_tr ue (up_pa _ _ _ _)
  split
  · unfold rx_runL
    split
    · exact up_no
    · exact up_tr ue (up_st _ _ _)
  exact up_no
def Cz (h0 : mh_T) (T : Nat → Int32) (n : Nat) (o : rx_O Unit) (h : mh_T) : Prop := (∃ e f, o = .inr ((), e, f) ∧ Cs h0 T n e f h) ∨ (∃ w p, o = .inl (w, p) ∧ Cx h0 w p h)
theorem rx_kn {T : Nat → Int32} {n e : Nat} (h : ¬ rx_k T n e = 0) : rx_s T n e < n := by
  by_cases c : rx_s T n e < n
  · exact c
  · exfalso
    apply h
    unfold rx_k
    rw [if_neg c]
theorem c_read_L {g : gT} {h0 : mh_T} {P : mh_T → Prop} {T : Nat → Int32} {n : Nat} (l1 : Int32) : ∀ (k : Nat) (l3 : Int32) (j e : Nat) (f : Nat → Int32) (h : mh_T), Cs h0 T n e f h → l3.toInt = (j : Int) → j ≤ e → n - e < k → (∀ h', Cz h0 T n (rx_text T n k e f) h' → P h') → ME g uX6_read 43 [.ref 1, .int l1, .int 1, .int l3] [] h (qV P) := by
  intro k
  induction k with
  | zero => intro l3 j e f h _ _ _ hk; exact absurd hk (Nat.not_lt_zero _)
  | succ k ih =>
    intro l3 j e f h c ej hj hk hp
    have n9 := c.2.1.2.1
    have hen := c.2.2.2.1
    have un : rx_text T n (k + 1) e f = rx_bind (rx_line T n e f) (fun _ e1 f1 => if rx_k T n e1 = 0 then (if f1 49 = 0 ∨ f1 50 = 0 then rx_no T n e1 6 else .inr ((), e1, f1)) else if rx_k T n e1 = 59 then rx_text T n k (rx_e T n e1) f1 else rx_no T n e1 1) := rfl
    rw [un] at hp
    have stop : ∀ (h' : mh_T) (l : Int32), P h' → ME g uX6_read 43 [.ref 1, .int l1, .int 0, .int l] [] h' (qV P) := fun h' l q => r_X6_read_43 l1 0 l ⟨fun _ => q, fun y => absurd rfl y⟩
    refine r_X6_read_43 l1 1 l3 ⟨fun y => absurd y (by decide), fun _ => ⟨fun z => ?_, fun _ => ?_⟩⟩
    · rw [i_lt, c.2.1.1, ej] at z
      omega
    refine c_readLine c (fun r h3 o => ?_)
    rcases o with ⟨e1, f1, eo, er, c1⟩ | ⟨w, p, eo, er, cx⟩ <;> subst er
    · refine ⟨fun y => absurd y (by decide), fun _ => ?_⟩
      have ue := up_line (T := T) (n := n) (e := e) (f := f) _ _ _ eo
      rw [eo] at hp
      have hp : ∀ h', Cz h0 T n (if rx_k T n e1 = 0 then (if f1 49 = 0 ∨ f1 50 = 0 then rx_no T n e1 6 else .inr ((), e1, f1)) else if rx_k T n e1 = 59 then rx_text T n k (rx_e T n e1) f1 else rx_no T n e1 1) h' → P h' := hp
      refine c_goesOn c1 (fun z h6 c6 => ⟨fun y => absurd y (by decide), fun _ => ?_⟩) (fun z => ⟨fun _ => stop _ _ (hp h3 (Or.inl ⟨e1, f1, ?_, c1⟩)), fun y => absurd rfl y⟩) (fun w z h6 cx => ⟨fun _ => stop _ _ (hp h6 (Or.inr ⟨w, rx_s T n e1, ?_, cx⟩)), fun y => absurd rfl y⟩)
      · unfold rx_on at z
        by_cases k0 : rx_k T n e1 = 0
        · rw [if_pos k0] at z
          split at z <;> cases z
        · rw [if_neg k0] at z hp
          by_cases k9 : rx_k T n e1 = 59
          · rw [if_pos k9] at hp
            have g0 := rx_kn k0
            have g1 := rx_e_gt (rx_kn k0)
            have g2 := rx_s_ge T n e1
            refine ih (l3 + 1) (j + 1) _ f1 h6 c6 (i_inc ej (by omega)) (by omega) (by omega) hp
          · rw [if_neg k9] at z
            cases z
      · unfold rx_on at z
        by_cases k0 : rx_k T n e1 = 0
        · rw [if_pos k0] at z ⊢
          split at z
          · cases z
          · rename_i q
            rw [if_neg q]
        · rw [if_neg k0] at z
          split at z <;> cases z
      · unfold rx_on at z
        by_cases k0 : rx_k T n e1 = 0
        · rw [if_pos k0] at z ⊢
          split at z
          · rename_i q
            rw [if_pos q]
            cases z
            rfl
          · cases z
        · rw [if_neg k0] at z ⊢
          split at z
          · cases z
          · rename_i q
            rw [if_neg q]
            cases z
            rfl
    · refine ⟨fun _ => stop _ _ (hp h3 (Or.inr ⟨w, p, ?_, cx⟩)), fun y => absurd rfl y⟩
      rw [eo]
      rfl
