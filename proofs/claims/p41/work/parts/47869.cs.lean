theorem c_tells {g : gT} {h0 h : mh_T} {P : Int32 → mh_T → Prop} {T : Nat → Int32} {n e : Nat} {f : Nat → Int32} (c : Cs h0 T n e f h) (one : Nat) (two r5 : Int32) (e5 : r5.toInt = (one : Int)) (h6 : one < 6) (r2 : R (-2) 5 two) {s : Nat} (es : (f 0).toInt = (s : Int)) (hs : s < 8) (many : Int32) (em : many.toInt = if two = -2 then 2 else 4) (hp : ∀ q h', Co h0 T n (rx_tell T n one two e f) q h' → (q = 0 → P 0 h') ∧ (¬ q = 0 → P 1 h')) : (vp_in (mI h 2 3) 8) ∧ ((vp_in (mI (wI h 15 (mI h 2 3).toNatClampNeg r5) 2 3) 8) ∧ (MCi g yX6_passWord uX6_passWord [.ref 1, .ref (1000 + 8)] (wI (wI h 15 (mI h 2 3).toNatClampNeg r5) 16 (mI (wI h 15 (mI h 2 3).toNatClampNeg r5) 2 3).toNatClampNeg two) (fun r12 h11 => (r12 = 0 → P 0 h11) ∧ (¬ r12 = 0 → MCi g yX6_readTimes uX6_readTimes [.ref 1, .int many] h11 (fun r16 h15 => (r16 = 0 → P 0 h15) ∧ (¬ r16 = 0 → P 1 h15)))))) := by
  have e23 : mI h 2 3 = f 0 := c.2.2.2.2.1.1.2.2.2.1
  have o1 : r5 = Int32.ofNat one := i_nI e5 (by omega)
  rw [mI_wI, if_neg (fun z => absurd z.1 (by decide)), e23, i_nat es]
  refine ⟨i_vp es hs, i_vp es hs, ?_⟩
  have c1 := Cs_arr c (k := 15) (j := s) (i := 1 + s) (v := r5) (w := Int32.ofNat one) (lo := 0) (hi := 5) rfl ⟨by omega, by omega⟩ (by decide) (by decide) (by decide) (by omega) (by rw [o1]; exact Ar_15 es hs c.2.2.2.2.2.2.2)
  have c2 := Cs_arr c1 (k := 16) (j := s) (i := 9 + s) (v := two) (w := two) (lo := -2) (hi := 5) rfl r2 (by decide) (by decide) (by decide) (by omega) (Ar_16 (by rw [rx_set_o (by omega)]; exact es) hs c1.2.2.2.2.2.2.2)
  unfold rx_tell at hp
  rw [i_nat es] at hp
  refine c_passWord 8 (by decide) c2.1.1 c2.2.1 c2.2.2.1 c2.2.2.2.1 (fun w h11 k11 t11 => ⟨fun y => absurd y (by decide), fun _ => ?_⟩) (fun w => ⟨fun _ => (hp 0 _ (Co_rf c2 (by decide) ?_)).1 rfl, fun y => absurd rfl y⟩)
  · have c3 := Cs_next c2 k11 t11
    refine e_X6_readTimes many ?_
    refine c_readTimes (if two = -2 then 2 else 4) s many (by rw [em]; split <;> rfl) (by split <;> decide) hs (if two = -2 then 2 else 4) 0 0 _ _ h11 c3 ?_ ?_ (Nat.le_refl _) (by rw [Nat.sub_self]; decide) (fun q h' o => hp q h' ?_)
    · have q15 : mI h11 15 s = mI (wI (wI h 15 s r5) 16 s two) 15 s := congrFun (Kp_2 k11 (by decide) (by decide)).1 s
      have q16 : mI h11 16 s = mI (wI (wI h 15 s r5) 16 s two) 16 s := congrFun (Kp_2 k11 (by decide) (by decide)).1 s
      rw [q15, q16, rx_set_i, rx_set_o (by omega), rx_set_i, mI_wI, if_neg (by omega), mI_wI, if_pos ⟨rfl, rfl⟩, mI_wI, if_pos ⟨rfl, rfl⟩]
      exact ⟨o1, rfl⟩
    · rw [rx_set_o (by omega), rx_set_o (by omega)]; exact es
    · unfold rx_word
      rw [if_pos w]
      exact o
  · unfold rx_word
    rw [if_neg w]
    rfl
theorem c_readSet {g : gT} {h0 h : mh_T} {P : Int32 → mh_T → Prop} {T : Nat → Int32} {n e : Nat} {f : Nat → Int32} (c : Cs h0 T n e f h) (hf : R 0 8 (f 0)) (hp : ∀ r h', Co h0 T n (rx_setL T n e f) r h' → P r h') : MCi g yX6_readSet uX6_readSet [.ref 1] h P := by
  have e20 : mI h 2 0 = f 49 := c.2.2.2.2.1.1.1
  have e23 : mI h 2 3 = f 0 := c.2.2.2.2.1.1.2.2.2.1
  have hp2 : ∀ r h', Co h0 T n (rx_setL T n e f) r h' → (r = 0 → P 0 h') ∧ (¬ r = 0 → P 1 h') := by
    intro r h' o
    have q := hp r h' o
    rcases o with ⟨_, _, _, z, _⟩ | ⟨_, _, _, z, _⟩ <;> subst z
    · exact ⟨fun y => absurd y (by decide), fun _ => q⟩
    · exact ⟨fun _ => q, fun y => absurd rfl y⟩
  have i0 : (0 : Int32).toInt = 0 := by decide
  have i8 : (8 : Int32).toInt = 8 := by decide
  obtain ⟨s, es, s0, s8⟩ := i_R hf (by decide)
  refine e_X6_readSet ⟨fun z => ⟨fun y => ?_, fun y => ?_⟩, fun z => ?_⟩
  · rw [e20] at z
    rw [e23, i_lt, es, i8] at y
    have n8 : ¬ f 0 = 8 := fun w => by rw [w, i8] at es; omega
    have un : rx_setL T n e f = rx_bind (rx_name T n true (rx_e T n e) f) (fun one e1 f1 => if rx_k T n e1 = 44 then rx_bind (rx_name T n true (rx_e T n e1) f1) (fun two e2 f2 => if two = one then rx_no T n (rx_e T n e1) 3 else rx_tell T n one (Int32.ofNat two) e2 f2) else rx_tell T n one (-2) e1 f1) := by
      unfold rx_setL
      rw [if_neg z, if_neg n8]
    rw [un] at hp hp2
    refine c_next c.1.1 c.2.1 c.2.2.1.2.1 (rx_e_le c.2.2.2.1) (fun h3 k3 t3 => ?_)
    have c3 := Cs_next c k3 t3
    refine c_nameL c3.2.1 c3.2.2.1 c3.2.2.2.1 c3.2.2.2.2.1 c3.2.2.2.2.2.1 (fun r5 one eo e5 o6 => ⟨fun _ => ?_, fun w => ?_⟩) (fun w hw eo => ⟨fun y => absurd y (by decide), fun _ => hp 0 _ (Co_rf c3 hw ?_)⟩)
    · rw [eo] at hp hp2
      have hp : ∀ r h', Co h0 T n (if rx_k T n (rx_e T n (rx_e T n e)) = 44 then rx_bind (rx_name T n true (rx_e T n (rx_e T n (rx_e T n e))) f) (fun two e2 f2 => if two = one then rx_no T n (rx_e T n (rx_e T n (rx_e T n e))) 3 else rx_tell T n one (Int32.ofNat two) e2 f2) else rx_tell T n one (-2) (rx_e T n (rx_e T n e)) f) r h' → P r h' := hp
      have hp2 : ∀ r h', Co h0 T n (if rx_k T n (rx_e T n (rx_e T n e)) = 44 then rx_bind (rx_name T n true (rx_e T n (rx_e T n (rx_e T n e))) f) (fun two e2 f2 => if two = one then rx_no T n (rx_e T n (rx_e T n (rx_e T n e))) 3 else rx_tell T n one (Int32.ofNat two) e2 f2) else rx_tell T n one (-2) (rx_e T n (rx_e T n e)) f) r h' → (r = 0 → P 0 h') ∧ (¬ r = 0 → P 1 h') := hp2
      refine c_next c3.1.1 c3.2.1 c3.2.2.1.2.1 (rx_e_le c3.2.2.2.1) (fun h7 k7 t7 => ?_)
      have c7 := Cs_next c3 k7 t7
      rw [c7.2.2.1.2.2.1]
      refine ⟨fun w => ?_, fun w => ?_⟩
      · rw [if_neg w] at hp2
        exact c_tells c7 one (-2) r5 e5 o6 ⟨by decide, by decide⟩ es (by omega) 2 (by rw [if_pos rfl]; decide) hp2
      · rw [if_pos w] at hp hp2
        refine c_next c7.1.1 c7.2.1 c7.2.2.1.2.1 (rx_e_le c7.2.2.2.1) (fun h18 k18 t18 => ?_)
        have c18 := Cs_next c7 k18 t18
        refine c_nameL c18.2.1 c18.2.2.1 c18.2.2.2.1 c18.2.2.2.2.1 c18.2.2.2.2.2.1 (fun r20 two et e2 t6 => ⟨fun u => ?_, fun u => ?_⟩) (fun w hw et => ⟨fun y => absurd y (by decide), fun _ => hp 0 _ (Co_rf c18 hw ?_)⟩)
        · rw [et] at hp hp2
          have hp : ∀ r h', Co h0 T n (if two = one then rx_no T n (rx_e T n (rx_e T n (rx_e T n e))) 3 else rx_tell T n one (Int32.ofNat two) (rx_e T n (rx_e T n (rx_e T n (rx_e T n e)))) f) r h' → P r h' := hp
          have hp2 : ∀ r h', Co h0 T n (if two = one then rx_no T n (rx_e T n (rx_e T n (rx_e T n e))) 3 else rx_tell T n one (Int32.ofNat two) (rx_e T n (rx_e T n (rx_e T n (rx_e T n e)))) f) r h' → (r = 0 → P 0 h') ∧ (¬ r = 0 → P 1 h') := hp2
          have iq : r20 = r5 ↔ two = one := by
            rw [← Int32.toInt_inj, e2, e5]
            omega
          rw [iq]
          refine ⟨fun v => ?_, fun v => ?_⟩
          · rw [if_neg v] at hp2
            refine c_next c18.1.1 c18.2.1 c18.2.2.1.2.1 (rx_e_le c18.2.2.2.1) (fun h23 k23 t23 => ?_)
            have c23 := Cs_next c18 k23 t23
            have o2 : r20 = Int32.ofNat two := i_nI e2 (by omega)
            have n2 : ¬ Int32.ofNat two = -2 := by
              rw [← o2]
              intro q
              rw [q, show (-2 : Int32).toInt = -2 from by decide] at e2
              omega
            have q := c_tells (g := g) (P := P) c23 one (Int32.ofNat two) r5 e5 o6 (by rw [← o2]; exact ⟨by omega, by omega⟩) es (by omega) 4 (by rw [if_neg n2]; decide) hp2
            rw [← o2] at q
            refine ⟨q.1, q.2.1, ?_⟩
            exact MC_mono q.2.2 (fun v h' qq => by
              obtain ⟨rr, q1, q2⟩ := qq
              exact ⟨rr, q1, q2.1, fun a => ⟨fun _ => q2.2 a, fun b => absurd u b⟩⟩)
          · rw [if_pos v] at hp
            exact c_refuse 3 ⟨Or.inl rfl, hp 0 _ (Co_rf c18 (by decide) rfl)⟩
        · exfalso
          apply u
          rw [i_le, i0, e2]
          omega
        · rw [et]
          rfl
    · exfalso
      apply w
      rw [i_le, i0, e5]
      omega
    · rw [eo]
      rfl
  · rw [e20] at z
    rw [e23, i_lt, es, i8] at y
    have n8 : f 0 = 8 := Int32.toInt_inj.mp (by rw [es, i8]; omega)
    refine c_refuse 5 ⟨Or.inl rfl, hp 0 _ (Co_rf c (by decide) ?_)⟩
    unfold rx_setL
    rw [if_neg z, if_pos n8]
  · rw [e20] at z
    refine c_refuse 6 ⟨Or.inl rfl, hp 0 _ (Co_rf c (by decide) ?_)⟩
    unfold rx_setL
    rw [if_pos z]
