theorem Nv_new {T : Nat → Int32} {n e J : Nat} {f f' : Nat → Int32} (hv : Nv f) (hk : rx_k T n e = 2) (hn : rx_fd T n e f = none) (hJ : J < 15) (hnu : ¬ rx_used f J) (hu : ∀ j, j < 15 → (rx_used f' j ↔ rx_used f j ∨ j = J)) (r5 : R 0 6 (f' 50) ∧ R 0 9 (f' 51)) (es : ∀ j, ¬ j = J → j < 15 → f' (211 + j) = f (211 + j)) (eJ : f' (211 + J) = Int32.ofNat (rx_e T n e - rx_s T n e)) (el : ∀ j i, ¬ j = J → i < 8 → f' (226 + 8 * j + i) = f (226 + 8 * j + i)) (eL : ∀ i, i < rx_e T n e - rx_s T n e → f' (226 + 8 * J + i) = T (rx_s T n e + i)) : Nv f' ∧ rx_en f' J = rx_w T n e ∧ ∀ j, j < 15 → rx_used f j → rx_en f' j = rx_en f j := by
  obtain ⟨-, k1, k8, kl⟩ := rx_k2 hk
  have le : (Int32.ofNat (rx_e T n e - rx_s T n e)).toInt = ((rx_e T n e - rx_s T n e : Nat) : Int) := nI_toInt (n := rx_e T n e - rx_s T n e) (by omega)
  have enJ : rx_en f' J = rx_w T n e := by
    unfold rx_en rx_w
    rw [eJ, i_nat le]
    exact rx_ws_congr _ eL
  have eno : ∀ j, j < 15 → rx_used f j → rx_en f' j = rx_en f j := by
    intro j hj u
    have nj : ¬ j = J := fun z => hnu (z ▸ u)
    obtain ⟨⟨r1, r8⟩, -⟩ := (hv.2.2.1 j hj).1 u
    obtain ⟨m, em, m1, m8⟩ := i_R (x := f (211 + j)) ⟨r1, r8⟩ (by decide)
    unfold rx_en
    rw [es j nj hj, i_nat em]
    exact rx_ws_congr _ (fun i hi => el j i nj (by omega))
  refine ⟨⟨r5.1, r5.2, fun j hj => ?_, fun i j hi hj ui uj ee => ?_⟩, enJ, eno⟩
  · by_cases nj : j = J
    · subst nj
      rw [eJ]
      refine ⟨fun _ => ⟨⟨by omega, by omega⟩, fun i hi => ?_⟩, fun z => absurd ((hu j hj).mpr (Or.inr rfl)) z⟩
      rw [i_nat le] at hi
      rw [eL i hi]
      exact kl i hi
    · rw [es j nj hj, hu j hj]
      refine ⟨fun u => ?_, fun u => (hv.2.2.1 j hj).2 (fun z => u (Or.inl z))⟩
      have u : rx_used f j := u.resolve_right nj
      obtain ⟨⟨r1, r8⟩, rl⟩ := (hv.2.2.1 j hj).1 u
      obtain ⟨m, em, m1, m8⟩ := i_R (x := f (211 + j)) ⟨r1, r8⟩ (by decide)
      refine ⟨⟨r1, r8⟩, fun i hi => ?_⟩
      have := rl i hi
      rw [i_nat em] at hi
      rw [el j i nj (by omega)]
      exact this
  · have no : ∀ j, j < 15 → rx_used f j → ¬ rx_en f j = rx_w T n e := by
      intro j hj u z
      have := (rx_is_iff hv hk hj).mpr ⟨u, z⟩
      have q := rx_fd_at hv hk hj this
      rw [hn] at q
      cases q
    rcases (hu i hi).mp ui with ui | ui <;> rcases (hu j hj).mp uj with uj | uj
    · rw [eno i hi ui, eno j hj uj] at ee
      exact hv.2.2.2 i j hi hj ui uj ee
    · subst uj
      rw [eno i hi ui, enJ] at ee
      exact absurd ee (no i hi ui)
    · subst ui
      rw [eno j hj uj, enJ] at ee
      exact absurd ee.symm (no j hj uj)
    · rw [ui, uj]
/-- a new name comes in: at place c of its sort -/
theorem Cs_new {h0 h : mh_T} {T : Nat → Int32} {n e : Nat} {f : Nat → Int32} (c : Cs h0 T n e f h) (hk : rx_k T n e = 2) (hn : rx_fd T n e f = none) {l sl ci fs mo : Nat} (hq : (l = 13 ∧ sl = 1 ∧ ci = 50 ∧ fs = 0 ∧ mo = 6) ∨ (l = 14 ∧ sl = 2 ∧ ci = 51 ∧ fs = 6 ∧ mo = 9)) {m : Nat} (em : (f ci).toInt = (m : Int)) (hm : m < mo) : Cs h0 T n e (rx_set (rx_put T n e f (fs + (f ci).toNatClampNeg)) ci (f ci + 1)) (wI (wL h l m (mL h 1 10)) 2 sl ((mI h 2 sl) + 1)) := by
  obtain ⟨-, k1, k8, kl⟩ := rx_k2 hk
  have hv := c.2.2.2.2.2.1
  have d := c.2.2.2.2.1
  have hi := i_inc em (by omega)
  have r50 := hv.1
  have r51 := hv.2.1
  rw [i_nat em]
  have fo : ∀ i, ¬ i = ci → ¬ i = 211 + (fs + m) → ¬ (226 + 8 * (fs + m) ≤ i ∧ i < 226 + 8 * (fs + m) + (rx_e T n e - rx_s T n e)) → rx_set (rx_put T n e f (fs + m)) ci (f ci + 1) i = f i := by
    intro i a b z
    rw [rx_set_o a]
    unfold rx_put
    rw [if_neg b, if_neg z]
  have fc : rx_set (rx_put T n e f (fs + m)) ci (f ci + 1) ci = f ci + 1 := rx_set_i
  have N := Nv_new (T := T) (n := n) (e := e) (J := fs + m) (f := f) (f' := rx_set (rx_put T n e f (fs + m)) ci (f ci + 1)) hv hk hn (by omega)
    (by
      unfold rx_used
      rintro (z | z)
      · have := r50.2
        rcases hq with ⟨-, -, q, q2, q3⟩ | ⟨-, -, q, q2, q3⟩ <;> subst q <;> omega
      · rcases hq with ⟨-, -, q, q2, q3⟩ | ⟨-, -, q, q2, q3⟩ <;> subst q <;> omega)
    (by
      intro j hj
      unfold rx_used
      rcases hq with ⟨-, -, q, q2, q3⟩ | ⟨-, -, q, q2, q3⟩ <;> subst q <;> subst q2
      · rw [fc, fo 51 (by omega) (by omega) (by omega)]
        omega
      · rw [fc, fo 50 (by omega) (by omega) (by omega)]
        have := r50.2
        omega)
    (by
      rcases hq with ⟨-, -, q, q2, q3⟩ | ⟨-, -, q, q2, q3⟩ <;> subst q <;> subst q2
      · rw [fc, fo 51 (by omega) (by omega) (by omega)]
        exact ⟨⟨by omega, by omega⟩, r51⟩
      · rw [fc, fo 50 (by omega) (by omega) (by omega)]
        exact ⟨r50, ⟨by omega, by omega⟩⟩)
    (fun j nj hj => fo _ (by omega) (by omega) (by omega))
    (by
      rw [rx_set_o (by omega)]
      unfold rx_put
      rw [if_pos rfl])
    (fun j i nj hi8 => fo _ (by omega) (by omega) (by omega))
    (fun i hi8 => by
      rw [rx_set_o (by omega)]
      unfold rx_put
      rw [if_neg (by omega), if_pos (by omega)]
      congr 1
      omega)
  have cL : Cs h0 T n e f (wL h l m (mL h 1 10)) ∨ True := Or.inr trivial
  have k12 : ¬ l = 1 := by omega
  have esl : mI h 2 sl = f ci := by
    rcases hq with ⟨-, q, q2, -⟩ | ⟨-, q, q2, -⟩ <;> subst q <;> subst q2
    · exact d.1.2.1
    · exact d.1.2.2.1
  have rg : ∃ lo hi, rgT 2 sl = (lo, hi) ∧ R lo hi (mI h 2 sl + 1) := by
    rw [esl]
    rcases hq with ⟨-, q, q2, -, q3⟩ | ⟨-, q, q2, -, q3⟩ <;> subst q <;> subst q2
    · exact ⟨0, 6, by decide, ⟨by omega, by omega⟩⟩
    · exact ⟨0, 9, by decide, ⟨by omega, by omega⟩⟩
  obtain ⟨lo, hi', er, fr⟩ := rg
  refine ⟨Ok_w (Ok_wL c.1 (by rcases hq with q | q <;> (rw [q.1]; decide))) er fr (by decide) (by omega), ⟨?_, c.2.1.2.1, fun i hi => ?_⟩, ⟨?_, ?_, ?_, ?_, ?_⟩, c.2.2.2.1, ⟨?_, ?_, ?_⟩, N.1, ?_, ?_⟩
  · rw [mI_wI, if_neg (fun z => absurd z.1 (by decide)), mI_wL]; exact c.2.1.1
  · rw [mI_wI, if_neg (fun z => absurd z.1 (by decide)), mI_wL]; exact c.2.1.2.2 i hi
  · rw [mI_wI, if_neg (fun z => absurd z.1 (by decide)), mI_wL]; exact c.2.2.1.1
  · rw [mI_wI, if_neg (fun z => absurd z.1 (by decide)), mI_wL]; exact c.2.2.1.2.1
  · rw [mI_wI, if_neg (fun z => absurd z.1 (by decide)), mI_wL]; exact c.2.2.1.2.2.1
  · intro z; rw [mI_wI, if_neg (fun z => absurd z.1 (by decide)), mI_wL]; exact c.2.2.1.2.2.2.1 z
  · intro z; rw [mL_wI, mL_wL, if_neg (fun z => k12 z.1.symm)]; exact c.2.2.1.2.2.2.2 z
  · obtain ⟨d0, d1, d2, d3, d4, d5, d6⟩ := d.1
    rcases hq with ⟨-, q, q2, q3, -⟩ | ⟨-, q, q2, q3, -⟩ <;> subst q <;> subst q2 <;> subst q3 <;> refine ⟨?_, ?_, ?_, ?_, ?_, ?_, ?_⟩ <;> first | (rw [mI_wI, if_neg (by decide), mI_wL, fo _ (by decide) (by omega) (by omega)]; assumption) | (rw [mI_wI, if_pos ⟨rfl, rfl⟩, fc, esl])
  · intro i hi
    rw [mL_wI, mL_wL]
    rcases hq with ⟨q0, q, q2, q3, q4⟩ | ⟨q0, q, q2, q3, q4⟩ <;> subst q0 <;> subst q2 <;> subst q3
    · rw [fc] at hi
      by_cases z : i = m
      · subst z
        rw [if_pos ⟨rfl, rfl⟩, c.2.2.1.2.2.2.2 hk]
        have := N.2.1
        rw [Nat.zero_add] at this ⊢
        exact this.symm
      · rw [if_neg (fun y => z y.2), d.2.1 i (by omega)]
        exact (N.2.2 i (by omega) (Or.inl (by omega))).symm
    · rw [fo 50 (by omega) (by omega) (by omega)] at hi
      rw [if_neg (by omega), d.2.1 i hi]
      exact (N.2.2 i (by have := r50.2; omega) (Or.inl hi)).symm
  · intro i hi
    rw [mL_wI, mL_wL]
    rcases hq with ⟨q0, q, q2, q3, q4⟩ | ⟨q0, q, q2, q3, q4⟩ <;> subst q0 <;> subst q2 <;> subst q3
    · rw [fo 51 (by omega) (by omega) (by omega)] at hi
      rw [if_neg (by omega), d.2.2 i hi]
      exact (N.2.2 (6 + i) (by have := r51.2; omega) (Or.inr ⟨by omega, by omega⟩)).symm
    · rw [fc] at hi
      by_cases z : i = m
      · subst z
        rw [if_pos ⟨rfl, rfl⟩, c.2.2.1.2.2.2.2 hk]
        exact N.2.1.symm
      · rw [if_neg (fun y => z y.2), d.2.2 i (by omega)]
        exact (N.2.2 (6 + i) (by omega) (Or.inr ⟨by omega, by omega⟩)).symm
  · rw [mI_wI, if_neg (fun z => absurd z.1 (by decide)), mI_wL]; exact c.2.2.2.2.2.2.1
  · exact Ar_k (by decide) (Ar_eq rfl rfl rfl rfl rfl rfl (Ar_f (Cs_r0 c) (Cs_y0 c) (fun i hi => fo i (by omega) (by omega) (by omega)) c.2.2.2.2.2.2.2))
theorem c_readNames {g : gT} {h0 : mh_T} {P : Int32 → mh_T → Prop} {T : Nat → Int32} {n : Nat} (l sl ci fs mo : Nat) (l2 m2 : Int32) (hq : (l = 13 ∧ sl = 1 ∧ ci = 50 ∧ fs = 0 ∧ mo = 6 ∧ ¬ l2 = 0 ∧ m2 = 6) ∨ (l = 14 ∧ sl = 2 ∧ ci = 51 ∧ fs = 6 ∧ mo = 9 ∧ l2 = 0 ∧ m2 = 9)) : ∀ (k : Nat) (l3 : Int32) (e : Nat) (f : Nat → Int32) (h : mh_T), Cs h0 T n e f h → l3.toInt + (k : Int) = (mo : Int) + 1 → 0 ≤ l3.toInt → l3.toInt ≤ (f ci).toInt → (∀ r h', Co h0 T n (rx_nn T n ci fs m2 k (rx_e T n e) f) r h' → P r h') → ME g uX6_readNames 2 [.ref 1, .ref l, .int l2, .int l3, .retAddr 0] [] h (qI P) := by
  have hq' : (l = 13 ∧ sl = 1 ∧ ci = 50 ∧ fs = 0 ∧ mo = 6) ∨ (l = 14 ∧ sl = 2 ∧ ci = 51 ∧ fs = 6 ∧ mo = 9) := by
    rcases hq with ⟨a, b, c, d, e, -, -⟩ | ⟨a, b, c, d, e, -, -⟩
    · exact Or.inl ⟨a, b, c, d, e⟩
    · exact Or.inr ⟨a, b, c, d, e⟩
  have hs : shp l = (22, mo, []) := by
    rcases hq' with ⟨a, b, c, d, e⟩ | ⟨a, b, c, d, e⟩ <;> rw [a, e] <;> rfl
  have emo : (Int32.ofNat mo).toInt = (mo : Int) := nI_toInt (n := mo) (by omega)
  have em2 : m2.toInt = (mo : Int) := by
    rcases hq with ⟨a, b, c, d, e, -, z⟩ | ⟨a, b, c, d, e, -, z⟩ <;> rw [z, e] <;> decide
  intro k
  induction k with
  | zero =>
    intro l3 e f h c hl h3 hl3 hp
    exfalso
    have r50 := c.2.2.2.2.2.1.1.2
    have r51 := c.2.2.2.2.2.1.2.1.2
    rcases hq' with ⟨-, -, z, -, y⟩ | ⟨-, -, z, -, y⟩ <;> subst z <;> omega
  | succ k ih =>
    intro l3 e f h c hl h3 hl3 hp
    have rc : R 0 (mo : Int) (f ci) := by
      rcases hq' with ⟨-, -, z, -, y⟩ | ⟨-, -, z, -, y⟩ <;> subst z <;> subst y
      · exact c.2.2.2.2.2.1.1
      · exact c.2.2.2.2.2.1.2.1
    refine r_X6_readNames_2 l mo l2 l3 hs ⟨fun z => ?_, fun _ => ?_⟩
    · rw [i_lt, emo] at z
      omega
    refine c_next c.1.1 c.2.1 c.2.2.1.2.1 (rx_e_le c.2.2.2.1) (fun h4 k4 t4 => ?_)
    have c4 := Cs_next c k4 t4
    have key : rx_nm T n (rx_e T n e) = true → rx_fd T n (rx_e T n e) f = none → ∀ x : Int32, x = mI h4 2 sl → (x < Int32.ofNat mo → vp_in x mo ∧ MCv g yX6_next uX6_next [.ref 1] (wI (wL h4 l x.toNatClampNeg (mL h4 1 10)) 2 sl ((mI (wL h4 l x.toNatClampNeg (mL h4 1 10)) 2 sl) + 1)) (fun h13 => ((mI h13 1 8) = 44 → ME g uX6_readNames 2 [.ref 1, .ref l, .int l2, .int (l3 + 1), .retAddr 0] [] h13 (qI P)) ∧ (¬ (mI h13 1 8) = 44 → P 1 h13))) ∧ (¬ x < Int32.ofNat mo → MCi g yX6_refuse uX6_refuse [.ref 1, .int 5] h4 (fun r18 h17 => (r18 = 0 ∨ r18 = 1) ∧ P r18 h17)) := by
      intro nm fd x ex
      have k2 := (rx_nm_iff.mp nm).1
      have esl : mI h4 2 sl = f ci := by
        rcases hq' with ⟨-, q, q2, -⟩ | ⟨-, q, q2, -⟩ <;> subst q <;> subst q2
        · exact c4.2.2.2.2.1.1.2.1
        · exact c4.2.2.2.2.1.1.2.2.1
      rw [esl] at ex
      subst ex
      obtain ⟨m, em, m0, mm⟩ := i_R rc (by decide)
      have un : rx_nn T n ci fs m2 (k + 1) (rx_e T n e) f = if f ci = m2 then rx_no T n (rx_e T n e) 5 else (if rx_k T n (rx_e T n (rx_e T n e)) = 44 then rx_nn T n ci fs m2 k (rx_e T n (rx_e T n (rx_e T n e))) (rx_set (rx_put T n (rx_e T n e) f (fs + (f ci).toNatClampNeg)) ci (f ci + 1)) else .inr ((), rx_e T n (rx_e T n e), rx_set (rx_put T n (rx_e T n e) f (fs + (f ci).toNatClampNeg)) ci (f ci + 1))) := by
        show (if rx_nm T n (rx_e T n e) = true then _ else _) = _
        rw [if_pos nm, fd]
        rfl
      rw [un] at hp
      refine ⟨fun z => ⟨i_vp em (by rw [i_lt, emo, em] at z; omega), ?_⟩, fun z => ?_⟩
      · rw [i_lt, emo, em] at z
        have ne : ¬ f ci = m2 := fun y => by rw [y, em2] at em; omega
        rw [if_neg ne] at hp
        have cn := Cs_new c4 k2 fd hq' em (by omega)
        rw [i_nat em, mI_wL]
        refine c_next cn.1.1 cn.2.1 cn.2.2.1.2.1 (rx_e_le cn.2.2.2.1) (fun h13 k13 t13 => ?_)
        have c13 := Cs_next cn k13 t13
        rw [c13.2.2.1.2.2.1]
        refine ⟨fun y => ?_, fun y => ?_⟩
        · rw [if_pos y] at hp
          refine ih (l3 + 1) _ _ h13 c13 ?_ ?_ ?_ hp
          · rw [i_add rfl (show (1 : Int32).toInt = 1 from by decide) (by omega)]; omega
          · rw [i_add rfl (show (1 : Int32).toInt = 1 from by decide) (by omega)]; omega
          · rw [i_add rfl (show (1 : Int32).toInt = 1 from by decide) (by omega), rx_set_i, i_inc em (by omega)]; omega
        · rw [if_neg y] at hp
          exact hp 1 h13 (Or.inl ⟨_, _, rfl, rfl, c13⟩)
      · rw [i_lt, emo, em] at z
        have ee : f ci = m2 := Int32.toInt_inj.mp (by rw [em, em2]; omega)
        rw [if_pos ee] at hp
        exact c_refuse 5 ⟨Or.inl rfl, hp 0 _ (Co_rf c4 (by decide) rfl)⟩
    refine c_needNew c4.2.1 c4.2.2.1 c4.2.2.2.1 c4.2.2.2.2.1 c4.2.2.2.2.2.1 (fun nm fd => ⟨fun _ => ⟨fun l0 x ex => ?_, fun l0 x ex => ?_⟩, fun y => absurd y (by decide)⟩) (fun nm fd => ⟨fun y => absurd rfl y, fun _ => hp 0 _ (Co_rf c4 (by decide) ?_)⟩) (fun nm => ⟨fun y => absurd rfl y, fun _ => hp 0 _ (Co_rf c4 (by decide) ?_)⟩)
    · rcases hq with ⟨-, -, -, -, -, z, -⟩ | ⟨a, b, -, -, -, z, -⟩
      · exact absurd l0 z
      · subst b
        have q := key nm fd x ex
        exact ⟨fun y => ⟨(q.1 y).1, fun _ => (q.1 y).2, fun w => absurd l0 w⟩, q.2⟩
    · rcases hq with ⟨a, b, -, -, -, z, -⟩ | ⟨a, b, -, -, -, z, -⟩
      · subst b
        have q := key nm fd x ex
        exact ⟨fun y => ⟨(q.1 y).1, fun w => absurd w l0, fun _ => (q.1 y).2⟩, q.2⟩
      · exact absurd z l0
    · show (if rx_nm T n (rx_e T n e) = true then _ else _) = _
      rw [if_pos nm, if_pos fd]
    · show (if rx_nm T n (rx_e T n e) = true then _ else _) = _
      rw [if_neg nm]
