theorem c_clear {g : gT} {h : mh_T} {P : mh_T → Prop} (hG : GI h) (hp : ∀ h', Ok [2, 17] h h' → (∀ j, j < 7 → mI h' 2 j = 0) → (∀ j, j < 32 → mI h' 17 j = 0) → P h') : MCv g yX1_clear uX1_clear [.ref 2] h P := by
  refine e_X1_clear ?_
  have z0 : R 0 0 (0 : Int32) := ⟨by decide, by decide⟩
  have o0 := Ok_w (Ok_rf (ms := [2, 17]) hG) (k := 2) (j := 0) (v := 0) (lo := 0) (hi := 60) (by decide) ⟨by decide, by decide⟩ (by decide) (by decide)
  have o1 := Ok_w o0 (k := 2) (j := 1) (v := 0) (lo := 0) (hi := 6) (by decide) ⟨by decide, by decide⟩ (by decide) (by decide)
  have o2 := Ok_w o1 (k := 2) (j := 2) (v := 0) (lo := 0) (hi := 9) (by decide) ⟨by decide, by decide⟩ (by decide) (by decide)
  have o3 := Ok_w o2 (k := 2) (j := 3) (v := 0) (lo := 0) (hi := 8) (by decide) ⟨by decide, by decide⟩ (by decide) (by decide)
  have o4 := Ok_w o3 (k := 2) (j := 4) (v := 0) (lo := 0) (hi := 8) (by decide) ⟨by decide, by decide⟩ (by decide) (by decide)
  have o5 := Ok_w o4 (k := 2) (j := 5) (v := 0) (lo := 0) (hi := 18) (by decide) ⟨by decide, by decide⟩ (by decide) (by decide)
  have o6 := Ok_w o5 (k := 2) (j := 6) (v := 0) (lo := 0) (hi := 4) (by decide) ⟨by decide, by decide⟩ (by decide) (by decide)
  have L : ∀ (m : Nat) (l1 : Int32) (j : Nat) (h1 : mh_T), l1.toInt = (j : Int) → j ≤ 32 → 32 - j < m → Ok [2, 17] h h1 → (∀ j, j < 7 → mI h1 2 j = 0) → (∀ i, i < j → mI h1 17 i = 0) → ME g uX1_clear 37 [.ref 2, .int l1] [] h1 (qV P) := by
    intro m
    induction m with
    | zero => intro l1 j h1 _ _ hm; exact absurd hm (Nat.not_lt_zero _)
    | succ m ih =>
      intro l1 j h1 e1 hj hm ok hz h17
      have i32 : (32 : Int32).toInt = 32 := by decide
      refine r_X1_clear_37 l1 ⟨fun z => hp h1 ok hz (fun i hi => h17 i (by rw [i_le, i32, e1] at z; omega)), fun z => ?_⟩
      rw [i_le, i32, e1] at z
      refine ⟨i_vp e1 (by omega), ih (l1 + 1) (j + 1) _ (i_inc e1 (by omega)) (by omega) (by omega) (Ok_w ok (lo := -2147483648) (hi := 2147483647) rfl (R_full _) (by decide) (nt_k (by decide))) (fun i hi => ?_) (fun i hi => ?_)⟩
      · rw [mI_wI, if_neg (fun q => absurd q.1 (by decide))]
        exact hz i hi
      · rw [mI_wI, i_nat e1]
        by_cases q : i = j
        · rw [if_pos ⟨rfl, q⟩]
        · rw [if_neg (fun y => q y.2)]
          exact h17 i (by omega)
  refine L _ 0 0 _ (by decide) (by decide) (Nat.lt_succ_self _) o6 (fun j hj => ?_) (fun i hi => absurd hi (Nat.not_lt_zero i))
  rcases (show j = 0 ∨ j = 1 ∨ j = 2 ∨ j = 3 ∨ j = 4 ∨ j = 5 ∨ j = 6 by omega) with q | q | q | q | q | q | q <;> subst q <;> simp only [mI_wI] <;> rfl
theorem Nv_0 : Nv (fun _ => 0) := by
  refine ⟨⟨by decide, by decide⟩, ⟨by decide, by decide⟩, fun j _ => ⟨fun u => ?_, fun _ => rfl⟩, fun i j _ _ u => ?_⟩
  · exfalso
    unfold rx_used at u
    rw [show (0 : Int32).toInt = 0 from by decide] at u
    omega
  · exfalso
    unfold rx_used at u
    rw [show (0 : Int32).toInt = 0 from by decide] at u
    omega
/-- the class's reading of the first n bytes of its tape -/
theorem c_read {g : gT} {h : mh_T} {P : mh_T → Prop} {T : Nat → Int32} {n : Nat} (l1 : Int32) (hG : GI h) (e1 : l1.toInt = (n : Int)) (hn : n ≤ 900) (hT : ∀ j, j < n → mI h 12 j = T j) (hp : ∀ h', Cz h T n (rx_book T n) h' → P h') : MCv g yX6_read uX6_read [.ref 1, .int l1] h P := by
  have i900 : (900 : Int32).toInt = 900 := by decide
  refine e_X6_read l1 ?_
  refine c_clear hG (fun h1 o1 z1 z17 => ?_)
  have ee : (if 900 < l1 then (900 : Int32) else l1) = l1 := by
    rw [if_neg (by rw [i_lt, i900, e1]; omega)]
  rw [ee]
  have o1 : Ok cms h h1 := Ok_tr (Ok_rf (ms := cms) hG) o1 (by decide)
  have o2 := Ok_w o1 (k := 1) (j := 1) (v := 0) (lo := -2147483648) (hi := 2147483647) (by decide) (R_full _) (by decide) (by decide)
  have o3 := Ok_w o2 (k := 1) (j := 2) (v := 0) (lo := -2147483648) (hi := 2147483647) (by decide) (R_full _) (by decide) (by decide)
  have o4 := Ok_w o3 (k := 1) (j := 6) (v := l1) (lo := 0) (hi := 900) (by decide) ⟨by omega, by omega⟩ (by decide) (by decide)
  have o5 := Ok_w o4 (k := 1) (j := 7) (v := 0) (lo := 0) (hi := 900) (by decide) ⟨by decide, by decide⟩ (by decide) (by decide)
  have e12 : ∀ j, mI h1 12 j = mI h 12 j := fun j => congrFun (o1.2.1 12 (by decide) (by decide)).1 j
  have t5 : Tp (wI (wI (wI (wI h1 1 1 0) 1 2 0) 1 6 l1) 1 7 0) T n := by
    refine ⟨?_, hn, fun j hj => ?_⟩
    · rw [mI_wI, if_neg (by decide), mI_wI, if_pos ⟨rfl, rfl⟩]; exact e1
    · rw [mI_wI, if_neg (fun q => absurd q.1 (by decide)), mI_wI, if_neg (fun q => absurd q.1 (by decide)), mI_wI, if_neg (fun q => absurd q.1 (by decide)), mI_wI, if_neg (fun q => absurd q.1 (by decide)), e12]
      exact hT j hj
  have d5 : Dr (wI (wI (wI (wI h1 1 1 0) 1 2 0) 1 6 l1) 1 7 0) (fun _ => 0) := by
    have s : ∀ j, j < 7 → mI (wI (wI (wI (wI h1 1 1 0) 1 2 0) 1 6 l1) 1 7 0) 2 j = 0 := fun j hj => by
      rw [mI_wI, if_neg (fun q => absurd q.1 (by decide)), mI_wI, if_neg (fun q => absurd q.1 (by decide)), mI_wI, if_neg (fun q => absurd q.1 (by decide)), mI_wI, if_neg (fun q => absurd q.1 (by decide))]
      exact z1 j hj
    refine ⟨⟨s 0 (by decide), s 1 (by decide), s 2 (by decide), s 3 (by decide), s 4 (by decide), s 5 (by decide), s 6 (by decide)⟩, fun i hi => ?_, fun i hi => ?_⟩
    · exfalso
      rw [show (0 : Int32).toInt = 0 from by decide] at hi
      omega
    · exfalso
      rw [show (0 : Int32).toInt = 0 from by decide] at hi
      omega
  have a1 : Ar h1 (fun _ => 0) := ⟨fun s hs => absurd hs (by rw [show (0 : Int32).toInt = 0 from by decide]; omega), fun i hi => z17 i hi, fun i hi => absurd hi (by rw [show (0 : Int32).toInt = 0 from by decide]; omega), fun l hl => absurd hl (by rw [show (0 : Int32).toInt = 0 from by decide]; omega), fun _ _ _ => rfl, ⟨by decide, by decide⟩⟩
  refine c_next (e := 0) o5.1 t5 (by rw [mI_wI, if_pos ⟨rfl, rfl⟩]; decide) (Nat.zero_le _) (fun h2 k2 t2 => ?_)
  have c2 : Cs h T n 0 (fun _ => 0) h2 := ⟨Ok_tr o5 k2.1 (by decide), Tp_k k2 t5, t2, Nat.zero_le _, Dr_eq (Kp_2 k2 (by decide) (by decide)).1 (Kp_2 k2 (by decide) (by decide)).2 (Kp_2 k2 (by decide) (by decide)).2 d5, Nv_0, by
    rw [k2.2 1 (by decide), mI_wI, if_neg (by decide), mI_wI, if_neg (by decide), mI_wI, if_neg (by decide), mI_wI, if_pos ⟨rfl, rfl⟩], Ar_eq (Kp_2 k2 (by decide) (by decide)).1 (Kp_2 k2 (by decide) (by decide)).1 (Kp_2 k2 (by decide) (by decide)).1 (Kp_2 k2 (by decide) (by decide)).1 (Kp_2 k2 (by decide) (by decide)).1 (Kp_2 k2 (by decide) (by decide)).1 (Ar_k (by decide) (Ar_k (by decide) (Ar_k (by decide) (Ar_k (by decide) a1))))⟩
  exact c_read_L l1 (n + 1) 0 0 0 _ h2 c2 (by decide) (Nat.le_refl _) (by omega) hp
