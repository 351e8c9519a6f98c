theorem sw_x (x : Int32) : (x.toInt < 0 ∨ 49 < x.toInt) ∨ ∃ j : Nat, j < 50 ∧ x.toInt = (j : Int) := by
  by_cases h : x.toInt < 0 ∨ 49 < x.toInt
  · exact Or.inl h
  · exact Or.inr ⟨x.toInt.toNat, by omega, by omega⟩
set_option maxRecDepth 100000 in
set_option maxHeartbeats 8000000 in
theorem law_loop {g : gT} (hN : gN g ≤ 3584) : ∀ (n : Nat) (i : Int32) (k : Nat) (h : mh_T), i.toInt = (k : Int) → k ≤ gN g → gN g - k < n → JJ h → RR h → LE g uL 23 [.ref 900, .ref 0, .ref 11, .ref 61, .int i, .retAddr 0, .retAddr 0] [] h (141 + k, 16331 + 6 * k) := by
  intro n
  induction n with
  | zero => intro i k h _ _ hn; exact absurd hn (Nat.not_lt_zero _)
  | succ n ih =>
    intro i k h ei hkN hn hJ he
    have eL : (Int32.ofNat (gN g)).toInt = (gN g : Int) := nI_toInt (n := gN g) (by omega)
    have eL7 : (Int32.ofNat (gN g) - 7).toInt = (gN g : Int) - 7 := i_sub eL (show (7 : Int32).toInt = 7 from by decide) (by omega)
    refine l_iload dL_law_23 rfl ?_
    refine l_aload_n dL_law_25 rfl ?_
    refine l_slen dL_law_26 ?_
    refine l_bipush (v := 7) dL_law_27 (by decide) ?_
    refine l_isub dL_law_29 ?_
    refine l_icmp_gt 1589 dL_law_30 (by decide) (fun _ => ?_) (fun c => ?_)
    · refine l_iconst (v := 1) dL_law_1589 (by decide) ?_
      exact l_true dL_law_1590 ⟨by show 141 + k ≤ _; omega, by show 16331 + 6 * k ≤ _; omega⟩
    have c : ¬ (Int32.ofNat (gN g) - 7).toInt < i.toInt := fun z => c (i_lt.mpr z)
    have hk : k + 7 ≤ gN g := by omega
    refine l_aload_n dL_law_33 rfl ?_
    refine l_iload dL_law_34 rfl ?_
    refine l_sld dL_law_36 (i_vp ei (by omega)) ?_
    refine l_bipush (v := 63) dL_law_37 (by decide) ?_
    refine l_iand dL_law_39 ?_
    generalize (gx g i.toNatClampNeg &&& 63) = x
    have nx : ∀ (h' : mh_T), JJ h' → RR h' → LE g uL 1583 [.ref 900, .ref 0, .ref 11, .ref 61, .int i, .retAddr 0, .retAddr 0] [] h' (141 + (k + 7), 16331 + 6 * (k + 7)) := by
      intro h' hJ' he'
      have e7 : (i + 7).toInt = ((k + 7 : Nat) : Int) := i_off ei 7 7 (by decide) (by omega)
      refine l_iinc (v := i + 7) dL_law_1583 (by decide) rfl rfl rfl rfl ?_
      refine l_goto 23 dL_law_1586 (by decide) ?_
      exact ih (i + 7) (k + 7) h' e7 hk (by omega) hJ' he'
    have nw : ∀ (h' : mh_T), JJ h' → RR h' → LE g uL 1583 [.ref 900, .ref 0, .ref 11, .ref 61, .int i, .retAddr 0, .retAddr 0] [] h' (141 + k, 16331 + 6 * k) := fun h' a b => l_widen (by show 141 + k ≤ 141 + (k + 7); omega) (by show 16331 + 6 * k ≤ 16331 + 6 * (k + 7); omega) (nx h' a b)
    have hq : (141 + k, 16331 + 6 * k).1 ≤ 601024 ∧ (141 + k, 16331 + 6 * k).2 ≤ 7293034 := ⟨by show 141 + k ≤ _; omega, by show 16331 + 6 * k ≤ _; omega⟩
    rcases sw_x x with ho | ⟨j, hj, ej⟩
    · exact l_tableOut 1583 dL_law_40 ho (by decide) (nw h hJ he)
    · rcases (show j = 0 ∨ j = 1 ∨ j = 2 ∨ j = 3 ∨ j = 4 ∨ j = 5 ∨ j = 6 ∨ j = 7 ∨ j = 8 ∨ j = 9 ∨ j = 10 ∨ j = 11 ∨ j = 12 ∨ j = 13 ∨ j = 14 ∨ j = 15 ∨ j = 16 ∨ j = 17 ∨ j = 18 ∨ j = 19 ∨ j = 20 ∨ j = 21 ∨ j = 22 ∨ j = 23 ∨ j = 24 ∨ j = 25 ∨ j = 26 ∨ j = 27 ∨ j = 28 ∨ j = 29 ∨ j = 30 ∨ j = 31 ∨ j = 32 ∨ j = 33 ∨ j = 34 ∨ j = 35 ∨ j = 36 ∨ j = 37 ∨ j = 38 ∨ j = 39 ∨ j = 40 ∨ j = 41 ∨ j = 42 ∨ j = 43 ∨ j = 44 ∨ j = 45 ∨ j = 46 ∨ j = 47 ∨ j = 48 ∨ j = 49 by omega) with e | e | e | e | e | e | e | e | e | e | e | e | e | e | e | e | e | e | e | e | e | e | e | e | e | e | e | e | e | e | e | e | e | e | e | e | e | e | e | e | e | e | e | e | e | e | e | e | e | e <;> subst e
      · refine l_tableIn (off := 216) 256 dL_law_40 (by rw [ej]; decide) (by rw [ej]; decide) (by rw [ej]; decide) (by decide) ?_
        exact lc_0 i k ei hk hN hJ he hq nw
      · refine l_tableIn (off := 289) 329 dL_law_40 (by rw [ej]; decide) (by rw [ej]; decide) (by rw [ej]; decide) (by decide) ?_
        exact lc_1 i k ei hk hN hJ he hq nw
      · refine l_tableIn (off := 314) 354 dL_law_40 (by rw [ej]; decide) (by rw [ej]; decide) (by rw [ej]; decide) (by decide) ?_
        exact lc_2 i k ei hk hN hJ he hq nw
      · refine l_tableIn (off := 327) 367 dL_law_40 (by rw [ej]; decide) (by rw [ej]; decide) (by rw [ej]; decide) (by decide) ?_
        exact lc_3 i k ei hk hN hJ he hq nw
      · refine l_tableIn (off := 340) 380 dL_law_40 (by rw [ej]; decide) (by rw [ej]; decide) (by rw [ej]; decide) (by decide) ?_
        exact lc_4 i k ei hk hN hJ he hq nw
      · refine l_tableIn (off := 381) 421 dL_law_40 (by rw [ej]; decide) (by rw [ej]; decide) (by rw [ej]; decide) (by decide) ?_
        exact lc_5 i k ei hk hN hJ he hq nw
      · refine l_tableIn (off := 500) 540 dL_law_40 (by rw [ej]; decide) (by rw [ej]; decide) (by rw [ej]; decide) (by decide) ?_
        exact lc_6 i k ei hk hN hJ he hq nw
      · refine l_tableIn (off := 537) 577 dL_law_40 (by rw [ej]; decide) (by rw [ej]; decide) (by rw [ej]; decide) (by decide) ?_
        exact lc_7 i k ei hk hN hJ he hq nw
      · refine l_tableIn (off := 550) 590 dL_law_40 (by rw [ej]; decide) (by rw [ej]; decide) (by rw [ej]; decide) (by decide) ?_
        exact lc_8 i k ei hk hN hJ he hq nw
      · refine l_tableIn (off := 563) 603 dL_law_40 (by rw [ej]; decide) (by rw [ej]; decide) (by rw [ej]; decide) (by decide) ?_
        exact lc_9 i k ei hk hN hJ he hq nw
      · refine l_tableIn (off := 588) 628 dL_law_40 (by rw [ej]; decide) (by rw [ej]; decide) (by rw [ej]; decide) (by decide) ?_
        exact lc_10 i k ei hk hN hJ he hq nw
      · refine l_tableIn (off := 601) 641 dL_law_40 (by rw [ej]; decide) (by rw [ej]; decide) (by rw [ej]; decide) (by decide) ?_
        exact lc_11 i k ei hk hN hJ he hq nw
      · refine l_tableIn (off := 626) 666 dL_law_40 (by rw [ej]; decide) (by rw [ej]; decide) (by rw [ej]; decide) (by decide) ?_
        exact lc_12 i k ei hk hN hJ he hq nw
      · refine l_tableIn (off := 639) 679 dL_law_40 (by rw [ej]; decide) (by rw [ej]; decide) (by rw [ej]; decide) (by decide) ?_
        exact lc_13 i k ei hk hN hJ he hq nw
      · refine l_tableIn (off := 664) 704 dL_law_40 (by rw [ej]; decide) (by rw [ej]; decide) (by rw [ej]; decide) (by decide) ?_
        exact lc_14 i k ei hk hN hJ he hq nw
      · refine l_tableIn (off := 689) 729 dL_law_40 (by rw [ej]; decide) (by rw [ej]; decide) (by rw [ej]; decide) (by decide) ?_
        exact lc_15 i k ei hk hN hJ he hq nw
      · refine l_tableIn (off := 702) 742 dL_law_40 (by rw [ej]; decide) (by rw [ej]; decide) (by rw [ej]; decide) (by decide) ?_
        exact lc_16 i k ei hk hN hJ he hq nw
      · refine l_tableIn (off := 751) 791 dL_law_40 (by rw [ej]; decide) (by rw [ej]; decide) (by rw [ej]; decide) (by decide) ?_
        exact lc_17 i k ei hk hN hJ he hq nw
      · refine l_tableIn (off := 764) 804 dL_law_40 (by rw [ej]; decide) (by rw [ej]; decide) (by rw [ej]; decide) (by decide) ?_
        exact lc_18 i k ei hk hN hJ he hq nw
      · refine l_tableIn (off := 777) 817 dL_law_40 (by rw [ej]; decide) (by rw [ej]; decide) (by rw [ej]; decide) (by decide) ?_
        exact lc_19 i k ei hk hN hJ he hq nw
      · refine l_tableIn (off := 790) 830 dL_law_40 (by rw [ej]; decide) (by rw [ej]; decide) (by rw [ej]; decide) (by decide) ?_
        exact lc_20 i k ei hk hN hJ he hq nw
      · refine l_tableIn (off := 803) 843 dL_law_40 (by rw [ej]; decide) (by rw [ej]; decide) (by rw [ej]; decide) (by decide) ?_
        exact lc_21 i k ei hk hN hJ he hq nw
      · refine l_tableIn (off := 844) 884 dL_law_40 (by rw [ej]; decide) (by rw [ej]; decide) (by rw [ej]; decide) (by decide) ?_
        exact lc_22 i k ei hk hN hJ he hq nw
      · refine l_tableIn (off := 857) 897 dL_law_40 (by rw [ej]; decide) (by rw [ej]; decide) (by rw [ej]; decide) (by decide) ?_
        exact lc_23 i k ei hk hN hJ he hq nw
      · refine l_tableIn (off := 882) 922 dL_law_40 (by rw [ej]; decide) (by rw [ej]; decide) (by rw [ej]; decide) (by decide) ?_
        exact lc_24 i k ei hk hN hJ he hq nw
      · refine l_tableIn (off := 895) 935 dL_law_40 (by rw [ej]; decide) (by rw [ej]; decide) (by rw [ej]; decide) (by decide) ?_
        exact lc_25 i k ei hk hN hJ he hq nw
      · refine l_tableIn (off := 920) 960 dL_law_40 (by rw [ej]; decide) (by rw [ej]; decide) (by rw [ej]; decide) (by decide) ?_
        exact lc_26 i k ei hk hN hJ he hq nw
      · refine l_tableIn (off := 933) 973 dL_law_40 (by rw [ej]; decide) (by rw [ej]; decide) (by rw [ej]; decide) (by decide) ?_
        exact lc_27 i k ei hk hN hJ he hq nw
      · refine l_tableIn (off := 970) 1010 dL_law_40 (by rw [ej]; decide) (by rw [ej]; decide) (by rw [ej]; decide) (by decide) ?_
        exact lc_28 i k ei hk hN hJ he hq nw
      · refine l_tableIn (off := 983) 1023 dL_law_40 (by rw [ej]; decide) (by rw [ej]; decide) (by rw [ej]; decide) (by decide) ?_
        exact lc_29 i k ei hk hN hJ he hq nw
      · refine l_tableIn (off := 996) 1036 dL_law_40 (by rw [ej]; decide) (by rw [ej]; decide) (by rw [ej]; decide) (by decide) ?_
        exact lc_30 i k ei hk hN hJ he hq nw
      · refine l_tableIn (off := 1009) 1049 dL_law_40 (by rw [ej]; decide) (by rw [ej]; decide) (by rw [ej]; decide) (by decide) ?_
        exact lc_31 i k ei hk hN hJ he hq nw
      · refine l_tableIn (off := 1022) 1062 dL_law_40 (by rw [ej]; decide) (by rw [ej]; decide) (by rw [ej]; decide) (by decide) ?_
        exact lc_32 i k ei hk hN hJ he hq nw
      · refine l_tableIn (off := 1035) 1075 dL_law_40 (by rw [ej]; decide) (by rw [ej]; decide) (by rw [ej]; decide) (by decide) ?_
        exact lc_33 i k ei hk hN hJ he hq nw
      · refine l_tableIn (off := 1048) 1088 dL_law_40 (by rw [ej]; decide) (by rw [ej]; decide) (by rw [ej]; decide) (by decide) ?_
        exact lc_34 i k ei hk hN hJ he hq nw
      · refine l_tableIn (off := 1113) 1153 dL_law_40 (by rw [ej]; decide) (by rw [ej]; decide) (by rw [ej]; decide) (by decide) ?_
        exact lc_35 i k ei hk hN hJ he hq nw
      · refine l_tableIn (off := 1138) 1178 dL_law_40 (by rw [ej]; decide) (by rw [ej]; decide) (by rw [ej]; decide) (by decide) ?_
        exact lc_36 i k ei hk hN hJ he hq nw
      · refine l_tableIn (off := 1163) 1203 dL_law_40 (by rw [ej]; decide) (by rw [ej]; decide) (by rw [ej]; decide) (by decide) ?_
        exact lc_37 i k ei hk hN hJ he hq nw
      · refine l_tableIn (off := 1188) 1228 dL_law_40 (by rw [ej]; decide) (by rw [ej]; decide) (by rw [ej]; decide) (by decide) ?_
        exact lc_38 i k ei hk hN hJ he hq nw
      · refine l_tableIn (off := 1249) 1289 dL_law_40 (by rw [ej]; decide) (by rw [ej]; decide) (by rw [ej]; decide) (by decide) ?_
        exact lc_39 i k ei hk hN hJ he hq nw
      · refine l_tableIn (off := 1262) 1302 dL_law_40 (by rw [ej]; decide) (by rw [ej]; decide) (by rw [ej]; decide) (by decide) ?_
        exact lc_40 i k ei hk hN hJ he hq nw
      · refine l_tableIn (off := 1275) 1315 dL_law_40 (by rw [ej]; decide) (by rw [ej]; decide) (by rw [ej]; decide) (by decide) ?_
        exact lc_41 i k ei hk hN hJ he hq nw
      · refine l_tableIn (off := 1288) 1328 dL_law_40 (by rw [ej]; decide) (by rw [ej]; decide) (by rw [ej]; decide) (by decide) ?_
        exact lc_42 i k ei hk hN hJ he hq nw
      · refine l_tableIn (off := 1313) 1353 dL_law_40 (by rw [ej]; decide) (by rw [ej]; decide) (by rw [ej]; decide) (by decide) ?_
        exact lc_43 i k ei hk hN hJ he hq nw
      · refine l_tableIn (off := 1350) 1390 dL_law_40 (by rw [ej]; decide) (by rw [ej]; decide) (by rw [ej]; decide) (by decide) ?_
        exact lc_44 i k ei hk hN hJ he hq nw
      · refine l_tableIn (off := 1387) 1427 dL_law_40 (by rw [ej]; decide) (by rw [ej]; decide) (by rw [ej]; decide) (by decide) ?_
        exact lc_45 i k ei hk hN hJ he hq nw
      · refine l_tableIn (off := 1440) 1480 dL_law_40 (by rw [ej]; decide) (by rw [ej]; decide) (by rw [ej]; decide) (by decide) ?_
        exact lc_46 i k ei hk hN hJ he hq nw
      · refine l_tableIn (off := 1477) 1517 dL_law_40 (by rw [ej]; decide) (by rw [ej]; decide) (by rw [ej]; decide) (by decide) ?_
        exact lc_47 i k ei hk hN hJ he ⟨by show 141 + k + 1 ≤ _; omega, by show 16331 + 6 * k + 6 ≤ _; omega⟩ (fun h1 a b => l_widen (by show 141 + k + 1 ≤ 141 + (k + 7); omega) (by show 16331 + 6 * k + 6 ≤ 16331 + 6 * (k + 7); omega) (nx h1 a b))
      · refine l_tableIn (off := 1505) 1545 dL_law_40 (by rw [ej]; decide) (by rw [ej]; decide) (by rw [ej]; decide) (by decide) ?_
        exact lc_48 i k ei hk hN hJ he hq nw
      · refine l_tableIn (off := 1530) 1570 dL_law_40 (by rw [ej]; decide) (by rw [ej]; decide) (by rw [ej]; decide) (by decide) ?_
        exact lc_49 i k ei hk hN hJ he hq nw
