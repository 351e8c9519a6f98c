set_option maxRecDepth 100000 in
theorem e_X6_read {g : gT} {h : mh_T} {P : mh_T → Prop} (l1 : Int32) (q : MCv g yX1_clear uX1_clear [.ref 2] h (fun h1 => MCv g yX6_next uX6_next [.ref 1] (wI (wI (wI (wI h1 1 1 0) 1 2 0) 1 6 (if 900 < l1 then 900 else l1)) 1 7 0) (fun h2 => ME g uX6_read 43 [.ref 1, .int l1, .int 1, .int 0] [] h2 (qV P)))) : MCv g yX6_read uX6_read [.ref 1, .int l1] h P := by
  refine m_enter (by decide) rfl (Nat.le_of_ble_eq_true rfl) (lv := [.ref 1, .int l1, .retAddr 0, .retAddr 0]) rfl ?_
  refine m_aload_n dX6_read_0 rfl ?_
  refine gf_X6_12 rfl dX6_read_1 ?_
  refine cl_X6_29 rfl (by decide) dX6_read_4 (Nat.le_of_ble_eq_true rfl) (MCv_go q (fun h1 q => ?_))
  refine m_aload_n dX6_read_7 rfl ?_
  refine m_iconst (v := 0) dX6_read_8 (by decide) ?_
  refine pf_X6_32 rfl dX6_read_9 ?_
  refine m_aload_n dX6_read_12 rfl ?_
  refine m_iconst (v := 0) dX6_read_13 (by decide) ?_
  refine pf_X6_36 rfl dX6_read_14 ?_
  refine m_aload_n dX6_read_17 rfl ?_
  refine m_iload_n dX6_read_18 rfl ?_
  refine m_aload_n dX6_read_19 rfl ?_
  refine gf_X6_25 rfl dX6_read_20 ?_
  refine m_alen (v := 900) dX6_read_23 rfl (by decide) (by decide) (by decide) ?_
  refine m_mmin dX6_read_24 tw_324 tw_131 tw_128 tw_132 (by decide) (Nat.le_of_ble_eq_true rfl) ?_
  refine pf_X6_45 rfl dX6_read_27 ?_
  refine m_aload_n dX6_read_30 rfl ?_
  refine m_iconst (v := 0) dX6_read_31 (by decide) ?_
  refine pf_X6_48 rfl dX6_read_32 ?_
  refine m_aload_n dX6_read_35 rfl ?_
  refine cl_X6_51 rfl (by decide) dX6_read_36 (Nat.le_of_ble_eq_true rfl) (MCv_go q (fun h2 q => ?_))
  refine m_iconst (v := 1) dX6_read_39 (by decide) ?_
  refine m_istore_n (lv' := [.ref 1, .int l1, .int 1, .retAddr 0]) dX6_read_40 (Nat.le_of_ble_eq_true rfl) rfl rfl ?_
  refine m_iconst (v := 0) dX6_read_41 (by decide) ?_
  refine m_istore_n (lv' := [.ref 1, .int l1, .int 1, .int 0]) dX6_read_42 (Nat.le_of_ble_eq_true rfl) rfl rfl ?_
  exact q
set_option maxRecDepth 100000 in
theorem r_X6_read_43 {g : gT} {h : mh_T} {P : mh_T → Prop} (l1 : Int32) (l2 : Int32) (l3 : Int32) (q : (l2 = 0 → P h) ∧ (¬ l2 = 0 → ((mI h 1 6) < l3 → P h) ∧ (¬ (mI h 1 6) < l3 → MCi g yX6_readLine uX6_readLine [.ref 1] h (fun r4 h3 => (r4 = 0 → ME g uX6_read 43 [.ref 1, .int l1, .int 0, .int (l3 + 1)] [] h3 (qV P)) ∧ (¬ r4 = 0 → MCi g yX6_goesOn uX6_goesOn [.ref 1] h3 (fun r7 h6 => (r7 = 0 → ME g uX6_read 43 [.ref 1, .int l1, .int 0, .int (l3 + 1)] [] h6 (qV P)) ∧ (¬ r7 = 0 → ME g uX6_read 43 [.ref 1, .int l1, .int 1, .int (l3 + 1)] [] h6 (qV P)))))))) : ME g uX6_read 43 [.ref 1, .int l1, .int l2, .int l3] [] h (qV P) := by
  refine m_iload_n dX6_read_43 rfl ?_
  refine m_if_eq 81 dX6_read_44 (by decide) (fun c1 => ?_) (fun c1 => ?_)
  · replace q := q.1 c1
    exact m_vret dX6_read_81 rfl q
  · replace q := q.2 c1
    refine m_iload_n dX6_read_47 rfl ?_
    refine m_aload_n dX6_read_48 rfl ?_
    refine gf_X6_45 rfl dX6_read_49 ?_
    refine m_icmp_gt 81 dX6_read_52 (by decide) (fun c2 => ?_) (fun c2 => ?_)
    · replace q := q.1 c2
      exact m_vret dX6_read_81 rfl q
    · replace q := q.2 c2
      refine m_aload_n dX6_read_55 rfl ?_
      refine cl_X6_54 rfl (by decide) dX6_read_56 (Nat.le_of_ble_eq_true rfl) (MCi_go q (fun r4 h3 q => ?_))
      refine m_if_eq 73 dX6_read_59 (by decide) (fun c5 => ?_) (fun c5 => ?_)
      · replace q := q.1 c5
        refine m_iconst (v := 0) dX6_read_73 (by decide) ?_
        refine m_istore_n (lv' := [.ref 1, .int l1, .int 0, .int l3]) dX6_read_74 (Nat.le_of_ble_eq_true rfl) rfl rfl ?_
        refine m_iinc (v := (l3 + 1)) (lv' := [.ref 1, .int l1, .int 0, .int (l3 + 1)]) dX6_read_75 (Nat.le_of_ble_eq_true rfl) rfl (congrArg (fun z => l3 + z) (by decide : Int32.ofInt 1 = 1)) rfl rfl ?_
        refine m_goto 43 dX6_read_78 (by decide) ?_
        exact q
      · replace q := q.2 c5
        refine m_aload_n dX6_read_62 rfl ?_
        refine cl_X6_58 rfl (by decide) dX6_read_63 (Nat.le_of_ble_eq_true rfl) (MCi_go q (fun r7 h6 q => ?_))
        refine m_if_eq 73 dX6_read_66 (by decide) (fun c8 => ?_) (fun c8 => ?_)
        · replace q := q.1 c8
          refine m_iconst (v := 0) dX6_read_73 (by decide) ?_
          refine m_istore_n (lv' := [.ref 1, .int l1, .int 0, .int l3]) dX6_read_74 (Nat.le_of_ble_eq_true rfl) rfl rfl ?_
          refine m_iinc (v := (l3 + 1)) (lv' := [.ref 1, .int l1, .int 0, .int (l3 + 1)]) dX6_read_75 (Nat.le_of_ble_eq_true rfl) rfl (congrArg (fun z => l3 + z) (by decide : Int32.ofInt 1 = 1)) rfl rfl ?_
          refine m_goto 43 dX6_read_78 (by decide) ?_
          exact q
        · replace q := q.2 c8
          refine m_iconst (v := 1) dX6_read_69 (by decide) ?_
          refine m_goto 74 dX6_read_70 (by decide) ?_
          refine m_istore_n (lv' := [.ref 1, .int l1, .int 1, .int l3]) dX6_read_74 (Nat.le_of_ble_eq_true rfl) rfl rfl ?_
          refine m_iinc (v := (l3 + 1)) (lv' := [.ref 1, .int l1, .int 1, .int (l3 + 1)]) dX6_read_75 (Nat.le_of_ble_eq_true rfl) rfl (congrArg (fun z => l3 + z) (by decide : Int32.ofInt 1 = 1)) rfl rfl ?_
          refine m_goto 43 dX6_read_78 (by decide) ?_
          exact q
set_option maxRecDepth 100000 in
theorem e_X6_goesOn {g : gT} {h : mh_T} {P : Int32 → mh_T → Prop}  (q : (¬ (mI h 1 8) = 0 → MCi g yX6_pass uX6_pass [.ref 1, .int 59] h (fun r3 h2 => (r3 = 0 ∨ r3 = 1) ∧ P r3 h2)) ∧ ((mI h 1 8) = 0 → ((mI h 2 0) = 0 → MCi g yX6_refuse uX6_refuse [.ref 1, .int 6] h (fun r6 h5 => P 0 h5)) ∧ (¬ (mI h 2 0) = 0 → (¬ (mI h 2 1) = 0 → P 0 h) ∧ ((mI h 2 1) = 0 → MCi g yX6_refuse uX6_refuse [.ref 1, .int 6] h (fun r9 h8 => P 0 h8))))) : MCi g yX6_goesOn uX6_goesOn [.ref 1] h P := by
  refine m_enter (by decide) rfl (Nat.le_of_ble_eq_true rfl) (lv := [.ref 1]) rfl ?_
  refine m_aload_n dX6_goesOn_0 rfl ?_
  refine gf_X6_61 rfl dX6_goesOn_1 ?_
  refine m_if_ne 36 dX6_goesOn_4 (by decide) (fun c1 => ?_) (fun c1 => ?_)
  · replace q := q.1 c1
    refine m_aload_n dX6_goesOn_36 rfl ?_
    refine m_bipush (v := 59) dX6_goesOn_37 (by decide) ?_
    refine cl_X6_74 rfl (by decide) dX6_goesOn_39 (Nat.le_of_ble_eq_true rfl) (MCi_go q (fun r3 h2 q => ?_))
    exact m_zret dX6_goesOn_42 rfl q.1 q.2
  · replace q := q.2 c1
    refine m_aload_n dX6_goesOn_7 rfl ?_
    refine gf_X6_12 rfl dX6_goesOn_8 ?_
    refine gf_X6_64 rfl dX6_goesOn_11 ?_
    refine m_if_eq 27 dX6_goesOn_14 (by decide) (fun c4 => ?_) (fun c4 => ?_)
    · replace q := q.1 c4
      refine m_aload_n dX6_goesOn_27 rfl ?_
      refine m_bipush (v := 6) dX6_goesOn_28 (by decide) ?_
      refine cl_X6_70 rfl (by decide) dX6_goesOn_30 (Nat.le_of_ble_eq_true rfl) (MCi_go q (fun r6 h5 q => ?_))
      refine m_pop dX6_goesOn_33 rfl ?_
      refine m_iconst (v := 0) dX6_goesOn_34 (by decide) ?_
      exact m_zret dX6_goesOn_35 rfl (by decide) q
    · replace q := q.2 c4
      refine m_aload_n dX6_goesOn_17 rfl ?_
      refine gf_X6_12 rfl dX6_goesOn_18 ?_
      refine gf_X6_67 rfl dX6_goesOn_21 ?_
      refine m_if_ne 34 dX6_goesOn_24 (by decide) (fun c7 => ?_) (fun c7 => ?_)
      · replace q := q.1 c7
        refine m_iconst (v := 0) dX6_goesOn_34 (by decide) ?_
        exact m_zret dX6_goesOn_35 rfl (by decide) q
      · replace q := q.2 c7
        refine m_aload_n dX6_goesOn_27 rfl ?_
        refine m_bipush (v := 6) dX6_goesOn_28 (by decide) ?_
        refine cl_X6_70 rfl (by decide) dX6_goesOn_30 (Nat.le_of_ble_eq_true rfl) (MCi_go q (fun r9 h8 q => ?_))
        refine m_pop dX6_goesOn_33 rfl ?_
        refine m_iconst (v := 0) dX6_goesOn_34 (by decide) ?_
        exact m_zret dX6_goesOn_35 rfl (by decide) q
set_option maxRecDepth 100000 in
theorem e_X6_readLine {g : gT} {h : mh_T} {P : Int32 → mh_T → Prop}  (q : MCi g yX6_says uX6_says [.ref 1, .ref (1000 + 0)] h (fun r2 h1 => (r2 = 0 → MCi g yX6_says uX6_says [.ref 1, .ref (1000 + 1)] h1 (fun r5 h4 => (r5 = 0 → MCi g yX6_says uX6_says [.ref 1, .ref (1000 + 2)] h4 (fun r8 h7 => (r8 = 0 → MCi g yX6_says uX6_says [.ref 1, .ref (1000 + 3)] h7 (fun r11 h10 => (r11 = 0 → MCi g yX6_says uX6_says [.ref 1, .ref (1000 + 4)] h10 (fun r14 h13 => (r14 = 0 → MCi g yX6_says uX6_says [.ref 1, .ref (1000 + 5)] h13 (fun r17 h16 => (r17 = 0 → MCi g yX6_says uX6_says [.ref 1, .ref (1000 + 6)] h16 (fun r20 h19 => (r20 = 0 → MCi g yX6_refuse uX6_refuse [.ref 1, .int 1] h19 (fun r23 h22 => (r23 = 0 ∨ r23 = 1) ∧ P r23 h22)) ∧ (¬ r20 = 0 → MCi g yX6_readRun uX6_readRun [.ref 1] h19 (fun r25 h24 => (r25 = 0 ∨ r25 = 1) ∧ P r25 h24)))) ∧ (¬ r17 = 0 → MCi g yX6_readRay uX6_readRay [.ref 1] h16 (fun r27 h26 => (r27 = 0 ∨ r27 = 1) ∧ P r27 h26)))) ∧ (¬ r14 = 0 → MCi g yX6_readParity uX6_readParity [.ref 1] h13 (fun r29 h28 => (r29 = 0 ∨ r29 = 1) ∧ P r29 h28)))) ∧ (¬ r11 = 0 → MCi g yX6_readSet uX6_readSet [.ref 1] h10 (fun r31 h30 => (r31 = 0 ∨ r31 = 1) ∧ P r31 h30)))) ∧ (¬ r8 = 0 → MCi g yX6_readNames uX6_readNames [.ref 1, .ref 14, .int 0] h7 (fun r33 h32 => (r33 = 0 ∨ r33 = 1) ∧ P r33 h32)))) ∧ (¬ r5 = 0 → MCi g yX6_readNames uX6_readNames [.ref 1, .ref 13, .int 1] h4 (fun r35 h34 => (r35 = 0 ∨ r35 = 1) ∧ P r35 h34)))) ∧ (¬ r2 = 0 → MCi g yX6_readLaw uX6_readLaw [.ref 1] h1 (fun r37 h36 => (r37 = 0 ∨ r37 = 1) ∧ P r37 h36)))) : MCi g yX6_readLine uX6_readLine [.ref 1] h P := by
  refine m_enter (by decide) rfl (Nat.le_of_ble_eq_true rfl) (lv := [.ref 1]) rfl ?_
  refine m_aload_n dX6_readLine_0 rfl ?_
  refine m_ldcS (i := 0) (tx := "law") dX6_readLine_1 (List.mem_of_getElem? (i := 0) rfl) (by decide) ?_
  refine cl_X6_78 rfl (by decide) dX6_readLine_3 (Nat.le_of_ble_eq_true rfl) (MCi_go q (fun r2 h1 q => ?_))
  refine m_if_eq 14 dX6_readLine_6 (by decide) (fun c3 => ?_) (fun c3 => ?_)
  · replace q := q.1 c3
    refine m_aload_n dX6_readLine_14 rfl ?_
    refine m_ldcS (i := 1) (tx := "look") dX6_readLine_15 (List.mem_of_getElem? (i := 1) rfl) (by decide) ?_
    refine cl_X6_78 rfl (by decide) dX6_readLine_17 (Nat.le_of_ble_eq_true rfl) (MCi_go q (fun r5 h4 q => ?_))
    refine m_if_eq 33 dX6_readLine_20 (by decide) (fun c6 => ?_) (fun c6 => ?_)
    · replace q := q.1 c6
      refine m_aload_n dX6_readLine_33 rfl ?_
      refine m_ldcS (i := 2) (tx := "point") dX6_readLine_34 (List.mem_of_getElem? (i := 2) rfl) (by decide) ?_
      refine cl_X6_78 rfl (by decide) dX6_readLine_36 (Nat.le_of_ble_eq_true rfl) (MCi_go q (fun r8 h7 q => ?_))
      refine m_if_eq 52 dX6_readLine_39 (by decide) (fun c9 => ?_) (fun c9 => ?_)
      · replace q := q.1 c9
        refine m_aload_n dX6_readLine_52 rfl ?_
        refine m_ldcS (i := 3) (tx := "set") dX6_readLine_53 (List.mem_of_getElem? (i := 3) rfl) (by decide) ?_
        refine cl_X6_78 rfl (by decide) dX6_readLine_55 (Nat.le_of_ble_eq_true rfl) (MCi_go q (fun r11 h10 q => ?_))
        refine m_if_eq 66 dX6_readLine_58 (by decide) (fun c12 => ?_) (fun c12 => ?_)
        · replace q := q.1 c12
          refine m_aload_n dX6_readLine_66 rfl ?_
          refine m_ldcS (i := 4) (tx := "line") dX6_readLine_67 (List.mem_of_getElem? (i := 4) rfl) (by decide) ?_
          refine cl_X6_78 rfl (by decide) dX6_readLine_69 (Nat.le_of_ble_eq_true rfl) (MCi_go q (fun r14 h13 q => ?_))
          refine m_if_eq 80 dX6_readLine_72 (by decide) (fun c15 => ?_) (fun c15 => ?_)
          · replace q := q.1 c15
            refine m_aload_n dX6_readLine_80 rfl ?_
            refine m_ldcS (i := 5) (tx := "ray") dX6_readLine_81 (List.mem_of_getElem? (i := 5) rfl) (by decide) ?_
            refine cl_X6_78 rfl (by decide) dX6_readLine_83 (Nat.le_of_ble_eq_true rfl) (MCi_go q (fun r17 h16 q => ?_))
            refine m_if_eq 94 dX6_readLine_86 (by decide) (fun c18 => ?_) (fun c18 => ?_)
            · replace q := q.1 c18
              refine m_aload_n dX6_readLine_94 rfl ?_
              refine m_ldcS (i := 6) (tx := "run") dX6_readLine_95 (List.mem_of_getElem? (i := 6) rfl) (by decide) ?_
              refine cl_X6_78 rfl (by decide) dX6_readLine_97 (Nat.le_of_ble_eq_true rfl) (MCi_go q (fun r20 h19 q => ?_))
              refine m_if_eq 108 dX6_readLine_100 (by decide) (fun c21 => ?_) (fun c21 => ?_)
              · replace q := q.1 c21
                refine m_aload_n dX6_readLine_108 rfl ?_
                refine m_iconst (v := 1) dX6_readLine_109 (by decide) ?_
                refine cl_X6_70 rfl (by decide) dX6_readLine_110 (Nat.le_of_ble_eq_true rfl) (MCi_go q (fun r23 h22 q => ?_))
                exact m_zret dX6_readLine_113 rfl q.1 q.2
              · replace q := q.2 c21
                refine m_aload_n dX6_readLine_103 rfl ?_
                refine cl_X6_110 rfl (by decide) dX6_readLine_104 (Nat.le_of_ble_eq_true rfl) (MCi_go q (fun r25 h24 q => ?_))
                exact m_zret dX6_readLine_107 rfl q.1 q.2
            · replace q := q.2 c18
              refine m_aload_n dX6_readLine_89 rfl ?_
              refine cl_X6_105 rfl (by decide) dX6_readLine_90 (Nat.le_of_ble_eq_true rfl) (MCi_go q (fun r27 h26 q => ?_))
              exact m_zret dX6_readLine_93 rfl q.1 q.2
          · replace q := q.2 c15
            refine m_aload_n dX6_readLine_75 rfl ?_
            refine cl_X6_100 rfl (by decide) dX6_readLine_76 (Nat.le_of_ble_eq_true rfl) (MCi_go q (fun r29 h28 q => ?_))
            exact m_zret dX6_readLine_79 rfl q.1 q.2
        · replace q := q.2 c12
          refine m_aload_n dX6_readLine_61 rfl ?_
          refine cl_X6_95 rfl (by decide) dX6_readLine_62 (Nat.le_of_ble_eq_true rfl) (MCi_go q (fun r31 h30 q => ?_))
          exact m_zret dX6_readLine_65 rfl q.1 q.2
      · replace q := q.2 c9
        refine m_aload_n dX6_readLine_42 rfl ?_
        refine m_aload_n dX6_readLine_43 rfl ?_
        refine gf_X6_22 rfl dX6_readLine_44 ?_
        refine m_iconst (v := 0) dX6_readLine_47 (by decide) ?_
        refine cl_X6_87 rfl (by decide) dX6_readLine_48 (Nat.le_of_ble_eq_true rfl) (MCi_go q (fun r33 h32 q => ?_))
        exact m_zret dX6_readLine_51 rfl q.1 q.2
    · replace q := q.2 c6
      refine m_aload_n dX6_readLine_23 rfl ?_
      refine m_aload_n dX6_readLine_24 rfl ?_
      refine gf_X6_18 rfl dX6_readLine_25 ?_
      refine m_iconst (v := 1) dX6_readLine_28 (by decide) ?_
      refine cl_X6_87 rfl (by decide) dX6_readLine_29 (Nat.le_of_ble_eq_true rfl) (MCi_go q (fun r35 h34 q => ?_))
      exact m_zret dX6_readLine_32 rfl q.1 q.2
  · replace q := q.2 c3
    refine m_aload_n dX6_readLine_9 rfl ?_
    refine cl_X6_82 rfl (by decide) dX6_readLine_10 (Nat.le_of_ble_eq_true rfl) (MCi_go q (fun r37 h36 q => ?_))
    exact m_zret dX6_readLine_13 rfl q.1 q.2
set_option maxRecDepth 100000 in
theorem e_X6_readLaw {g : gT} {h : mh_T} {P : Int32 → mh_T → Prop}  (q : ((mI h 2 0) = 0 → MCv g yX6_next uX6_next [.ref 1] h (fun h2 => MCi g yX6_passWord uX6_passWord [.ref 1, .ref (1000 + 7)] h2 (fun r4 h3 => (r4 = 0 → P 0 h3) ∧ (¬ r4 = 0 → MCi g yX6_needWhole uX6_needWhole [.ref 1, .int 1, .int 60] h3 (fun r7 h6 => (¬ r7 = 0 → MCv g yX6_next uX6_next [.ref 1] (wI h6 2 0 (mI h6 1 11)) (fun h9 => P 1 h9)) ∧ (r7 = 0 → P 0 h6)))))) ∧ (¬ (mI h 2 0) = 0 → MCi g yX6_refuse uX6_refuse [.ref 1, .int 3] h (fun r11 h10 => (r11 = 0 ∨ r11 = 1) ∧ P r11 h10))) : MCi g yX6_readLaw uX6_readLaw [.ref 1] h P := by
  refine m_enter (by decide) rfl (Nat.le_of_ble_eq_true rfl) (lv := [.ref 1]) rfl ?_
  refine m_aload_n dX6_readLaw_0 rfl ?_
  refine gf_X6_12 rfl dX6_readLaw_1 ?_
  refine gf_X6_64 rfl dX6_readLaw_4 ?_
  refine m_if_eq 16 dX6_readLaw_7 (by decide) (fun c1 => ?_) (fun c1 => ?_)
  · replace q := q.1 c1
    refine m_aload_n dX6_readLaw_16 rfl ?_
    refine cl_X6_51 rfl (by decide) dX6_readLaw_17 (Nat.le_of_ble_eq_true rfl) (MCv_go q (fun h2 q => ?_))
    refine m_aload_n dX6_readLaw_20 rfl ?_
    refine m_ldcS (i := 7) (tx := "of") dX6_readLaw_21 (List.mem_of_getElem? (i := 7) rfl) (by decide) ?_
    refine cl_X6_115 rfl (by decide) dX6_readLaw_23 (Nat.le_of_ble_eq_true rfl) (MCi_go q (fun r4 h3 q => ?_))
    refine m_if_eq 39 dX6_readLaw_26 (by decide) (fun c5 => ?_) (fun c5 => ?_)
    · replace q := q.1 c5
      refine m_iconst (v := 0) dX6_readLaw_39 (by decide) ?_
      exact m_zret dX6_readLaw_40 rfl (by decide) q
    · replace q := q.2 c5
      refine m_aload_n dX6_readLaw_29 rfl ?_
      refine m_iconst (v := 1) dX6_readLaw_30 (by decide) ?_
      refine m_bipush (v := 60) dX6_readLaw_31 (by decide) ?_
      refine cl_X6_118 rfl (by decide) dX6_readLaw_33 (Nat.le_of_ble_eq_true rfl) (MCi_go q (fun r7 h6 q => ?_))
      refine m_if_ne 41 dX6_readLaw_36 (by decide) (fun c8 => ?_) (fun c8 => ?_)
      · replace q := q.1 c8
        refine m_aload_n dX6_readLaw_41 rfl ?_
        refine gf_X6_12 rfl dX6_readLaw_42 ?_
        refine m_aload_n dX6_readLaw_45 rfl ?_
        refine gf_X6_122 rfl dX6_readLaw_46 ?_
        refine pf_X6_64 rfl dX6_readLaw_49 ?_
        refine m_aload_n dX6_readLaw_52 rfl ?_
        refine cl_X6_51 rfl (by decide) dX6_readLaw_53 (Nat.le_of_ble_eq_true rfl) (MCv_go q (fun h9 q => ?_))
        refine m_iconst (v := 1) dX6_readLaw_56 (by decide) ?_
        exact m_zret dX6_readLaw_57 rfl (by decide) q
      · replace q := q.2 c8
        refine m_iconst (v := 0) dX6_readLaw_39 (by decide) ?_
        exact m_zret dX6_readLaw_40 rfl (by decide) q
  · replace q := q.2 c1
    refine m_aload_n dX6_readLaw_10 rfl ?_
    refine m_iconst (v := 3) dX6_readLaw_11 (by decide) ?_
    refine cl_X6_70 rfl (by decide) dX6_readLaw_12 (Nat.le_of_ble_eq_true rfl) (MCi_go q (fun r11 h10 q => ?_))
    exact m_zret dX6_readLaw_15 rfl q.1 q.2
set_option maxRecDepth 100000 in
theorem e_X6_readNames {g : gT} {h : mh_T} {P : Int32 → mh_T → Prop} (l1 nl1 : Nat) (l2 : Int32) (sl1 : shp l1 = (22, nl1, [])) (q : ME g uX6_readNames 2 [.ref 1, .ref l1, .int l2, .int 0, .retAddr 0] [] h (qI P)) : MCi g yX6_readNames uX6_readNames [.ref 1, .ref l1, .int l2] h P := by
  refine m_enter (by decide) rfl (Nat.le_of_ble_eq_true rfl) (lv := [.ref 1, .ref l1, .int l2, .retAddr 0, .retAddr 0]) rfl ?_
  refine m_iconst (v := 0) dX6_readNames_0 (by decide) ?_
  refine m_istore_n (lv' := [.ref 1, .ref l1, .int l2, .int 0, .retAddr 0]) dX6_readNames_1 (Nat.le_of_ble_eq_true rfl) rfl rfl ?_
  exact q
set_option maxRecDepth 100000 in
theorem r_X6_readNames_2 {g : gT} {h : mh_T} {P : Int32 → mh_T → Prop} (l1 nl1 : Nat) (l2 : Int32) (l3 : Int32) (sl1 : shp l1 = (22, nl1, [])) (q : ((Int32.ofNat nl1) < l3 → MCi g yX6_refuse uX6_refuse [.ref 1, .int 5] h (fun r3 h2 => (r3 = 0 ∨ r3 = 1) ∧ P r3 h2)) ∧ (¬ (Int32.ofNat nl1) < l3 → MCv g yX6_next uX6_next [.ref 1] h (fun h4 => MCi g yX6_needNewName uX6_needNewName [.ref 1] h4 (fun r6 h5 => (¬ r6 = 0 → (l2 = 0 → ∀ x9 : Int32, x9 = (mI h5 2 2) → (x9 < (Int32.ofNat nl1) → (vp_in x9 nl1) ∧ ((l2 = 0 → MCv g yX6_next uX6_next [.ref 1] (wI (wL h5 l1 x9.toNatClampNeg (mL h5 1 10)) 2 2 ((mI (wL h5 l1 x9.toNatClampNeg (mL h5 1 10)) 2 2) + 1)) (fun h13 => ((mI h13 1 8) = 44 → ME g uX6_readNames 2 [.ref 1, .ref l1, .int l2, .int (l3 + 1), .retAddr 0] [] h13 (qI P)) ∧ (¬ (mI h13 1 8) = 44 → P 1 h13))) ∧ (¬ l2 = 0 → MCv g yX6_next uX6_next [.ref 1] (wI (wL h5 l1 x9.toNatClampNeg (mL h5 1 10)) 2 1 ((mI (wL h5 l1 x9.toNatClampNeg (mL h5 1 10)) 2 1) + 1)) (fun h15 => ((mI h15 1 8) = 44 → ME g uX6_readNames 2 [.ref 1, .ref l1, .int l2, .int (l3 + 1), .retAddr 0] [] h15 (qI P)) ∧ (¬ (mI h15 1 8) = 44 → P 1 h15))))) ∧ (¬ x9 < (Int32.ofNat nl1) → MCi g yX6_refuse uX6_refuse [.ref 1, .int 5] h5 (fun r18 h17 => (r18 = 0 ∨ r18 = 1) ∧ P r18 h17))) ∧ (¬ l2 = 0 → ∀ x19 : Int32, x19 = (mI h5 2 1) → (x19 < (Int32.ofNat nl1) → (vp_in x19 nl1) ∧ ((l2 = 0 → MCv g yX6_next uX6_next [.ref 1] (wI (wL h5 l1 x19.toNatClampNeg (mL h5 1 10)) 2 2 ((mI (wL h5 l1 x19.toNatClampNeg (mL h5 1 10)) 2 2) + 1)) (fun h23 => ((mI h23 1 8) = 44 → ME g uX6_readNames 2 [.ref 1, .ref l1, .int l2, .int (l3 + 1), .retAddr 0] [] h23 (qI P)) ∧ (¬ (mI h23 1 8) = 44 → P 1 h23))) ∧ (¬ l2 = 0 → MCv g yX6_next uX6_next [.ref 1] (wI (wL h5 l1 x19.toNatClampNeg (mL h5 1 10)) 2 1 ((mI (wL h5 l1 x19.toNatClampNeg (mL h5 1 10)) 2 1) + 1)) (fun h25 => ((mI h25 1 8) = 44 → ME g uX6_readNames 2 [.ref 1, .ref l1, .int l2, .int (l3 + 1), .retAddr 0] [] h25 (qI P)) ∧ (¬ (mI h25 1 8) = 44 → P 1 h25))))) ∧ (¬ x19 < (Int32.ofNat nl1) → MCi g yX6_refuse uX6_refuse [.ref 1, .int 5] h5 (fun r28 h27 => (r28 = 0 ∨ r28 = 1) ∧ P r28 h27)))) ∧ (r6 = 0 → P 0 h5))))) : ME g uX6_readNames 2 [.ref 1, .ref l1, .int l2, .int l3, .retAddr 0] [] h (qI P) := by
  refine m_iload_n dX6_readNames_2 rfl ?_
  refine m_aload_n dX6_readNames_3 rfl ?_
  refine m_alen (v := (Int32.ofNat nl1)) dX6_readNames_4 sl1 (by decide) (shp_lt sl1 (by decide)) rfl ?_
  refine m_icmp_gt 119 dX6_readNames_5 (by decide) (fun c1 => ?_) (fun c1 => ?_)
  · replace q := q.1 c1
    refine m_aload_n dX6_readNames_119 rfl ?_
    refine m_iconst (v := 5) dX6_readNames_120 (by decide) ?_
    refine cl_X6_70 rfl (by decide) dX6_readNames_121 (Nat.le_of_ble_eq_true rfl) (MCi_go q (fun r3 h2 q => ?_))
    exact m_zret dX6_readNames_124 rfl q.1 q.2
  · replace q := q.2 c1
    refine m_aload_n dX6_readNames_8 rfl ?_
    refine cl_X6_51 rfl (by decide) dX6_readNames_9 (Nat.le_of_ble_eq_true rfl) (MCv_go q (fun h4 q => ?_))
    refine m_aload_n dX6_readNames_12 rfl ?_
    refine cl_X6_125 rfl (by decide) dX6_readNames_13 (Nat.le_of_ble_eq_true rfl) (MCi_go q (fun r6 h5 q => ?_))
    refine m_if_ne 21 dX6_readNames_16 (by decide) (fun c7 => ?_) (fun c7 => ?_)
    · replace q := q.1 c7
      refine m_iload_n dX6_readNames_21 rfl ?_
      refine m_if_eq 35 dX6_readNames_22 (by decide) (fun c8 => ?_) (fun c8 => ?_)
      · replace q := q.1 c8
        refine m_aload_n dX6_readNames_35 rfl ?_
        refine gf_X6_12 rfl dX6_readNames_36 ?_
        refine gf_X6_128 rfl dX6_readNames_39 ?_
        obtain ⟨x9, ex9⟩ : ∃ z, z = (mI h5 2 2) := ⟨_, rfl⟩
        rw [← ex9]
        replace q := q x9 ex9
        refine m_istore (lv' := [.ref 1, .ref l1, .int l2, .int l3, .int x9]) dX6_readNames_42 (Nat.le_of_ble_eq_true rfl) rfl rfl ?_
        refine m_iload dX6_readNames_44 rfl ?_
        refine m_aload_n dX6_readNames_46 rfl ?_
        refine m_alen (v := (Int32.ofNat nl1)) dX6_readNames_47 sl1 (by decide) (shp_lt sl1 (by decide)) rfl ?_
        refine m_icmp_lt 57 dX6_readNames_48 (by decide) (fun c10 => ?_) (fun c10 => ?_)
        · replace q := q.1 c10
          refine m_aload_n dX6_readNames_57 rfl ?_
          refine m_iload dX6_readNames_58 rfl ?_
          refine m_aload_n dX6_readNames_60 rfl ?_
          refine gf_X6_131 rfl dX6_readNames_61 ?_
          obtain ⟨b11, q⟩ := q
          refine m_lastore dX6_readNames_64 sl1 (shp_lt sl1 (by decide)) b11 ?_
          refine m_iload_n dX6_readNames_65 rfl ?_
          refine m_if_eq 85 dX6_readNames_66 (by decide) (fun c12 => ?_) (fun c12 => ?_)
          · replace q := q.1 c12
            refine m_aload_n dX6_readNames_85 rfl ?_
            refine gf_X6_12 rfl dX6_readNames_86 ?_
            refine m_dup dX6_readNames_89 rfl ?_
            refine gf_X6_128 rfl dX6_readNames_90 ?_
            refine m_iconst (v := 1) dX6_readNames_93 (by decide) ?_
            refine m_iadd dX6_readNames_94 ?_
            refine pf_X6_128 rfl dX6_readNames_95 ?_
            refine m_aload_n dX6_readNames_98 rfl ?_
            refine cl_X6_51 rfl (by decide) dX6_readNames_99 (Nat.le_of_ble_eq_true rfl) (MCv_go q (fun h13 q => ?_))
            refine m_aload_n dX6_readNames_102 rfl ?_
            refine gf_X6_61 rfl dX6_readNames_103 ?_
            refine m_bipush (v := 44) dX6_readNames_106 (by decide) ?_
            refine m_icmp_eq 113 dX6_readNames_108 (by decide) (fun c14 => ?_) (fun c14 => ?_)
            · replace q := q.1 c14
              refine m_iinc (v := (l3 + 1)) (lv' := [.ref 1, .ref l1, .int l2, .int (l3 + 1), .int x9]) dX6_readNames_113 (Nat.le_of_ble_eq_true rfl) rfl (congrArg (fun z => l3 + z) (by decide : Int32.ofInt 1 = 1)) rfl rfl ?_
              refine m_goto 2 dX6_readNames_116 (by decide) ?_
              refine m_dropK (lv' := [.ref 1, .ref l1, .int l2, .int (l3 + 1), .retAddr 0]) [4] rfl ?_
              exact q
            · replace q := q.2 c14
              refine m_iconst (v := 1) dX6_readNames_111 (by decide) ?_
              exact m_zret dX6_readNames_112 rfl (by decide) q
          · replace q := q.2 c12
            refine m_aload_n dX6_readNames_69 rfl ?_
            refine gf_X6_12 rfl dX6_readNames_70 ?_
            refine m_dup dX6_readNames_73 rfl ?_
            refine gf_X6_67 rfl dX6_readNames_74 ?_
            refine m_iconst (v := 1) dX6_readNames_77 (by decide) ?_
            refine m_iadd dX6_readNames_78 ?_
            refine pf_X6_67 rfl dX6_readNames_79 ?_
            refine m_goto 98 dX6_readNames_82 (by decide) ?_
            refine m_aload_n dX6_readNames_98 rfl ?_
            refine cl_X6_51 rfl (by decide) dX6_readNames_99 (Nat.le_of_ble_eq_true rfl) (MCv_go q (fun h15 q => ?_))
            refine m_aload_n dX6_readNames_102 rfl ?_
            refine gf_X6_61 rfl dX6_readNames_103 ?_
            refine m_bipush (v := 44) dX6_readNames_106 (by decide) ?_
            refine m_icmp_eq 113 dX6_readNames_108 (by decide) (fun c16 => ?_) (fun c16 => ?_)
            · replace q := q.1 c16
              refine m_iinc (v := (l3 + 1)) (lv' := [.ref 1, .ref l1, .int l2, .int (l3 + 1), .int x9]) dX6_readNames_113 (Nat.le_of_ble_eq_true rfl) rfl (congrArg (fun z => l3 + z) (by decide : Int32.ofInt 1 = 1)) rfl rfl ?_
              refine m_goto 2 dX6_readNames_116 (by decide) ?_
              refine m_dropK (lv' := [.ref 1, .ref l1, .int l2, .int (l3 + 1), .retAddr 0]) [4] rfl ?_
              exact q
            · replace q := q.2 c16
              refine m_iconst (v := 1) dX6_readNames_111 (by decide) ?_
              exact m_zret dX6_readNames_112 rfl (by decide) q
        · replace q := q.2 c10
          refine m_aload_n dX6_readNames_51 rfl ?_
          refine m_iconst (v := 5) dX6_readNames_52 (by decide) ?_
          refine cl_X6_70 rfl (by decide) dX6_readNames_53 (Nat.le_of_ble_eq_true rfl) (MCi_go q (fun r18 h17 q => ?_))
          exact m_zret dX6_readNames_56 rfl q.1 q.2
      · replace q := q.2 c8
        refine m_aload_n dX6_readNames_25 rfl ?_
        refine gf_X6_12 rfl dX6_readNames_26 ?_
        refine gf_X6_67 rfl dX6_readNames_29 ?_
        refine m_goto 42 dX6_readNames_32 (by decide) ?_
        obtain ⟨x19, ex19⟩ : ∃ z, z = (mI h5 2 1) := ⟨_, rfl⟩
        rw [← ex19]
        replace q := q x19 ex19
        refine m_istore (lv' := [.ref 1, .ref l1, .int l2, .int l3, .int x19]) dX6_readNames_42 (Nat.le_of_ble_eq_true rfl) rfl rfl ?_
        refine m_iload dX6_readNames_44 rfl ?_
        refine m_aload_n dX6_readNames_46 rfl ?_
        refine m_alen (v := (Int32.ofNat nl1)) dX6_readNames_47 sl1 (by decide) (shp_lt sl1 (by decide)) rfl ?_
        refine m_icmp_lt 57 dX6_readNames_48 (by decide) (fun c20 => ?_) (fun c20 => ?_)
        · replace q := q.1 c20
          refine m_aload_n dX6_readNames_57 rfl ?_
          refine m_iload dX6_readNames_58 rfl ?_
          refine m_aload_n dX6_readNames_60 rfl ?_
          refine gf_X6_131 rfl dX6_readNames_61 ?_
          obtain ⟨b21, q⟩ := q
          refine m_lastore dX6_readNames_64 sl1 (shp_lt sl1 (by decide)) b21 ?_
          refine m_iload_n dX6_readNames_65 rfl ?_
          refine m_if_eq 85 dX6_readNames_66 (by decide) (fun c22 => ?_) (fun c22 => ?_)
          · replace q := q.1 c22
            refine m_aload_n dX6_readNames_85 rfl ?_
            refine gf_X6_12 rfl dX6_readNames_86 ?_
            refine m_dup dX6_readNames_89 rfl ?_
            refine gf_X6_128 rfl dX6_readNames_90 ?_
            refine m_iconst (v := 1) dX6_readNames_93 (by decide) ?_
            refine m_iadd dX6_readNames_94 ?_
            refine pf_X6_128 rfl dX6_readNames_95 ?_
            refine m_aload_n dX6_readNames_98 rfl ?_
            refine cl_X6_51 rfl (by decide) dX6_readNames_99 (Nat.le_of_ble_eq_true rfl) (MCv_go q (fun h23 q => ?_))
            refine m_aload_n dX6_readNames_102 rfl ?_
            refine gf_X6_61 rfl dX6_readNames_103 ?_
            refine m_bipush (v := 44) dX6_readNames_106 (by decide) ?_
            refine m_icmp_eq 113 dX6_readNames_108 (by decide) (fun c24 => ?_) (fun c24 => ?_)
            · replace q := q.1 c24
              refine m_iinc (v := (l3 + 1)) (lv' := [.ref 1, .ref l1, .int l2, .int (l3 + 1), .int x19]) dX6_readNames_113 (Nat.le_of_ble_eq_true rfl) rfl (congrArg (fun z => l3 + z) (by decide : Int32.ofInt 1 = 1)) rfl rfl ?_
              refine m_goto 2 dX6_readNames_116 (by decide) ?_
              refine m_dropK (lv' := [.ref 1, .ref l1, .int l2, .int (l3 + 1), .retAddr 0]) [4] rfl ?_
              exact q
            · replace q := q.2 c24
              refine m_iconst (v := 1) dX6_readNames_111 (by decide) ?_
              exact m_zret dX6_readNames_112 rfl (by decide) q
          · replace q := q.2 c22
            refine m_aload_n dX6_readNames_69 rfl ?_
            refine gf_X6_12 rfl dX6_readNames_70 ?_
            refine m_dup dX6_readNames_73 rfl ?_
            refine gf_X6_67 rfl dX6_readNames_74 ?_
            refine m_iconst (v := 1) dX6_readNames_77 (by decide) ?_
            refine m_iadd dX6_readNames_78 ?_
            refine pf_X6_67 rfl dX6_readNames_79 ?_
            refine m_goto 98 dX6_readNames_82 (by decide) ?_
            refine m_aload_n dX6_readNames_98 rfl ?_
            refine cl_X6_51 rfl (by decide) dX6_readNames_99 (Nat.le_of_ble_eq_true rfl) (MCv_go q (fun h25 q => ?_))
            refine m_aload_n dX6_readNames_102 rfl ?_
            refine gf_X6_61 rfl dX6_readNames_103 ?_
            refine m_bipush (v := 44) dX6_readNames_106 (by decide) ?_
            refine m_icmp_eq 113 dX6_readNames_108 (by decide) (fun c26 => ?_) (fun c26 => ?_)
            · replace q := q.1 c26
              refine m_iinc (v := (l3 + 1)) (lv' := [.ref 1, .ref l1, .int l2, .int (l3 + 1), .int x19]) dX6_readNames_113 (Nat.le_of_ble_eq_true rfl) rfl (congrArg (fun z => l3 + z) (by decide : Int32.ofInt 1 = 1)) rfl rfl ?_
              refine m_goto 2 dX6_readNames_116 (by decide) ?_
              refine m_dropK (lv' := [.ref 1, .ref l1, .int l2, .int (l3 + 1), .retAddr 0]) [4] rfl ?_
              exact q
            · replace q := q.2 c26
              refine m_iconst (v := 1) dX6_readNames_111 (by decide) ?_
              exact m_zret dX6_readNames_112 rfl (by decide) q
        · replace q := q.2 c20
          refine m_aload_n dX6_readNames_51 rfl ?_
          refine m_iconst (v := 5) dX6_readNames_52 (by decide) ?_
          refine cl_X6_70 rfl (by decide) dX6_readNames_53 (Nat.le_of_ble_eq_true rfl) (MCi_go q (fun r28 h27 q => ?_))
          exact m_zret dX6_readNames_56 rfl q.1 q.2
    · replace q := q.2 c7
      refine m_iconst (v := 0) dX6_readNames_19 (by decide) ?_
      exact m_zret dX6_readNames_20 rfl (by decide) q
set_option maxRecDepth 100000 in
theorem e_X6_readSet {g : gT} {h : mh_T} {P : Int32 → mh_T → Prop}  (q : (¬ (mI h 2 0) = 0 → ((mI h 2 3) < 8 → MCv g yX6_next uX6_next [.ref 1] h (fun h3 => MCi g yX6_nameAmong uX6_nameAmong [.ref 1, .ref 13, .int (mI h3 2 1)] h3 (fun r5 h4 => (0 ≤ r5 → MCv g yX6_next uX6_next [.ref 1] h4 (fun h7 => (¬ (mI h7 1 8) = 44 → (vp_in (mI h7 2 3) 8) ∧ ((vp_in (mI (wI h7 15 (mI h7 2 3).toNatClampNeg r5) 2 3) 8) ∧ (MCi g yX6_passWord uX6_passWord [.ref 1, .ref (1000 + 8)] (wI (wI h7 15 (mI h7 2 3).toNatClampNeg r5) 16 (mI (wI h7 15 (mI h7 2 3).toNatClampNeg r5) 2 3).toNatClampNeg (-2)) (fun r12 h11 => (r12 = 0 → P 0 h11) ∧ (¬ r12 = 0 → MCi g yX6_readTimes uX6_readTimes [.ref 1, .int 2] h11 (fun r16 h15 => (r16 = 0 → P 0 h15) ∧ (¬ r16 = 0 → P 1 h15))))))) ∧ ((mI h7 1 8) = 44 → MCv g yX6_next uX6_next [.ref 1] h7 (fun h18 => MCi g yX6_nameAmong uX6_nameAmong [.ref 1, .ref 13, .int (mI h18 2 1)] h18 (fun r20 h19 => (0 ≤ r20 → (¬ r20 = r5 → MCv g yX6_next uX6_next [.ref 1] h19 (fun h23 => (vp_in (mI h23 2 3) 8) ∧ ((vp_in (mI (wI h23 15 (mI h23 2 3).toNatClampNeg r5) 2 3) 8) ∧ (MCi g yX6_passWord uX6_passWord [.ref 1, .ref (1000 + 8)] (wI (wI h23 15 (mI h23 2 3).toNatClampNeg r5) 16 (mI (wI h23 15 (mI h23 2 3).toNatClampNeg r5) 2 3).toNatClampNeg r20) (fun r27 h26 => (r27 = 0 → P 0 h26) ∧ (¬ r27 = 0 → (0 ≤ r20 → MCi g yX6_readTimes uX6_readTimes [.ref 1, .int 4] h26 (fun r31 h30 => (r31 = 0 → P 0 h30) ∧ (¬ r31 = 0 → P 1 h30))) ∧ (¬ 0 ≤ r20 → MCi g yX6_readTimes uX6_readTimes [.ref 1, .int 2] h26 (fun r34 h33 => (r34 = 0 → P 0 h33) ∧ (¬ r34 = 0 → P 1 h33))))))))) ∧ (r20 = r5 → MCi g yX6_refuse uX6_refuse [.ref 1, .int 3] h19 (fun r37 h36 => (r37 = 0 ∨ r37 = 1) ∧ P r37 h36))) ∧ (¬ 0 ≤ r20 → P 0 h19)))))) ∧ (¬ 0 ≤ r5 → P 0 h4)))) ∧ (¬ (mI h 2 3) < 8 → MCi g yX6_refuse uX6_refuse [.ref 1, .int 5] h (fun r39 h38 => (r39 = 0 ∨ r39 = 1) ∧ P r39 h38))) ∧ ((mI h 2 0) = 0 → MCi g yX6_refuse uX6_refuse [.ref 1, .int 6] h (fun r41 h40 => (r41 = 0 ∨ r41 = 1) ∧ P r41 h40))) : MCi g yX6_readSet uX6_readSet [.ref 1] h P := by
  refine m_enter (by decide) rfl (Nat.le_of_ble_eq_true rfl) (lv := [.ref 1, .retAddr 0, .retAddr 0]) rfl ?_
  refine m_aload_n dX6_readSet_0 rfl ?_
  refine gf_X6_12 rfl dX6_readSet_1 ?_
  refine gf_X6_64 rfl dX6_readSet_4 ?_
  refine m_if_ne 17 dX6_readSet_7 (by decide) (fun c1 => ?_) (fun c1 => ?_)
  · replace q := q.1 c1
    refine m_aload_n dX6_readSet_17 rfl ?_
    refine gf_X6_12 rfl dX6_readSet_18 ?_
    refine gf_X6_135 rfl dX6_readSet_21 ?_
    refine m_bipush (v := 8) dX6_readSet_24 (by decide) ?_
    refine m_icmp_lt 35 dX6_readSet_26 (by decide) (fun c2 => ?_) (fun c2 => ?_)
    · replace q := q.1 c2
      refine m_aload_n dX6_readSet_35 rfl ?_
      refine cl_X6_51 rfl (by decide) dX6_readSet_36 (Nat.le_of_ble_eq_true rfl) (MCv_go q (fun h3 q => ?_))
      refine m_aload_n dX6_readSet_39 rfl ?_
      refine m_aload_n dX6_readSet_40 rfl ?_
      refine gf_X6_18 rfl dX6_readSet_41 ?_
      refine m_aload_n dX6_readSet_44 rfl ?_
      refine gf_X6_12 rfl dX6_readSet_45 ?_
      refine gf_X6_67 rfl dX6_readSet_48 ?_
      refine cl_X6_138 rfl (by decide) dX6_readSet_51 (Nat.le_of_ble_eq_true rfl) (MCi_go q (fun r5 h4 q => ?_))
      refine m_istore_n (lv' := [.ref 1, .int r5, .retAddr 0]) dX6_readSet_54 (Nat.le_of_ble_eq_true rfl) rfl rfl ?_
      refine m_iload_n dX6_readSet_55 rfl ?_
      refine m_if_ge 61 dX6_readSet_56 (by decide) (fun c6 => ?_) (fun c6 => ?_)
      · replace q := q.1 c6
        refine m_aload_n dX6_readSet_61 rfl ?_
        refine cl_X6_51 rfl (by decide) dX6_readSet_62 (Nat.le_of_ble_eq_true rfl) (MCv_go q (fun h7 q => ?_))
        refine m_bipush (v := (-2)) dX6_readSet_65 (by decide) ?_
        refine m_istore_n (lv' := [.ref 1, .int r5, .int (-2)]) dX6_readSet_67 (Nat.le_of_ble_eq_true rfl) rfl rfl ?_
        refine m_aload_n dX6_readSet_68 rfl ?_
        refine gf_X6_61 rfl dX6_readSet_69 ?_
        refine m_bipush (v := 44) dX6_readSet_72 (by decide) ?_
        refine m_icmp_ne 118 dX6_readSet_74 (by decide) (fun c8 => ?_) (fun c8 => ?_)
        · replace q := q.1 c8
          refine m_aload_n dX6_readSet_118 rfl ?_
          refine gf_X6_12 rfl dX6_readSet_119 ?_
          refine gf_X6_142 rfl dX6_readSet_122 ?_
          refine m_aload_n dX6_readSet_125 rfl ?_
          refine gf_X6_12 rfl dX6_readSet_126 ?_
          refine gf_X6_135 rfl dX6_readSet_129 ?_
          refine m_iload_n dX6_readSet_132 rfl ?_
          obtain ⟨b9, q⟩ := q
          refine m_iastore dX6_readSet_133 rfl (by decide) b9 ?_
          refine m_aload_n dX6_readSet_134 rfl ?_
          refine gf_X6_12 rfl dX6_readSet_135 ?_
          refine gf_X6_145 rfl dX6_readSet_138 ?_
          refine m_aload_n dX6_readSet_141 rfl ?_
          refine gf_X6_12 rfl dX6_readSet_142 ?_
          refine gf_X6_135 rfl dX6_readSet_145 ?_
          refine m_iload_n dX6_readSet_148 rfl ?_
          obtain ⟨b10, q⟩ := q
          refine m_iastore dX6_readSet_149 rfl (by decide) b10 ?_
          refine m_aload_n dX6_readSet_150 rfl ?_
          refine m_ldcS (i := 8) (tx := "tells") dX6_readSet_151 (List.mem_of_getElem? (i := 8) rfl) (by decide) ?_
          refine cl_X6_115 rfl (by decide) dX6_readSet_153 (Nat.le_of_ble_eq_true rfl) (MCi_go q (fun r12 h11 q => ?_))
          refine m_if_eq 179 dX6_readSet_156 (by decide) (fun c13 => ?_) (fun c13 => ?_)
          · replace q := q.1 c13
            refine m_iconst (v := 0) dX6_readSet_179 (by decide) ?_
            exact m_zret dX6_readSet_180 rfl (by decide) q
          · replace q := q.2 c13
            refine m_aload_n dX6_readSet_159 rfl ?_
            refine m_iload_n dX6_readSet_160 rfl ?_
            refine m_if_ge 168 dX6_readSet_161 (by decide) (fun c14 => absurd c14 (by decide)) (fun c14 => ?_)
            refine m_iconst (v := 2) dX6_readSet_164 (by decide) ?_
            refine m_goto 169 dX6_readSet_165 (by decide) ?_
            refine cl_X6_150 rfl (by decide) dX6_readSet_169 (Nat.le_of_ble_eq_true rfl) (MCi_go q (fun r16 h15 q => ?_))
            refine m_if_eq 179 dX6_readSet_172 (by decide) (fun c17 => ?_) (fun c17 => ?_)
            · replace q := q.1 c17
              refine m_iconst (v := 0) dX6_readSet_179 (by decide) ?_
              exact m_zret dX6_readSet_180 rfl (by decide) q
            · replace q := q.2 c17
              refine m_iconst (v := 1) dX6_readSet_175 (by decide) ?_
              refine m_goto 180 dX6_readSet_176 (by decide) ?_
              exact m_zret dX6_readSet_180 rfl (by decide) q
        · replace q := q.2 c8
          refine m_aload_n dX6_readSet_77 rfl ?_
          refine cl_X6_51 rfl (by decide) dX6_readSet_78 (Nat.le_of_ble_eq_true rfl) (MCv_go q (fun h18 q => ?_))
          refine m_aload_n dX6_readSet_81 rfl ?_
          refine m_aload_n dX6_readSet_82 rfl ?_
          refine gf_X6_18 rfl dX6_readSet_83 ?_
          refine m_aload_n dX6_readSet_86 rfl ?_
          refine gf_X6_12 rfl dX6_readSet_87 ?_
          refine gf_X6_67 rfl dX6_readSet_90 ?_
          refine cl_X6_138 rfl (by decide) dX6_readSet_93 (Nat.le_of_ble_eq_true rfl) (MCi_go q (fun r20 h19 q => ?_))
          refine m_istore_n (lv' := [.ref 1, .int r5, .int r20]) dX6_readSet_96 (Nat.le_of_ble_eq_true rfl) rfl rfl ?_
          refine m_iload_n dX6_readSet_97 rfl ?_
          refine m_if_ge 103 dX6_readSet_98 (by decide) (fun c21 => ?_) (fun c21 => ?_)
          · replace q := q.1 c21
            refine m_iload_n dX6_readSet_103 rfl ?_
            refine m_iload_n dX6_readSet_104 rfl ?_
            refine m_icmp_ne 114 dX6_readSet_105 (by decide) (fun c22 => ?_) (fun c22 => ?_)
            · replace q := q.1 c22
              refine m_aload_n dX6_readSet_114 rfl ?_
              refine cl_X6_51 rfl (by decide) dX6_readSet_115 (Nat.le_of_ble_eq_true rfl) (MCv_go q (fun h23 q => ?_))
              refine m_aload_n dX6_readSet_118 rfl ?_
              refine gf_X6_12 rfl dX6_readSet_119 ?_
              refine gf_X6_142 rfl dX6_readSet_122 ?_
              refine m_aload_n dX6_readSet_125 rfl ?_
              refine gf_X6_12 rfl dX6_readSet_126 ?_
              refine gf_X6_135 rfl dX6_readSet_129 ?_
              refine m_iload_n dX6_readSet_132 rfl ?_
              obtain ⟨b24, q⟩ := q
              refine m_iastore dX6_readSet_133 rfl (by decide) b24 ?_
              refine m_aload_n dX6_readSet_134 rfl ?_
              refine gf_X6_12 rfl dX6_readSet_135 ?_
              refine gf_X6_145 rfl dX6_readSet_138 ?_
              refine m_aload_n dX6_readSet_141 rfl ?_
              refine gf_X6_12 rfl dX6_readSet_142 ?_
              refine gf_X6_135 rfl dX6_readSet_145 ?_
              refine m_iload_n dX6_readSet_148 rfl ?_
              obtain ⟨b25, q⟩ := q
              refine m_iastore dX6_readSet_149 rfl (by decide) b25 ?_
              refine m_aload_n dX6_readSet_150 rfl ?_
              refine m_ldcS (i := 8) (tx := "tells") dX6_readSet_151 (List.mem_of_getElem? (i := 8) rfl) (by decide) ?_
              refine cl_X6_115 rfl (by decide) dX6_readSet_153 (Nat.le_of_ble_eq_true rfl) (MCi_go q (fun r27 h26 q => ?_))
              refine m_if_eq 179 dX6_readSet_156 (by decide) (fun c28 => ?_) (fun c28 => ?_)
              · replace q := q.1 c28
                refine m_iconst (v := 0) dX6_readSet_179 (by decide) ?_
                exact m_zret dX6_readSet_180 rfl (by decide) q
              · replace q := q.2 c28
                refine m_aload_n dX6_readSet_159 rfl ?_
                refine m_iload_n dX6_readSet_160 rfl ?_
                refine m_if_ge 168 dX6_readSet_161 (by decide) (fun c29 => ?_) (fun c29 => ?_)
                · replace q := q.1 c29
                  refine m_iconst (v := 4) dX6_readSet_168 (by decide) ?_
                  refine cl_X6_150 rfl (by decide) dX6_readSet_169 (Nat.le_of_ble_eq_true rfl) (MCi_go q (fun r31 h30 q => ?_))
                  refine m_if_eq 179 dX6_readSet_172 (by decide) (fun c32 => ?_) (fun c32 => ?_)
                  · replace q := q.1 c32
                    refine m_iconst (v := 0) dX6_readSet_179 (by decide) ?_
                    exact m_zret dX6_readSet_180 rfl (by decide) q
                  · replace q := q.2 c32
                    refine m_iconst (v := 1) dX6_readSet_175 (by decide) ?_
                    refine m_goto 180 dX6_readSet_176 (by decide) ?_
                    exact m_zret dX6_readSet_180 rfl (by decide) q
                · replace q := q.2 c29
                  refine m_iconst (v := 2) dX6_readSet_164 (by decide) ?_
                  refine m_goto 169 dX6_readSet_165 (by decide) ?_
                  refine cl_X6_150 rfl (by decide) dX6_readSet_169 (Nat.le_of_ble_eq_true rfl) (MCi_go q (fun r34 h33 q => ?_))
                  refine m_if_eq 179 dX6_readSet_172 (by decide) (fun c35 => ?_) (fun c35 => ?_)
                  · replace q := q.1 c35
                    refine m_iconst (v := 0) dX6_readSet_179 (by decide) ?_
                    exact m_zret dX6_readSet_180 rfl (by decide) q
                  · replace q := q.2 c35
                    refine m_iconst (v := 1) dX6_readSet_175 (by decide) ?_
                    refine m_goto 180 dX6_readSet_176 (by decide) ?_
                    exact m_zret dX6_readSet_180 rfl (by decide) q
            · replace q := q.2 c22
              refine m_aload_n dX6_readSet_108 rfl ?_
              refine m_iconst (v := 3) dX6_readSet_109 (by decide) ?_
              refine cl_X6_70 rfl (by decide) dX6_readSet_110 (Nat.le_of_ble_eq_true rfl) (MCi_go q (fun r37 h36 q => ?_))
              exact m_zret dX6_readSet_113 rfl q.1 q.2
          · replace q := q.2 c21
            refine m_iconst (v := 0) dX6_readSet_101 (by decide) ?_
            exact m_zret dX6_readSet_102 rfl (by decide) q
      · replace q := q.2 c6
        refine m_iconst (v := 0) dX6_readSet_59 (by decide) ?_
        exact m_zret dX6_readSet_60 rfl (by decide) q
    · replace q := q.2 c2
      refine m_aload_n dX6_readSet_29 rfl ?_
      refine m_iconst (v := 5) dX6_readSet_30 (by decide) ?_
      refine cl_X6_70 rfl (by decide) dX6_readSet_31 (Nat.le_of_ble_eq_true rfl) (MCi_go q (fun r39 h38 q => ?_))
      exact m_zret dX6_readSet_34 rfl q.1 q.2
  · replace q := q.2 c1
    refine m_aload_n dX6_readSet_10 rfl ?_
    refine m_bipush (v := 6) dX6_readSet_11 (by decide) ?_
    refine cl_X6_70 rfl (by decide) dX6_readSet_13 (Nat.le_of_ble_eq_true rfl) (MCi_go q (fun r41 h40 q => ?_))
    exact m_zret dX6_readSet_16 rfl q.1 q.2
set_option maxRecDepth 100000 in
theorem e_X6_readTimes {g : gT} {h : mh_T} {P : Int32 → mh_T → Prop} (l1 : Int32) (q : ME g uX6_readTimes 4 [.ref 1, .int l1, .int 0, .int 0] [] h (qI P)) : MCi g yX6_readTimes uX6_readTimes [.ref 1, .int l1] h P := by
  refine m_enter (by decide) rfl (Nat.le_of_ble_eq_true rfl) (lv := [.ref 1, .int l1, .retAddr 0, .retAddr 0]) rfl ?_
  refine m_iconst (v := 0) dX6_readTimes_0 (by decide) ?_
  refine m_istore_n (lv' := [.ref 1, .int l1, .int 0, .retAddr 0]) dX6_readTimes_1 (Nat.le_of_ble_eq_true rfl) rfl rfl ?_
  refine m_iconst (v := 0) dX6_readTimes_2 (by decide) ?_
  refine m_istore_n (lv' := [.ref 1, .int l1, .int 0, .int 0]) dX6_readTimes_3 (Nat.le_of_ble_eq_true rfl) rfl rfl ?_
  exact q
set_option maxRecDepth 100000 in
theorem r_X6_readTimes_4 {g : gT} {h : mh_T} {P : Int32 → mh_T → Prop} (l1 : Int32) (l2 : Int32) (l3 : Int32) (q : (l1 ≤ l3 → P 1 (wI h 2 3 ((mI h 2 3) + 1))) ∧ (¬ l1 ≤ l3 → (l3 ≤ 0 → MCi g yX6_needWhole uX6_needWhole [.ref 1, .int 0, .int 60] h (fun r4 h3 => (¬ r4 = 0 → ∀ x6 : Int32, x6 = (l2 + (mI h3 1 11)) → (¬ l3 = (l1 - 1) → (vp_in ((4 * (mI h3 2 3)) + l3) 32) ∧ (MCv g yX6_next uX6_next [.ref 1] (wI h3 17 ((4 * (mI h3 2 3)) + l3).toNatClampNeg (mI h3 1 11)) (fun h9 => ME g uX6_readTimes 4 [.ref 1, .int l1, .int x6, .int (l3 + 1)] [] h9 (qI P)))) ∧ (l3 = (l1 - 1) → (x6 = (mI h3 2 0) → (vp_in ((4 * (mI h3 2 3)) + l3) 32) ∧ (MCv g yX6_next uX6_next [.ref 1] (wI h3 17 ((4 * (mI h3 2 3)) + l3).toNatClampNeg (mI h3 1 11)) (fun h12 => ME g uX6_readTimes 4 [.ref 1, .int l1, .int x6, .int (l3 + 1)] [] h12 (qI P)))) ∧ (¬ x6 = (mI h3 2 0) → MCi g yX6_refuse uX6_refuse [.ref 1, .int 4] h3 (fun r14 h13 => (r14 = 0 ∨ r14 = 1) ∧ P r14 h13)))) ∧ (r4 = 0 → P 0 h3))) ∧ (¬ l3 ≤ 0 → MCi g yX6_pass uX6_pass [.ref 1, .int 44] h (fun r16 h15 => (¬ r16 = 0 → MCi g yX6_needWhole uX6_needWhole [.ref 1, .int 0, .int 60] h15 (fun r19 h18 => (¬ r19 = 0 → ∀ x21 : Int32, x21 = (l2 + (mI h18 1 11)) → (¬ l3 = (l1 - 1) → (vp_in ((4 * (mI h18 2 3)) + l3) 32) ∧ (MCv g yX6_next uX6_next [.ref 1] (wI h18 17 ((4 * (mI h18 2 3)) + l3).toNatClampNeg (mI h18 1 11)) (fun h24 => ME g uX6_readTimes 4 [.ref 1, .int l1, .int x21, .int (l3 + 1)] [] h24 (qI P)))) ∧ (l3 = (l1 - 1) → (x21 = (mI h18 2 0) → (vp_in ((4 * (mI h18 2 3)) + l3) 32) ∧ (MCv g yX6_next uX6_next [.ref 1] (wI h18 17 ((4 * (mI h18 2 3)) + l3).toNatClampNeg (mI h18 1 11)) (fun h27 => ME g uX6_readTimes 4 [.ref 1, .int l1, .int x21, .int (l3 + 1)] [] h27 (qI P)))) ∧ (¬ x21 = (mI h18 2 0) → MCi g yX6_refuse uX6_refuse [.ref 1, .int 4] h18 (fun r29 h28 => (r29 = 0 ∨ r29 = 1) ∧ P r29 h28)))) ∧ (r19 = 0 → P 0 h18))) ∧ (r16 = 0 → P 0 h15))))) : ME g uX6_readTimes 4 [.ref 1, .int l1, .int l2, .int l3] [] h (qI P) := by
  refine m_iload_n dX6_readTimes_4 rfl ?_
  refine m_iload_n dX6_readTimes_5 rfl ?_
  refine m_icmp_ge 100 dX6_readTimes_6 (by decide) (fun c1 => ?_) (fun c1 => ?_)
  · replace q := q.1 c1
    refine m_aload_n dX6_readTimes_100 rfl ?_
    refine gf_X6_12 rfl dX6_readTimes_101 ?_
    refine m_dup dX6_readTimes_104 rfl ?_
    refine gf_X6_135 rfl dX6_readTimes_105 ?_
    refine m_iconst (v := 1) dX6_readTimes_108 (by decide) ?_
    refine m_iadd dX6_readTimes_109 ?_
    refine pf_X6_135 rfl dX6_readTimes_110 ?_
    refine m_iconst (v := 1) dX6_readTimes_113 (by decide) ?_
    exact m_zret dX6_readTimes_114 rfl (by decide) q
  · replace q := q.2 c1
    refine m_iload_n dX6_readTimes_9 rfl ?_
    refine m_if_le 24 dX6_readTimes_10 (by decide) (fun c2 => ?_) (fun c2 => ?_)
    · replace q := q.1 c2
      refine m_aload_n dX6_readTimes_24 rfl ?_
      refine m_iconst (v := 0) dX6_readTimes_25 (by decide) ?_
      refine m_bipush (v := 60) dX6_readTimes_26 (by decide) ?_
      refine cl_X6_118 rfl (by decide) dX6_readTimes_28 (Nat.le_of_ble_eq_true rfl) (MCi_go q (fun r4 h3 q => ?_))
      refine m_if_ne 36 dX6_readTimes_31 (by decide) (fun c5 => ?_) (fun c5 => ?_)
      · replace q := q.1 c5
        refine m_iload_n dX6_readTimes_36 rfl ?_
        refine m_aload_n dX6_readTimes_37 rfl ?_
        refine gf_X6_122 rfl dX6_readTimes_38 ?_
        refine m_iadd dX6_readTimes_41 ?_
        obtain ⟨x6, ex6⟩ : ∃ z, z = (l2 + (mI h3 1 11)) := ⟨_, rfl⟩
        rw [← ex6]
        replace q := q x6 ex6
        refine m_istore_n (lv' := [.ref 1, .int l1, .int x6, .int l3]) dX6_readTimes_42 (Nat.le_of_ble_eq_true rfl) rfl rfl ?_
        refine m_iload_n dX6_readTimes_43 rfl ?_
        refine m_iload_n dX6_readTimes_44 rfl ?_
        refine m_iconst (v := 1) dX6_readTimes_45 (by decide) ?_
        refine m_isub dX6_readTimes_46 ?_
        refine m_icmp_ne 67 dX6_readTimes_47 (by decide) (fun c7 => ?_) (fun c7 => ?_)
        · replace q := q.1 c7
          refine m_aload_n dX6_readTimes_67 rfl ?_
          refine gf_X6_12 rfl dX6_readTimes_68 ?_
          refine gf_X6_153 rfl dX6_readTimes_71 ?_
          refine m_iconst (v := 4) dX6_readTimes_74 (by decide) ?_
          refine m_aload_n dX6_readTimes_75 rfl ?_
          refine gf_X6_12 rfl dX6_readTimes_76 ?_
          refine gf_X6_135 rfl dX6_readTimes_79 ?_
          refine m_imul dX6_readTimes_82 ?_
          refine m_iload_n dX6_readTimes_83 rfl ?_
          refine m_iadd dX6_readTimes_84 ?_
          refine m_aload_n dX6_readTimes_85 rfl ?_
          refine gf_X6_122 rfl dX6_readTimes_86 ?_
          obtain ⟨b8, q⟩ := q
          refine m_iastore dX6_readTimes_89 rfl (by decide) b8 ?_
          refine m_aload_n dX6_readTimes_90 rfl ?_
          refine cl_X6_51 rfl (by decide) dX6_readTimes_91 (Nat.le_of_ble_eq_true rfl) (MCv_go q (fun h9 q => ?_))
          refine m_iinc (v := (l3 + 1)) (lv' := [.ref 1, .int l1, .int x6, .int (l3 + 1)]) dX6_readTimes_94 (Nat.le_of_ble_eq_true rfl) rfl (congrArg (fun z => l3 + z) (by decide : Int32.ofInt 1 = 1)) rfl rfl ?_
          refine m_goto 4 dX6_readTimes_97 (by decide) ?_
          exact q
        · replace q := q.2 c7
          refine m_iload_n dX6_readTimes_50 rfl ?_
          refine m_aload_n dX6_readTimes_51 rfl ?_
          refine gf_X6_12 rfl dX6_readTimes_52 ?_
          refine gf_X6_64 rfl dX6_readTimes_55 ?_
          refine m_icmp_eq 67 dX6_readTimes_58 (by decide) (fun c10 => ?_) (fun c10 => ?_)
          · replace q := q.1 c10
            refine m_aload_n dX6_readTimes_67 rfl ?_
            refine gf_X6_12 rfl dX6_readTimes_68 ?_
            refine gf_X6_153 rfl dX6_readTimes_71 ?_
            refine m_iconst (v := 4) dX6_readTimes_74 (by decide) ?_
            refine m_aload_n dX6_readTimes_75 rfl ?_
            refine gf_X6_12 rfl dX6_readTimes_76 ?_
            refine gf_X6_135 rfl dX6_readTimes_79 ?_
            refine m_imul dX6_readTimes_82 ?_
            refine m_iload_n dX6_readTimes_83 rfl ?_
            refine m_iadd dX6_readTimes_84 ?_
            refine m_aload_n dX6_readTimes_85 rfl ?_
            refine gf_X6_122 rfl dX6_readTimes_86 ?_
            obtain ⟨b11, q⟩ := q
            refine m_iastore dX6_readTimes_89 rfl (by decide) b11 ?_
            refine m_aload_n dX6_readTimes_90 rfl ?_
            refine cl_X6_51 rfl (by decide) dX6_readTimes_91 (Nat.le_of_ble_eq_true rfl) (MCv_go q (fun h12 q => ?_))
            refine m_iinc (v := (l3 + 1)) (lv' := [.ref 1, .int l1, .int x6, .int (l3 + 1)]) dX6_readTimes_94 (Nat.le_of_ble_eq_true rfl) rfl (congrArg (fun z => l3 + z) (by decide : Int32.ofInt 1 = 1)) rfl rfl ?_
            refine m_goto 4 dX6_readTimes_97 (by decide) ?_
            exact q
          · replace q := q.2 c10
            refine m_aload_n dX6_readTimes_61 rfl ?_
            refine m_iconst (v := 4) dX6_readTimes_62 (by decide) ?_
            refine cl_X6_70 rfl (by decide) dX6_readTimes_63 (Nat.le_of_ble_eq_true rfl) (MCi_go q (fun r14 h13 q => ?_))
            exact m_zret dX6_readTimes_66 rfl q.1 q.2
      · replace q := q.2 c5
        refine m_iconst (v := 0) dX6_readTimes_34 (by decide) ?_
        exact m_zret dX6_readTimes_35 rfl (by decide) q
    · replace q := q.2 c2
      refine m_aload_n dX6_readTimes_13 rfl ?_
      refine m_bipush (v := 44) dX6_readTimes_14 (by decide) ?_
      refine cl_X6_74 rfl (by decide) dX6_readTimes_16 (Nat.le_of_ble_eq_true rfl) (MCi_go q (fun r16 h15 q => ?_))
      refine m_if_ne 24 dX6_readTimes_19 (by decide) (fun c17 => ?_) (fun c17 => ?_)
      · replace q := q.1 c17
        refine m_aload_n dX6_readTimes_24 rfl ?_
        refine m_iconst (v := 0) dX6_readTimes_25 (by decide) ?_
        refine m_bipush (v := 60) dX6_readTimes_26 (by decide) ?_
        refine cl_X6_118 rfl (by decide) dX6_readTimes_28 (Nat.le_of_ble_eq_true rfl) (MCi_go q (fun r19 h18 q => ?_))
        refine m_if_ne 36 dX6_readTimes_31 (by decide) (fun c20 => ?_) (fun c20 => ?_)
        · replace q := q.1 c20
          refine m_iload_n dX6_readTimes_36 rfl ?_
          refine m_aload_n dX6_readTimes_37 rfl ?_
          refine gf_X6_122 rfl dX6_readTimes_38 ?_
          refine m_iadd dX6_readTimes_41 ?_
          obtain ⟨x21, ex21⟩ : ∃ z, z = (l2 + (mI h18 1 11)) := ⟨_, rfl⟩
          rw [← ex21]
          replace q := q x21 ex21
          refine m_istore_n (lv' := [.ref 1, .int l1, .int x21, .int l3]) dX6_readTimes_42 (Nat.le_of_ble_eq_true rfl) rfl rfl ?_
          refine m_iload_n dX6_readTimes_43 rfl ?_
          refine m_iload_n dX6_readTimes_44 rfl ?_
          refine m_iconst (v := 1) dX6_readTimes_45 (by decide) ?_
          refine m_isub dX6_readTimes_46 ?_
          refine m_icmp_ne 67 dX6_readTimes_47 (by decide) (fun c22 => ?_) (fun c22 => ?_)
          · replace q := q.1 c22
            refine m_aload_n dX6_readTimes_67 rfl ?_
            refine gf_X6_12 rfl dX6_readTimes_68 ?_
            refine gf_X6_153 rfl dX6_readTimes_71 ?_
            refine m_iconst (v := 4) dX6_readTimes_74 (by decide) ?_
            refine m_aload_n dX6_readTimes_75 rfl ?_
            refine gf_X6_12 rfl dX6_readTimes_76 ?_
            refine gf_X6_135 rfl dX6_readTimes_79 ?_
            refine m_imul dX6_readTimes_82 ?_
            refine m_iload_n dX6_readTimes_83 rfl ?_
            refine m_iadd dX6_readTimes_84 ?_
            refine m_aload_n dX6_readTimes_85 rfl ?_
            refine gf_X6_122 rfl dX6_readTimes_86 ?_
            obtain ⟨b23, q⟩ := q
            refine m_iastore dX6_readTimes_89 rfl (by decide) b23 ?_
            refine m_aload_n dX6_readTimes_90 rfl ?_
            refine cl_X6_51 rfl (by decide) dX6_readTimes_91 (Nat.le_of_ble_eq_true rfl) (MCv_go q (fun h24 q => ?_))
            refine m_iinc (v := (l3 + 1)) (lv' := [.ref 1, .int l1, .int x21, .int (l3 + 1)]) dX6_readTimes_94 (Nat.le_of_ble_eq_true rfl) rfl (congrArg (fun z => l3 + z) (by decide : Int32.ofInt 1 = 1)) rfl rfl ?_
            refine m_goto 4 dX6_readTimes_97 (by decide) ?_
            exact q
          · replace q := q.2 c22
            refine m_iload_n dX6_readTimes_50 rfl ?_
            refine m_aload_n dX6_readTimes_51 rfl ?_
            refine gf_X6_12 rfl dX6_readTimes_52 ?_
            refine gf_X6_64 rfl dX6_readTimes_55 ?_
            refine m_icmp_eq 67 dX6_readTimes_58 (by decide) (fun c25 => ?_) (fun c25 => ?_)
            · replace q := q.1 c25
              refine m_aload_n dX6_readTimes_67 rfl ?_
              refine gf_X6_12 rfl dX6_readTimes_68 ?_
              refine gf_X6_153 rfl dX6_readTimes_71 ?_
              refine m_iconst (v := 4) dX6_readTimes_74 (by decide) ?_
              refine m_aload_n dX6_readTimes_75 rfl ?_
              refine gf_X6_12 rfl dX6_readTimes_76 ?_
              refine gf_X6_135 rfl dX6_readTimes_79 ?_
              refine m_imul dX6_readTimes_82 ?_
              refine m_iload_n dX6_readTimes_83 rfl ?_
              refine m_iadd dX6_readTimes_84 ?_
              refine m_aload_n dX6_readTimes_85 rfl ?_
              refine gf_X6_122 rfl dX6_readTimes_86 ?_
              obtain ⟨b26, q⟩ := q
              refine m_iastore dX6_readTimes_89 rfl (by decide) b26 ?_
              refine m_aload_n dX6_readTimes_90 rfl ?_
              refine cl_X6_51 rfl (by decide) dX6_readTimes_91 (Nat.le_of_ble_eq_true rfl) (MCv_go q (fun h27 q => ?_))
              refine m_iinc (v := (l3 + 1)) (lv' := [.ref 1, .int l1, .int x21, .int (l3 + 1)]) dX6_readTimes_94 (Nat.le_of_ble_eq_true rfl) rfl (congrArg (fun z => l3 + z) (by decide : Int32.ofInt 1 = 1)) rfl rfl ?_
              refine m_goto 4 dX6_readTimes_97 (by decide) ?_
              exact q
            · replace q := q.2 c25
              refine m_aload_n dX6_readTimes_61 rfl ?_
              refine m_iconst (v := 4) dX6_readTimes_62 (by decide) ?_
              refine cl_X6_70 rfl (by decide) dX6_readTimes_63 (Nat.le_of_ble_eq_true rfl) (MCi_go q (fun r29 h28 q => ?_))
              exact m_zret dX6_readTimes_66 rfl q.1 q.2
        · replace q := q.2 c20
          refine m_iconst (v := 0) dX6_readTimes_34 (by decide) ?_
          exact m_zret dX6_readTimes_35 rfl (by decide) q
      · replace q := q.2 c17
        refine m_iconst (v := 0) dX6_readTimes_22 (by decide) ?_
        exact m_zret dX6_readTimes_23 rfl (by decide) q
set_option maxRecDepth 100000 in
theorem e_X6_readParity {g : gT} {h : mh_T} {P : Int32 → mh_T → Prop}  (q : ((mI h 2 4) < 8 → MCv g yX6_next uX6_next [.ref 1] h (fun h2 => ME g uX6_readParity 26 [.ref 1, .int 0, .int 0, .retAddr 0] [] h2 (qI P))) ∧ (¬ (mI h 2 4) < 8 → MCi g yX6_refuse uX6_refuse [.ref 1, .int 5] h (fun r4 h3 => (r4 = 0 ∨ r4 = 1) ∧ P r4 h3))) : MCi g yX6_readParity uX6_readParity [.ref 1] h P := by
  refine m_enter (by decide) rfl (Nat.le_of_ble_eq_true rfl) (lv := [.ref 1, .retAddr 0, .retAddr 0, .retAddr 0]) rfl ?_
  refine m_aload_n dX6_readParity_0 rfl ?_
  refine gf_X6_12 rfl dX6_readParity_1 ?_
  refine gf_X6_156 rfl dX6_readParity_4 ?_
  refine m_bipush (v := 8) dX6_readParity_7 (by decide) ?_
  refine m_icmp_lt 18 dX6_readParity_9 (by decide) (fun c1 => ?_) (fun c1 => ?_)
  · replace q := q.1 c1
    refine m_aload_n dX6_readParity_18 rfl ?_
    refine cl_X6_51 rfl (by decide) dX6_readParity_19 (Nat.le_of_ble_eq_true rfl) (MCv_go q (fun h2 q => ?_))
    refine m_iconst (v := 0) dX6_readParity_22 (by decide) ?_
    refine m_istore_n (lv' := [.ref 1, .int 0, .retAddr 0, .retAddr 0]) dX6_readParity_23 (Nat.le_of_ble_eq_true rfl) rfl rfl ?_
    refine m_iconst (v := 0) dX6_readParity_24 (by decide) ?_
    refine m_istore_n (lv' := [.ref 1, .int 0, .int 0, .retAddr 0]) dX6_readParity_25 (Nat.le_of_ble_eq_true rfl) rfl rfl ?_
    exact q
  · replace q := q.2 c1
    refine m_aload_n dX6_readParity_12 rfl ?_
    refine m_iconst (v := 5) dX6_readParity_13 (by decide) ?_
    refine cl_X6_70 rfl (by decide) dX6_readParity_14 (Nat.le_of_ble_eq_true rfl) (MCi_go q (fun r4 h3 q => ?_))
    exact m_zret dX6_readParity_17 rfl q.1 q.2
set_option maxRecDepth 100000 in
theorem r_X6_readParity_26 {g : gT} {h : mh_T} {P : Int32 → mh_T → Prop} (l1 : Int32) (l2 : Int32) (q : (3 ≤ l2 → MCi g yX6_passWord uX6_passWord [.ref 1, .ref (1000 + 9)] h (fun r3 h2 => (¬ r3 = 0 → MCi g yX6_says uX6_says [.ref 1, .ref (1000 + 10)] h2 (fun r6 h5 => (¬ r6 = 0 → (vp_in (mI h5 2 4) 8) ∧ (MCi g yX6_says uX6_says [.ref 1, .ref (1000 + 11)] (wI h5 18 (mI h5 2 4).toNatClampNeg l1) (fun r10 h9 => (r10 = 0 → (vp_in (mI (wI h5 18 (mI h5 2 4).toNatClampNeg l1) 2 4) 8) ∧ (MCv g yX6_next uX6_next [.ref 1] (wI (wI h9 19 (mI (wI h5 18 (mI h5 2 4).toNatClampNeg l1) 2 4).toNatClampNeg 0) 2 4 ((mI (wI h9 19 (mI (wI h5 18 (mI h5 2 4).toNatClampNeg l1) 2 4).toNatClampNeg 0) 2 4) + 1)) (fun h13 => P 1 h13))) ∧ (¬ r10 = 0 → (vp_in (mI (wI h5 18 (mI h5 2 4).toNatClampNeg l1) 2 4) 8) ∧ (MCv g yX6_next uX6_next [.ref 1] (wI (wI h9 19 (mI (wI h5 18 (mI h5 2 4).toNatClampNeg l1) 2 4).toNatClampNeg 1) 2 4 ((mI (wI h9 19 (mI (wI h5 18 (mI h5 2 4).toNatClampNeg l1) 2 4).toNatClampNeg 1) 2 4) + 1)) (fun h15 => P 1 h15)))))) ∧ (r6 = 0 → MCi g yX6_says uX6_says [.ref 1, .ref (1000 + 11)] h5 (fun r17 h16 => (¬ r17 = 0 → (vp_in (mI h16 2 4) 8) ∧ (MCi g yX6_says uX6_says [.ref 1, .ref (1000 + 11)] (wI h16 18 (mI h16 2 4).toNatClampNeg l1) (fun r21 h20 => (r21 = 0 → (vp_in (mI (wI h16 18 (mI h16 2 4).toNatClampNeg l1) 2 4) 8) ∧ (MCv g yX6_next uX6_next [.ref 1] (wI (wI h20 19 (mI (wI h16 18 (mI h16 2 4).toNatClampNeg l1) 2 4).toNatClampNeg 0) 2 4 ((mI (wI h20 19 (mI (wI h16 18 (mI h16 2 4).toNatClampNeg l1) 2 4).toNatClampNeg 0) 2 4) + 1)) (fun h24 => P 1 h24))) ∧ (¬ r21 = 0 → (vp_in (mI (wI h16 18 (mI h16 2 4).toNatClampNeg l1) 2 4) 8) ∧ (MCv g yX6_next uX6_next [.ref 1] (wI (wI h20 19 (mI (wI h16 18 (mI h16 2 4).toNatClampNeg l1) 2 4).toNatClampNeg 1) 2 4 ((mI (wI h20 19 (mI (wI h16 18 (mI h16 2 4).toNatClampNeg l1) 2 4).toNatClampNeg 1) 2 4) + 1)) (fun h26 => P 1 h26)))))) ∧ (r17 = 0 → MCi g yX6_refuse uX6_refuse [.ref 1, .int 1] h16 (fun r28 h27 => (r28 = 0 ∨ r28 = 1) ∧ P r28 h27)))))) ∧ (r3 = 0 → P 0 h2))) ∧ (¬ 3 ≤ l2 → (l2 ≤ 0 → MCi g yX6_nameAmong uX6_nameAmong [.ref 1, .ref 14, .int (mI h 2 2)] h (fun r31 h30 => (0 ≤ r31 → (((l1 >>> (r31 &&& 31)) &&& 1) = 0 → ∀ x34 : Int32, x34 = (l1 ||| (1 <<< (r31 &&& 31))) → MCv g yX6_next uX6_next [.ref 1] h30 (fun h35 => ME g uX6_readParity 26 [.ref 1, .int x34, .int (l2 + 1), .retAddr 0] [] h35 (qI P))) ∧ (¬ ((l1 >>> (r31 &&& 31)) &&& 1) = 0 → MCi g yX6_refuse uX6_refuse [.ref 1, .int 3] h30 (fun r37 h36 => (r37 = 0 ∨ r37 = 1) ∧ P r37 h36))) ∧ (¬ 0 ≤ r31 → P 0 h30))) ∧ (¬ l2 ≤ 0 → MCi g yX6_pass uX6_pass [.ref 1, .int 44] h (fun r39 h38 => (¬ r39 = 0 → MCi g yX6_nameAmong uX6_nameAmong [.ref 1, .ref 14, .int (mI h38 2 2)] h38 (fun r42 h41 => (0 ≤ r42 → (((l1 >>> (r42 &&& 31)) &&& 1) = 0 → ∀ x45 : Int32, x45 = (l1 ||| (1 <<< (r42 &&& 31))) → MCv g yX6_next uX6_next [.ref 1] h41 (fun h46 => ME g uX6_readParity 26 [.ref 1, .int x45, .int (l2 + 1), .retAddr 0] [] h46 (qI P))) ∧ (¬ ((l1 >>> (r42 &&& 31)) &&& 1) = 0 → MCi g yX6_refuse uX6_refuse [.ref 1, .int 3] h41 (fun r48 h47 => (r48 = 0 ∨ r48 = 1) ∧ P r48 h47))) ∧ (¬ 0 ≤ r42 → P 0 h41))) ∧ (r39 = 0 → P 0 h38))))) : ME g uX6_readParity 26 [.ref 1, .int l1, .int l2, .retAddr 0] [] h (qI P) := by
  refine m_iload_n dX6_readParity_26 rfl ?_
  refine m_iconst (v := 3) dX6_readParity_27 (by decide) ?_
  refine m_icmp_ge 98 dX6_readParity_28 (by decide) (fun c1 => ?_) (fun c1 => ?_)
  · replace q := q.1 c1
    refine m_aload_n dX6_readParity_98 rfl ?_
    refine m_ldcS (i := 9) (tx := "is") dX6_readParity_99 (List.mem_of_getElem? (i := 9) rfl) (by decide) ?_
    refine cl_X6_115 rfl (by decide) dX6_readParity_101 (Nat.le_of_ble_eq_true rfl) (MCi_go q (fun r3 h2 q => ?_))
    refine m_if_ne 109 dX6_readParity_104 (by decide) (fun c4 => ?_) (fun c4 => ?_)
    · replace q := q.1 c4
      refine m_aload_n dX6_readParity_109 rfl ?_
      refine m_ldcS (i := 10) (tx := "even") dX6_readParity_110 (List.mem_of_getElem? (i := 10) rfl) (by decide) ?_
      refine cl_X6_78 rfl (by decide) dX6_readParity_112 (Nat.le_of_ble_eq_true rfl) (MCi_go q (fun r6 h5 q => ?_))
      refine m_if_ne 133 dX6_readParity_115 (by decide) (fun c7 => ?_) (fun c7 => ?_)
      · replace q := q.1 c7
        refine m_aload_n dX6_readParity_133 rfl ?_
        refine gf_X6_12 rfl dX6_readParity_134 ?_
        refine gf_X6_165 rfl dX6_readParity_137 ?_
        refine m_aload_n dX6_readParity_140 rfl ?_
        refine gf_X6_12 rfl dX6_readParity_141 ?_
        refine gf_X6_156 rfl dX6_readParity_144 ?_
        refine m_iload_n dX6_readParity_147 rfl ?_
        obtain ⟨b8, q⟩ := q
        refine m_iastore dX6_readParity_148 rfl (by decide) b8 ?_
        refine m_aload_n dX6_readParity_149 rfl ?_
        refine gf_X6_12 rfl dX6_readParity_150 ?_
        refine gf_X6_168 rfl dX6_readParity_153 ?_
        refine m_aload_n dX6_readParity_156 rfl ?_
        refine gf_X6_12 rfl dX6_readParity_157 ?_
        refine gf_X6_156 rfl dX6_readParity_160 ?_
        refine m_aload_n dX6_readParity_163 rfl ?_
        refine m_ldcS (i := 11) (tx := "odd") dX6_readParity_164 (List.mem_of_getElem? (i := 11) rfl) (by decide) ?_
        refine cl_X6_78 rfl (by decide) dX6_readParity_166 (Nat.le_of_ble_eq_true rfl) (MCi_go q (fun r10 h9 q => ?_))
        refine m_if_eq 176 dX6_readParity_169 (by decide) (fun c11 => ?_) (fun c11 => ?_)
        · replace q := q.1 c11
          refine m_iconst (v := 0) dX6_readParity_176 (by decide) ?_
          obtain ⟨b12, q⟩ := q
          refine m_iastore dX6_readParity_177 rfl (by decide) b12 ?_
          refine m_aload_n dX6_readParity_178 rfl ?_
          refine gf_X6_12 rfl dX6_readParity_179 ?_
          refine m_dup dX6_readParity_182 rfl ?_
          refine gf_X6_156 rfl dX6_readParity_183 ?_
          refine m_iconst (v := 1) dX6_readParity_186 (by decide) ?_
          refine m_iadd dX6_readParity_187 ?_
          refine pf_X6_156 rfl dX6_readParity_188 ?_
          refine m_aload_n dX6_readParity_191 rfl ?_
          refine cl_X6_51 rfl (by decide) dX6_readParity_192 (Nat.le_of_ble_eq_true rfl) (MCv_go q (fun h13 q => ?_))
          refine m_iconst (v := 1) dX6_readParity_195 (by decide) ?_
          exact m_zret dX6_readParity_196 rfl (by decide) q
        · replace q := q.2 c11
          refine m_iconst (v := 1) dX6_readParity_172 (by decide) ?_
          refine m_goto 177 dX6_readParity_173 (by decide) ?_
          obtain ⟨b14, q⟩ := q
          refine m_iastore dX6_readParity_177 rfl (by decide) b14 ?_
          refine m_aload_n dX6_readParity_178 rfl ?_
          refine gf_X6_12 rfl dX6_readParity_179 ?_
          refine m_dup dX6_readParity_182 rfl ?_
          refine gf_X6_156 rfl dX6_readParity_183 ?_
          refine m_iconst (v := 1) dX6_readParity_186 (by decide) ?_
          refine m_iadd dX6_readParity_187 ?_
          refine pf_X6_156 rfl dX6_readParity_188 ?_
          refine m_aload_n dX6_readParity_191 rfl ?_
          refine cl_X6_51 rfl (by decide) dX6_readParity_192 (Nat.le_of_ble_eq_true rfl) (MCv_go q (fun h15 q => ?_))
          refine m_iconst (v := 1) dX6_readParity_195 (by decide) ?_
          exact m_zret dX6_readParity_196 rfl (by decide) q
      · replace q := q.2 c7
        refine m_aload_n dX6_readParity_118 rfl ?_
        refine m_ldcS (i := 11) (tx := "odd") dX6_readParity_119 (List.mem_of_getElem? (i := 11) rfl) (by decide) ?_
        refine cl_X6_78 rfl (by decide) dX6_readParity_121 (Nat.le_of_ble_eq_true rfl) (MCi_go q (fun r17 h16 q => ?_))
        refine m_if_ne 133 dX6_readParity_124 (by decide) (fun c18 => ?_) (fun c18 => ?_)
        · replace q := q.1 c18
          refine m_aload_n dX6_readParity_133 rfl ?_
          refine gf_X6_12 rfl dX6_readParity_134 ?_
          refine gf_X6_165 rfl dX6_readParity_137 ?_
          refine m_aload_n dX6_readParity_140 rfl ?_
          refine gf_X6_12 rfl dX6_readParity_141 ?_
          refine gf_X6_156 rfl dX6_readParity_144 ?_
          refine m_iload_n dX6_readParity_147 rfl ?_
          obtain ⟨b19, q⟩ := q
          refine m_iastore dX6_readParity_148 rfl (by decide) b19 ?_
          refine m_aload_n dX6_readParity_149 rfl ?_
          refine gf_X6_12 rfl dX6_readParity_150 ?_
          refine gf_X6_168 rfl dX6_readParity_153 ?_
          refine m_aload_n dX6_readParity_156 rfl ?_
          refine gf_X6_12 rfl dX6_readParity_157 ?_
          refine gf_X6_156 rfl dX6_readParity_160 ?_
          refine m_aload_n dX6_readParity_163 rfl ?_
          refine m_ldcS (i := 11) (tx := "odd") dX6_readParity_164 (List.mem_of_getElem? (i := 11) rfl) (by decide) ?_
          refine cl_X6_78 rfl (by decide) dX6_readParity_166 (Nat.le_of_ble_eq_true rfl) (MCi_go q (fun r21 h20 q => ?_))
          refine m_if_eq 176 dX6_readParity_169 (by decide) (fun c22 => ?_) (fun c22 => ?_)
          · replace q := q.1 c22
            refine m_iconst (v := 0) dX6_readParity_176 (by decide) ?_
            obtain ⟨b23, q⟩ := q
            refine m_iastore dX6_readParity_177 rfl (by decide) b23 ?_
            refine m_aload_n dX6_readParity_178 rfl ?_
            refine gf_X6_12 rfl dX6_readParity_179 ?_
            refine m_dup dX6_readParity_182 rfl ?_
            refine gf_X6_156 rfl dX6_readParity_183 ?_
            refine m_iconst (v := 1) dX6_readParity_186 (by decide) ?_
            refine m_iadd dX6_readParity_187 ?_
            refine pf_X6_156 rfl dX6_readParity_188 ?_
            refine m_aload_n dX6_readParity_191 rfl ?_
            refine cl_X6_51 rfl (by decide) dX6_readParity_192 (Nat.le_of_ble_eq_true rfl) (MCv_go q (fun h24 q => ?_))
            refine m_iconst (v := 1) dX6_readParity_195 (by decide) ?_
            exact m_zret dX6_readParity_196 rfl (by decide) q
          · replace q := q.2 c22
            refine m_iconst (v := 1) dX6_readParity_172 (by decide) ?_
            refine m_goto 177 dX6_readParity_173 (by decide) ?_
            obtain ⟨b25, q⟩ := q
            refine m_iastore dX6_readParity_177 rfl (by decide) b25 ?_
            refine m_aload_n dX6_readParity_178 rfl ?_
            refine gf_X6_12 rfl dX6_readParity_179 ?_
            refine m_dup dX6_readParity_182 rfl ?_
            refine gf_X6_156 rfl dX6_readParity_183 ?_
            refine m_iconst (v := 1) dX6_readParity_186 (by decide) ?_
            refine m_iadd dX6_readParity_187 ?_
            refine pf_X6_156 rfl dX6_readParity_188 ?_
            refine m_aload_n dX6_readParity_191 rfl ?_
            refine cl_X6_51 rfl (by decide) dX6_readParity_192 (Nat.le_of_ble_eq_true rfl) (MCv_go q (fun h26 q => ?_))
            refine m_iconst (v := 1) dX6_readParity_195 (by decide) ?_
            exact m_zret dX6_readParity_196 rfl (by decide) q
        · replace q := q.2 c18
          refine m_aload_n dX6_readParity_127 rfl ?_
          refine m_iconst (v := 1) dX6_readParity_128 (by decide) ?_
          refine cl_X6_70 rfl (by decide) dX6_readParity_129 (Nat.le_of_ble_eq_true rfl) (MCi_go q (fun r28 h27 q => ?_))
          exact m_zret dX6_readParity_132 rfl q.1 q.2
    · replace q := q.2 c4
      refine m_iconst (v := 0) dX6_readParity_107 (by decide) ?_
      exact m_zret dX6_readParity_108 rfl (by decide) q
  · replace q := q.2 c1
    refine m_iload_n dX6_readParity_31 rfl ?_
    refine m_if_le 46 dX6_readParity_32 (by decide) (fun c29 => ?_) (fun c29 => ?_)
    · replace q := q.1 c29
      refine m_aload_n dX6_readParity_46 rfl ?_
      refine m_aload_n dX6_readParity_47 rfl ?_
      refine gf_X6_22 rfl dX6_readParity_48 ?_
      refine m_aload_n dX6_readParity_51 rfl ?_
      refine gf_X6_12 rfl dX6_readParity_52 ?_
      refine gf_X6_128 rfl dX6_readParity_55 ?_
      refine cl_X6_138 rfl (by decide) dX6_readParity_58 (Nat.le_of_ble_eq_true rfl) (MCi_go q (fun r31 h30 q => ?_))
      refine m_istore_n (lv' := [.ref 1, .int l1, .int l2, .int r31]) dX6_readParity_61 (Nat.le_of_ble_eq_true rfl) rfl rfl ?_
      refine m_iload_n dX6_readParity_62 rfl ?_
      refine m_if_ge 68 dX6_readParity_63 (by decide) (fun c32 => ?_) (fun c32 => ?_)
      · replace q := q.1 c32
        refine m_iload_n dX6_readParity_68 rfl ?_
        refine m_iload_n dX6_readParity_69 rfl ?_
        refine m_ishr dX6_readParity_70 ?_
        refine m_iconst (v := 1) dX6_readParity_71 (by decide) ?_
        refine m_iand dX6_readParity_72 ?_
        refine m_if_eq 82 dX6_readParity_73 (by decide) (fun c33 => ?_) (fun c33 => ?_)
        · replace q := q.1 c33
          refine m_iload_n dX6_readParity_82 rfl ?_
          refine m_iconst (v := 1) dX6_readParity_83 (by decide) ?_
          refine m_iload_n dX6_readParity_84 rfl ?_
          refine m_ishl dX6_readParity_85 ?_
          refine m_ior dX6_readParity_86 ?_
          obtain ⟨x34, ex34⟩ : ∃ z, z = (l1 ||| (1 <<< (r31 &&& 31))) := ⟨_, rfl⟩
          rw [← ex34]
          replace q := q x34 ex34
          refine m_istore_n (lv' := [.ref 1, .int x34, .int l2, .int r31]) dX6_readParity_87 (Nat.le_of_ble_eq_true rfl) rfl rfl ?_
          refine m_aload_n dX6_readParity_88 rfl ?_
          refine cl_X6_51 rfl (by decide) dX6_readParity_89 (Nat.le_of_ble_eq_true rfl) (MCv_go q (fun h35 q => ?_))
          refine m_iinc (v := (l2 + 1)) (lv' := [.ref 1, .int x34, .int (l2 + 1), .int r31]) dX6_readParity_92 (Nat.le_of_ble_eq_true rfl) rfl (congrArg (fun z => l2 + z) (by decide : Int32.ofInt 1 = 1)) rfl rfl ?_
          refine m_goto 26 dX6_readParity_95 (by decide) ?_
          refine m_dropK (lv' := [.ref 1, .int x34, .int (l2 + 1), .retAddr 0]) [3] rfl ?_
          exact q
        · replace q := q.2 c33
          refine m_aload_n dX6_readParity_76 rfl ?_
          refine m_iconst (v := 3) dX6_readParity_77 (by decide) ?_
          refine cl_X6_70 rfl (by decide) dX6_readParity_78 (Nat.le_of_ble_eq_true rfl) (MCi_go q (fun r37 h36 q => ?_))
          exact m_zret dX6_readParity_81 rfl q.1 q.2
      · replace q := q.2 c32
        refine m_iconst (v := 0) dX6_readParity_66 (by decide) ?_
        exact m_zret dX6_readParity_67 rfl (by decide) q
    · replace q := q.2 c29
      refine m_aload_n dX6_readParity_35 rfl ?_
      refine m_bipush (v := 44) dX6_readParity_36 (by decide) ?_
      refine cl_X6_74 rfl (by decide) dX6_readParity_38 (Nat.le_of_ble_eq_true rfl) (MCi_go q (fun r39 h38 q => ?_))
      refine m_if_ne 46 dX6_readParity_41 (by decide) (fun c40 => ?_) (fun c40 => ?_)
      · replace q := q.1 c40
        refine m_aload_n dX6_readParity_46 rfl ?_
        refine m_aload_n dX6_readParity_47 rfl ?_
        refine gf_X6_22 rfl dX6_readParity_48 ?_
        refine m_aload_n dX6_readParity_51 rfl ?_
        refine gf_X6_12 rfl dX6_readParity_52 ?_
        refine gf_X6_128 rfl dX6_readParity_55 ?_
        refine cl_X6_138 rfl (by decide) dX6_readParity_58 (Nat.le_of_ble_eq_true rfl) (MCi_go q (fun r42 h41 q => ?_))
        refine m_istore_n (lv' := [.ref 1, .int l1, .int l2, .int r42]) dX6_readParity_61 (Nat.le_of_ble_eq_true rfl) rfl rfl ?_
        refine m_iload_n dX6_readParity_62 rfl ?_
        refine m_if_ge 68 dX6_readParity_63 (by decide) (fun c43 => ?_) (fun c43 => ?_)
        · replace q := q.1 c43
          refine m_iload_n dX6_readParity_68 rfl ?_
          refine m_iload_n dX6_readParity_69 rfl ?_
          refine m_ishr dX6_readParity_70 ?_
          refine m_iconst (v := 1) dX6_readParity_71 (by decide) ?_
          refine m_iand dX6_readParity_72 ?_
          refine m_if_eq 82 dX6_readParity_73 (by decide) (fun c44 => ?_) (fun c44 => ?_)
          · replace q := q.1 c44
            refine m_iload_n dX6_readParity_82 rfl ?_
            refine m_iconst (v := 1) dX6_readParity_83 (by decide) ?_
            refine m_iload_n dX6_readParity_84 rfl ?_
            refine m_ishl dX6_readParity_85 ?_
            refine m_ior dX6_readParity_86 ?_
            obtain ⟨x45, ex45⟩ : ∃ z, z = (l1 ||| (1 <<< (r42 &&& 31))) := ⟨_, rfl⟩
            rw [← ex45]
            replace q := q x45 ex45
            refine m_istore_n (lv' := [.ref 1, .int x45, .int l2, .int r42]) dX6_readParity_87 (Nat.le_of_ble_eq_true rfl) rfl rfl ?_
            refine m_aload_n dX6_readParity_88 rfl ?_
            refine cl_X6_51 rfl (by decide) dX6_readParity_89 (Nat.le_of_ble_eq_true rfl) (MCv_go q (fun h46 q => ?_))
            refine m_iinc (v := (l2 + 1)) (lv' := [.ref 1, .int x45, .int (l2 + 1), .int r42]) dX6_readParity_92 (Nat.le_of_ble_eq_true rfl) rfl (congrArg (fun z => l2 + z) (by decide : Int32.ofInt 1 = 1)) rfl rfl ?_
            refine m_goto 26 dX6_readParity_95 (by decide) ?_
            refine m_dropK (lv' := [.ref 1, .int x45, .int (l2 + 1), .retAddr 0]) [3] rfl ?_
            exact q
          · replace q := q.2 c44
            refine m_aload_n dX6_readParity_76 rfl ?_
            refine m_iconst (v := 3) dX6_readParity_77 (by decide) ?_
            refine cl_X6_70 rfl (by decide) dX6_readParity_78 (Nat.le_of_ble_eq_true rfl) (MCi_go q (fun r48 h47 q => ?_))
            exact m_zret dX6_readParity_81 rfl q.1 q.2
        · replace q := q.2 c43
          refine m_iconst (v := 0) dX6_readParity_66 (by decide) ?_
          exact m_zret dX6_readParity_67 rfl (by decide) q
      · replace q := q.2 c40
        refine m_iconst (v := 0) dX6_readParity_44 (by decide) ?_
        exact m_zret dX6_readParity_45 rfl (by decide) q
set_option maxRecDepth 100000 in
theorem e_X6_readRay {g : gT} {h : mh_T} {P : Int32 → mh_T → Prop}  (q : ((mI h 2 5) < 18 → MCv g yX6_next uX6_next [.ref 1] h (fun h2 => ME g uX6_readRay 26 [.ref 1, .int 0, .int 0, .retAddr 0] [] h2 (qI P))) ∧ (¬ (mI h 2 5) < 18 → MCi g yX6_refuse uX6_refuse [.ref 1, .int 5] h (fun r4 h3 => (r4 = 0 ∨ r4 = 1) ∧ P r4 h3))) : MCi g yX6_readRay uX6_readRay [.ref 1] h P := by
  refine m_enter (by decide) rfl (Nat.le_of_ble_eq_true rfl) (lv := [.ref 1, .retAddr 0, .retAddr 0, .retAddr 0]) rfl ?_
  refine m_aload_n dX6_readRay_0 rfl ?_
  refine gf_X6_12 rfl dX6_readRay_1 ?_
  refine gf_X6_171 rfl dX6_readRay_4 ?_
  refine m_bipush (v := 18) dX6_readRay_7 (by decide) ?_
  refine m_icmp_lt 18 dX6_readRay_9 (by decide) (fun c1 => ?_) (fun c1 => ?_)
  · replace q := q.1 c1
    refine m_aload_n dX6_readRay_18 rfl ?_
    refine cl_X6_51 rfl (by decide) dX6_readRay_19 (Nat.le_of_ble_eq_true rfl) (MCv_go q (fun h2 q => ?_))
    refine m_iconst (v := 0) dX6_readRay_22 (by decide) ?_
    refine m_istore_n (lv' := [.ref 1, .int 0, .retAddr 0, .retAddr 0]) dX6_readRay_23 (Nat.le_of_ble_eq_true rfl) rfl rfl ?_
    refine m_iconst (v := 0) dX6_readRay_24 (by decide) ?_
    refine m_istore_n (lv' := [.ref 1, .int 0, .int 0, .retAddr 0]) dX6_readRay_25 (Nat.le_of_ble_eq_true rfl) rfl rfl ?_
    exact q
  · replace q := q.2 c1
    refine m_aload_n dX6_readRay_12 rfl ?_
    refine m_iconst (v := 5) dX6_readRay_13 (by decide) ?_
    refine cl_X6_70 rfl (by decide) dX6_readRay_14 (Nat.le_of_ble_eq_true rfl) (MCi_go q (fun r4 h3 q => ?_))
    exact m_zret dX6_readRay_17 rfl q.1 q.2
set_option maxRecDepth 100000 in
theorem r_X6_readRay_26 {g : gT} {h : mh_T} {P : Int32 → mh_T → Prop} (l1 : Int32) (l2 : Int32) (q : (4 ≤ l2 → P 1 (wI h 2 5 ((mI h 2 5) + 1))) ∧ (¬ 4 ≤ l2 → (l2 ≤ 0 → (¬ (mI h 1 8) = 45 → MCi g yX6_needWhole uX6_needWhole [.ref 1, .int 0, .int 3] h (fun r6 h5 => (¬ r6 = 0 → ∀ x8 : Int32, x8 = (l1 ||| (mI h5 1 11)) → (¬ l2 = 3 → (vp_in ((4 * (mI h5 2 5)) + l2) 72) ∧ (MCv g yX6_next uX6_next [.ref 1] (wI h5 20 ((4 * (mI h5 2 5)) + l2).toNatClampNeg (mI h5 1 11)) (fun h12 => ME g uX6_readRay 26 [.ref 1, .int x8, .int (l2 + 1), .retAddr 0] [] h12 (qI P)))) ∧ (l2 = 3 → (¬ x8 = 0 → (vp_in ((4 * (mI h5 2 5)) + l2) 72) ∧ (MCv g yX6_next uX6_next [.ref 1] (wI h5 20 ((4 * (mI h5 2 5)) + l2).toNatClampNeg (mI h5 1 11)) (fun h16 => ME g uX6_readRay 26 [.ref 1, .int x8, .int (l2 + 1), .retAddr 0] [] h16 (qI P)))) ∧ (x8 = 0 → MCi g yX6_refuse uX6_refuse [.ref 1, .int 4] h5 (fun r18 h17 => (r18 = 0 ∨ r18 = 1) ∧ P r18 h17)))) ∧ (r6 = 0 → P 0 h5))) ∧ ((mI h 1 8) = 45 → MCv g yX6_next uX6_next [.ref 1] h (fun h20 => MCi g yX6_needWhole uX6_needWhole [.ref 1, .int 0, .int 3] h20 (fun r22 h21 => (¬ r22 = 0 → ∀ x24 : Int32, x24 = (l1 ||| (mI h21 1 11)) → (¬ l2 = 3 → (vp_in ((4 * (mI h21 2 5)) + l2) 72) ∧ (MCv g yX6_next uX6_next [.ref 1] (wI h21 20 ((4 * (mI h21 2 5)) + l2).toNatClampNeg (-(mI h21 1 11))) (fun h28 => ME g uX6_readRay 26 [.ref 1, .int x24, .int (l2 + 1), .retAddr 0] [] h28 (qI P)))) ∧ (l2 = 3 → (¬ x24 = 0 → (vp_in ((4 * (mI h21 2 5)) + l2) 72) ∧ (MCv g yX6_next uX6_next [.ref 1] (wI h21 20 ((4 * (mI h21 2 5)) + l2).toNatClampNeg (-(mI h21 1 11))) (fun h32 => ME g uX6_readRay 26 [.ref 1, .int x24, .int (l2 + 1), .retAddr 0] [] h32 (qI P)))) ∧ (x24 = 0 → MCi g yX6_refuse uX6_refuse [.ref 1, .int 4] h21 (fun r34 h33 => (r34 = 0 ∨ r34 = 1) ∧ P r34 h33)))) ∧ (r22 = 0 → P 0 h21))))) ∧ (¬ l2 ≤ 0 → MCi g yX6_pass uX6_pass [.ref 1, .int 44] h (fun r36 h35 => (¬ r36 = 0 → (¬ (mI h35 1 8) = 45 → MCi g yX6_needWhole uX6_needWhole [.ref 1, .int 0, .int 3] h35 (fun r41 h40 => (¬ r41 = 0 → ∀ x43 : Int32, x43 = (l1 ||| (mI h40 1 11)) → (¬ l2 = 3 → (vp_in ((4 * (mI h40 2 5)) + l2) 72) ∧ (MCv g yX6_next uX6_next [.ref 1] (wI h40 20 ((4 * (mI h40 2 5)) + l2).toNatClampNeg (mI h40 1 11)) (fun h47 => ME g uX6_readRay 26 [.ref 1, .int x43, .int (l2 + 1), .retAddr 0] [] h47 (qI P)))) ∧ (l2 = 3 → (¬ x43 = 0 → (vp_in ((4 * (mI h40 2 5)) + l2) 72) ∧ (MCv g yX6_next uX6_next [.ref 1] (wI h40 20 ((4 * (mI h40 2 5)) + l2).toNatClampNeg (mI h40 1 11)) (fun h51 => ME g uX6_readRay 26 [.ref 1, .int x43, .int (l2 + 1), .retAddr 0] [] h51 (qI P)))) ∧ (x43 = 0 → MCi g yX6_refuse uX6_refuse [.ref 1, .int 4] h40 (fun r53 h52 => (r53 = 0 ∨ r53 = 1) ∧ P r53 h52)))) ∧ (r41 = 0 → P 0 h40))) ∧ ((mI h35 1 8) = 45 → MCv g yX6_next uX6_next [.ref 1] h35 (fun h55 => MCi g yX6_needWhole uX6_needWhole [.ref 1, .int 0, .int 3] h55 (fun r57 h56 => (¬ r57 = 0 → ∀ x59 : Int32, x59 = (l1 ||| (mI h56 1 11)) → (¬ l2 = 3 → (vp_in ((4 * (mI h56 2 5)) + l2) 72) ∧ (MCv g yX6_next uX6_next [.ref 1] (wI h56 20 ((4 * (mI h56 2 5)) + l2).toNatClampNeg (-(mI h56 1 11))) (fun h63 => ME g uX6_readRay 26 [.ref 1, .int x59, .int (l2 + 1), .retAddr 0] [] h63 (qI P)))) ∧ (l2 = 3 → (¬ x59 = 0 → (vp_in ((4 * (mI h56 2 5)) + l2) 72) ∧ (MCv g yX6_next uX6_next [.ref 1] (wI h56 20 ((4 * (mI h56 2 5)) + l2).toNatClampNeg (-(mI h56 1 11))) (fun h67 => ME g uX6_readRay 26 [.ref 1, .int x59, .int (l2 + 1), .retAddr 0] [] h67 (qI P)))) ∧ (x59 = 0 → MCi g yX6_refuse uX6_refuse [.ref 1, .int 4] h56 (fun r69 h68 => (r69 = 0 ∨ r69 = 1) ∧ P r69 h68)))) ∧ (r57 = 0 → P 0 h56))))) ∧ (r36 = 0 → P 0 h35))))) : ME g uX6_readRay 26 [.ref 1, .int l1, .int l2, .retAddr 0] [] h (qI P) := by
  refine m_iload_n dX6_readRay_26 rfl ?_
  refine m_iconst (v := 4) dX6_readRay_27 (by decide) ?_
  refine m_icmp_ge 147 dX6_readRay_28 (by decide) (fun c1 => ?_) (fun c1 => ?_)
  · replace q := q.1 c1
    refine m_aload_n dX6_readRay_147 rfl ?_
    refine gf_X6_12 rfl dX6_readRay_148 ?_
    refine m_dup dX6_readRay_151 rfl ?_
    refine gf_X6_171 rfl dX6_readRay_152 ?_
    refine m_iconst (v := 1) dX6_readRay_155 (by decide) ?_
    refine m_iadd dX6_readRay_156 ?_
    refine pf_X6_171 rfl dX6_readRay_157 ?_
    refine m_iconst (v := 1) dX6_readRay_160 (by decide) ?_
    exact m_zret dX6_readRay_161 rfl (by decide) q
  · replace q := q.2 c1
    refine m_iload_n dX6_readRay_31 rfl ?_
    refine m_if_le 46 dX6_readRay_32 (by decide) (fun c2 => ?_) (fun c2 => ?_)
    · replace q := q.1 c2
      refine m_aload_n dX6_readRay_46 rfl ?_
      refine gf_X6_61 rfl dX6_readRay_47 ?_
      refine m_bipush (v := 45) dX6_readRay_50 (by decide) ?_
      refine m_icmp_ne 59 dX6_readRay_52 (by decide) (fun c3 => ?_) (fun c3 => ?_)
      · replace q := q.1 c3
        refine m_iconst (v := 0) dX6_readRay_59 (by decide) ?_
        refine m_istore_n (lv' := [.ref 1, .int l1, .int l2, .int 0]) dX6_readRay_60 (Nat.le_of_ble_eq_true rfl) rfl rfl ?_
        refine m_iload_n dX6_readRay_61 rfl ?_
        refine m_if_eq 69 dX6_readRay_62 (by decide) (fun c4 => ?_) (fun c4 => absurd c4 (by decide))
        refine m_aload_n dX6_readRay_69 rfl ?_
        refine m_iconst (v := 0) dX6_readRay_70 (by decide) ?_
        refine m_iconst (v := 3) dX6_readRay_71 (by decide) ?_
        refine cl_X6_118 rfl (by decide) dX6_readRay_72 (Nat.le_of_ble_eq_true rfl) (MCi_go q (fun r6 h5 q => ?_))
        refine m_if_ne 80 dX6_readRay_75 (by decide) (fun c7 => ?_) (fun c7 => ?_)
        · replace q := q.1 c7
          refine m_iload_n dX6_readRay_80 rfl ?_
          refine m_aload_n dX6_readRay_81 rfl ?_
          refine gf_X6_122 rfl dX6_readRay_82 ?_
          refine m_ior dX6_readRay_85 ?_
          obtain ⟨x8, ex8⟩ : ∃ z, z = (l1 ||| (mI h5 1 11)) := ⟨_, rfl⟩
          rw [← ex8]
          replace q := q x8 ex8
          refine m_istore_n (lv' := [.ref 1, .int x8, .int l2, .int 0]) dX6_readRay_86 (Nat.le_of_ble_eq_true rfl) rfl rfl ?_
          refine m_iload_n dX6_readRay_87 rfl ?_
          refine m_iconst (v := 3) dX6_readRay_88 (by decide) ?_
          refine m_icmp_ne 102 dX6_readRay_89 (by decide) (fun c9 => ?_) (fun c9 => ?_)
          · replace q := q.1 c9
            refine m_aload_n dX6_readRay_102 rfl ?_
            refine gf_X6_12 rfl dX6_readRay_103 ?_
            refine gf_X6_174 rfl dX6_readRay_106 ?_
            refine m_iconst (v := 4) dX6_readRay_109 (by decide) ?_
            refine m_aload_n dX6_readRay_110 rfl ?_
            refine gf_X6_12 rfl dX6_readRay_111 ?_
            refine gf_X6_171 rfl dX6_readRay_114 ?_
            refine m_imul dX6_readRay_117 ?_
            refine m_iload_n dX6_readRay_118 rfl ?_
            refine m_iadd dX6_readRay_119 ?_
            refine m_iload_n dX6_readRay_120 rfl ?_
            refine m_if_eq 132 dX6_readRay_121 (by decide) (fun c10 => ?_) (fun c10 => absurd c10 (by decide))
            refine m_aload_n dX6_readRay_132 rfl ?_
            refine gf_X6_122 rfl dX6_readRay_133 ?_
            obtain ⟨b11, q⟩ := q
            refine m_iastore dX6_readRay_136 rfl (by decide) b11 ?_
            refine m_aload_n dX6_readRay_137 rfl ?_
            refine cl_X6_51 rfl (by decide) dX6_readRay_138 (Nat.le_of_ble_eq_true rfl) (MCv_go q (fun h12 q => ?_))
            refine m_iinc (v := (l2 + 1)) (lv' := [.ref 1, .int x8, .int (l2 + 1), .int 0]) dX6_readRay_141 (Nat.le_of_ble_eq_true rfl) rfl (congrArg (fun z => l2 + z) (by decide : Int32.ofInt 1 = 1)) rfl rfl ?_
            refine m_goto 26 dX6_readRay_144 (by decide) ?_
            refine m_dropK (lv' := [.ref 1, .int x8, .int (l2 + 1), .retAddr 0]) [3] rfl ?_
            exact q
          · replace q := q.2 c9
            refine m_iload_n dX6_readRay_92 rfl ?_
            refine m_if_ne 102 dX6_readRay_93 (by decide) (fun c13 => ?_) (fun c13 => ?_)
            · replace q := q.1 c13
              refine m_aload_n dX6_readRay_102 rfl ?_
              refine gf_X6_12 rfl dX6_readRay_103 ?_
              refine gf_X6_174 rfl dX6_readRay_106 ?_
              refine m_iconst (v := 4) dX6_readRay_109 (by decide) ?_
              refine m_aload_n dX6_readRay_110 rfl ?_
              refine gf_X6_12 rfl dX6_readRay_111 ?_
              refine gf_X6_171 rfl dX6_readRay_114 ?_
              refine m_imul dX6_readRay_117 ?_
              refine m_iload_n dX6_readRay_118 rfl ?_
              refine m_iadd dX6_readRay_119 ?_
              refine m_iload_n dX6_readRay_120 rfl ?_
              refine m_if_eq 132 dX6_readRay_121 (by decide) (fun c14 => ?_) (fun c14 => absurd c14 (by decide))
              refine m_aload_n dX6_readRay_132 rfl ?_
              refine gf_X6_122 rfl dX6_readRay_133 ?_
              obtain ⟨b15, q⟩ := q
              refine m_iastore dX6_readRay_136 rfl (by decide) b15 ?_
              refine m_aload_n dX6_readRay_137 rfl ?_
              refine cl_X6_51 rfl (by decide) dX6_readRay_138 (Nat.le_of_ble_eq_true rfl) (MCv_go q (fun h16 q => ?_))
              refine m_iinc (v := (l2 + 1)) (lv' := [.ref 1, .int x8, .int (l2 + 1), .int 0]) dX6_readRay_141 (Nat.le_of_ble_eq_true rfl) rfl (congrArg (fun z => l2 + z) (by decide : Int32.ofInt 1 = 1)) rfl rfl ?_
              refine m_goto 26 dX6_readRay_144 (by decide) ?_
              refine m_dropK (lv' := [.ref 1, .int x8, .int (l2 + 1), .retAddr 0]) [3] rfl ?_
              exact q
            · replace q := q.2 c13
              refine m_aload_n dX6_readRay_96 rfl ?_
              refine m_iconst (v := 4) dX6_readRay_97 (by decide) ?_
              refine cl_X6_70 rfl (by decide) dX6_readRay_98 (Nat.le_of_ble_eq_true rfl) (MCi_go q (fun r18 h17 q => ?_))
              exact m_zret dX6_readRay_101 rfl q.1 q.2
        · replace q := q.2 c7
          refine m_iconst (v := 0) dX6_readRay_78 (by decide) ?_
          exact m_zret dX6_readRay_79 rfl (by decide) q
      · replace q := q.2 c3
        refine m_iconst (v := 1) dX6_readRay_55 (by decide) ?_
        refine m_goto 60 dX6_readRay_56 (by decide) ?_
        refine m_istore_n (lv' := [.ref 1, .int l1, .int l2, .int 1]) dX6_readRay_60 (Nat.le_of_ble_eq_true rfl) rfl rfl ?_
        refine m_iload_n dX6_readRay_61 rfl ?_
        refine m_if_eq 69 dX6_readRay_62 (by decide) (fun c19 => absurd c19 (by decide)) (fun c19 => ?_)
        refine m_aload_n dX6_readRay_65 rfl ?_
        refine cl_X6_51 rfl (by decide) dX6_readRay_66 (Nat.le_of_ble_eq_true rfl) (MCv_go q (fun h20 q => ?_))
        refine m_aload_n dX6_readRay_69 rfl ?_
        refine m_iconst (v := 0) dX6_readRay_70 (by decide) ?_
        refine m_iconst (v := 3) dX6_readRay_71 (by decide) ?_
        refine cl_X6_118 rfl (by decide) dX6_readRay_72 (Nat.le_of_ble_eq_true rfl) (MCi_go q (fun r22 h21 q => ?_))
        refine m_if_ne 80 dX6_readRay_75 (by decide) (fun c23 => ?_) (fun c23 => ?_)
        · replace q := q.1 c23
          refine m_iload_n dX6_readRay_80 rfl ?_
          refine m_aload_n dX6_readRay_81 rfl ?_
          refine gf_X6_122 rfl dX6_readRay_82 ?_
          refine m_ior dX6_readRay_85 ?_
          obtain ⟨x24, ex24⟩ : ∃ z, z = (l1 ||| (mI h21 1 11)) := ⟨_, rfl⟩
          rw [← ex24]
          replace q := q x24 ex24
          refine m_istore_n (lv' := [.ref 1, .int x24, .int l2, .int 1]) dX6_readRay_86 (Nat.le_of_ble_eq_true rfl) rfl rfl ?_
          refine m_iload_n dX6_readRay_87 rfl ?_
          refine m_iconst (v := 3) dX6_readRay_88 (by decide) ?_
          refine m_icmp_ne 102 dX6_readRay_89 (by decide) (fun c25 => ?_) (fun c25 => ?_)
          · replace q := q.1 c25
            refine m_aload_n dX6_readRay_102 rfl ?_
            refine gf_X6_12 rfl dX6_readRay_103 ?_
            refine gf_X6_174 rfl dX6_readRay_106 ?_
            refine m_iconst (v := 4) dX6_readRay_109 (by decide) ?_
            refine m_aload_n dX6_readRay_110 rfl ?_
            refine gf_X6_12 rfl dX6_readRay_111 ?_
            refine gf_X6_171 rfl dX6_readRay_114 ?_
            refine m_imul dX6_readRay_117 ?_
            refine m_iload_n dX6_readRay_118 rfl ?_
            refine m_iadd dX6_readRay_119 ?_
            refine m_iload_n dX6_readRay_120 rfl ?_
            refine m_if_eq 132 dX6_readRay_121 (by decide) (fun c26 => absurd c26 (by decide)) (fun c26 => ?_)
            refine m_aload_n dX6_readRay_124 rfl ?_
            refine gf_X6_122 rfl dX6_readRay_125 ?_
            refine m_ineg dX6_readRay_128 ?_
            refine m_goto 136 dX6_readRay_129 (by decide) ?_
            obtain ⟨b27, q⟩ := q
            refine m_iastore dX6_readRay_136 rfl (by decide) b27 ?_
            refine m_aload_n dX6_readRay_137 rfl ?_
            refine cl_X6_51 rfl (by decide) dX6_readRay_138 (Nat.le_of_ble_eq_true rfl) (MCv_go q (fun h28 q => ?_))
            refine m_iinc (v := (l2 + 1)) (lv' := [.ref 1, .int x24, .int (l2 + 1), .int 1]) dX6_readRay_141 (Nat.le_of_ble_eq_true rfl) rfl (congrArg (fun z => l2 + z) (by decide : Int32.ofInt 1 = 1)) rfl rfl ?_
            refine m_goto 26 dX6_readRay_144 (by decide) ?_
            refine m_dropK (lv' := [.ref 1, .int x24, .int (l2 + 1), .retAddr 0]) [3] rfl ?_
            exact q
          · replace q := q.2 c25
            refine m_iload_n dX6_readRay_92 rfl ?_
            refine m_if_ne 102 dX6_readRay_93 (by decide) (fun c29 => ?_) (fun c29 => ?_)
            · replace q := q.1 c29
              refine m_aload_n dX6_readRay_102 rfl ?_
              refine gf_X6_12 rfl dX6_readRay_103 ?_
              refine gf_X6_174 rfl dX6_readRay_106 ?_
              refine m_iconst (v := 4) dX6_readRay_109 (by decide) ?_
              refine m_aload_n dX6_readRay_110 rfl ?_
              refine gf_X6_12 rfl dX6_readRay_111 ?_
              refine gf_X6_171 rfl dX6_readRay_114 ?_
              refine m_imul dX6_readRay_117 ?_
              refine m_iload_n dX6_readRay_118 rfl ?_
              refine m_iadd dX6_readRay_119 ?_
              refine m_iload_n dX6_readRay_120 rfl ?_
              refine m_if_eq 132 dX6_readRay_121 (by decide) (fun c30 => absurd c30 (by decide)) (fun c30 => ?_)
              refine m_aload_n dX6_readRay_124 rfl ?_
              refine gf_X6_122 rfl dX6_readRay_125 ?_
              refine m_ineg dX6_readRay_128 ?_
              refine m_goto 136 dX6_readRay_129 (by decide) ?_
              obtain ⟨b31, q⟩ := q
              refine m_iastore dX6_readRay_136 rfl (by decide) b31 ?_
              refine m_aload_n dX6_readRay_137 rfl ?_
              refine cl_X6_51 rfl (by decide) dX6_readRay_138 (Nat.le_of_ble_eq_true rfl) (MCv_go q (fun h32 q => ?_))
              refine m_iinc (v := (l2 + 1)) (lv' := [.ref 1, .int x24, .int (l2 + 1), .int 1]) dX6_readRay_141 (Nat.le_of_ble_eq_true rfl) rfl (congrArg (fun z => l2 + z) (by decide : Int32.ofInt 1 = 1)) rfl rfl ?_
              refine m_goto 26 dX6_readRay_144 (by decide) ?_
              refine m_dropK (lv' := [.ref 1, .int x24, .int (l2 + 1), .retAddr 0]) [3] rfl ?_
              exact q
            · replace q := q.2 c29
              refine m_aload_n dX6_readRay_96 rfl ?_
              refine m_iconst (v := 4) dX6_readRay_97 (by decide) ?_
              refine cl_X6_70 rfl (by decide) dX6_readRay_98 (Nat.le_of_ble_eq_true rfl) (MCi_go q (fun r34 h33 q => ?_))
              exact m_zret dX6_readRay_101 rfl q.1 q.2
        · replace q := q.2 c23
          refine m_iconst (v := 0) dX6_readRay_78 (by decide) ?_
          exact m_zret dX6_readRay_79 rfl (by decide) q
    · replace q := q.2 c2
      refine m_aload_n dX6_readRay_35 rfl ?_
      refine m_bipush (v := 44) dX6_readRay_36 (by decide) ?_
      refine cl_X6_74 rfl (by decide) dX6_readRay_38 (Nat.le_of_ble_eq_true rfl) (MCi_go q (fun r36 h35 q => ?_))
      refine m_if_ne 46 dX6_readRay_41 (by decide) (fun c37 => ?_) (fun c37 => ?_)
      · replace q := q.1 c37
        refine m_aload_n dX6_readRay_46 rfl ?_
        refine gf_X6_61 rfl dX6_readRay_47 ?_
        refine m_bipush (v := 45) dX6_readRay_50 (by decide) ?_
        refine m_icmp_ne 59 dX6_readRay_52 (by decide) (fun c38 => ?_) (fun c38 => ?_)
        · replace q := q.1 c38
          refine m_iconst (v := 0) dX6_readRay_59 (by decide) ?_
          refine m_istore_n (lv' := [.ref 1, .int l1, .int l2, .int 0]) dX6_readRay_60 (Nat.le_of_ble_eq_true rfl) rfl rfl ?_
          refine m_iload_n dX6_readRay_61 rfl ?_
          refine m_if_eq 69 dX6_readRay_62 (by decide) (fun c39 => ?_) (fun c39 => absurd c39 (by decide))
          refine m_aload_n dX6_readRay_69 rfl ?_
          refine m_iconst (v := 0) dX6_readRay_70 (by decide) ?_
          refine m_iconst (v := 3) dX6_readRay_71 (by decide) ?_
          refine cl_X6_118 rfl (by decide) dX6_readRay_72 (Nat.le_of_ble_eq_true rfl) (MCi_go q (fun r41 h40 q => ?_))
          refine m_if_ne 80 dX6_readRay_75 (by decide) (fun c42 => ?_) (fun c42 => ?_)
          · replace q := q.1 c42
            refine m_iload_n dX6_readRay_80 rfl ?_
            refine m_aload_n dX6_readRay_81 rfl ?_
            refine gf_X6_122 rfl dX6_readRay_82 ?_
            refine m_ior dX6_readRay_85 ?_
            obtain ⟨x43, ex43⟩ : ∃ z, z = (l1 ||| (mI h40 1 11)) := ⟨_, rfl⟩
            rw [← ex43]
            replace q := q x43 ex43
            refine m_istore_n (lv' := [.ref 1, .int x43, .int l2, .int 0]) dX6_readRay_86 (Nat.le_of_ble_eq_true rfl) rfl rfl ?_
            refine m_iload_n dX6_readRay_87 rfl ?_
            refine m_iconst (v := 3) dX6_readRay_88 (by decide) ?_
            refine m_icmp_ne 102 dX6_readRay_89 (by decide) (fun c44 => ?_) (fun c44 => ?_)
            · replace q := q.1 c44
              refine m_aload_n dX6_readRay_102 rfl ?_
              refine gf_X6_12 rfl dX6_readRay_103 ?_
              refine gf_X6_174 rfl dX6_readRay_106 ?_
              refine m_iconst (v := 4) dX6_readRay_109 (by decide) ?_
              refine m_aload_n dX6_readRay_110 rfl ?_
              refine gf_X6_12 rfl dX6_readRay_111 ?_
              refine gf_X6_171 rfl dX6_readRay_114 ?_
              refine m_imul dX6_readRay_117 ?_
              refine m_iload_n dX6_readRay_118 rfl ?_
              refine m_iadd dX6_readRay_119 ?_
              refine m_iload_n dX6_readRay_120 rfl ?_
              refine m_if_eq 132 dX6_readRay_121 (by decide) (fun c45 => ?_) (fun c45 => absurd c45 (by decide))
              refine m_aload_n dX6_readRay_132 rfl ?_
              refine gf_X6_122 rfl dX6_readRay_133 ?_
              obtain ⟨b46, q⟩ := q
              refine m_iastore dX6_readRay_136 rfl (by decide) b46 ?_
              refine m_aload_n dX6_readRay_137 rfl ?_
              refine cl_X6_51 rfl (by decide) dX6_readRay_138 (Nat.le_of_ble_eq_true rfl) (MCv_go q (fun h47 q => ?_))
              refine m_iinc (v := (l2 + 1)) (lv' := [.ref 1, .int x43, .int (l2 + 1), .int 0]) dX6_readRay_141 (Nat.le_of_ble_eq_true rfl) rfl (congrArg (fun z => l2 + z) (by decide : Int32.ofInt 1 = 1)) rfl rfl ?_
              refine m_goto 26 dX6_readRay_144 (by decide) ?_
              refine m_dropK (lv' := [.ref 1, .int x43, .int (l2 + 1), .retAddr 0]) [3] rfl ?_
              exact q
            · replace q := q.2 c44
              refine m_iload_n dX6_readRay_92 rfl ?_
              refine m_if_ne 102 dX6_readRay_93 (by decide) (fun c48 => ?_) (fun c48 => ?_)
              · replace q := q.1 c48
                refine m_aload_n dX6_readRay_102 rfl ?_
                refine gf_X6_12 rfl dX6_readRay_103 ?_
                refine gf_X6_174 rfl dX6_readRay_106 ?_
                refine m_iconst (v := 4) dX6_readRay_109 (by decide) ?_
                refine m_aload_n dX6_readRay_110 rfl ?_
                refine gf_X6_12 rfl dX6_readRay_111 ?_
                refine gf_X6_171 rfl dX6_readRay_114 ?_
                refine m_imul dX6_readRay_117 ?_
                refine m_iload_n dX6_readRay_118 rfl ?_
                refine m_iadd dX6_readRay_119 ?_
                refine m_iload_n dX6_readRay_120 rfl ?_
                refine m_if_eq 132 dX6_readRay_121 (by decide) (fun c49 => ?_) (fun c49 => absurd c49 (by decide))
                refine m_aload_n dX6_readRay_132 rfl ?_
                refine gf_X6_122 rfl dX6_readRay_133 ?_
                obtain ⟨b50, q⟩ := q
                refine m_iastore dX6_readRay_136 rfl (by decide) b50 ?_
                refine m_aload_n dX6_readRay_137 rfl ?_
                refine cl_X6_51 rfl (by decide) dX6_readRay_138 (Nat.le_of_ble_eq_true rfl) (MCv_go q (fun h51 q => ?_))
                refine m_iinc (v := (l2 + 1)) (lv' := [.ref 1, .int x43, .int (l2 + 1), .int 0]) dX6_readRay_141 (Nat.le_of_ble_eq_true rfl) rfl (congrArg (fun z => l2 + z) (by decide : Int32.ofInt 1 = 1)) rfl rfl ?_
                refine m_goto 26 dX6_readRay_144 (by decide) ?_
                refine m_dropK (lv' := [.ref 1, .int x43, .int (l2 + 1), .retAddr 0]) [3] rfl ?_
                exact q
              · replace q := q.2 c48
                refine m_aload_n dX6_readRay_96 rfl ?_
                refine m_iconst (v := 4) dX6_readRay_97 (by decide) ?_
                refine cl_X6_70 rfl (by decide) dX6_readRay_98 (Nat.le_of_ble_eq_true rfl) (MCi_go q (fun r53 h52 q => ?_))
                exact m_zret dX6_readRay_101 rfl q.1 q.2
          · replace q := q.2 c42
            refine m_iconst (v := 0) dX6_readRay_78 (by decide) ?_
            exact m_zret dX6_readRay_79 rfl (by decide) q
        · replace q := q.2 c38
          refine m_iconst (v := 1) dX6_readRay_55 (by decide) ?_
          refine m_goto 60 dX6_readRay_56 (by decide) ?_
          refine m_istore_n (lv' := [.ref 1, .int l1, .int l2, .int 1]) dX6_readRay_60 (Nat.le_of_ble_eq_true rfl) rfl rfl ?_
          refine m_iload_n dX6_readRay_61 rfl ?_
          refine m_if_eq 69 dX6_readRay_62 (by decide) (fun c54 => absurd c54 (by decide)) (fun c54 => ?_)
          refine m_aload_n dX6_readRay_65 rfl ?_
          refine cl_X6_51 rfl (by decide) dX6_readRay_66 (Nat.le_of_ble_eq_true rfl) (MCv_go q (fun h55 q => ?_))
          refine m_aload_n dX6_readRay_69 rfl ?_
          refine m_iconst (v := 0) dX6_readRay_70 (by decide) ?_
          refine m_iconst (v := 3) dX6_readRay_71 (by decide) ?_
          refine cl_X6_118 rfl (by decide) dX6_readRay_72 (Nat.le_of_ble_eq_true rfl) (MCi_go q (fun r57 h56 q => ?_))
          refine m_if_ne 80 dX6_readRay_75 (by decide) (fun c58 => ?_) (fun c58 => ?_)
          · replace q := q.1 c58
            refine m_iload_n dX6_readRay_80 rfl ?_
            refine m_aload_n dX6_readRay_81 rfl ?_
            refine gf_X6_122 rfl dX6_readRay_82 ?_
            refine m_ior dX6_readRay_85 ?_
            obtain ⟨x59, ex59⟩ : ∃ z, z = (l1 ||| (mI h56 1 11)) := ⟨_, rfl⟩
            rw [← ex59]
            replace q := q x59 ex59
            refine m_istore_n (lv' := [.ref 1, .int x59, .int l2, .int 1]) dX6_readRay_86 (Nat.le_of_ble_eq_true rfl) rfl rfl ?_
            refine m_iload_n dX6_readRay_87 rfl ?_
            refine m_iconst (v := 3) dX6_readRay_88 (by decide) ?_
            refine m_icmp_ne 102 dX6_readRay_89 (by decide) (fun c60 => ?_) (fun c60 => ?_)
            · replace q := q.1 c60
              refine m_aload_n dX6_readRay_102 rfl ?_
              refine gf_X6_12 rfl dX6_readRay_103 ?_
              refine gf_X6_174 rfl dX6_readRay_106 ?_
              refine m_iconst (v := 4) dX6_readRay_109 (by decide) ?_
              refine m_aload_n dX6_readRay_110 rfl ?_
              refine gf_X6_12 rfl dX6_readRay_111 ?_
              refine gf_X6_171 rfl dX6_readRay_114 ?_
              refine m_imul dX6_readRay_117 ?_
              refine m_iload_n dX6_readRay_118 rfl ?_
              refine m_iadd dX6_readRay_119 ?_
              refine m_iload_n dX6_readRay_120 rfl ?_
              refine m_if_eq 132 dX6_readRay_121 (by decide) (fun c61 => absurd c61 (by decide)) (fun c61 => ?_)
              refine m_aload_n dX6_readRay_124 rfl ?_
              refine gf_X6_122 rfl dX6_readRay_125 ?_
              refine m_ineg dX6_readRay_128 ?_
              refine m_goto 136 dX6_readRay_129 (by decide) ?_
              obtain ⟨b62, q⟩ := q
              refine m_iastore dX6_readRay_136 rfl (by decide) b62 ?_
              refine m_aload_n dX6_readRay_137 rfl ?_
              refine cl_X6_51 rfl (by decide) dX6_readRay_138 (Nat.le_of_ble_eq_true rfl) (MCv_go q (fun h63 q => ?_))
              refine m_iinc (v := (l2 + 1)) (lv' := [.ref 1, .int x59, .int (l2 + 1), .int 1]) dX6_readRay_141 (Nat.le_of_ble_eq_true rfl) rfl (congrArg (fun z => l2 + z) (by decide : Int32.ofInt 1 = 1)) rfl rfl ?_
              refine m_goto 26 dX6_readRay_144 (by decide) ?_
              refine m_dropK (lv' := [.ref 1, .int x59, .int (l2 + 1), .retAddr 0]) [3] rfl ?_
              exact q
            · replace q := q.2 c60
              refine m_iload_n dX6_readRay_92 rfl ?_
              refine m_if_ne 102 dX6_readRay_93 (by decide) (fun c64 => ?_) (fun c64 => ?_)
              · replace q := q.1 c64
                refine m_aload_n dX6_readRay_102 rfl ?_
                refine gf_X6_12 rfl dX6_readRay_103 ?_
                refine gf_X6_174 rfl dX6_readRay_106 ?_
                refine m_iconst (v := 4) dX6_readRay_109 (by decide) ?_
                refine m_aload_n dX6_readRay_110 rfl ?_
                refine gf_X6_12 rfl dX6_readRay_111 ?_
                refine gf_X6_171 rfl dX6_readRay_114 ?_
                refine m_imul dX6_readRay_117 ?_
                refine m_iload_n dX6_readRay_118 rfl ?_
                refine m_iadd dX6_readRay_119 ?_
                refine m_iload_n dX6_readRay_120 rfl ?_
                refine m_if_eq 132 dX6_readRay_121 (by decide) (fun c65 => absurd c65 (by decide)) (fun c65 => ?_)
                refine m_aload_n dX6_readRay_124 rfl ?_
                refine gf_X6_122 rfl dX6_readRay_125 ?_
                refine m_ineg dX6_readRay_128 ?_
                refine m_goto 136 dX6_readRay_129 (by decide) ?_
                obtain ⟨b66, q⟩ := q
                refine m_iastore dX6_readRay_136 rfl (by decide) b66 ?_
                refine m_aload_n dX6_readRay_137 rfl ?_
                refine cl_X6_51 rfl (by decide) dX6_readRay_138 (Nat.le_of_ble_eq_true rfl) (MCv_go q (fun h67 q => ?_))
                refine m_iinc (v := (l2 + 1)) (lv' := [.ref 1, .int x59, .int (l2 + 1), .int 1]) dX6_readRay_141 (Nat.le_of_ble_eq_true rfl) rfl (congrArg (fun z => l2 + z) (by decide : Int32.ofInt 1 = 1)) rfl rfl ?_
                refine m_goto 26 dX6_readRay_144 (by decide) ?_
                refine m_dropK (lv' := [.ref 1, .int x59, .int (l2 + 1), .retAddr 0]) [3] rfl ?_
                exact q
              · replace q := q.2 c64
                refine m_aload_n dX6_readRay_96 rfl ?_
                refine m_iconst (v := 4) dX6_readRay_97 (by decide) ?_
                refine cl_X6_70 rfl (by decide) dX6_readRay_98 (Nat.le_of_ble_eq_true rfl) (MCi_go q (fun r69 h68 q => ?_))
                exact m_zret dX6_readRay_101 rfl q.1 q.2
          · replace q := q.2 c58
            refine m_iconst (v := 0) dX6_readRay_78 (by decide) ?_
            exact m_zret dX6_readRay_79 rfl (by decide) q
      · replace q := q.2 c37
        refine m_iconst (v := 0) dX6_readRay_44 (by decide) ?_
        exact m_zret dX6_readRay_45 rfl (by decide) q
set_option maxRecDepth 100000 in
theorem e_X6_readRun {g : gT} {h : mh_T} {P : Int32 → mh_T → Prop}  (q : ((mI h 2 6) < 4 → ME g uX6_readRun 19 [.ref 1, .int 0, .retAddr 0] [] h (qI P)) ∧ (¬ (mI h 2 6) < 4 → MCi g yX6_refuse uX6_refuse [.ref 1, .int 5] h (fun r3 h2 => (r3 = 0 ∨ r3 = 1) ∧ P r3 h2))) : MCi g yX6_readRun uX6_readRun [.ref 1] h P := by
  refine m_enter (by decide) rfl (Nat.le_of_ble_eq_true rfl) (lv := [.ref 1, .retAddr 0, .retAddr 0]) rfl ?_
  refine m_aload_n dX6_readRun_0 rfl ?_
  refine gf_X6_12 rfl dX6_readRun_1 ?_
  refine gf_X6_177 rfl dX6_readRun_4 ?_
  refine m_iconst (v := 4) dX6_readRun_7 (by decide) ?_
  refine m_icmp_lt 17 dX6_readRun_8 (by decide) (fun c1 => ?_) (fun c1 => ?_)
  · replace q := q.1 c1
    refine m_iconst (v := 0) dX6_readRun_17 (by decide) ?_
    refine m_istore_n (lv' := [.ref 1, .int 0, .retAddr 0]) dX6_readRun_18 (Nat.le_of_ble_eq_true rfl) rfl rfl ?_
    exact q
  · replace q := q.2 c1
    refine m_aload_n dX6_readRun_11 rfl ?_
    refine m_iconst (v := 5) dX6_readRun_12 (by decide) ?_
    refine cl_X6_70 rfl (by decide) dX6_readRun_13 (Nat.le_of_ble_eq_true rfl) (MCi_go q (fun r3 h2 q => ?_))
    exact m_zret dX6_readRun_16 rfl q.1 q.2
set_option maxRecDepth 100000 in
theorem r_X6_readRun_19 {g : gT} {h : mh_T} {P : Int32 → mh_T → Prop} (l1 : Int32) (q : (6 < l1 → MCi g yX6_refuse uX6_refuse [.ref 1, .int 5] h (fun r3 h2 => (r3 = 0 ∨ r3 = 1) ∧ P r3 h2)) ∧ (¬ 6 < l1 → MCv g yX6_next uX6_next [.ref 1] h (fun h4 => MCi g yX6_nameAmong uX6_nameAmong [.ref 1, .ref 13, .int (mI h4 2 1)] h4 (fun r6 h5 => (0 ≤ r6 → (l1 < 6 → MCv g yX6_next uX6_next [.ref 1] h5 (fun h9 => MCi g yX6_needWhole uX6_needWhole [.ref 1, .int 0, .int 1] h9 (fun r11 h10 => (¬ r11 = 0 → (vp_in ((6 * (mI h10 2 6)) + l1) 24) ∧ ((vp_in ((6 * (mI (wI h10 22 ((6 * (mI h10 2 6)) + l1).toNatClampNeg r6) 2 6)) + l1) 24) ∧ ((vp_in (mI (wI (wI h10 22 ((6 * (mI h10 2 6)) + l1).toNatClampNeg r6) 23 ((6 * (mI (wI h10 22 ((6 * (mI h10 2 6)) + l1).toNatClampNeg r6) 2 6)) + l1).toNatClampNeg (mI (wI h10 22 ((6 * (mI h10 2 6)) + l1).toNatClampNeg r6) 1 11)) 2 6) 4) ∧ (MCv g yX6_next uX6_next [.ref 1] (wI (wI (wI h10 22 ((6 * (mI h10 2 6)) + l1).toNatClampNeg r6) 23 ((6 * (mI (wI h10 22 ((6 * (mI h10 2 6)) + l1).toNatClampNeg r6) 2 6)) + l1).toNatClampNeg (mI (wI h10 22 ((6 * (mI h10 2 6)) + l1).toNatClampNeg r6) 1 11)) 21 (mI (wI (wI h10 22 ((6 * (mI h10 2 6)) + l1).toNatClampNeg r6) 23 ((6 * (mI (wI h10 22 ((6 * (mI h10 2 6)) + l1).toNatClampNeg r6) 2 6)) + l1).toNatClampNeg (mI (wI h10 22 ((6 * (mI h10 2 6)) + l1).toNatClampNeg r6) 1 11)) 2 6).toNatClampNeg (l1 + 1)) (fun h16 => ((mI h16 1 8) = 44 → ME g uX6_readRun 19 [.ref 1, .int (l1 + 1), .retAddr 0] [] h16 (qI P)) ∧ (¬ (mI h16 1 8) = 44 → P 1 (wI h16 2 6 ((mI h16 2 6) + 1)))))))) ∧ (r11 = 0 → P 0 h10)))) ∧ (¬ l1 < 6 → MCi g yX6_refuse uX6_refuse [.ref 1, .int 5] h5 (fun r19 h18 => (r19 = 0 ∨ r19 = 1) ∧ P r19 h18))) ∧ (¬ 0 ≤ r6 → P 0 h5))))) : ME g uX6_readRun 19 [.ref 1, .int l1, .retAddr 0] [] h (qI P) := by
  refine m_iload_n dX6_readRun_19 rfl ?_
  refine m_bipush (v := 6) dX6_readRun_20 (by decide) ?_
  refine m_icmp_gt 175 dX6_readRun_22 (by decide) (fun c1 => ?_) (fun c1 => ?_)
  · replace q := q.1 c1
    refine m_aload_n dX6_readRun_175 rfl ?_
    refine m_iconst (v := 5) dX6_readRun_176 (by decide) ?_
    refine cl_X6_70 rfl (by decide) dX6_readRun_177 (Nat.le_of_ble_eq_true rfl) (MCi_go q (fun r3 h2 q => ?_))
    exact m_zret dX6_readRun_180 rfl q.1 q.2
  · replace q := q.2 c1
    refine m_aload_n dX6_readRun_25 rfl ?_
    refine cl_X6_51 rfl (by decide) dX6_readRun_26 (Nat.le_of_ble_eq_true rfl) (MCv_go q (fun h4 q => ?_))
    refine m_aload_n dX6_readRun_29 rfl ?_
    refine m_aload_n dX6_readRun_30 rfl ?_
    refine gf_X6_18 rfl dX6_readRun_31 ?_
    refine m_aload_n dX6_readRun_34 rfl ?_
    refine gf_X6_12 rfl dX6_readRun_35 ?_
    refine gf_X6_67 rfl dX6_readRun_38 ?_
    refine cl_X6_138 rfl (by decide) dX6_readRun_41 (Nat.le_of_ble_eq_true rfl) (MCi_go q (fun r6 h5 q => ?_))
    refine m_istore_n (lv' := [.ref 1, .int l1, .int r6]) dX6_readRun_44 (Nat.le_of_ble_eq_true rfl) rfl rfl ?_
    refine m_iload_n dX6_readRun_45 rfl ?_
    refine m_if_ge 51 dX6_readRun_46 (by decide) (fun c7 => ?_) (fun c7 => ?_)
    · replace q := q.1 c7
      refine m_iload_n dX6_readRun_51 rfl ?_
      refine m_bipush (v := 6) dX6_readRun_52 (by decide) ?_
      refine m_icmp_lt 63 dX6_readRun_54 (by decide) (fun c8 => ?_) (fun c8 => ?_)
      · replace q := q.1 c8
        refine m_aload_n dX6_readRun_63 rfl ?_
        refine cl_X6_51 rfl (by decide) dX6_readRun_64 (Nat.le_of_ble_eq_true rfl) (MCv_go q (fun h9 q => ?_))
        refine m_aload_n dX6_readRun_67 rfl ?_
        refine m_iconst (v := 0) dX6_readRun_68 (by decide) ?_
        refine m_iconst (v := 1) dX6_readRun_69 (by decide) ?_
        refine cl_X6_118 rfl (by decide) dX6_readRun_70 (Nat.le_of_ble_eq_true rfl) (MCi_go q (fun r11 h10 q => ?_))
        refine m_if_ne 78 dX6_readRun_73 (by decide) (fun c12 => ?_) (fun c12 => ?_)
        · replace q := q.1 c12
          refine m_aload_n dX6_readRun_78 rfl ?_
          refine gf_X6_12 rfl dX6_readRun_79 ?_
          refine gf_X6_180 rfl dX6_readRun_82 ?_
          refine m_bipush (v := 6) dX6_readRun_85 (by decide) ?_
          refine m_aload_n dX6_readRun_87 rfl ?_
          refine gf_X6_12 rfl dX6_readRun_88 ?_
          refine gf_X6_177 rfl dX6_readRun_91 ?_
          refine m_imul dX6_readRun_94 ?_
          refine m_iload_n dX6_readRun_95 rfl ?_
          refine m_iadd dX6_readRun_96 ?_
          refine m_iload_n dX6_readRun_97 rfl ?_
          obtain ⟨b13, q⟩ := q
          refine m_iastore dX6_readRun_98 rfl (by decide) b13 ?_
          refine m_aload_n dX6_readRun_99 rfl ?_
          refine gf_X6_12 rfl dX6_readRun_100 ?_
          refine gf_X6_183 rfl dX6_readRun_103 ?_
          refine m_bipush (v := 6) dX6_readRun_106 (by decide) ?_
          refine m_aload_n dX6_readRun_108 rfl ?_
          refine gf_X6_12 rfl dX6_readRun_109 ?_
          refine gf_X6_177 rfl dX6_readRun_112 ?_
          refine m_imul dX6_readRun_115 ?_
          refine m_iload_n dX6_readRun_116 rfl ?_
          refine m_iadd dX6_readRun_117 ?_
          refine m_aload_n dX6_readRun_118 rfl ?_
          refine gf_X6_122 rfl dX6_readRun_119 ?_
          obtain ⟨b14, q⟩ := q
          refine m_iastore dX6_readRun_122 rfl (by decide) b14 ?_
          refine m_aload_n dX6_readRun_123 rfl ?_
          refine gf_X6_12 rfl dX6_readRun_124 ?_
          refine gf_X6_186 rfl dX6_readRun_127 ?_
          refine m_aload_n dX6_readRun_130 rfl ?_
          refine gf_X6_12 rfl dX6_readRun_131 ?_
          refine gf_X6_177 rfl dX6_readRun_134 ?_
          refine m_iload_n dX6_readRun_137 rfl ?_
          refine m_iconst (v := 1) dX6_readRun_138 (by decide) ?_
          refine m_iadd dX6_readRun_139 ?_
          obtain ⟨b15, q⟩ := q
          refine m_iastore dX6_readRun_140 rfl (by decide) b15 ?_
          refine m_aload_n dX6_readRun_141 rfl ?_
          refine cl_X6_51 rfl (by decide) dX6_readRun_142 (Nat.le_of_ble_eq_true rfl) (MCv_go q (fun h16 q => ?_))
          refine m_aload_n dX6_readRun_145 rfl ?_
          refine gf_X6_61 rfl dX6_readRun_146 ?_
          refine m_bipush (v := 44) dX6_readRun_149 (by decide) ?_
          refine m_icmp_eq 169 dX6_readRun_151 (by decide) (fun c17 => ?_) (fun c17 => ?_)
          · replace q := q.1 c17
            refine m_iinc (v := (l1 + 1)) (lv' := [.ref 1, .int (l1 + 1), .int r6]) dX6_readRun_169 (Nat.le_of_ble_eq_true rfl) rfl (congrArg (fun z => l1 + z) (by decide : Int32.ofInt 1 = 1)) rfl rfl ?_
            refine m_goto 19 dX6_readRun_172 (by decide) ?_
            refine m_dropK (lv' := [.ref 1, .int (l1 + 1), .retAddr 0]) [2] rfl ?_
            exact q
          · replace q := q.2 c17
            refine m_aload_n dX6_readRun_154 rfl ?_
            refine gf_X6_12 rfl dX6_readRun_155 ?_
            refine m_dup dX6_readRun_158 rfl ?_
            refine gf_X6_177 rfl dX6_readRun_159 ?_
            refine m_iconst (v := 1) dX6_readRun_162 (by decide) ?_
            refine m_iadd dX6_readRun_163 ?_
            refine pf_X6_177 rfl dX6_readRun_164 ?_
            refine m_iconst (v := 1) dX6_readRun_167 (by decide) ?_
            exact m_zret dX6_readRun_168 rfl (by decide) q
        · replace q := q.2 c12
          refine m_iconst (v := 0) dX6_readRun_76 (by decide) ?_
          exact m_zret dX6_readRun_77 rfl (by decide) q
      · replace q := q.2 c8
        refine m_aload_n dX6_readRun_57 rfl ?_
        refine m_iconst (v := 5) dX6_readRun_58 (by decide) ?_
        refine cl_X6_70 rfl (by decide) dX6_readRun_59 (Nat.le_of_ble_eq_true rfl) (MCi_go q (fun r19 h18 q => ?_))
        exact m_zret dX6_readRun_62 rfl q.1 q.2
    · replace q := q.2 c7
      refine m_iconst (v := 0) dX6_readRun_49 (by decide) ?_
      exact m_zret dX6_readRun_50 rfl (by decide) q
set_option maxRecDepth 100000 in
theorem e_X6_refuse {g : gT} {h : mh_T} {P : Int32 → mh_T → Prop} (l1 : Int32) (q : P 0 (wI (wI h 1 1 l1) 1 2 (mI (wI h 1 1 l1) 1 9))) : MCi g yX6_refuse uX6_refuse [.ref 1, .int l1] h P := by
  refine m_enter (by decide) rfl (Nat.le_of_ble_eq_true rfl) (lv := [.ref 1, .int l1]) rfl ?_
  refine m_aload_n dX6_refuse_0 rfl ?_
  refine m_iload_n dX6_refuse_1 rfl ?_
  refine pf_X6_32 rfl dX6_refuse_2 ?_
  refine m_aload_n dX6_refuse_5 rfl ?_
  refine m_aload_n dX6_refuse_6 rfl ?_
  refine gf_X6_189 rfl dX6_refuse_7 ?_
  refine pf_X6_36 rfl dX6_refuse_10 ?_
  refine m_iconst (v := 0) dX6_refuse_13 (by decide) ?_
  exact m_zret dX6_refuse_14 rfl (by decide) q
set_option maxRecDepth 100000 in
theorem e_X6_pass {g : gT} {h : mh_T} {P : Int32 → mh_T → Prop} (l1 : Int32) (q : ((mI h 1 8) = l1 → MCv g yX6_next uX6_next [.ref 1] h (fun h2 => P 1 h2)) ∧ (¬ (mI h 1 8) = l1 → MCi g yX6_refuse uX6_refuse [.ref 1, .int 1] h (fun r4 h3 => (r4 = 0 ∨ r4 = 1) ∧ P r4 h3))) : MCi g yX6_pass uX6_pass [.ref 1, .int l1] h P := by
  refine m_enter (by decide) rfl (Nat.le_of_ble_eq_true rfl) (lv := [.ref 1, .int l1]) rfl ?_
  refine m_aload_n dX6_pass_0 rfl ?_
  refine gf_X6_61 rfl dX6_pass_1 ?_
  refine m_iload_n dX6_pass_4 rfl ?_
  refine m_icmp_eq 14 dX6_pass_5 (by decide) (fun c1 => ?_) (fun c1 => ?_)
  · replace q := q.1 c1
    refine m_aload_n dX6_pass_14 rfl ?_
    refine cl_X6_51 rfl (by decide) dX6_pass_15 (Nat.le_of_ble_eq_true rfl) (MCv_go q (fun h2 q => ?_))
    refine m_iconst (v := 1) dX6_pass_18 (by decide) ?_
    exact m_zret dX6_pass_19 rfl (by decide) q
  · replace q := q.2 c1
    refine m_aload_n dX6_pass_8 rfl ?_
    refine m_iconst (v := 1) dX6_pass_9 (by decide) ?_
    refine cl_X6_70 rfl (by decide) dX6_pass_10 (Nat.le_of_ble_eq_true rfl) (MCi_go q (fun r4 h3 q => ?_))
    exact m_zret dX6_pass_13 rfl q.1 q.2
set_option maxRecDepth 100000 in
theorem e_X6_passWord {g : gT} {h : mh_T} {P : Int32 → mh_T → Prop} (l1 : Nat) (sl1 : l1 < nJS) (q : MCi g yX6_says uX6_says [.ref 1, .ref (1000 + l1)] h (fun r2 h1 => (¬ r2 = 0 → MCv g yX6_next uX6_next [.ref 1] h1 (fun h4 => P 1 h4)) ∧ (r2 = 0 → MCi g yX6_refuse uX6_refuse [.ref 1, .int 1] h1 (fun r6 h5 => (r6 = 0 ∨ r6 = 1) ∧ P r6 h5)))) : MCi g yX6_passWord uX6_passWord [.ref 1, .ref (1000 + l1)] h P := by
  refine m_enter (by decide) rfl (Nat.le_of_ble_eq_true rfl) (lv := [.ref 1, .ref (1000 + l1)]) rfl ?_
  refine m_aload_n dX6_passWord_0 rfl ?_
  refine m_aload_n dX6_passWord_1 rfl ?_
  refine cl_X6_78 rfl (by decide) dX6_passWord_2 (Nat.le_of_ble_eq_true rfl) (MCi_go q (fun r2 h1 q => ?_))
  refine m_if_ne 14 dX6_passWord_5 (by decide) (fun c3 => ?_) (fun c3 => ?_)
  · replace q := q.1 c3
    refine m_aload_n dX6_passWord_14 rfl ?_
    refine cl_X6_51 rfl (by decide) dX6_passWord_15 (Nat.le_of_ble_eq_true rfl) (MCv_go q (fun h4 q => ?_))
    refine m_iconst (v := 1) dX6_passWord_18 (by decide) ?_
    exact m_zret dX6_passWord_19 rfl (by decide) q
  · replace q := q.2 c3
    refine m_aload_n dX6_passWord_8 rfl ?_
    refine m_iconst (v := 1) dX6_passWord_9 (by decide) ?_
    refine cl_X6_70 rfl (by decide) dX6_passWord_10 (Nat.le_of_ble_eq_true rfl) (MCi_go q (fun r6 h5 q => ?_))
    exact m_zret dX6_passWord_13 rfl q.1 q.2
set_option maxRecDepth 100000 in
theorem e_X6_needWhole {g : gT} {h : mh_T} {P : Int32 → mh_T → Prop} (l1 : Int32) (l2 : Int32) (q : ((mI h 1 8) = 3 → ((mI h 1 11) < l1 → MCi g yX6_refuse uX6_refuse [.ref 1, .int 4] h (fun r4 h3 => (r4 = 0 → P 0 h3) ∧ (¬ r4 = 0 → P 1 h3))) ∧ (¬ (mI h 1 11) < l1 → ((mI h 1 11) ≤ l2 → P 1 h) ∧ (¬ (mI h 1 11) ≤ l2 → MCi g yX6_refuse uX6_refuse [.ref 1, .int 4] h (fun r8 h7 => (r8 = 0 → P 0 h7) ∧ (¬ r8 = 0 → P 1 h7))))) ∧ (¬ (mI h 1 8) = 3 → MCi g yX6_refuse uX6_refuse [.ref 1, .int 1] h (fun r11 h10 => (r11 = 0 ∨ r11 = 1) ∧ P r11 h10))) : MCi g yX6_needWhole uX6_needWhole [.ref 1, .int l1, .int l2] h P := by
  refine m_enter (by decide) rfl (Nat.le_of_ble_eq_true rfl) (lv := [.ref 1, .int l1, .int l2]) rfl ?_
  refine m_aload_n dX6_needWhole_0 rfl ?_
  refine gf_X6_61 rfl dX6_needWhole_1 ?_
  refine m_iconst (v := 3) dX6_needWhole_4 (by decide) ?_
  refine m_icmp_eq 14 dX6_needWhole_5 (by decide) (fun c1 => ?_) (fun c1 => ?_)
  · replace q := q.1 c1
    refine m_aload_n dX6_needWhole_14 rfl ?_
    refine gf_X6_122 rfl dX6_needWhole_15 ?_
    refine m_iload_n dX6_needWhole_18 rfl ?_
    refine m_icmp_lt 30 dX6_needWhole_19 (by decide) (fun c2 => ?_) (fun c2 => ?_)
    · replace q := q.1 c2
      refine m_aload_n dX6_needWhole_30 rfl ?_
      refine m_iconst (v := 4) dX6_needWhole_31 (by decide) ?_
      refine cl_X6_70 rfl (by decide) dX6_needWhole_32 (Nat.le_of_ble_eq_true rfl) (MCi_go q (fun r4 h3 q => ?_))
      refine m_if_eq 42 dX6_needWhole_35 (by decide) (fun c5 => ?_) (fun c5 => ?_)
      · replace q := q.1 c5
        refine m_iconst (v := 0) dX6_needWhole_42 (by decide) ?_
        exact m_zret dX6_needWhole_43 rfl (by decide) q
      · replace q := q.2 c5
        refine m_iconst (v := 1) dX6_needWhole_38 (by decide) ?_
        refine m_goto 43 dX6_needWhole_39 (by decide) ?_
        exact m_zret dX6_needWhole_43 rfl (by decide) q
    · replace q := q.2 c2
      refine m_aload_n dX6_needWhole_22 rfl ?_
      refine gf_X6_122 rfl dX6_needWhole_23 ?_
      refine m_iload_n dX6_needWhole_26 rfl ?_
      refine m_icmp_le 38 dX6_needWhole_27 (by decide) (fun c6 => ?_) (fun c6 => ?_)
      · replace q := q.1 c6
        refine m_iconst (v := 1) dX6_needWhole_38 (by decide) ?_
        refine m_goto 43 dX6_needWhole_39 (by decide) ?_
        exact m_zret dX6_needWhole_43 rfl (by decide) q
      · replace q := q.2 c6
        refine m_aload_n dX6_needWhole_30 rfl ?_
        refine m_iconst (v := 4) dX6_needWhole_31 (by decide) ?_
        refine cl_X6_70 rfl (by decide) dX6_needWhole_32 (Nat.le_of_ble_eq_true rfl) (MCi_go q (fun r8 h7 q => ?_))
        refine m_if_eq 42 dX6_needWhole_35 (by decide) (fun c9 => ?_) (fun c9 => ?_)
        · replace q := q.1 c9
          refine m_iconst (v := 0) dX6_needWhole_42 (by decide) ?_
          exact m_zret dX6_needWhole_43 rfl (by decide) q
        · replace q := q.2 c9
          refine m_iconst (v := 1) dX6_needWhole_38 (by decide) ?_
          refine m_goto 43 dX6_needWhole_39 (by decide) ?_
          exact m_zret dX6_needWhole_43 rfl (by decide) q
  · replace q := q.2 c1
    refine m_aload_n dX6_needWhole_8 rfl ?_
    refine m_iconst (v := 1) dX6_needWhole_9 (by decide) ?_
    refine cl_X6_70 rfl (by decide) dX6_needWhole_10 (Nat.le_of_ble_eq_true rfl) (MCi_go q (fun r11 h10 q => ?_))
    exact m_zret dX6_needWhole_13 rfl q.1 q.2
set_option maxRecDepth 100000 in
theorem e_X6_needNewName {g : gT} {h : mh_T} {P : Int32 → mh_T → Prop}  (q : MCi g yX6_isName uX6_isName [.ref 1] h (fun r2 h1 => (¬ r2 = 0 → MCi g yX6_indexOf uX6_indexOf [.ref 1, .ref 13, .int (mI h1 2 1)] h1 (fun r5 h4 => (0 ≤ r5 → MCi g yX6_refuse uX6_refuse [.ref 1, .int 3] h4 (fun r9 h8 => (r9 = 0 → P 0 h8) ∧ (¬ r9 = 0 → P 1 h8))) ∧ (¬ 0 ≤ r5 → MCi g yX6_indexOf uX6_indexOf [.ref 1, .ref 14, .int (mI h4 2 2)] h4 (fun r12 h11 => (r12 < 0 → P 1 h11) ∧ (¬ r12 < 0 → MCi g yX6_refuse uX6_refuse [.ref 1, .int 3] h11 (fun r17 h16 => (r17 = 0 → P 0 h16) ∧ (¬ r17 = 0 → P 1 h16))))))) ∧ (r2 = 0 → MCi g yX6_refuse uX6_refuse [.ref 1, .int 1] h1 (fun r20 h19 => (r20 = 0 ∨ r20 = 1) ∧ P r20 h19)))) : MCi g yX6_needNewName uX6_needNewName [.ref 1] h P := by
  refine m_enter (by decide) rfl (Nat.le_of_ble_eq_true rfl) (lv := [.ref 1, .retAddr 0]) rfl ?_
  refine m_aload_n dX6_needNewName_0 rfl ?_
  refine cl_X6_192 rfl (by decide) dX6_needNewName_1 (Nat.le_of_ble_eq_true rfl) (MCi_go q (fun r2 h1 q => ?_))
  refine m_if_ne 13 dX6_needNewName_4 (by decide) (fun c3 => ?_) (fun c3 => ?_)
  · replace q := q.1 c3
    refine m_aload_n dX6_needNewName_13 rfl ?_
    refine m_aload_n dX6_needNewName_14 rfl ?_
    refine gf_X6_18 rfl dX6_needNewName_15 ?_
    refine m_aload_n dX6_needNewName_18 rfl ?_
    refine gf_X6_12 rfl dX6_needNewName_19 ?_
    refine gf_X6_67 rfl dX6_needNewName_22 ?_
    refine cl_X6_195 rfl (by decide) dX6_needNewName_25 (Nat.le_of_ble_eq_true rfl) (MCi_go q (fun r5 h4 q => ?_))
    refine m_if_ge 49 dX6_needNewName_28 (by decide) (fun c6 => ?_) (fun c6 => ?_)
    · replace q := q.1 c6
      refine m_iconst (v := 1) dX6_needNewName_49 (by decide) ?_
      refine m_goto 54 dX6_needNewName_50 (by decide) ?_
      refine m_istore_n (lv' := [.ref 1, .int 1]) dX6_needNewName_54 (Nat.le_of_ble_eq_true rfl) rfl rfl ?_
      refine m_iload_n dX6_needNewName_55 rfl ?_
      refine m_if_eq 67 dX6_needNewName_56 (by decide) (fun c7 => absurd c7 (by decide)) (fun c7 => ?_)
      refine m_aload_n dX6_needNewName_59 rfl ?_
      refine m_iconst (v := 3) dX6_needNewName_60 (by decide) ?_
      refine cl_X6_70 rfl (by decide) dX6_needNewName_61 (Nat.le_of_ble_eq_true rfl) (MCi_go q (fun r9 h8 q => ?_))
      refine m_if_eq 71 dX6_needNewName_64 (by decide) (fun c10 => ?_) (fun c10 => ?_)
      · replace q := q.1 c10
        refine m_iconst (v := 0) dX6_needNewName_71 (by decide) ?_
        exact m_zret dX6_needNewName_72 rfl (by decide) q
      · replace q := q.2 c10
        refine m_iconst (v := 1) dX6_needNewName_67 (by decide) ?_
        refine m_goto 72 dX6_needNewName_68 (by decide) ?_
        exact m_zret dX6_needNewName_72 rfl (by decide) q
    · replace q := q.2 c6
      refine m_aload_n dX6_needNewName_31 rfl ?_
      refine m_aload_n dX6_needNewName_32 rfl ?_
      refine gf_X6_22 rfl dX6_needNewName_33 ?_
      refine m_aload_n dX6_needNewName_36 rfl ?_
      refine gf_X6_12 rfl dX6_needNewName_37 ?_
      refine gf_X6_128 rfl dX6_needNewName_40 ?_
      refine cl_X6_195 rfl (by decide) dX6_needNewName_43 (Nat.le_of_ble_eq_true rfl) (MCi_go q (fun r12 h11 q => ?_))
      refine m_if_lt 53 dX6_needNewName_46 (by decide) (fun c13 => ?_) (fun c13 => ?_)
      · replace q := q.1 c13
        refine m_iconst (v := 0) dX6_needNewName_53 (by decide) ?_
        refine m_istore_n (lv' := [.ref 1, .int 0]) dX6_needNewName_54 (Nat.le_of_ble_eq_true rfl) rfl rfl ?_
        refine m_iload_n dX6_needNewName_55 rfl ?_
        refine m_if_eq 67 dX6_needNewName_56 (by decide) (fun c14 => ?_) (fun c14 => absurd c14 (by decide))
        refine m_iconst (v := 1) dX6_needNewName_67 (by decide) ?_
        refine m_goto 72 dX6_needNewName_68 (by decide) ?_
        exact m_zret dX6_needNewName_72 rfl (by decide) q
      · replace q := q.2 c13
        refine m_iconst (v := 1) dX6_needNewName_49 (by decide) ?_
        refine m_goto 54 dX6_needNewName_50 (by decide) ?_
        refine m_istore_n (lv' := [.ref 1, .int 1]) dX6_needNewName_54 (Nat.le_of_ble_eq_true rfl) rfl rfl ?_
        refine m_iload_n dX6_needNewName_55 rfl ?_
        refine m_if_eq 67 dX6_needNewName_56 (by decide) (fun c15 => absurd c15 (by decide)) (fun c15 => ?_)
        refine m_aload_n dX6_needNewName_59 rfl ?_
        refine m_iconst (v := 3) dX6_needNewName_60 (by decide) ?_
        refine cl_X6_70 rfl (by decide) dX6_needNewName_61 (Nat.le_of_ble_eq_true rfl) (MCi_go q (fun r17 h16 q => ?_))
        refine m_if_eq 71 dX6_needNewName_64 (by decide) (fun c18 => ?_) (fun c18 => ?_)
        · replace q := q.1 c18
          refine m_iconst (v := 0) dX6_needNewName_71 (by decide) ?_
          exact m_zret dX6_needNewName_72 rfl (by decide) q
        · replace q := q.2 c18
          refine m_iconst (v := 1) dX6_needNewName_67 (by decide) ?_
          refine m_goto 72 dX6_needNewName_68 (by decide) ?_
          exact m_zret dX6_needNewName_72 rfl (by decide) q
  · replace q := q.2 c3
    refine m_aload_n dX6_needNewName_7 rfl ?_
    refine m_iconst (v := 1) dX6_needNewName_8 (by decide) ?_
    refine cl_X6_70 rfl (by decide) dX6_needNewName_9 (Nat.le_of_ble_eq_true rfl) (MCi_go q (fun r20 h19 q => ?_))
    exact m_zret dX6_needNewName_12 rfl q.1 q.2
set_option maxRecDepth 100000 in
theorem e_X6_nameAmong {g : gT} {h : mh_T} {P : Int32 → mh_T → Prop} (l1 nl1 : Nat) (l2 : Int32) (sl1 : shp l1 = (22, nl1, [])) (q : MCi g yX6_isName uX6_isName [.ref 1] h (fun r2 h1 => (¬ r2 = 0 → MCi g yX6_indexOf uX6_indexOf [.ref 1, .ref l1, .int l2] h1 (fun r5 h4 => (0 ≤ r5 → P r5 h4) ∧ (¬ 0 ≤ r5 → MCi g yX6_refuse uX6_refuse [.ref 1, .int 2] h4 (fun r8 h7 => P r5 h7)))) ∧ (r2 = 0 → MCi g yX6_refuse uX6_refuse [.ref 1, .int 1] h1 (fun r10 h9 => P (-1) h9)))) : MCi g yX6_nameAmong uX6_nameAmong [.ref 1, .ref l1, .int l2] h P := by
  refine m_enter (by decide) rfl (Nat.le_of_ble_eq_true rfl) (lv := [.ref 1, .ref l1, .int l2, .retAddr 0]) rfl ?_
  refine m_aload_n dX6_nameAmong_0 rfl ?_
  refine cl_X6_192 rfl (by decide) dX6_nameAmong_1 (Nat.le_of_ble_eq_true rfl) (MCi_go q (fun r2 h1 q => ?_))
  refine m_if_ne 15 dX6_nameAmong_4 (by decide) (fun c3 => ?_) (fun c3 => ?_)
  · replace q := q.1 c3
    refine m_aload_n dX6_nameAmong_15 rfl ?_
    refine m_aload_n dX6_nameAmong_16 rfl ?_
    refine m_iload_n dX6_nameAmong_17 rfl ?_
    refine cl_X6_195 rfl (by decide) dX6_nameAmong_18 (Nat.le_of_ble_eq_true rfl) (MCi_go q (fun r5 h4 q => ?_))
    refine m_istore_n (lv' := [.ref 1, .ref l1, .int l2, .int r5]) dX6_nameAmong_21 (Nat.le_of_ble_eq_true rfl) rfl rfl ?_
    refine m_iload_n dX6_nameAmong_22 rfl ?_
    refine m_if_ge 32 dX6_nameAmong_23 (by decide) (fun c6 => ?_) (fun c6 => ?_)
    · replace q := q.1 c6
      refine m_iload_n dX6_nameAmong_32 rfl ?_
      exact m_iret dX6_nameAmong_33 rfl q
    · replace q := q.2 c6
      refine m_aload_n dX6_nameAmong_26 rfl ?_
      refine m_iconst (v := 2) dX6_nameAmong_27 (by decide) ?_
      refine cl_X6_70 rfl (by decide) dX6_nameAmong_28 (Nat.le_of_ble_eq_true rfl) (MCi_go q (fun r8 h7 q => ?_))
      refine m_pop dX6_nameAmong_31 rfl ?_
      refine m_iload_n dX6_nameAmong_32 rfl ?_
      exact m_iret dX6_nameAmong_33 rfl q
  · replace q := q.2 c3
    refine m_aload_n dX6_nameAmong_7 rfl ?_
    refine m_iconst (v := 1) dX6_nameAmong_8 (by decide) ?_
    refine cl_X6_70 rfl (by decide) dX6_nameAmong_9 (Nat.le_of_ble_eq_true rfl) (MCi_go q (fun r10 h9 q => ?_))
    refine m_pop dX6_nameAmong_12 rfl ?_
    refine m_iconst (v := (-1)) dX6_nameAmong_13 (by decide) ?_
    exact m_iret dX6_nameAmong_14 rfl q
set_option maxRecDepth 100000 in
theorem e_X6_indexOf {g : gT} {h : mh_T} {P : Int32 → mh_T → Prop} (l1 nl1 : Nat) (l2 : Int32) (sl1 : shp l1 = (22, nl1, [])) (q : ME g uX6_indexOf 2 [.ref 1, .ref l1, .int l2, .int 0] [] h (qI P)) : MCi g yX6_indexOf uX6_indexOf [.ref 1, .ref l1, .int l2] h P := by
  refine m_enter (by decide) rfl (Nat.le_of_ble_eq_true rfl) (lv := [.ref 1, .ref l1, .int l2, .retAddr 0]) rfl ?_
  refine m_iconst (v := 0) dX6_indexOf_0 (by decide) ?_
  refine m_istore_n (lv' := [.ref 1, .ref l1, .int l2, .int 0]) dX6_indexOf_1 (Nat.le_of_ble_eq_true rfl) rfl rfl ?_
  exact q
set_option maxRecDepth 100000 in
theorem r_X6_indexOf_2 {g : gT} {h : mh_T} {P : Int32 → mh_T → Prop} (l1 nl1 : Nat) (l2 : Int32) (l3 : Int32) (sl1 : shp l1 = (22, nl1, [])) (q : (l2 ≤ l3 → P (-1) h) ∧ (¬ l2 ≤ l3 → ((Int32.ofNat nl1) ≤ l3 → P (-1) h) ∧ (¬ (Int32.ofNat nl1) ≤ l3 → (vp_in l3 nl1) ∧ ((¬ (lg_cmp (mL h l1 l3.toNatClampNeg) (mL h 1 10)) = 0 → ME g uX6_indexOf 2 [.ref 1, .ref l1, .int l2, .int (l3 + 1)] [] h (qI P)) ∧ ((lg_cmp (mL h l1 l3.toNatClampNeg) (mL h 1 10)) = 0 → P l3 h))))) : ME g uX6_indexOf 2 [.ref 1, .ref l1, .int l2, .int l3] [] h (qI P) := by
  refine m_iload_n dX6_indexOf_2 rfl ?_
  refine m_iload_n dX6_indexOf_3 rfl ?_
  refine m_icmp_ge 32 dX6_indexOf_4 (by decide) (fun c1 => ?_) (fun c1 => ?_)
  · replace q := q.1 c1
    refine m_iconst (v := (-1)) dX6_indexOf_32 (by decide) ?_
    exact m_iret dX6_indexOf_33 rfl q
  · replace q := q.2 c1
    refine m_iload_n dX6_indexOf_7 rfl ?_
    refine m_aload_n dX6_indexOf_8 rfl ?_
    refine m_alen (v := (Int32.ofNat nl1)) dX6_indexOf_9 sl1 (by decide) (shp_lt sl1 (by decide)) rfl ?_
    refine m_icmp_ge 32 dX6_indexOf_10 (by decide) (fun c2 => ?_) (fun c2 => ?_)
    · replace q := q.1 c2
      refine m_iconst (v := (-1)) dX6_indexOf_32 (by decide) ?_
      exact m_iret dX6_indexOf_33 rfl q
    · replace q := q.2 c2
      refine m_aload_n dX6_indexOf_13 rfl ?_
      refine m_iload_n dX6_indexOf_14 rfl ?_
      obtain ⟨b3, q⟩ := q
      refine m_laload dX6_indexOf_15 sl1 (shp_lt sl1 (by decide)) b3 ?_
      refine m_aload_n dX6_indexOf_16 rfl ?_
      refine gf_X6_131 rfl dX6_indexOf_17 ?_
      refine m_lcmp dX6_indexOf_20 ?_
      refine m_if_ne 26 dX6_indexOf_21 (by decide) (fun c4 => ?_) (fun c4 => ?_)
      · replace q := q.1 c4
        refine m_iinc (v := (l3 + 1)) (lv' := [.ref 1, .ref l1, .int l2, .int (l3 + 1)]) dX6_indexOf_26 (Nat.le_of_ble_eq_true rfl) rfl (congrArg (fun z => l3 + z) (by decide : Int32.ofInt 1 = 1)) rfl rfl ?_
        refine m_goto 2 dX6_indexOf_29 (by decide) ?_
        exact q
      · replace q := q.2 c4
        refine m_iload_n dX6_indexOf_24 rfl ?_
        exact m_iret dX6_indexOf_25 rfl q
set_option maxRecDepth 100000 in
theorem e_X6_isName {g : gT} {h : mh_T} {P : Int32 → mh_T → Prop}  (q : (¬ (mI h 1 8) = 2 → P 0 h) ∧ ((mI h 1 8) = 2 → MCi g yX6_says uX6_says [.ref 1, .ref (1000 + 0)] h (fun r3 h2 => (¬ r3 = 0 → P 0 h2) ∧ (r3 = 0 → MCi g yX6_says uX6_says [.ref 1, .ref (1000 + 1)] h2 (fun r6 h5 => (¬ r6 = 0 → P 0 h5) ∧ (r6 = 0 → MCi g yX6_says uX6_says [.ref 1, .ref (1000 + 2)] h5 (fun r9 h8 => (¬ r9 = 0 → P 0 h8) ∧ (r9 = 0 → MCi g yX6_says uX6_says [.ref 1, .ref (1000 + 3)] h8 (fun r12 h11 => (¬ r12 = 0 → P 0 h11) ∧ (r12 = 0 → MCi g yX6_says uX6_says [.ref 1, .ref (1000 + 4)] h11 (fun r15 h14 => (¬ r15 = 0 → P 0 h14) ∧ (r15 = 0 → MCi g yX6_says uX6_says [.ref 1, .ref (1000 + 5)] h14 (fun r18 h17 => (¬ r18 = 0 → P 0 h17) ∧ (r18 = 0 → MCi g yX6_says uX6_says [.ref 1, .ref (1000 + 6)] h17 (fun r21 h20 => (¬ r21 = 0 → P 0 h20) ∧ (r21 = 0 → P 1 h20)))))))))))))))) : MCi g yX6_isName uX6_isName [.ref 1] h P := by
  refine m_enter (by decide) rfl (Nat.le_of_ble_eq_true rfl) (lv := [.ref 1]) rfl ?_
  refine m_aload_n dX6_isName_0 rfl ?_
  refine gf_X6_61 rfl dX6_isName_1 ?_
  refine m_iconst (v := 2) dX6_isName_4 (by decide) ?_
  refine m_icmp_ne 75 dX6_isName_5 (by decide) (fun c1 => ?_) (fun c1 => ?_)
  · replace q := q.1 c1
    refine m_iconst (v := 0) dX6_isName_75 (by decide) ?_
    exact m_zret dX6_isName_76 rfl (by decide) q
  · replace q := q.2 c1
    refine m_aload_n dX6_isName_8 rfl ?_
    refine m_ldcS (i := 0) (tx := "law") dX6_isName_9 (List.mem_of_getElem? (i := 0) rfl) (by decide) ?_
    refine cl_X6_78 rfl (by decide) dX6_isName_11 (Nat.le_of_ble_eq_true rfl) (MCi_go q (fun r3 h2 q => ?_))
    refine m_if_ne 75 dX6_isName_14 (by decide) (fun c4 => ?_) (fun c4 => ?_)
    · replace q := q.1 c4
      refine m_iconst (v := 0) dX6_isName_75 (by decide) ?_
      exact m_zret dX6_isName_76 rfl (by decide) q
    · replace q := q.2 c4
      refine m_aload_n dX6_isName_17 rfl ?_
      refine m_ldcS (i := 1) (tx := "look") dX6_isName_18 (List.mem_of_getElem? (i := 1) rfl) (by decide) ?_
      refine cl_X6_78 rfl (by decide) dX6_isName_20 (Nat.le_of_ble_eq_true rfl) (MCi_go q (fun r6 h5 q => ?_))
      refine m_if_ne 75 dX6_isName_23 (by decide) (fun c7 => ?_) (fun c7 => ?_)
      · replace q := q.1 c7
        refine m_iconst (v := 0) dX6_isName_75 (by decide) ?_
        exact m_zret dX6_isName_76 rfl (by decide) q
      · replace q := q.2 c7
        refine m_aload_n dX6_isName_26 rfl ?_
        refine m_ldcS (i := 2) (tx := "point") dX6_isName_27 (List.mem_of_getElem? (i := 2) rfl) (by decide) ?_
        refine cl_X6_78 rfl (by decide) dX6_isName_29 (Nat.le_of_ble_eq_true rfl) (MCi_go q (fun r9 h8 q => ?_))
        refine m_if_ne 75 dX6_isName_32 (by decide) (fun c10 => ?_) (fun c10 => ?_)
        · replace q := q.1 c10
          refine m_iconst (v := 0) dX6_isName_75 (by decide) ?_
          exact m_zret dX6_isName_76 rfl (by decide) q
        · replace q := q.2 c10
          refine m_aload_n dX6_isName_35 rfl ?_
          refine m_ldcS (i := 3) (tx := "set") dX6_isName_36 (List.mem_of_getElem? (i := 3) rfl) (by decide) ?_
          refine cl_X6_78 rfl (by decide) dX6_isName_38 (Nat.le_of_ble_eq_true rfl) (MCi_go q (fun r12 h11 q => ?_))
          refine m_if_ne 75 dX6_isName_41 (by decide) (fun c13 => ?_) (fun c13 => ?_)
          · replace q := q.1 c13
            refine m_iconst (v := 0) dX6_isName_75 (by decide) ?_
            exact m_zret dX6_isName_76 rfl (by decide) q
          · replace q := q.2 c13
            refine m_aload_n dX6_isName_44 rfl ?_
            refine m_ldcS (i := 4) (tx := "line") dX6_isName_45 (List.mem_of_getElem? (i := 4) rfl) (by decide) ?_
            refine cl_X6_78 rfl (by decide) dX6_isName_47 (Nat.le_of_ble_eq_true rfl) (MCi_go q (fun r15 h14 q => ?_))
            refine m_if_ne 75 dX6_isName_50 (by decide) (fun c16 => ?_) (fun c16 => ?_)
            · replace q := q.1 c16
              refine m_iconst (v := 0) dX6_isName_75 (by decide) ?_
              exact m_zret dX6_isName_76 rfl (by decide) q
            · replace q := q.2 c16
              refine m_aload_n dX6_isName_53 rfl ?_
              refine m_ldcS (i := 5) (tx := "ray") dX6_isName_54 (List.mem_of_getElem? (i := 5) rfl) (by decide) ?_
              refine cl_X6_78 rfl (by decide) dX6_isName_56 (Nat.le_of_ble_eq_true rfl) (MCi_go q (fun r18 h17 q => ?_))
              refine m_if_ne 75 dX6_isName_59 (by decide) (fun c19 => ?_) (fun c19 => ?_)
              · replace q := q.1 c19
                refine m_iconst (v := 0) dX6_isName_75 (by decide) ?_
                exact m_zret dX6_isName_76 rfl (by decide) q
              · replace q := q.2 c19
                refine m_aload_n dX6_isName_62 rfl ?_
                refine m_ldcS (i := 6) (tx := "run") dX6_isName_63 (List.mem_of_getElem? (i := 6) rfl) (by decide) ?_
                refine cl_X6_78 rfl (by decide) dX6_isName_65 (Nat.le_of_ble_eq_true rfl) (MCi_go q (fun r21 h20 q => ?_))
                refine m_if_ne 75 dX6_isName_68 (by decide) (fun c22 => ?_) (fun c22 => ?_)
                · replace q := q.1 c22
                  refine m_iconst (v := 0) dX6_isName_75 (by decide) ?_
                  exact m_zret dX6_isName_76 rfl (by decide) q
                · replace q := q.2 c22
                  refine m_iconst (v := 1) dX6_isName_71 (by decide) ?_
                  refine m_goto 76 dX6_isName_72 (by decide) ?_
                  exact m_zret dX6_isName_76 rfl (by decide) q
set_option maxRecDepth 100000 in
theorem e_X6_says {g : gT} {h : mh_T} {P : Int32 → mh_T → Prop} (l1 : Nat) (sl1 : l1 < nJS) (q : (¬ (mI h 1 8) = 2 → P 0 h) ∧ ((mI h 1 8) = 2 → MCi g yJ0_length_8abf5 uJ0_length_8abf5 [.ref (1000 + l1)] h (fun r3 h2 => (((mI h 1 7) - (mI h 1 9)) = r3 → ME g uX6_says 28 [.ref 1, .ref (1000 + l1), .int 0] [] h2 (qI P)) ∧ (¬ ((mI h 1 7) - (mI h 1 9)) = r3 → P 0 h2)))) : MCi g yX6_says uX6_says [.ref 1, .ref (1000 + l1)] h P := by
  refine m_enter (by decide) rfl (Nat.le_of_ble_eq_true rfl) (lv := [.ref 1, .ref (1000 + l1), .retAddr 0]) rfl ?_
  refine m_aload_n dX6_says_0 rfl ?_
  refine gf_X6_61 rfl dX6_says_1 ?_
  refine m_iconst (v := 2) dX6_says_4 (by decide) ?_
  refine m_icmp_ne 24 dX6_says_5 (by decide) (fun c1 => ?_) (fun c1 => ?_)
  · replace q := q.1 c1
    refine m_iconst (v := 0) dX6_says_24 (by decide) ?_
    exact m_zret dX6_says_25 rfl (by decide) q
  · replace q := q.2 c1
    refine m_aload_n dX6_says_8 rfl ?_
    refine gf_X6_48 rfl dX6_says_9 ?_
    refine m_aload_n dX6_says_12 rfl ?_
    refine gf_X6_189 rfl dX6_says_13 ?_
    refine m_isub dX6_says_16 ?_
    refine m_aload_n dX6_says_17 rfl ?_
    refine cl_X6_198 rfl (by decide) sl1 dX6_says_18 (Nat.le_of_ble_eq_true rfl) (MCi_go q (fun r3 h2 q => ?_))
    refine m_icmp_eq 26 dX6_says_21 (by decide) (fun c4 => ?_) (fun c4 => ?_)
    · replace q := q.1 c4
      refine m_iconst (v := 0) dX6_says_26 (by decide) ?_
      refine m_istore_n (lv' := [.ref 1, .ref (1000 + l1), .int 0]) dX6_says_27 (Nat.le_of_ble_eq_true rfl) rfl rfl ?_
      exact q
    · replace q := q.2 c4
      refine m_iconst (v := 0) dX6_says_24 (by decide) ?_
      exact m_zret dX6_says_25 rfl (by decide) q
set_option maxRecDepth 100000 in
theorem r_X6_says_28 {g : gT} {h : mh_T} {P : Int32 → mh_T → Prop} (l1 : Nat) (l2 : Int32) (sl1 : l1 < nJS) (q : MCi g yJ0_length_8abf5 uJ0_length_8abf5 [.ref (1000 + l1)] h (fun r2 h1 => (r2 ≤ l2 → P 1 h1) ∧ (¬ r2 ≤ l2 → (vp_in ((mI h1 1 9) + l2) 900) ∧ (MCi g yJ0_charAt_5068e uJ0_charAt_5068e [.ref (1000 + l1), .int l2] h1 (fun r6 h5 => ((mI h1 12 ((mI h1 1 9) + l2).toNatClampNeg) = r6 → ME g uX6_says 28 [.ref 1, .ref (1000 + l1), .int (l2 + 1)] [] h5 (qI P)) ∧ (¬ (mI h1 12 ((mI h1 1 9) + l2).toNatClampNeg) = r6 → P 0 h5)))))) : ME g uX6_says 28 [.ref 1, .ref (1000 + l1), .int l2] [] h (qI P) := by
  refine m_iload_n dX6_says_28 rfl ?_
  refine m_aload_n dX6_says_29 rfl ?_
  refine cl_X6_198 rfl (by decide) sl1 dX6_says_30 (Nat.le_of_ble_eq_true rfl) (MCi_go q (fun r2 h1 q => ?_))
  refine m_icmp_ge 63 dX6_says_33 (by decide) (fun c3 => ?_) (fun c3 => ?_)
  · replace q := q.1 c3
    refine m_iconst (v := 1) dX6_says_63 (by decide) ?_
    exact m_zret dX6_says_64 rfl (by decide) q
  · replace q := q.2 c3
    refine m_aload_n dX6_says_36 rfl ?_
    refine gf_X6_25 rfl dX6_says_37 ?_
    refine m_aload_n dX6_says_40 rfl ?_
    refine gf_X6_189 rfl dX6_says_41 ?_
    refine m_iload_n dX6_says_44 rfl ?_
    refine m_iadd dX6_says_45 ?_
    obtain ⟨b4, q⟩ := q
    refine m_iaload dX6_says_46 rfl (by decide) b4 ?_
    refine m_aload_n dX6_says_47 rfl ?_
    refine m_iload_n dX6_says_48 rfl ?_
    refine cl_X6_204 rfl (by decide) sl1 dX6_says_49 (Nat.le_of_ble_eq_true rfl) (MCi_go q (fun r6 h5 q => ?_))
    refine m_icmp_eq 57 dX6_says_52 (by decide) (fun c7 => ?_) (fun c7 => ?_)
    · replace q := q.1 c7
      refine m_iinc (v := (l2 + 1)) (lv' := [.ref 1, .ref (1000 + l1), .int (l2 + 1)]) dX6_says_57 (Nat.le_of_ble_eq_true rfl) rfl (congrArg (fun z => l2 + z) (by decide : Int32.ofInt 1 = 1)) rfl rfl ?_
      refine m_goto 28 dX6_says_60 (by decide) ?_
      exact q
    · replace q := q.2 c7
      refine m_iconst (v := 0) dX6_says_55 (by decide) ?_
      exact m_zret dX6_says_56 rfl (by decide) q
set_option maxRecDepth 100000 in
theorem e_X6_next {g : gT} {h : mh_T} {P : mh_T → Prop}  (q : ((mI h 1 6) ≤ (mI h 1 7) → ME g uX6_next 56 [.ref 1] [] (wI (wL (wI h 1 9 (mI h 1 7)) 1 10 0) 1 11 0) (qV P)) ∧ (¬ (mI h 1 6) ≤ (mI h 1 7) → (vp_in (mI h 1 7) 900) ∧ ((¬ (mI h 12 (mI h 1 7).toNatClampNeg) = 32 → ME g uX6_next 56 [.ref 1] [] (wI (wL (wI h 1 9 (mI h 1 7)) 1 10 0) 1 11 0) (qV P)) ∧ ((mI h 12 (mI h 1 7).toNatClampNeg) = 32 → ME g uX6_next 0 [.ref 1] [] (wI h 1 7 ((mI h 1 7) + 1)) (qV P))))) : MCv g yX6_next uX6_next [.ref 1] h P := by
  refine m_enter (by decide) rfl (Nat.le_of_ble_eq_true rfl) (lv := [.ref 1]) rfl ?_
  refine m_aload_n dX6_next_0 rfl ?_
  refine gf_X6_48 rfl dX6_next_1 ?_
  refine m_aload_n dX6_next_4 rfl ?_
  refine gf_X6_45 rfl dX6_next_5 ?_
  refine m_icmp_ge 38 dX6_next_8 (by decide) (fun c1 => ?_) (fun c1 => ?_)
  · replace q := q.1 c1
    refine m_aload_n dX6_next_38 rfl ?_
    refine m_aload_n dX6_next_39 rfl ?_
    refine gf_X6_48 rfl dX6_next_40 ?_
    refine pf_X6_189 rfl dX6_next_43 ?_
    refine m_aload_n dX6_next_46 rfl ?_
    refine m_lconst (v := 0) dX6_next_47 (by decide) ?_
    refine pf_X6_131 rfl dX6_next_48 ?_
    refine m_aload_n dX6_next_51 rfl ?_
    refine m_iconst (v := 0) dX6_next_52 (by decide) ?_
    refine pf_X6_122 rfl dX6_next_53 ?_
    exact q
  · replace q := q.2 c1
    refine m_aload_n dX6_next_11 rfl ?_
    refine gf_X6_25 rfl dX6_next_12 ?_
    refine m_aload_n dX6_next_15 rfl ?_
    refine gf_X6_48 rfl dX6_next_16 ?_
    obtain ⟨b2, q⟩ := q
    refine m_iaload dX6_next_19 rfl (by decide) b2 ?_
    refine m_bipush (v := 32) dX6_next_20 (by decide) ?_
    refine m_icmp_ne 38 dX6_next_22 (by decide) (fun c3 => ?_) (fun c3 => ?_)
    · replace q := q.1 c3
      refine m_aload_n dX6_next_38 rfl ?_
      refine m_aload_n dX6_next_39 rfl ?_
      refine gf_X6_48 rfl dX6_next_40 ?_
      refine pf_X6_189 rfl dX6_next_43 ?_
      refine m_aload_n dX6_next_46 rfl ?_
      refine m_lconst (v := 0) dX6_next_47 (by decide) ?_
      refine pf_X6_131 rfl dX6_next_48 ?_
      refine m_aload_n dX6_next_51 rfl ?_
      refine m_iconst (v := 0) dX6_next_52 (by decide) ?_
      refine pf_X6_122 rfl dX6_next_53 ?_
      exact q
    · replace q := q.2 c3
      refine m_aload_n dX6_next_25 rfl ?_
      refine m_dup dX6_next_26 rfl ?_
      refine gf_X6_48 rfl dX6_next_27 ?_
      refine m_iconst (v := 1) dX6_next_30 (by decide) ?_
      refine m_iadd dX6_next_31 ?_
      refine pf_X6_48 rfl dX6_next_32 ?_
      refine m_goto 0 dX6_next_35 (by decide) ?_
      exact q
set_option maxRecDepth 100000 in
theorem r_X6_next_56 {g : gT} {h : mh_T} {P : mh_T → Prop}  (q : ((mI h 1 6) ≤ (mI h 1 7) → ((mI h 1 7) ≤ (mI h 1 9) → ME g uX6_next 156 [.ref 1] [] h (qV P)) ∧ (¬ (mI h 1 7) ≤ (mI h 1 9) → (8 < ((mI h 1 7) - (mI h 1 9)) → P (wI h 1 8 1)) ∧ (¬ 8 < ((mI h 1 7) - (mI h 1 9)) → P (wI h 1 8 2)))) ∧ (¬ (mI h 1 6) ≤ (mI h 1 7) → (vp_in (mI h 1 7) 900) ∧ (MCi g yX6_isLetter uX6_isLetter [.int (mI h 12 (mI h 1 7).toNatClampNeg)] h (fun r6 h5 => (r6 = 0 → ((mI h5 1 7) ≤ (mI h5 1 9) → ME g uX6_next 156 [.ref 1] [] h5 (qV P)) ∧ (¬ (mI h5 1 7) ≤ (mI h5 1 9) → (8 < ((mI h5 1 7) - (mI h5 1 9)) → P (wI h5 1 8 1)) ∧ (¬ 8 < ((mI h5 1 7) - (mI h5 1 9)) → P (wI h5 1 8 2)))) ∧ (¬ r6 = 0 → (vp_in (mI h5 1 7) 900) ∧ (ME g uX6_next 56 [.ref 1] [] (wI (wL h5 1 10 (((mL h5 1 10) <<< (Int32.toInt64 5 &&& 63)) ||| (Int32.toInt64 (((mI h5 12 (mI h5 1 7).toNatClampNeg) - 97) + 1)))) 1 7 ((mI (wL h5 1 10 (((mL h5 1 10) <<< (Int32.toInt64 5 &&& 63)) ||| (Int32.toInt64 (((mI h5 12 (mI h5 1 7).toNatClampNeg) - 97) + 1)))) 1 7) + 1)) (qV P))))))) : ME g uX6_next 56 [.ref 1] [] h (qV P) := by
  refine m_aload_n dX6_next_56 rfl ?_
  refine gf_X6_48 rfl dX6_next_57 ?_
  refine m_aload_n dX6_next_60 rfl ?_
  refine gf_X6_45 rfl dX6_next_61 ?_
  refine m_icmp_ge 121 dX6_next_64 (by decide) (fun c1 => ?_) (fun c1 => ?_)
  · replace q := q.1 c1
    refine m_aload_n dX6_next_121 rfl ?_
    refine gf_X6_48 rfl dX6_next_122 ?_
    refine m_aload_n dX6_next_125 rfl ?_
    refine gf_X6_189 rfl dX6_next_126 ?_
    refine m_icmp_le 156 dX6_next_129 (by decide) (fun c2 => ?_) (fun c2 => ?_)
    · replace q := q.1 c2
      exact q
    · replace q := q.2 c2
      refine m_aload_n dX6_next_132 rfl ?_
      refine m_aload_n dX6_next_133 rfl ?_
      refine gf_X6_48 rfl dX6_next_134 ?_
      refine m_aload_n dX6_next_137 rfl ?_
      refine gf_X6_189 rfl dX6_next_138 ?_
      refine m_isub dX6_next_141 ?_
      refine m_bipush (v := 8) dX6_next_142 (by decide) ?_
      refine m_icmp_gt 151 dX6_next_144 (by decide) (fun c3 => ?_) (fun c3 => ?_)
      · replace q := q.1 c3
        refine m_iconst (v := 1) dX6_next_151 (by decide) ?_
        refine pf_X6_61 rfl dX6_next_152 ?_
        exact m_vret dX6_next_155 rfl q
      · replace q := q.2 c3
        refine m_iconst (v := 2) dX6_next_147 (by decide) ?_
        refine m_goto 152 dX6_next_148 (by decide) ?_
        refine pf_X6_61 rfl dX6_next_152 ?_
        exact m_vret dX6_next_155 rfl q
  · replace q := q.2 c1
    refine m_aload_n dX6_next_67 rfl ?_
    refine gf_X6_25 rfl dX6_next_68 ?_
    refine m_aload_n dX6_next_71 rfl ?_
    refine gf_X6_48 rfl dX6_next_72 ?_
    obtain ⟨b4, q⟩ := q
    refine m_iaload dX6_next_75 rfl (by decide) b4 ?_
    refine cl_X6_208 rfl (by decide) dX6_next_76 (Nat.le_of_ble_eq_true rfl) (MCi_go q (fun r6 h5 q => ?_))
    refine m_if_eq 121 dX6_next_79 (by decide) (fun c7 => ?_) (fun c7 => ?_)
    · replace q := q.1 c7
      refine m_aload_n dX6_next_121 rfl ?_
      refine gf_X6_48 rfl dX6_next_122 ?_
      refine m_aload_n dX6_next_125 rfl ?_
      refine gf_X6_189 rfl dX6_next_126 ?_
      refine m_icmp_le 156 dX6_next_129 (by decide) (fun c8 => ?_) (fun c8 => ?_)
      · replace q := q.1 c8
        exact q
      · replace q := q.2 c8
        refine m_aload_n dX6_next_132 rfl ?_
        refine m_aload_n dX6_next_133 rfl ?_
        refine gf_X6_48 rfl dX6_next_134 ?_
        refine m_aload_n dX6_next_137 rfl ?_
        refine gf_X6_189 rfl dX6_next_138 ?_
        refine m_isub dX6_next_141 ?_
        refine m_bipush (v := 8) dX6_next_142 (by decide) ?_
        refine m_icmp_gt 151 dX6_next_144 (by decide) (fun c9 => ?_) (fun c9 => ?_)
        · replace q := q.1 c9
          refine m_iconst (v := 1) dX6_next_151 (by decide) ?_
          refine pf_X6_61 rfl dX6_next_152 ?_
          exact m_vret dX6_next_155 rfl q
        · replace q := q.2 c9
          refine m_iconst (v := 2) dX6_next_147 (by decide) ?_
          refine m_goto 152 dX6_next_148 (by decide) ?_
          refine pf_X6_61 rfl dX6_next_152 ?_
          exact m_vret dX6_next_155 rfl q
    · replace q := q.2 c7
      refine m_aload_n dX6_next_82 rfl ?_
      refine m_aload_n dX6_next_83 rfl ?_
      refine gf_X6_131 rfl dX6_next_84 ?_
      refine m_iconst (v := 5) dX6_next_87 (by decide) ?_
      refine m_lshl dX6_next_88 ?_
      refine m_aload_n dX6_next_89 rfl ?_
      refine gf_X6_25 rfl dX6_next_90 ?_
      refine m_aload_n dX6_next_93 rfl ?_
      refine gf_X6_48 rfl dX6_next_94 ?_
      obtain ⟨b10, q⟩ := q
      refine m_iaload dX6_next_97 rfl (by decide) b10 ?_
      refine m_bipush (v := 97) dX6_next_98 (by decide) ?_
      refine m_isub dX6_next_100 ?_
      refine m_iconst (v := 1) dX6_next_101 (by decide) ?_
      refine m_iadd dX6_next_102 ?_
      refine m_i2l dX6_next_103 ?_
      refine m_lor dX6_next_104 ?_
      refine pf_X6_131 rfl dX6_next_105 ?_
      refine m_aload_n dX6_next_108 rfl ?_
      refine m_dup dX6_next_109 rfl ?_
      refine gf_X6_48 rfl dX6_next_110 ?_
      refine m_iconst (v := 1) dX6_next_113 (by decide) ?_
      refine m_iadd dX6_next_114 ?_
      refine pf_X6_48 rfl dX6_next_115 ?_
      refine m_goto 56 dX6_next_118 (by decide) ?_
      exact q
set_option maxRecDepth 100000 in
theorem r_X6_next_156 {g : gT} {h : mh_T} {P : mh_T → Prop}  (q : ((mI h 1 6) ≤ (mI h 1 7) → ((mI h 1 7) ≤ (mI h 1 9) → MCv g yX6_takeSign uX6_takeSign [.ref 1] h (fun h3 => P h3)) ∧ (¬ (mI h 1 7) ≤ (mI h 1 9) → (3 < ((mI h 1 7) - (mI h 1 9)) → P (wI h 1 8 1)) ∧ (¬ 3 < ((mI h 1 7) - (mI h 1 9)) → P (wI h 1 8 3)))) ∧ (¬ (mI h 1 6) ≤ (mI h 1 7) → (vp_in (mI h 1 7) 900) ∧ (MCi g yX6_isDigit uX6_isDigit [.int (mI h 12 (mI h 1 7).toNatClampNeg)] h (fun r7 h6 => (r7 = 0 → ((mI h6 1 7) ≤ (mI h6 1 9) → MCv g yX6_takeSign uX6_takeSign [.ref 1] h6 (fun h10 => P h10)) ∧ (¬ (mI h6 1 7) ≤ (mI h6 1 9) → (3 < ((mI h6 1 7) - (mI h6 1 9)) → P (wI h6 1 8 1)) ∧ (¬ 3 < ((mI h6 1 7) - (mI h6 1 9)) → P (wI h6 1 8 3)))) ∧ (¬ r7 = 0 → (vp_in (mI h6 1 7) 900) ∧ (ME g uX6_next 156 [.ref 1] [] (wI (wI h6 1 11 (((10 * (mI h6 1 11)) + (mI h6 12 (mI h6 1 7).toNatClampNeg)) - 48)) 1 7 ((mI (wI h6 1 11 (((10 * (mI h6 1 11)) + (mI h6 12 (mI h6 1 7).toNatClampNeg)) - 48)) 1 7) + 1)) (qV P))))))) : ME g uX6_next 156 [.ref 1] [] h (qV P) := by
  refine m_aload_n dX6_next_156 rfl ?_
  refine gf_X6_48 rfl dX6_next_157 ?_
  refine m_aload_n dX6_next_160 rfl ?_
  refine gf_X6_45 rfl dX6_next_161 ?_
  refine m_icmp_ge 219 dX6_next_164 (by decide) (fun c1 => ?_) (fun c1 => ?_)
  · replace q := q.1 c1
    refine m_aload_n dX6_next_219 rfl ?_
    refine gf_X6_48 rfl dX6_next_220 ?_
    refine m_aload_n dX6_next_223 rfl ?_
    refine gf_X6_189 rfl dX6_next_224 ?_
    refine m_icmp_le 253 dX6_next_227 (by decide) (fun c2 => ?_) (fun c2 => ?_)
    · replace q := q.1 c2
      refine m_aload_n dX6_next_253 rfl ?_
      refine cl_X6_214 rfl (by decide) dX6_next_254 (Nat.le_of_ble_eq_true rfl) (MCv_go q (fun h3 q => ?_))
      exact m_vret dX6_next_257 rfl q
    · replace q := q.2 c2
      refine m_aload_n dX6_next_230 rfl ?_
      refine m_aload_n dX6_next_231 rfl ?_
      refine gf_X6_48 rfl dX6_next_232 ?_
      refine m_aload_n dX6_next_235 rfl ?_
      refine gf_X6_189 rfl dX6_next_236 ?_
      refine m_isub dX6_next_239 ?_
      refine m_iconst (v := 3) dX6_next_240 (by decide) ?_
      refine m_icmp_gt 248 dX6_next_241 (by decide) (fun c4 => ?_) (fun c4 => ?_)
      · replace q := q.1 c4
        refine m_iconst (v := 1) dX6_next_248 (by decide) ?_
        refine pf_X6_61 rfl dX6_next_249 ?_
        exact m_vret dX6_next_252 rfl q
      · replace q := q.2 c4
        refine m_iconst (v := 3) dX6_next_244 (by decide) ?_
        refine m_goto 249 dX6_next_245 (by decide) ?_
        refine pf_X6_61 rfl dX6_next_249 ?_
        exact m_vret dX6_next_252 rfl q
  · replace q := q.2 c1
    refine m_aload_n dX6_next_167 rfl ?_
    refine gf_X6_25 rfl dX6_next_168 ?_
    refine m_aload_n dX6_next_171 rfl ?_
    refine gf_X6_48 rfl dX6_next_172 ?_
    obtain ⟨b5, q⟩ := q
    refine m_iaload dX6_next_175 rfl (by decide) b5 ?_
    refine cl_X6_211 rfl (by decide) dX6_next_176 (Nat.le_of_ble_eq_true rfl) (MCi_go q (fun r7 h6 q => ?_))
    refine m_if_eq 219 dX6_next_179 (by decide) (fun c8 => ?_) (fun c8 => ?_)
    · replace q := q.1 c8
      refine m_aload_n dX6_next_219 rfl ?_
      refine gf_X6_48 rfl dX6_next_220 ?_
      refine m_aload_n dX6_next_223 rfl ?_
      refine gf_X6_189 rfl dX6_next_224 ?_
      refine m_icmp_le 253 dX6_next_227 (by decide) (fun c9 => ?_) (fun c9 => ?_)
      · replace q := q.1 c9
        refine m_aload_n dX6_next_253 rfl ?_
        refine cl_X6_214 rfl (by decide) dX6_next_254 (Nat.le_of_ble_eq_true rfl) (MCv_go q (fun h10 q => ?_))
        exact m_vret dX6_next_257 rfl q
      · replace q := q.2 c9
        refine m_aload_n dX6_next_230 rfl ?_
        refine m_aload_n dX6_next_231 rfl ?_
        refine gf_X6_48 rfl dX6_next_232 ?_
        refine m_aload_n dX6_next_235 rfl ?_
        refine gf_X6_189 rfl dX6_next_236 ?_
        refine m_isub dX6_next_239 ?_
        refine m_iconst (v := 3) dX6_next_240 (by decide) ?_
        refine m_icmp_gt 248 dX6_next_241 (by decide) (fun c11 => ?_) (fun c11 => ?_)
        · replace q := q.1 c11
          refine m_iconst (v := 1) dX6_next_248 (by decide) ?_
          refine pf_X6_61 rfl dX6_next_249 ?_
          exact m_vret dX6_next_252 rfl q
        · replace q := q.2 c11
          refine m_iconst (v := 3) dX6_next_244 (by decide) ?_
          refine m_goto 249 dX6_next_245 (by decide) ?_
          refine pf_X6_61 rfl dX6_next_249 ?_
          exact m_vret dX6_next_252 rfl q
    · replace q := q.2 c8
      refine m_aload_n dX6_next_182 rfl ?_
      refine m_bipush (v := 10) dX6_next_183 (by decide) ?_
      refine m_aload_n dX6_next_185 rfl ?_
      refine gf_X6_122 rfl dX6_next_186 ?_
      refine m_imul dX6_next_189 ?_
      refine m_aload_n dX6_next_190 rfl ?_
      refine gf_X6_25 rfl dX6_next_191 ?_
      refine m_aload_n dX6_next_194 rfl ?_
      refine gf_X6_48 rfl dX6_next_195 ?_
      obtain ⟨b12, q⟩ := q
      refine m_iaload dX6_next_198 rfl (by decide) b12 ?_
      refine m_iadd dX6_next_199 ?_
      refine m_bipush (v := 48) dX6_next_200 (by decide) ?_
      refine m_isub dX6_next_202 ?_
      refine pf_X6_122 rfl dX6_next_203 ?_
      refine m_aload_n dX6_next_206 rfl ?_
      refine m_dup dX6_next_207 rfl ?_
      refine gf_X6_48 rfl dX6_next_208 ?_
      refine m_iconst (v := 1) dX6_next_211 (by decide) ?_
      refine m_iadd dX6_next_212 ?_
      refine pf_X6_48 rfl dX6_next_213 ?_
      refine m_goto 156 dX6_next_216 (by decide) ?_
      exact q
set_option maxRecDepth 100000 in
theorem e_X6_takeSign {g : gT} {h : mh_T} {P : mh_T → Prop}  (q : ((mI (wI h 1 8 0) 1 6) ≤ (mI (wI h 1 8 0) 1 7) → P (wI h 1 8 0)) ∧ (¬ (mI (wI h 1 8 0) 1 6) ≤ (mI (wI h 1 8 0) 1 7) → (vp_in (mI (wI h 1 8 0) 1 7) 900) ∧ (∀ x3 : Int32, x3 = (mI (wI h 1 8 0) 12 (mI (wI h 1 8 0) 1 7).toNatClampNeg) → (x3 = 59 → P (wI (wI (wI h 1 8 0) 1 8 x3) 1 7 ((mI (wI (wI h 1 8 0) 1 8 x3) 1 7) + 1))) ∧ (¬ x3 = 59 → (x3 = 44 → P (wI (wI (wI h 1 8 0) 1 8 x3) 1 7 ((mI (wI (wI h 1 8 0) 1 8 x3) 1 7) + 1))) ∧ (¬ x3 = 44 → (¬ x3 = 45 → P (wI (wI (wI h 1 8 0) 1 8 1) 1 7 ((mI (wI (wI h 1 8 0) 1 8 1) 1 7) + 1))) ∧ (x3 = 45 → P (wI (wI (wI h 1 8 0) 1 8 x3) 1 7 ((mI (wI (wI h 1 8 0) 1 8 x3) 1 7) + 1)))))))) : MCv g yX6_takeSign uX6_takeSign [.ref 1] h P := by
  refine m_enter (by decide) rfl (Nat.le_of_ble_eq_true rfl) (lv := [.ref 1, .retAddr 0]) rfl ?_
  refine m_aload_n dX6_takeSign_0 rfl ?_
  refine m_iconst (v := 0) dX6_takeSign_1 (by decide) ?_
  refine pf_X6_61 rfl dX6_takeSign_2 ?_
  refine m_aload_n dX6_takeSign_5 rfl ?_
  refine gf_X6_48 rfl dX6_takeSign_6 ?_
  refine m_aload_n dX6_takeSign_9 rfl ?_
  refine gf_X6_45 rfl dX6_takeSign_10 ?_
  refine m_icmp_ge 63 dX6_takeSign_13 (by decide) (fun c1 => ?_) (fun c1 => ?_)
  · replace q := q.1 c1
    exact m_vret dX6_takeSign_63 rfl q
  · replace q := q.2 c1
    refine m_aload_n dX6_takeSign_16 rfl ?_
    refine gf_X6_25 rfl dX6_takeSign_17 ?_
    refine m_aload_n dX6_takeSign_20 rfl ?_
    refine gf_X6_48 rfl dX6_takeSign_21 ?_
    obtain ⟨b2, q⟩ := q
    refine m_iaload dX6_takeSign_24 rfl (by decide) b2 ?_
    obtain ⟨x3, ex3⟩ : ∃ z, z = (mI (wI h 1 8 0) 12 (mI (wI h 1 8 0) 1 7).toNatClampNeg) := ⟨_, rfl⟩
    rw [← ex3]
    replace q := q x3 ex3
    refine m_istore_n (lv' := [.ref 1, .int x3]) dX6_takeSign_25 (Nat.le_of_ble_eq_true rfl) rfl rfl ?_
    refine m_aload_n dX6_takeSign_26 rfl ?_
    refine m_iload_n dX6_takeSign_27 rfl ?_
    refine m_bipush (v := 59) dX6_takeSign_28 (by decide) ?_
    refine m_icmp_eq 45 dX6_takeSign_30 (by decide) (fun c4 => ?_) (fun c4 => ?_)
    · replace q := q.1 c4
      refine m_iload_n dX6_takeSign_45 rfl ?_
      refine m_goto 50 dX6_takeSign_46 (by decide) ?_
      refine pf_X6_61 rfl dX6_takeSign_50 ?_
      refine m_aload_n dX6_takeSign_53 rfl ?_
      refine m_dup dX6_takeSign_54 rfl ?_
      refine gf_X6_48 rfl dX6_takeSign_55 ?_
      refine m_iconst (v := 1) dX6_takeSign_58 (by decide) ?_
      refine m_iadd dX6_takeSign_59 ?_
      refine pf_X6_48 rfl dX6_takeSign_60 ?_
      exact m_vret dX6_takeSign_63 rfl q
    · replace q := q.2 c4
      refine m_iload_n dX6_takeSign_33 rfl ?_
      refine m_bipush (v := 44) dX6_takeSign_34 (by decide) ?_
      refine m_icmp_eq 45 dX6_takeSign_36 (by decide) (fun c5 => ?_) (fun c5 => ?_)
      · replace q := q.1 c5
        refine m_iload_n dX6_takeSign_45 rfl ?_
        refine m_goto 50 dX6_takeSign_46 (by decide) ?_
        refine pf_X6_61 rfl dX6_takeSign_50 ?_
        refine m_aload_n dX6_takeSign_53 rfl ?_
        refine m_dup dX6_takeSign_54 rfl ?_
        refine gf_X6_48 rfl dX6_takeSign_55 ?_
        refine m_iconst (v := 1) dX6_takeSign_58 (by decide) ?_
        refine m_iadd dX6_takeSign_59 ?_
        refine pf_X6_48 rfl dX6_takeSign_60 ?_
        exact m_vret dX6_takeSign_63 rfl q
      · replace q := q.2 c5
        refine m_iload_n dX6_takeSign_39 rfl ?_
        refine m_bipush (v := 45) dX6_takeSign_40 (by decide) ?_
        refine m_icmp_ne 49 dX6_takeSign_42 (by decide) (fun c6 => ?_) (fun c6 => ?_)
        · replace q := q.1 c6
          refine m_iconst (v := 1) dX6_takeSign_49 (by decide) ?_
          refine pf_X6_61 rfl dX6_takeSign_50 ?_
          refine m_aload_n dX6_takeSign_53 rfl ?_
          refine m_dup dX6_takeSign_54 rfl ?_
          refine gf_X6_48 rfl dX6_takeSign_55 ?_
          refine m_iconst (v := 1) dX6_takeSign_58 (by decide) ?_
          refine m_iadd dX6_takeSign_59 ?_
          refine pf_X6_48 rfl dX6_takeSign_60 ?_
          exact m_vret dX6_takeSign_63 rfl q
        · replace q := q.2 c6
          refine m_iload_n dX6_takeSign_45 rfl ?_
          refine m_goto 50 dX6_takeSign_46 (by decide) ?_
          refine pf_X6_61 rfl dX6_takeSign_50 ?_
          refine m_aload_n dX6_takeSign_53 rfl ?_
          refine m_dup dX6_takeSign_54 rfl ?_
          refine gf_X6_48 rfl dX6_takeSign_55 ?_
          refine m_iconst (v := 1) dX6_takeSign_58 (by decide) ?_
          refine m_iadd dX6_takeSign_59 ?_
          refine pf_X6_48 rfl dX6_takeSign_60 ?_
          exact m_vret dX6_takeSign_63 rfl q
set_option maxRecDepth 100000 in
theorem e_X6_isLetter {g : gT} {h : mh_T} {P : Int32 → mh_T → Prop} (l0 : Int32) (q : (l0 < 97 → P 0 h) ∧ (¬ l0 < 97 → (122 < l0 → P 0 h) ∧ (¬ 122 < l0 → P 1 h))) : MCi g yX6_isLetter uX6_isLetter [.int l0] h P := by
  refine m_enter (by decide) rfl (Nat.le_of_ble_eq_true rfl) (lv := [.int l0]) rfl ?_
  refine m_iload_n dX6_isLetter_0 rfl ?_
  refine m_bipush (v := 97) dX6_isLetter_1 (by decide) ?_
  refine m_icmp_lt 16 dX6_isLetter_3 (by decide) (fun c1 => ?_) (fun c1 => ?_)
  · replace q := q.1 c1
    refine m_iconst (v := 0) dX6_isLetter_16 (by decide) ?_
    exact m_zret dX6_isLetter_17 rfl (by decide) q
  · replace q := q.2 c1
    refine m_iload_n dX6_isLetter_6 rfl ?_
    refine m_bipush (v := 122) dX6_isLetter_7 (by decide) ?_
    refine m_icmp_gt 16 dX6_isLetter_9 (by decide) (fun c2 => ?_) (fun c2 => ?_)
    · replace q := q.1 c2
      refine m_iconst (v := 0) dX6_isLetter_16 (by decide) ?_
      exact m_zret dX6_isLetter_17 rfl (by decide) q
    · replace q := q.2 c2
      refine m_iconst (v := 1) dX6_isLetter_12 (by decide) ?_
      refine m_goto 17 dX6_isLetter_13 (by decide) ?_
      exact m_zret dX6_isLetter_17 rfl (by decide) q
set_option maxRecDepth 100000 in
theorem e_X6_isDigit {g : gT} {h : mh_T} {P : Int32 → mh_T → Prop} (l0 : Int32) (q : (l0 < 48 → P 0 h) ∧ (¬ l0 < 48 → (57 < l0 → P 0 h) ∧ (¬ 57 < l0 → P 1 h))) : MCi g yX6_isDigit uX6_isDigit [.int l0] h P := by
  refine m_enter (by decide) rfl (Nat.le_of_ble_eq_true rfl) (lv := [.int l0]) rfl ?_
  refine m_iload_n dX6_isDigit_0 rfl ?_
  refine m_bipush (v := 48) dX6_isDigit_1 (by decide) ?_
  refine m_icmp_lt 16 dX6_isDigit_3 (by decide) (fun c1 => ?_) (fun c1 => ?_)
  · replace q := q.1 c1
    refine m_iconst (v := 0) dX6_isDigit_16 (by decide) ?_
    exact m_zret dX6_isDigit_17 rfl (by decide) q
  · replace q := q.2 c1
    refine m_iload_n dX6_isDigit_6 rfl ?_
    refine m_bipush (v := 57) dX6_isDigit_7 (by decide) ?_
    refine m_icmp_gt 16 dX6_isDigit_9 (by decide) (fun c2 => ?_) (fun c2 => ?_)
    · replace q := q.1 c2
      refine m_iconst (v := 0) dX6_isDigit_16 (by decide) ?_
      exact m_zret dX6_isDigit_17 rfl (by decide) q
    · replace q := q.2 c2
      refine m_iconst (v := 1) dX6_isDigit_12 (by decide) ?_
      refine m_goto 17 dX6_isDigit_13 (by decide) ?_
      exact m_zret dX6_isDigit_17 rfl (by decide) q
