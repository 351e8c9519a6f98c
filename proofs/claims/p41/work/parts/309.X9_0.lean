set_option maxRecDepth 100000 in
theorem e_X9_open {g : gT} {h : mh_T} {P : mh_T → Prop}  (q : ME g uX9_open 20 [.ref 9, .ref 2, .int 0, .retAddr 0, .retAddr 0] [] (wI (wI (wI h 9 0 (mI h 2 6)) 9 2 0) 9 3 0) (qV P)) : MCv g yX9_open uX9_open [.ref 9, .ref 2] h P := by
  refine m_enter (by decide) rfl (Nat.le_of_ble_eq_true rfl) (lv := [.ref 9, .ref 2, .retAddr 0, .retAddr 0, .retAddr 0]) rfl ?_
  refine m_aload_n dX9_open_0 rfl ?_
  refine m_aload_n dX9_open_1 rfl ?_
  refine gf_X9_31 rfl dX9_open_2 ?_
  refine pf_X9_37 rfl dX9_open_5 ?_
  refine m_aload_n dX9_open_8 rfl ?_
  refine m_iconst (v := 0) dX9_open_9 (by decide) ?_
  refine pf_X9_38 rfl dX9_open_10 ?_
  refine m_aload_n dX9_open_13 rfl ?_
  refine m_iconst (v := 0) dX9_open_14 (by decide) ?_
  refine pf_X9_41 rfl dX9_open_15 (by decide) ?_
  refine m_iconst (v := 0) dX9_open_18 (by decide) ?_
  refine m_istore_n (lv' := [.ref 9, .ref 2, .int 0, .retAddr 0, .retAddr 0]) dX9_open_19 (Nat.le_of_ble_eq_true rfl) rfl rfl ?_
  exact q
set_option maxRecDepth 100000 in
theorem r_X9_open_20 {g : gT} {h : mh_T} {P : mh_T → Prop} (l2 : Int32) (q : ((mI h 9 0) ≤ l2 → P h) ∧ (¬ (mI h 9 0) ≤ l2 → (vp_in l2 4) ∧ (∀ x3 : Int32, x3 = (mI h 21 l2.toNatClampNeg) → ME g uX9_open 38 [.ref 9, .ref 2, .int l2, .int x3, .int 0] [] h (qV P)))) : ME g uX9_open 20 [.ref 9, .ref 2, .int l2, .retAddr 0, .retAddr 0] [] h (qV P) := by
  refine m_iload_n dX9_open_20 rfl ?_
  refine m_aload_n dX9_open_21 rfl ?_
  refine gf_X9_37 rfl dX9_open_22 ?_
  refine m_icmp_ge 130 dX9_open_25 (by decide) (fun c1 => ?_) (fun c1 => ?_)
  · replace q := q.1 c1
    exact m_vret dX9_open_130 rfl q
  · replace q := q.2 c1
    refine m_aload_n dX9_open_28 rfl ?_
    refine gf_X9_45 rfl dX9_open_29 ?_
    refine m_iload_n dX9_open_32 rfl ?_
    obtain ⟨b2, q⟩ := q
    refine m_iaload dX9_open_33 rfl (by decide) b2 ?_
    obtain ⟨x3, ex3⟩ : ∃ z, z = (mI h 21 l2.toNatClampNeg) := ⟨_, rfl⟩
    rw [← ex3]
    replace q := q x3 ex3
    refine m_istore_n (lv' := [.ref 9, .ref 2, .int l2, .int x3, .retAddr 0]) dX9_open_34 (Nat.le_of_ble_eq_true rfl) rfl rfl ?_
    refine m_iconst (v := 0) dX9_open_35 (by decide) ?_
    refine m_istore (lv' := [.ref 9, .ref 2, .int l2, .int x3, .int 0]) dX9_open_36 (Nat.le_of_ble_eq_true rfl) rfl rfl ?_
    exact q
set_option maxRecDepth 100000 in
theorem r_X9_open_38 {g : gT} {h : mh_T} {P : mh_T → Prop} (l2 : Int32) (l3 : Int32) (l4 : Int32) (q : (l3 ≤ l4 → ME g uX9_open 20 [.ref 9, .ref 2, .int (l2 + 1), .retAddr 0, .retAddr 0] [] h (qV P)) ∧ (¬ l3 ≤ l4 → (vp_in ((6 * l2) + l4) 24) ∧ ((vp_in (mI h 9 2) 24) ∧ ((vp_in ((6 * l2) + l4) 24) ∧ ((vp_in (mI (wI h 34 (mI h 9 2).toNatClampNeg (mI h 22 ((6 * l2) + l4).toNatClampNeg)) 9 2) 24) ∧ ((¬ l4 = (l3 - 1) → (vp_in (mI (wI (wI h 34 (mI h 9 2).toNatClampNeg (mI h 22 ((6 * l2) + l4).toNatClampNeg)) 35 (mI (wI h 34 (mI h 9 2).toNatClampNeg (mI h 22 ((6 * l2) + l4).toNatClampNeg)) 9 2).toNatClampNeg (mI (wI h 34 (mI h 9 2).toNatClampNeg (mI h 22 ((6 * l2) + l4).toNatClampNeg)) 23 ((6 * l2) + l4).toNatClampNeg)) 9 2) 24) ∧ (ME g uX9_open 38 [.ref 9, .ref 2, .int l2, .int l3, .int (l4 + 1)] [] (wI (wI (wI (wI h 34 (mI h 9 2).toNatClampNeg (mI h 22 ((6 * l2) + l4).toNatClampNeg)) 35 (mI (wI h 34 (mI h 9 2).toNatClampNeg (mI h 22 ((6 * l2) + l4).toNatClampNeg)) 9 2).toNatClampNeg (mI (wI h 34 (mI h 9 2).toNatClampNeg (mI h 22 ((6 * l2) + l4).toNatClampNeg)) 23 ((6 * l2) + l4).toNatClampNeg)) 36 (mI (wI (wI h 34 (mI h 9 2).toNatClampNeg (mI h 22 ((6 * l2) + l4).toNatClampNeg)) 35 (mI (wI h 34 (mI h 9 2).toNatClampNeg (mI h 22 ((6 * l2) + l4).toNatClampNeg)) 9 2).toNatClampNeg (mI (wI h 34 (mI h 9 2).toNatClampNeg (mI h 22 ((6 * l2) + l4).toNatClampNeg)) 23 ((6 * l2) + l4).toNatClampNeg)) 9 2).toNatClampNeg 0) 9 2 ((mI (wI (wI (wI h 34 (mI h 9 2).toNatClampNeg (mI h 22 ((6 * l2) + l4).toNatClampNeg)) 35 (mI (wI h 34 (mI h 9 2).toNatClampNeg (mI h 22 ((6 * l2) + l4).toNatClampNeg)) 9 2).toNatClampNeg (mI (wI h 34 (mI h 9 2).toNatClampNeg (mI h 22 ((6 * l2) + l4).toNatClampNeg)) 23 ((6 * l2) + l4).toNatClampNeg)) 36 (mI (wI (wI h 34 (mI h 9 2).toNatClampNeg (mI h 22 ((6 * l2) + l4).toNatClampNeg)) 35 (mI (wI h 34 (mI h 9 2).toNatClampNeg (mI h 22 ((6 * l2) + l4).toNatClampNeg)) 9 2).toNatClampNeg (mI (wI h 34 (mI h 9 2).toNatClampNeg (mI h 22 ((6 * l2) + l4).toNatClampNeg)) 23 ((6 * l2) + l4).toNatClampNeg)) 9 2).toNatClampNeg 0) 9 2) + 1)) (qV P))) ∧ (l4 = (l3 - 1) → (vp_in (mI (wI (wI h 34 (mI h 9 2).toNatClampNeg (mI h 22 ((6 * l2) + l4).toNatClampNeg)) 35 (mI (wI h 34 (mI h 9 2).toNatClampNeg (mI h 22 ((6 * l2) + l4).toNatClampNeg)) 9 2).toNatClampNeg (mI (wI h 34 (mI h 9 2).toNatClampNeg (mI h 22 ((6 * l2) + l4).toNatClampNeg)) 23 ((6 * l2) + l4).toNatClampNeg)) 9 2) 24) ∧ (ME g uX9_open 38 [.ref 9, .ref 2, .int l2, .int l3, .int (l4 + 1)] [] (wI (wI (wI (wI h 34 (mI h 9 2).toNatClampNeg (mI h 22 ((6 * l2) + l4).toNatClampNeg)) 35 (mI (wI h 34 (mI h 9 2).toNatClampNeg (mI h 22 ((6 * l2) + l4).toNatClampNeg)) 9 2).toNatClampNeg (mI (wI h 34 (mI h 9 2).toNatClampNeg (mI h 22 ((6 * l2) + l4).toNatClampNeg)) 23 ((6 * l2) + l4).toNatClampNeg)) 36 (mI (wI (wI h 34 (mI h 9 2).toNatClampNeg (mI h 22 ((6 * l2) + l4).toNatClampNeg)) 35 (mI (wI h 34 (mI h 9 2).toNatClampNeg (mI h 22 ((6 * l2) + l4).toNatClampNeg)) 9 2).toNatClampNeg (mI (wI h 34 (mI h 9 2).toNatClampNeg (mI h 22 ((6 * l2) + l4).toNatClampNeg)) 23 ((6 * l2) + l4).toNatClampNeg)) 9 2).toNatClampNeg 1) 9 2 ((mI (wI (wI (wI h 34 (mI h 9 2).toNatClampNeg (mI h 22 ((6 * l2) + l4).toNatClampNeg)) 35 (mI (wI h 34 (mI h 9 2).toNatClampNeg (mI h 22 ((6 * l2) + l4).toNatClampNeg)) 9 2).toNatClampNeg (mI (wI h 34 (mI h 9 2).toNatClampNeg (mI h 22 ((6 * l2) + l4).toNatClampNeg)) 23 ((6 * l2) + l4).toNatClampNeg)) 36 (mI (wI (wI h 34 (mI h 9 2).toNatClampNeg (mI h 22 ((6 * l2) + l4).toNatClampNeg)) 35 (mI (wI h 34 (mI h 9 2).toNatClampNeg (mI h 22 ((6 * l2) + l4).toNatClampNeg)) 9 2).toNatClampNeg (mI (wI h 34 (mI h 9 2).toNatClampNeg (mI h 22 ((6 * l2) + l4).toNatClampNeg)) 23 ((6 * l2) + l4).toNatClampNeg)) 9 2).toNatClampNeg 1) 9 2) + 1)) (qV P))))))))) : ME g uX9_open 38 [.ref 9, .ref 2, .int l2, .int l3, .int l4] [] h (qV P) := by
  refine m_iload dX9_open_38 rfl ?_
  refine m_iload_n dX9_open_40 rfl ?_
  refine m_icmp_ge 124 dX9_open_41 (by decide) (fun c1 => ?_) (fun c1 => ?_)
  · replace q := q.1 c1
    refine m_iinc (v := (l2 + 1)) (lv' := [.ref 9, .ref 2, .int (l2 + 1), .int l3, .int l4]) dX9_open_124 (Nat.le_of_ble_eq_true rfl) rfl (congrArg (fun z => l2 + z) (by decide : Int32.ofInt 1 = 1)) rfl rfl ?_
    refine m_goto 20 dX9_open_127 (by decide) ?_
    refine m_dropK (lv' := [.ref 9, .ref 2, .int (l2 + 1), .retAddr 0, .retAddr 0]) [3, 4] rfl ?_
    exact q
  · replace q := q.2 c1
    refine m_aload_n dX9_open_44 rfl ?_
    refine gf_X9_9 rfl dX9_open_45 ?_
    refine m_aload_n dX9_open_48 rfl ?_
    refine gf_X9_38 rfl dX9_open_49 ?_
    refine m_aload_n dX9_open_52 rfl ?_
    refine gf_X9_48 rfl dX9_open_53 ?_
    refine m_bipush (v := 6) dX9_open_56 (by decide) ?_
    refine m_iload_n dX9_open_58 rfl ?_
    refine m_imul dX9_open_59 ?_
    refine m_iload dX9_open_60 rfl ?_
    refine m_iadd dX9_open_62 ?_
    obtain ⟨b2, q⟩ := q
    refine m_iaload dX9_open_63 rfl (by decide) b2 ?_
    obtain ⟨b3, q⟩ := q
    refine m_iastore dX9_open_64 rfl (by decide) b3 ?_
    refine m_aload_n dX9_open_65 rfl ?_
    refine gf_X9_15 rfl dX9_open_66 ?_
    refine m_aload_n dX9_open_69 rfl ?_
    refine gf_X9_38 rfl dX9_open_70 ?_
    refine m_aload_n dX9_open_73 rfl ?_
    refine gf_X9_49 rfl dX9_open_74 ?_
    refine m_bipush (v := 6) dX9_open_77 (by decide) ?_
    refine m_iload_n dX9_open_79 rfl ?_
    refine m_imul dX9_open_80 ?_
    refine m_iload dX9_open_81 rfl ?_
    refine m_iadd dX9_open_83 ?_
    obtain ⟨b4, q⟩ := q
    refine m_iaload dX9_open_84 rfl (by decide) b4 ?_
    obtain ⟨b5, q⟩ := q
    refine m_iastore dX9_open_85 rfl (by decide) b5 ?_
    refine m_aload_n dX9_open_86 rfl ?_
    refine gf_X9_18 rfl dX9_open_87 ?_
    refine m_aload_n dX9_open_90 rfl ?_
    refine gf_X9_38 rfl dX9_open_91 ?_
    refine m_iload dX9_open_94 rfl ?_
    refine m_iload_n dX9_open_96 rfl ?_
    refine m_iconst (v := 1) dX9_open_97 (by decide) ?_
    refine m_isub dX9_open_98 ?_
    refine m_icmp_ne 106 dX9_open_99 (by decide) (fun c6 => ?_) (fun c6 => ?_)
    · replace q := q.1 c6
      refine m_iconst (v := 0) dX9_open_106 (by decide) ?_
      obtain ⟨b7, q⟩ := q
      refine m_zastore dX9_open_107 rfl (by decide) b7 (by decide) ?_
      refine m_aload_n dX9_open_108 rfl ?_
      refine m_dup dX9_open_109 rfl ?_
      refine gf_X9_38 rfl dX9_open_110 ?_
      refine m_iconst (v := 1) dX9_open_113 (by decide) ?_
      refine m_iadd dX9_open_114 ?_
      refine pf_X9_38 rfl dX9_open_115 ?_
      refine m_iinc (v := (l4 + 1)) (lv' := [.ref 9, .ref 2, .int l2, .int l3, .int (l4 + 1)]) dX9_open_118 (Nat.le_of_ble_eq_true rfl) rfl (congrArg (fun z => l4 + z) (by decide : Int32.ofInt 1 = 1)) rfl rfl ?_
      refine m_goto 38 dX9_open_121 (by decide) ?_
      exact q
    · replace q := q.2 c6
      refine m_iconst (v := 1) dX9_open_102 (by decide) ?_
      refine m_goto 107 dX9_open_103 (by decide) ?_
      obtain ⟨b8, q⟩ := q
      refine m_zastore dX9_open_107 rfl (by decide) b8 (by decide) ?_
      refine m_aload_n dX9_open_108 rfl ?_
      refine m_dup dX9_open_109 rfl ?_
      refine gf_X9_38 rfl dX9_open_110 ?_
      refine m_iconst (v := 1) dX9_open_113 (by decide) ?_
      refine m_iadd dX9_open_114 ?_
      refine pf_X9_38 rfl dX9_open_115 ?_
      refine m_iinc (v := (l4 + 1)) (lv' := [.ref 9, .ref 2, .int l2, .int l3, .int (l4 + 1)]) dX9_open_118 (Nat.le_of_ble_eq_true rfl) rfl (congrArg (fun z => l4 + z) (by decide : Int32.ofInt 1 = 1)) rfl rfl ?_
      refine m_goto 38 dX9_open_121 (by decide) ?_
      exact q
set_option maxRecDepth 100000 in
theorem e_X9_work {g : gT} {h : mh_T} {P : mh_T → Prop}  (q : ((mI h 9 3) = 0 → ME g uX9_work 15 [.ref 9, .int 1, .retAddr 0] [] (wI h 9 3 1) (qV P)) ∧ (¬ (mI h 9 3) = 0 → P h)) : MCv g yX9_work uX9_work [.ref 9] h P := by
  refine m_enter (by decide) rfl (Nat.le_of_ble_eq_true rfl) (lv := [.ref 9, .retAddr 0, .retAddr 0]) rfl ?_
  refine m_aload_n dX9_work_0 rfl ?_
  refine gf_X9_41 rfl dX9_work_1 ?_
  refine m_if_eq 8 dX9_work_4 (by decide) (fun c1 => ?_) (fun c1 => ?_)
  · replace q := q.1 c1
    refine m_aload_n dX9_work_8 rfl ?_
    refine m_iconst (v := 1) dX9_work_9 (by decide) ?_
    refine pf_X9_41 rfl dX9_work_10 (by decide) ?_
    refine m_iconst (v := 1) dX9_work_13 (by decide) ?_
    refine m_istore_n (lv' := [.ref 9, .int 1, .retAddr 0]) dX9_work_14 (Nat.le_of_ble_eq_true rfl) rfl rfl ?_
    exact q
  · replace q := q.2 c1
    exact m_vret dX9_work_7 rfl q
set_option maxRecDepth 100000 in
theorem r_X9_work_15 {g : gT} {h : mh_T} {P : mh_T → Prop} (l1 : Int32) (q : (3 < l1 → P (wI h 9 1 0)) ∧ (¬ 3 < l1 → ME g uX9_work 27 [.ref 9, .int l1, .int 0] [] (wI h 9 1 l1) (qV P))) : ME g uX9_work 15 [.ref 9, .int l1, .retAddr 0] [] h (qV P) := by
  refine m_iload_n dX9_work_15 rfl ?_
  refine m_iconst (v := 3) dX9_work_16 (by decide) ?_
  refine m_icmp_gt 74 dX9_work_17 (by decide) (fun c1 => ?_) (fun c1 => ?_)
  · replace q := q.1 c1
    refine m_aload_n dX9_work_74 rfl ?_
    refine m_iconst (v := 0) dX9_work_75 (by decide) ?_
    refine pf_X9_50 rfl dX9_work_76 ?_
    exact m_vret dX9_work_79 rfl q
  · replace q := q.2 c1
    refine m_aload_n dX9_work_20 rfl ?_
    refine m_iload_n dX9_work_21 rfl ?_
    refine pf_X9_50 rfl dX9_work_22 ?_
    refine m_iconst (v := 0) dX9_work_25 (by decide) ?_
    refine m_istore_n (lv' := [.ref 9, .int l1, .int 0]) dX9_work_26 (Nat.le_of_ble_eq_true rfl) rfl rfl ?_
    exact q
set_option maxRecDepth 100000 in
theorem r_X9_work_27 {g : gT} {h : mh_T} {P : mh_T → Prop} (l1 : Int32) (l2 : Int32) (q : (18 ≤ l2 → MCi g yX9_tell (uX9_tell 70) [.ref 9, .int 0, .int 0, .int 0, .int 0] h (fun r3 h2 => (¬ r3 = (-1) → ME g uX9_work 15 [.ref 9, .int (l1 + 1), .retAddr 0] [] h2 (qV P)) ∧ (r3 = (-1) → P h2))) ∧ (¬ 18 ≤ l2 → (vp_in l2 18) ∧ ((vp_in l2 18) ∧ (ME g uX9_work 27 [.ref 9, .int l1, .int (l2 + 1)] [] (wI (wI h 37 l2.toNatClampNeg (-2)) 38 l2.toNatClampNeg (-2)) (qV P))))) : ME g uX9_work 27 [.ref 9, .int l1, .int l2] [] h (qV P) := by
  refine m_iload_n dX9_work_27 rfl ?_
  refine m_bipush (v := 18) dX9_work_28 (by decide) ?_
  refine m_icmp_ge 55 dX9_work_30 (by decide) (fun c1 => ?_) (fun c1 => ?_)
  · replace q := q.1 c1
    refine m_aload_n dX9_work_55 rfl ?_
    refine m_iconst (v := 0) dX9_work_56 (by decide) ?_
    refine m_iconst (v := 0) dX9_work_57 (by decide) ?_
    refine m_iconst (v := 0) dX9_work_58 (by decide) ?_
    refine m_iconst (v := 0) dX9_work_59 (by decide) ?_
    refine cl_X9_53 rfl (by decide) dX9_work_60 (Nat.le_of_ble_eq_true rfl) (MCi_go q (fun r3 h2 q => ?_))
    refine m_iconst (v := (-1)) dX9_work_63 (by decide) ?_
    refine m_icmp_ne 68 dX9_work_64 (by decide) (fun c4 => ?_) (fun c4 => ?_)
    · replace q := q.1 c4
      refine m_iinc (v := (l1 + 1)) (lv' := [.ref 9, .int (l1 + 1), .int l2]) dX9_work_68 (Nat.le_of_ble_eq_true rfl) rfl (congrArg (fun z => l1 + z) (by decide : Int32.ofInt 1 = 1)) rfl rfl ?_
      refine m_goto 15 dX9_work_71 (by decide) ?_
      refine m_dropK (lv' := [.ref 9, .int (l1 + 1), .retAddr 0]) [2] rfl ?_
      exact q
    · replace q := q.2 c4
      exact m_vret dX9_work_67 rfl q
  · replace q := q.2 c1
    refine m_aload_n dX9_work_33 rfl ?_
    refine gf_X9_22 rfl dX9_work_34 ?_
    refine m_iload_n dX9_work_37 rfl ?_
    refine m_bipush (v := (-2)) dX9_work_38 (by decide) ?_
    obtain ⟨b5, q⟩ := q
    refine m_iastore dX9_work_40 rfl (by decide) b5 ?_
    refine m_aload_n dX9_work_41 rfl ?_
    refine gf_X9_25 rfl dX9_work_42 ?_
    refine m_iload_n dX9_work_45 rfl ?_
    refine m_bipush (v := (-2)) dX9_work_46 (by decide) ?_
    obtain ⟨b6, q⟩ := q
    refine m_iastore dX9_work_48 rfl (by decide) b6 ?_
    refine m_iinc (v := (l2 + 1)) (lv' := [.ref 9, .int l1, .int (l2 + 1)]) dX9_work_49 (Nat.le_of_ble_eq_true rfl) rfl (congrArg (fun z => l2 + z) (by decide : Int32.ofInt 1 = 1)) rfl rfl ?_
    refine m_goto 27 dX9_work_52 (by decide) ?_
    exact q
set_option maxRecDepth 100000 in
theorem e_X9_entry {g : gT} {h : mh_T} {P : Int32 → mh_T → Prop} (l1 : Int32) (l2 : Int32) (l3 : Int32) (q : ∀ x1 : Int32, x1 = ((6 * l1) + l2) → (l3 = 0 → (vp_in x1 18) ∧ (P (mI h 37 x1.toNatClampNeg) h)) ∧ (¬ l3 = 0 → (vp_in x1 18) ∧ (P (mI h 38 x1.toNatClampNeg) h))) : MCi g yX9_entry uX9_entry [.ref 9, .int l1, .int l2, .int l3] h P := by
  refine m_enter (by decide) rfl (Nat.le_of_ble_eq_true rfl) (lv := [.ref 9, .int l1, .int l2, .int l3, .retAddr 0]) rfl ?_
  refine m_bipush (v := 6) dX9_entry_0 (by decide) ?_
  refine m_iload_n dX9_entry_2 rfl ?_
  refine m_imul dX9_entry_3 ?_
  refine m_iload_n dX9_entry_4 rfl ?_
  refine m_iadd dX9_entry_5 ?_
  obtain ⟨x1, ex1⟩ : ∃ z, z = ((6 * l1) + l2) := ⟨_, rfl⟩
  rw [← ex1]
  replace q := q x1 ex1
  refine m_istore (lv' := [.ref 9, .int l1, .int l2, .int l3, .int x1]) dX9_entry_6 (Nat.le_of_ble_eq_true rfl) rfl rfl ?_
  refine m_iload_n dX9_entry_8 rfl ?_
  refine m_if_eq 22 dX9_entry_9 (by decide) (fun c2 => ?_) (fun c2 => ?_)
  · replace q := q.1 c2
    refine m_aload_n dX9_entry_22 rfl ?_
    refine gf_X9_22 rfl dX9_entry_23 ?_
    refine m_iload dX9_entry_26 rfl ?_
    obtain ⟨b3, q⟩ := q
    refine m_iaload dX9_entry_28 rfl (by decide) b3 ?_
    exact m_iret dX9_entry_29 rfl q
  · replace q := q.2 c2
    refine m_aload_n dX9_entry_12 rfl ?_
    refine gf_X9_25 rfl dX9_entry_13 ?_
    refine m_iload dX9_entry_16 rfl ?_
    obtain ⟨b4, q⟩ := q
    refine m_iaload dX9_entry_18 rfl (by decide) b4 ?_
    refine m_goto 29 dX9_entry_19 (by decide) ?_
    exact m_iret dX9_entry_29 rfl q
set_option maxRecDepth 100000 in
theorem e_X9_tell {g : gT} {h : mh_T} {K : Nat} {P : Int32 → mh_T → Prop} (l1 : Int32) (l2 : Int32) (l3 : Int32) (l4 : Int32) (q : (l1 < (mI h 9 2) → (vp_in l1 24) ∧ (∀ x3 : Int32, x3 = ((6 * l2) + (mI h 34 l1.toNatClampNeg)) → (vp_in x3 18) ∧ (((mI h 37 x3.toNatClampNeg) < 0 → (vp_in l1 24) ∧ ((vp_in x3 18) ∧ ((vp_in x3 18) ∧ (∀ x9 : Int32, x9 = (if (l4 + 1) < ((mI (wI (wI h 37 x3.toNatClampNeg (mI h 35 l1.toNatClampNeg)) 39 x3.toNatClampNeg l3) 9 1) - 1) then (l4 + 1) else ((mI (wI (wI h 37 x3.toNatClampNeg (mI h 35 l1.toNatClampNeg)) 39 x3.toNatClampNeg l3) 9 1) - 1)) → ME g (uX9_tell (K + 1)) 115 [.ref 9, .int l1, .int l2, .int l3, .int l4, .int x3, .int 0, .int 1, .int x9, .int 0, .retAddr 0] [] (wI (wI h 37 x3.toNatClampNeg (mI h 35 l1.toNatClampNeg)) 39 x3.toNatClampNeg l3) (qI P))))) ∧ (¬ (mI h 37 x3.toNatClampNeg) < 0 → (vp_in x3 18) ∧ ((vp_in l1 24) ∧ (((mI h 37 x3.toNatClampNeg) = (mI h 35 l1.toNatClampNeg) → MCi g yX9_tellOn (uX9_tellOn K) [.ref 9, .int l1, .int x3, .int l3, .int l4] h (fun r14 h13 => P r14 h13)) ∧ (¬ (mI h 37 x3.toNatClampNeg) = (mI h 35 l1.toNatClampNeg) → (vp_in x3 18) ∧ (P (l3 ||| (mI h 39 x3.toNatClampNeg)) h)))))))) ∧ (¬ l1 < (mI h 9 2) → P (-1) h)) : MCi g yX9_tell (uX9_tell (K + 1)) [.ref 9, .int l1, .int l2, .int l3, .int l4] h P := by
  refine m_enter (by decide) rfl (Nat.le_of_ble_eq_true rfl) (lv := [.ref 9, .int l1, .int l2, .int l3, .int l4, .retAddr 0, .retAddr 0, .retAddr 0, .retAddr 0, .retAddr 0, .retAddr 0]) rfl ?_
  refine m_iload_n dX9_tell_0 rfl ?_
  refine m_aload_n dX9_tell_1 rfl ?_
  refine gf_X9_38 rfl dX9_tell_2 ?_
  refine m_icmp_lt 10 dX9_tell_5 (by decide) (fun c1 => ?_) (fun c1 => ?_)
  · replace q := q.1 c1
    refine m_bipush (v := 6) dX9_tell_10 (by decide) ?_
    refine m_iload_n dX9_tell_12 rfl ?_
    refine m_imul dX9_tell_13 ?_
    refine m_aload_n dX9_tell_14 rfl ?_
    refine gf_X9_9 rfl dX9_tell_15 ?_
    refine m_iload_n dX9_tell_18 rfl ?_
    obtain ⟨b2, q⟩ := q
    refine m_iaload dX9_tell_19 rfl (by decide) b2 ?_
    refine m_iadd dX9_tell_20 ?_
    obtain ⟨x3, ex3⟩ : ∃ z, z = ((6 * l2) + (mI h 34 l1.toNatClampNeg)) := ⟨_, rfl⟩
    rw [← ex3]
    replace q := q x3 ex3
    refine m_istore (lv' := [.ref 9, .int l1, .int l2, .int l3, .int l4, .int x3, .retAddr 0, .retAddr 0, .retAddr 0, .retAddr 0, .retAddr 0]) dX9_tell_21 (Nat.le_of_ble_eq_true rfl) rfl rfl ?_
    refine m_aload_n dX9_tell_23 rfl ?_
    refine gf_X9_22 rfl dX9_tell_24 ?_
    refine m_iload dX9_tell_27 rfl ?_
    obtain ⟨b4, q⟩ := q
    refine m_iaload dX9_tell_29 rfl (by decide) b4 ?_
    refine m_if_lt 70 dX9_tell_30 (by decide) (fun c5 => ?_) (fun c5 => ?_)
    · replace q := q.1 c5
      refine m_aload_n dX9_tell_70 rfl ?_
      refine gf_X9_22 rfl dX9_tell_71 ?_
      refine m_iload dX9_tell_74 rfl ?_
      refine m_aload_n dX9_tell_76 rfl ?_
      refine gf_X9_15 rfl dX9_tell_77 ?_
      refine m_iload_n dX9_tell_80 rfl ?_
      obtain ⟨b6, q⟩ := q
      refine m_iaload dX9_tell_81 rfl (by decide) b6 ?_
      obtain ⟨b7, q⟩ := q
      refine m_iastore dX9_tell_82 rfl (by decide) b7 ?_
      refine m_aload_n dX9_tell_83 rfl ?_
      refine gf_X9_28 rfl dX9_tell_84 ?_
      refine m_iload dX9_tell_87 rfl ?_
      refine m_iload_n dX9_tell_89 rfl ?_
      obtain ⟨b8, q⟩ := q
      refine m_iastore dX9_tell_90 rfl (by decide) b8 ?_
      refine m_iconst (v := 0) dX9_tell_91 (by decide) ?_
      refine m_istore (lv' := [.ref 9, .int l1, .int l2, .int l3, .int l4, .int x3, .int 0, .retAddr 0, .retAddr 0, .retAddr 0, .retAddr 0]) dX9_tell_92 (Nat.le_of_ble_eq_true rfl) rfl rfl ?_
      refine m_iconst (v := 1) dX9_tell_94 (by decide) ?_
      refine m_istore (lv' := [.ref 9, .int l1, .int l2, .int l3, .int l4, .int x3, .int 0, .int 1, .retAddr 0, .retAddr 0, .retAddr 0]) dX9_tell_95 (Nat.le_of_ble_eq_true rfl) rfl rfl ?_
      refine m_aload_n dX9_tell_97 rfl ?_
      refine gf_X9_50 rfl dX9_tell_98 ?_
      refine m_iconst (v := 1) dX9_tell_101 (by decide) ?_
      refine m_isub dX9_tell_102 ?_
      refine m_iload dX9_tell_103 rfl ?_
      refine m_iconst (v := 1) dX9_tell_105 (by decide) ?_
      refine m_iadd dX9_tell_106 ?_
      refine m_mmin dX9_tell_107 tw_222 tw_131 tw_128 tw_132 (Nat.succ_pos K) (Nat.le_of_ble_eq_true rfl) ?_
      obtain ⟨x9, ex9⟩ : ∃ z, z = (if (l4 + 1) < ((mI (wI (wI h 37 x3.toNatClampNeg (mI h 35 l1.toNatClampNeg)) 39 x3.toNatClampNeg l3) 9 1) - 1) then (l4 + 1) else ((mI (wI (wI h 37 x3.toNatClampNeg (mI h 35 l1.toNatClampNeg)) 39 x3.toNatClampNeg l3) 9 1) - 1)) := ⟨_, rfl⟩
      rw [← ex9]
      replace q := q x9 ex9
      refine m_istore (lv' := [.ref 9, .int l1, .int l2, .int l3, .int l4, .int x3, .int 0, .int 1, .int x9, .retAddr 0, .retAddr 0]) dX9_tell_110 (Nat.le_of_ble_eq_true rfl) rfl rfl ?_
      refine m_iconst (v := 0) dX9_tell_112 (by decide) ?_
      refine m_istore (lv' := [.ref 9, .int l1, .int l2, .int l3, .int l4, .int x3, .int 0, .int 1, .int x9, .int 0, .retAddr 0]) dX9_tell_113 (Nat.le_of_ble_eq_true rfl) rfl rfl ?_
      exact q
    · replace q := q.2 c5
      refine m_aload_n dX9_tell_33 rfl ?_
      refine gf_X9_22 rfl dX9_tell_34 ?_
      refine m_iload dX9_tell_37 rfl ?_
      obtain ⟨b10, q⟩ := q
      refine m_iaload dX9_tell_39 rfl (by decide) b10 ?_
      refine m_aload_n dX9_tell_40 rfl ?_
      refine gf_X9_15 rfl dX9_tell_41 ?_
      refine m_iload_n dX9_tell_44 rfl ?_
      obtain ⟨b11, q⟩ := q
      refine m_iaload dX9_tell_45 rfl (by decide) b11 ?_
      refine m_icmp_eq 59 dX9_tell_46 (by decide) (fun c12 => ?_) (fun c12 => ?_)
      · replace q := q.1 c12
        refine m_aload_n dX9_tell_59 rfl ?_
        refine m_iload_n dX9_tell_60 rfl ?_
        refine m_iload dX9_tell_61 rfl ?_
        refine m_iload_n dX9_tell_63 rfl ?_
        refine m_iload dX9_tell_64 rfl ?_
        refine cl_X9_57 rfl (Nat.lt_succ_self K) dX9_tell_66 (Nat.le_of_ble_eq_true rfl) (MCi_go q (fun r14 h13 q => ?_))
        exact m_iret dX9_tell_69 rfl q
      · replace q := q.2 c12
        refine m_iload_n dX9_tell_49 rfl ?_
        refine m_aload_n dX9_tell_50 rfl ?_
        refine gf_X9_28 rfl dX9_tell_51 ?_
        refine m_iload dX9_tell_54 rfl ?_
        obtain ⟨b15, q⟩ := q
        refine m_iaload dX9_tell_56 rfl (by decide) b15 ?_
        refine m_ior dX9_tell_57 ?_
        exact m_iret dX9_tell_58 rfl q
  · replace q := q.2 c1
    refine m_iconst (v := (-1)) dX9_tell_8 (by decide) ?_
    exact m_iret dX9_tell_9 rfl q
set_option maxRecDepth 100000 in
theorem r_X9_tell_115 {g : gT} {h : mh_T} {K : Nat} {P : Int32 → mh_T → Prop} (l1 : Int32) (l2 : Int32) (l3 : Int32) (l4 : Int32) (l5 : Int32) (l6 : Int32) (l7 : Int32) (l8 : Int32) (l9 : Int32) (q : (l7 = 0 → (vp_in l5 18) ∧ ((vp_in l5 18) ∧ (P l6 (wI (wI h 37 l5.toNatClampNeg (-2)) 38 l5.toNatClampNeg (-2))))) ∧ (¬ l7 = 0 → (l8 < l9 → (vp_in l5 18) ∧ ((vp_in l5 18) ∧ (P l6 (wI (wI h 37 l5.toNatClampNeg (-2)) 38 l5.toNatClampNeg (-2))))) ∧ (¬ l8 < l9 → (vp_in l5 18) ∧ (MCi g yX9_tellOn (uX9_tellOn K) [.ref 9, .int l1, .int l5, .int l3, .int (if l4 < l9 then l9 else l4)] (wI h 38 l5.toNatClampNeg l9) (fun r9 h8 => (¬ r9 = (-1) → (((r9 >>> (l5 &&& 31)) &&& 1) = 0 → ME g (uX9_tell (K + 1)) 115 [.ref 9, .int l1, .int l2, .int l3, .int l4, .int l5, .int r9, .int 0, .int l8, .int (l9 + 1), .retAddr 0] [] h8 (qI P)) ∧ (¬ ((r9 >>> (l5 &&& 31)) &&& 1) = 0 → ∀ x14 : Int32, x14 = (l6 ||| (r9 &&& ((1 <<< (l5 &&& 31)) ^^^ (-1)))) → ME g (uX9_tell (K + 1)) 115 [.ref 9, .int l1, .int l2, .int l3, .int l4, .int l5, .int x14, .int 1, .int l8, .int (l9 + 1), .retAddr 0] [] h8 (qI P))) ∧ (r9 = (-1) → P (-1) h8)))))) : ME g (uX9_tell (K + 1)) 115 [.ref 9, .int l1, .int l2, .int l3, .int l4, .int l5, .int l6, .int l7, .int l8, .int l9, .retAddr 0] [] h (qI P) := by
  refine m_iload dX9_tell_115 rfl ?_
  refine m_if_eq 208 dX9_tell_117 (by decide) (fun c1 => ?_) (fun c1 => ?_)
  · replace q := q.1 c1
    refine m_aload_n dX9_tell_208 rfl ?_
    refine gf_X9_22 rfl dX9_tell_209 ?_
    refine m_iload dX9_tell_212 rfl ?_
    refine m_bipush (v := (-2)) dX9_tell_214 (by decide) ?_
    obtain ⟨b2, q⟩ := q
    refine m_iastore dX9_tell_216 rfl (by decide) b2 ?_
    refine m_aload_n dX9_tell_217 rfl ?_
    refine gf_X9_25 rfl dX9_tell_218 ?_
    refine m_iload dX9_tell_221 rfl ?_
    refine m_bipush (v := (-2)) dX9_tell_223 (by decide) ?_
    obtain ⟨b3, q⟩ := q
    refine m_iastore dX9_tell_225 rfl (by decide) b3 ?_
    refine m_iload dX9_tell_226 rfl ?_
    exact m_iret dX9_tell_228 rfl q
  · replace q := q.2 c1
    refine m_iload dX9_tell_120 rfl ?_
    refine m_iload dX9_tell_122 rfl ?_
    refine m_icmp_gt 208 dX9_tell_124 (by decide) (fun c4 => ?_) (fun c4 => ?_)
    · replace q := q.1 c4
      refine m_aload_n dX9_tell_208 rfl ?_
      refine gf_X9_22 rfl dX9_tell_209 ?_
      refine m_iload dX9_tell_212 rfl ?_
      refine m_bipush (v := (-2)) dX9_tell_214 (by decide) ?_
      obtain ⟨b5, q⟩ := q
      refine m_iastore dX9_tell_216 rfl (by decide) b5 ?_
      refine m_aload_n dX9_tell_217 rfl ?_
      refine gf_X9_25 rfl dX9_tell_218 ?_
      refine m_iload dX9_tell_221 rfl ?_
      refine m_bipush (v := (-2)) dX9_tell_223 (by decide) ?_
      obtain ⟨b6, q⟩ := q
      refine m_iastore dX9_tell_225 rfl (by decide) b6 ?_
      refine m_iload dX9_tell_226 rfl ?_
      exact m_iret dX9_tell_228 rfl q
    · replace q := q.2 c4
      refine m_aload_n dX9_tell_127 rfl ?_
      refine gf_X9_25 rfl dX9_tell_128 ?_
      refine m_iload dX9_tell_131 rfl ?_
      refine m_iload dX9_tell_133 rfl ?_
      obtain ⟨b7, q⟩ := q
      refine m_iastore dX9_tell_135 rfl (by decide) b7 ?_
      refine m_aload_n dX9_tell_136 rfl ?_
      refine m_iload_n dX9_tell_137 rfl ?_
      refine m_iload dX9_tell_138 rfl ?_
      refine m_iload_n dX9_tell_140 rfl ?_
      refine m_iload dX9_tell_141 rfl ?_
      refine m_iload dX9_tell_143 rfl ?_
      refine m_mmax dX9_tell_145 tw_227 tw_158 tw_128 tw_159 (Nat.succ_pos K) (Nat.le_of_ble_eq_true rfl) ?_
      refine cl_X9_57 rfl (Nat.lt_succ_self K) dX9_tell_148 (Nat.le_of_ble_eq_true rfl) (MCi_go q (fun r9 h8 q => ?_))
      refine m_istore (lv' := [.ref 9, .int l1, .int l2, .int l3, .int l4, .int l5, .int l6, .int l7, .int l8, .int l9, .int r9]) dX9_tell_151 (Nat.le_of_ble_eq_true rfl) rfl rfl ?_
      refine m_iload dX9_tell_153 rfl ?_
      refine m_iconst (v := (-1)) dX9_tell_155 (by decide) ?_
      refine m_icmp_ne 161 dX9_tell_156 (by decide) (fun c10 => ?_) (fun c10 => ?_)
      · replace q := q.1 c10
        refine m_iload dX9_tell_161 rfl ?_
        refine m_iload dX9_tell_163 rfl ?_
        refine m_ishr dX9_tell_165 ?_
        refine m_iconst (v := 1) dX9_tell_166 (by decide) ?_
        refine m_iand dX9_tell_167 ?_
        refine m_if_eq 175 dX9_tell_168 (by decide) (fun c11 => ?_) (fun c11 => ?_)
        · replace q := q.1 c11
          refine m_iconst (v := 0) dX9_tell_175 (by decide) ?_
          refine m_istore (lv' := [.ref 9, .int l1, .int l2, .int l3, .int l4, .int l5, .int l6, .int 0, .int l8, .int l9, .int r9]) dX9_tell_176 (Nat.le_of_ble_eq_true rfl) rfl rfl ?_
          refine m_iload dX9_tell_178 rfl ?_
          refine m_if_eq 198 dX9_tell_180 (by decide) (fun c12 => ?_) (fun c12 => absurd c12 (by decide))
          refine m_iload dX9_tell_198 rfl ?_
          refine m_istore (lv' := [.ref 9, .int l1, .int l2, .int l3, .int l4, .int l5, .int r9, .int 0, .int l8, .int l9, .int r9]) dX9_tell_200 (Nat.le_of_ble_eq_true rfl) rfl rfl ?_
          refine m_iinc (v := (l9 + 1)) (lv' := [.ref 9, .int l1, .int l2, .int l3, .int l4, .int l5, .int r9, .int 0, .int l8, .int (l9 + 1), .int r9]) dX9_tell_202 (Nat.le_of_ble_eq_true rfl) rfl (congrArg (fun z => l9 + z) (by decide : Int32.ofInt 1 = 1)) rfl rfl ?_
          refine m_goto 115 dX9_tell_205 (by decide) ?_
          refine m_dropK (lv' := [.ref 9, .int l1, .int l2, .int l3, .int l4, .int l5, .int r9, .int 0, .int l8, .int (l9 + 1), .retAddr 0]) [10] rfl ?_
          exact q
        · replace q := q.2 c11
          refine m_iconst (v := 1) dX9_tell_171 (by decide) ?_
          refine m_goto 176 dX9_tell_172 (by decide) ?_
          refine m_istore (lv' := [.ref 9, .int l1, .int l2, .int l3, .int l4, .int l5, .int l6, .int 1, .int l8, .int l9, .int r9]) dX9_tell_176 (Nat.le_of_ble_eq_true rfl) rfl rfl ?_
          refine m_iload dX9_tell_178 rfl ?_
          refine m_if_eq 198 dX9_tell_180 (by decide) (fun c13 => absurd c13 (by decide)) (fun c13 => ?_)
          refine m_iload dX9_tell_183 rfl ?_
          refine m_iload dX9_tell_185 rfl ?_
          refine m_iconst (v := 1) dX9_tell_187 (by decide) ?_
          refine m_iload dX9_tell_188 rfl ?_
          refine m_ishl dX9_tell_190 ?_
          refine m_iconst (v := (-1)) dX9_tell_191 (by decide) ?_
          refine m_ixor dX9_tell_192 ?_
          refine m_iand dX9_tell_193 ?_
          refine m_ior dX9_tell_194 ?_
          refine m_goto 200 dX9_tell_195 (by decide) ?_
          obtain ⟨x14, ex14⟩ : ∃ z, z = (l6 ||| (r9 &&& ((1 <<< (l5 &&& 31)) ^^^ (-1)))) := ⟨_, rfl⟩
          rw [← ex14]
          replace q := q x14 ex14
          refine m_istore (lv' := [.ref 9, .int l1, .int l2, .int l3, .int l4, .int l5, .int x14, .int 1, .int l8, .int l9, .int r9]) dX9_tell_200 (Nat.le_of_ble_eq_true rfl) rfl rfl ?_
          refine m_iinc (v := (l9 + 1)) (lv' := [.ref 9, .int l1, .int l2, .int l3, .int l4, .int l5, .int x14, .int 1, .int l8, .int (l9 + 1), .int r9]) dX9_tell_202 (Nat.le_of_ble_eq_true rfl) rfl (congrArg (fun z => l9 + z) (by decide : Int32.ofInt 1 = 1)) rfl rfl ?_
          refine m_goto 115 dX9_tell_205 (by decide) ?_
          refine m_dropK (lv' := [.ref 9, .int l1, .int l2, .int l3, .int l4, .int l5, .int x14, .int 1, .int l8, .int (l9 + 1), .retAddr 0]) [10] rfl ?_
          exact q
      · replace q := q.2 c10
        refine m_iconst (v := (-1)) dX9_tell_159 (by decide) ?_
        exact m_iret dX9_tell_160 rfl q
set_option maxRecDepth 100000 in
theorem e_X9_tellOn {g : gT} {h : mh_T} {K : Nat} {P : Int32 → mh_T → Prop} (l1 : Int32) (l2 : Int32) (l3 : Int32) (l4 : Int32) (q : (vp_in l1 24) ∧ (((mI h 36 l1.toNatClampNeg) = 0 → (vp_in l2 18) ∧ (MCi g yX9_tell (uX9_tell K) [.ref 9, .int (l1 + 1), .int (mI h 38 l2.toNatClampNeg), .int (l3 ||| (1 <<< (l2 &&& 31))), .int l4] h (fun r5 h4 => P r5 h4))) ∧ (¬ (mI h 36 l1.toNatClampNeg) = 0 → MCi g yX9_tell (uX9_tell K) [.ref 9, .int (l1 + 1), .int 0, .int 0, .int l4] h (fun r7 h6 => P r7 h6)))) : MCi g yX9_tellOn (uX9_tellOn (K + 1)) [.ref 9, .int l1, .int l2, .int l3, .int l4] h P := by
  refine m_enter (by decide) rfl (Nat.le_of_ble_eq_true rfl) (lv := [.ref 9, .int l1, .int l2, .int l3, .int l4]) rfl ?_
  refine m_aload_n dX9_tellOn_0 rfl ?_
  refine gf_X9_18 rfl dX9_tellOn_1 ?_
  refine m_iload_n dX9_tellOn_4 rfl ?_
  obtain ⟨b1, q⟩ := q
  refine m_zaload dX9_tellOn_5 rfl (by decide) b1 ?_
  refine m_if_eq 21 dX9_tellOn_6 (by decide) (fun c2 => ?_) (fun c2 => ?_)
  · replace q := q.1 c2
    refine m_aload_n dX9_tellOn_21 rfl ?_
    refine m_iload_n dX9_tellOn_22 rfl ?_
    refine m_iconst (v := 1) dX9_tellOn_23 (by decide) ?_
    refine m_iadd dX9_tellOn_24 ?_
    refine m_aload_n dX9_tellOn_25 rfl ?_
    refine gf_X9_25 rfl dX9_tellOn_26 ?_
    refine m_iload_n dX9_tellOn_29 rfl ?_
    obtain ⟨b3, q⟩ := q
    refine m_iaload dX9_tellOn_30 rfl (by decide) b3 ?_
    refine m_iload_n dX9_tellOn_31 rfl ?_
    refine m_iconst (v := 1) dX9_tellOn_32 (by decide) ?_
    refine m_iload_n dX9_tellOn_33 rfl ?_
    refine m_ishl dX9_tellOn_34 ?_
    refine m_ior dX9_tellOn_35 ?_
    refine m_iload dX9_tellOn_36 rfl ?_
    refine cl_X9_53 rfl (Nat.lt_succ_self K) dX9_tellOn_38 (Nat.le_of_ble_eq_true rfl) (MCi_go q (fun r5 h4 q => ?_))
    exact m_iret dX9_tellOn_41 rfl q
  · replace q := q.2 c2
    refine m_aload_n dX9_tellOn_9 rfl ?_
    refine m_iload_n dX9_tellOn_10 rfl ?_
    refine m_iconst (v := 1) dX9_tellOn_11 (by decide) ?_
    refine m_iadd dX9_tellOn_12 ?_
    refine m_iconst (v := 0) dX9_tellOn_13 (by decide) ?_
    refine m_iconst (v := 0) dX9_tellOn_14 (by decide) ?_
    refine m_iload dX9_tellOn_15 rfl ?_
    refine cl_X9_53 rfl (Nat.lt_succ_self K) dX9_tellOn_17 (Nat.le_of_ble_eq_true rfl) (MCi_go q (fun r7 h6 q => ?_))
    exact m_iret dX9_tellOn_20 rfl q
