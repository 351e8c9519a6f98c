set_option maxRecDepth 100000 in
theorem e_X11_runLine {g : gT} {h : mh_T} {P : mh_T → Prop}  (q : ((mI h 11 13) = 0 → ∀ x2 : Int32, x2 = (mI h 46 (Int32.toNatClampNeg 158)) → ME g uX11_runLine 21 [.ref 11, .int x2, .int 0, .int 1, .retAddr 0] [] h (qV P)) ∧ (¬ (mI h 11 13) = 0 → P h)) : MCv g yX11_runLine uX11_runLine [.ref 11] h P := by
  refine m_enter (by decide) rfl (Nat.le_of_ble_eq_true rfl) (lv := [.ref 11, .retAddr 0, .retAddr 0, .retAddr 0, .retAddr 0]) rfl ?_
  refine m_aload_n dX11_runLine_0 rfl ?_
  refine gf_X11_107 rfl dX11_runLine_1 ?_
  refine m_if_eq 8 dX11_runLine_4 (by decide) (fun c1 => ?_) (fun c1 => ?_)
  · replace q := q.1 c1
    refine m_aload_n dX11_runLine_8 rfl ?_
    refine gf_X11_23 rfl dX11_runLine_9 ?_
    refine m_sipush (v := 158) dX11_runLine_12 (by decide) ?_
    refine m_iaload dX11_runLine_15 rfl (by decide) (by unfold vp_in; decide) ?_
    obtain ⟨x2, ex2⟩ : ∃ z, z = (mI h 46 (Int32.toNatClampNeg 158)) := ⟨_, rfl⟩
    rw [← ex2]
    replace q := q x2 ex2
    refine m_istore_n (lv' := [.ref 11, .int x2, .retAddr 0, .retAddr 0, .retAddr 0]) dX11_runLine_16 (Nat.le_of_ble_eq_true rfl) rfl rfl ?_
    refine m_iconst (v := 0) dX11_runLine_17 (by decide) ?_
    refine m_istore_n (lv' := [.ref 11, .int x2, .int 0, .retAddr 0, .retAddr 0]) dX11_runLine_18 (Nat.le_of_ble_eq_true rfl) rfl rfl ?_
    refine m_iconst (v := 1) dX11_runLine_19 (by decide) ?_
    refine m_istore_n (lv' := [.ref 11, .int x2, .int 0, .int 1, .retAddr 0]) dX11_runLine_20 (Nat.le_of_ble_eq_true rfl) rfl rfl ?_
    exact q
  · replace q := q.2 c1
    exact m_vret dX11_runLine_7 rfl q
set_option maxRecDepth 100000 in
theorem r_X11_runLine_21 {g : gT} {h : mh_T} {P : mh_T → Prop} (l1 : Int32) (l2 : Int32) (l3 : Int32) (q : (l3 = 0 → (vp_in (159 + l1) 346) ∧ (P (wI (wI h 46 (159 + l1).toNatClampNeg l2) 46 (Int32.toNatClampNeg 158) ((mI (wI h 46 (159 + l1).toNatClampNeg l2) 46 (Int32.toNatClampNeg 158)) + 1)))) ∧ (¬ l3 = 0 → MCi g yX11_named uX11_named [.ref 11, .int 1, .int 0] h (fun r4 h3 => (¬ (mI h3 11 13) = 0 → ((mI h3 11 13) = 0 → MCv g yX11_next uX11_next [.ref 11] h3 (fun h7 => (vp_in ((163 + (6 * l1)) + l2) 346) ∧ (MCi g yX11_number uX11_number [.ref 11, .int 0, .int 1] (wI h7 46 ((163 + (6 * l1)) + l2).toNatClampNeg r4) (fun r10 h9 => (vp_in ((187 + (6 * l1)) + l2) 346) ∧ (MCi g yX11_comma uX11_comma [.ref 11] (wI h9 46 ((187 + (6 * l1)) + l2).toNatClampNeg r10) (fun r13 h12 => ME g uX11_runLine 21 [.ref 11, .int l1, .int (l2 + 1), .int r13, .retAddr 0] [] h12 (qV P))))))) ∧ (¬ (mI h3 11 13) = 0 → P h3)) ∧ ((mI h3 11 13) = 0 → (¬ l2 = 6 → ((mI h3 11 13) = 0 → MCv g yX11_next uX11_next [.ref 11] h3 (fun h16 => (vp_in ((163 + (6 * l1)) + l2) 346) ∧ (MCi g yX11_number uX11_number [.ref 11, .int 0, .int 1] (wI h16 46 ((163 + (6 * l1)) + l2).toNatClampNeg r4) (fun r19 h18 => (vp_in ((187 + (6 * l1)) + l2) 346) ∧ (MCi g yX11_comma uX11_comma [.ref 11] (wI h18 46 ((187 + (6 * l1)) + l2).toNatClampNeg r19) (fun r22 h21 => ME g uX11_runLine 21 [.ref 11, .int l1, .int (l2 + 1), .int r22, .retAddr 0] [] h21 (qV P))))))) ∧ (¬ (mI h3 11 13) = 0 → P h3)) ∧ (l2 = 6 → MCv g yX11_wrong uX11_wrong [.ref 11, .int 5, .int (mI h3 11 4)] h3 (fun h23 => ((mI h23 11 13) = 0 → MCv g yX11_next uX11_next [.ref 11] h23 (fun h25 => (vp_in ((163 + (6 * l1)) + l2) 346) ∧ (MCi g yX11_number uX11_number [.ref 11, .int 0, .int 1] (wI h25 46 ((163 + (6 * l1)) + l2).toNatClampNeg r4) (fun r28 h27 => (vp_in ((187 + (6 * l1)) + l2) 346) ∧ (MCi g yX11_comma uX11_comma [.ref 11] (wI h27 46 ((187 + (6 * l1)) + l2).toNatClampNeg r28) (fun r31 h30 => ME g uX11_runLine 21 [.ref 11, .int l1, .int (l2 + 1), .int r31, .retAddr 0] [] h30 (qV P))))))) ∧ (¬ (mI h23 11 13) = 0 → P h23))))))) : ME g uX11_runLine 21 [.ref 11, .int l1, .int l2, .int l3, .retAddr 0] [] h (qV P) := by
  refine m_iload_n dX11_runLine_21 rfl ?_
  refine m_if_eq 116 dX11_runLine_22 (by decide) (fun c1 => ?_) (fun c1 => ?_)
  · replace q := q.1 c1
    refine m_aload_n dX11_runLine_116 rfl ?_
    refine gf_X11_23 rfl dX11_runLine_117 ?_
    refine m_sipush (v := 159) dX11_runLine_120 (by decide) ?_
    refine m_iload_n dX11_runLine_123 rfl ?_
    refine m_iadd dX11_runLine_124 ?_
    refine m_iload_n dX11_runLine_125 rfl ?_
    obtain ⟨b2, q⟩ := q
    refine m_iastore dX11_runLine_126 rfl (by decide) b2 ?_
    refine m_aload_n dX11_runLine_127 rfl ?_
    refine gf_X11_23 rfl dX11_runLine_128 ?_
    refine m_sipush (v := 158) dX11_runLine_131 (by decide) ?_
    refine m_dup2 dX11_runLine_134 rfl rfl ?_
    refine m_iaload dX11_runLine_135 rfl (by decide) (by unfold vp_in; decide) ?_
    refine m_iconst (v := 1) dX11_runLine_136 (by decide) ?_
    refine m_iadd dX11_runLine_137 ?_
    refine m_iastore dX11_runLine_138 rfl (by decide) (by unfold vp_in; decide) ?_
    exact m_vret dX11_runLine_139 rfl q
  · replace q := q.2 c1
    refine m_aload_n dX11_runLine_25 rfl ?_
    refine m_iconst (v := 1) dX11_runLine_26 (by decide) ?_
    refine m_iconst (v := 0) dX11_runLine_27 (by decide) ?_
    refine cl_X11_166 rfl (by decide) dX11_runLine_28 (Nat.le_of_ble_eq_true rfl) (MCi_go q (fun r4 h3 q => ?_))
    refine m_istore (lv' := [.ref 11, .int l1, .int l2, .int l3, .int r4]) dX11_runLine_31 (Nat.le_of_ble_eq_true rfl) rfl rfl ?_
    refine m_aload_n dX11_runLine_33 rfl ?_
    refine gf_X11_107 rfl dX11_runLine_34 ?_
    refine m_if_ne 55 dX11_runLine_37 (by decide) (fun c5 => ?_) (fun c5 => ?_)
    · replace q := q.1 c5
      refine m_aload_n dX11_runLine_55 rfl ?_
      refine gf_X11_107 rfl dX11_runLine_56 ?_
      refine m_if_eq 63 dX11_runLine_59 (by decide) (fun c6 => ?_) (fun c6 => ?_)
      · replace q := q.1 c6
        refine m_aload_n dX11_runLine_63 rfl ?_
        refine cl_X11_128 rfl (by decide) dX11_runLine_64 (Nat.le_of_ble_eq_true rfl) (MCv_go q (fun h7 q => ?_))
        refine m_aload_n dX11_runLine_67 rfl ?_
        refine gf_X11_23 rfl dX11_runLine_68 ?_
        refine m_sipush (v := 163) dX11_runLine_71 (by decide) ?_
        refine m_bipush (v := 6) dX11_runLine_74 (by decide) ?_
        refine m_iload_n dX11_runLine_76 rfl ?_
        refine m_imul dX11_runLine_77 ?_
        refine m_iadd dX11_runLine_78 ?_
        refine m_iload_n dX11_runLine_79 rfl ?_
        refine m_iadd dX11_runLine_80 ?_
        refine m_iload dX11_runLine_81 rfl ?_
        obtain ⟨b8, q⟩ := q
        refine m_iastore dX11_runLine_83 rfl (by decide) b8 ?_
        refine m_aload_n dX11_runLine_84 rfl ?_
        refine gf_X11_23 rfl dX11_runLine_85 ?_
        refine m_sipush (v := 187) dX11_runLine_88 (by decide) ?_
        refine m_bipush (v := 6) dX11_runLine_91 (by decide) ?_
        refine m_iload_n dX11_runLine_93 rfl ?_
        refine m_imul dX11_runLine_94 ?_
        refine m_iadd dX11_runLine_95 ?_
        refine m_iload_n dX11_runLine_96 rfl ?_
        refine m_iadd dX11_runLine_97 ?_
        refine m_aload_n dX11_runLine_98 rfl ?_
        refine m_iconst (v := 0) dX11_runLine_99 (by decide) ?_
        refine m_iconst (v := 1) dX11_runLine_100 (by decide) ?_
        refine cl_X11_227 rfl (by decide) dX11_runLine_101 (Nat.le_of_ble_eq_true rfl) (MCi_go q (fun r10 h9 q => ?_))
        obtain ⟨b11, q⟩ := q
        refine m_iastore dX11_runLine_104 rfl (by decide) b11 ?_
        refine m_iinc (v := (l2 + 1)) (lv' := [.ref 11, .int l1, .int (l2 + 1), .int l3, .int r4]) dX11_runLine_105 (Nat.le_of_ble_eq_true rfl) rfl (congrArg (fun z => l2 + z) (by decide : Int32.ofInt 1 = 1)) rfl rfl ?_
        refine m_aload_n dX11_runLine_108 rfl ?_
        refine cl_X11_158 rfl (by decide) dX11_runLine_109 (Nat.le_of_ble_eq_true rfl) (MCi_go q (fun r13 h12 q => ?_))
        refine m_istore_n (lv' := [.ref 11, .int l1, .int (l2 + 1), .int r13, .int r4]) dX11_runLine_112 (Nat.le_of_ble_eq_true rfl) rfl rfl ?_
        refine m_goto 21 dX11_runLine_113 (by decide) ?_
        refine m_dropK (lv' := [.ref 11, .int l1, .int (l2 + 1), .int r13, .retAddr 0]) [4] rfl ?_
        exact q
      · replace q := q.2 c6
        exact m_vret dX11_runLine_62 rfl q
    · replace q := q.2 c5
      refine m_iload_n dX11_runLine_40 rfl ?_
      refine m_bipush (v := 6) dX11_runLine_41 (by decide) ?_
      refine m_icmp_ne 55 dX11_runLine_43 (by decide) (fun c14 => ?_) (fun c14 => ?_)
      · replace q := q.1 c14
        refine m_aload_n dX11_runLine_55 rfl ?_
        refine gf_X11_107 rfl dX11_runLine_56 ?_
        refine m_if_eq 63 dX11_runLine_59 (by decide) (fun c15 => ?_) (fun c15 => ?_)
        · replace q := q.1 c15
          refine m_aload_n dX11_runLine_63 rfl ?_
          refine cl_X11_128 rfl (by decide) dX11_runLine_64 (Nat.le_of_ble_eq_true rfl) (MCv_go q (fun h16 q => ?_))
          refine m_aload_n dX11_runLine_67 rfl ?_
          refine gf_X11_23 rfl dX11_runLine_68 ?_
          refine m_sipush (v := 163) dX11_runLine_71 (by decide) ?_
          refine m_bipush (v := 6) dX11_runLine_74 (by decide) ?_
          refine m_iload_n dX11_runLine_76 rfl ?_
          refine m_imul dX11_runLine_77 ?_
          refine m_iadd dX11_runLine_78 ?_
          refine m_iload_n dX11_runLine_79 rfl ?_
          refine m_iadd dX11_runLine_80 ?_
          refine m_iload dX11_runLine_81 rfl ?_
          obtain ⟨b17, q⟩ := q
          refine m_iastore dX11_runLine_83 rfl (by decide) b17 ?_
          refine m_aload_n dX11_runLine_84 rfl ?_
          refine gf_X11_23 rfl dX11_runLine_85 ?_
          refine m_sipush (v := 187) dX11_runLine_88 (by decide) ?_
          refine m_bipush (v := 6) dX11_runLine_91 (by decide) ?_
          refine m_iload_n dX11_runLine_93 rfl ?_
          refine m_imul dX11_runLine_94 ?_
          refine m_iadd dX11_runLine_95 ?_
          refine m_iload_n dX11_runLine_96 rfl ?_
          refine m_iadd dX11_runLine_97 ?_
          refine m_aload_n dX11_runLine_98 rfl ?_
          refine m_iconst (v := 0) dX11_runLine_99 (by decide) ?_
          refine m_iconst (v := 1) dX11_runLine_100 (by decide) ?_
          refine cl_X11_227 rfl (by decide) dX11_runLine_101 (Nat.le_of_ble_eq_true rfl) (MCi_go q (fun r19 h18 q => ?_))
          obtain ⟨b20, q⟩ := q
          refine m_iastore dX11_runLine_104 rfl (by decide) b20 ?_
          refine m_iinc (v := (l2 + 1)) (lv' := [.ref 11, .int l1, .int (l2 + 1), .int l3, .int r4]) dX11_runLine_105 (Nat.le_of_ble_eq_true rfl) rfl (congrArg (fun z => l2 + z) (by decide : Int32.ofInt 1 = 1)) rfl rfl ?_
          refine m_aload_n dX11_runLine_108 rfl ?_
          refine cl_X11_158 rfl (by decide) dX11_runLine_109 (Nat.le_of_ble_eq_true rfl) (MCi_go q (fun r22 h21 q => ?_))
          refine m_istore_n (lv' := [.ref 11, .int l1, .int (l2 + 1), .int r22, .int r4]) dX11_runLine_112 (Nat.le_of_ble_eq_true rfl) rfl rfl ?_
          refine m_goto 21 dX11_runLine_113 (by decide) ?_
          refine m_dropK (lv' := [.ref 11, .int l1, .int (l2 + 1), .int r22, .retAddr 0]) [4] rfl ?_
          exact q
        · replace q := q.2 c15
          exact m_vret dX11_runLine_62 rfl q
      · replace q := q.2 c14
        refine m_aload_n dX11_runLine_46 rfl ?_
        refine m_iconst (v := 5) dX11_runLine_47 (by decide) ?_
        refine m_aload_n dX11_runLine_48 rfl ?_
        refine gf_X11_88 rfl dX11_runLine_49 ?_
        refine cl_X11_134 rfl (by decide) dX11_runLine_52 (Nat.le_of_ble_eq_true rfl) (MCv_go q (fun h23 q => ?_))
        refine m_aload_n dX11_runLine_55 rfl ?_
        refine gf_X11_107 rfl dX11_runLine_56 ?_
        refine m_if_eq 63 dX11_runLine_59 (by decide) (fun c24 => ?_) (fun c24 => ?_)
        · replace q := q.1 c24
          refine m_aload_n dX11_runLine_63 rfl ?_
          refine cl_X11_128 rfl (by decide) dX11_runLine_64 (Nat.le_of_ble_eq_true rfl) (MCv_go q (fun h25 q => ?_))
          refine m_aload_n dX11_runLine_67 rfl ?_
          refine gf_X11_23 rfl dX11_runLine_68 ?_
          refine m_sipush (v := 163) dX11_runLine_71 (by decide) ?_
          refine m_bipush (v := 6) dX11_runLine_74 (by decide) ?_
          refine m_iload_n dX11_runLine_76 rfl ?_
          refine m_imul dX11_runLine_77 ?_
          refine m_iadd dX11_runLine_78 ?_
          refine m_iload_n dX11_runLine_79 rfl ?_
          refine m_iadd dX11_runLine_80 ?_
          refine m_iload dX11_runLine_81 rfl ?_
          obtain ⟨b26, q⟩ := q
          refine m_iastore dX11_runLine_83 rfl (by decide) b26 ?_
          refine m_aload_n dX11_runLine_84 rfl ?_
          refine gf_X11_23 rfl dX11_runLine_85 ?_
          refine m_sipush (v := 187) dX11_runLine_88 (by decide) ?_
          refine m_bipush (v := 6) dX11_runLine_91 (by decide) ?_
          refine m_iload_n dX11_runLine_93 rfl ?_
          refine m_imul dX11_runLine_94 ?_
          refine m_iadd dX11_runLine_95 ?_
          refine m_iload_n dX11_runLine_96 rfl ?_
          refine m_iadd dX11_runLine_97 ?_
          refine m_aload_n dX11_runLine_98 rfl ?_
          refine m_iconst (v := 0) dX11_runLine_99 (by decide) ?_
          refine m_iconst (v := 1) dX11_runLine_100 (by decide) ?_
          refine cl_X11_227 rfl (by decide) dX11_runLine_101 (Nat.le_of_ble_eq_true rfl) (MCi_go q (fun r28 h27 q => ?_))
          obtain ⟨b29, q⟩ := q
          refine m_iastore dX11_runLine_104 rfl (by decide) b29 ?_
          refine m_iinc (v := (l2 + 1)) (lv' := [.ref 11, .int l1, .int (l2 + 1), .int l3, .int r4]) dX11_runLine_105 (Nat.le_of_ble_eq_true rfl) rfl (congrArg (fun z => l2 + z) (by decide : Int32.ofInt 1 = 1)) rfl rfl ?_
          refine m_aload_n dX11_runLine_108 rfl ?_
          refine cl_X11_158 rfl (by decide) dX11_runLine_109 (Nat.le_of_ble_eq_true rfl) (MCi_go q (fun r31 h30 q => ?_))
          refine m_istore_n (lv' := [.ref 11, .int l1, .int (l2 + 1), .int r31, .int r4]) dX11_runLine_112 (Nat.le_of_ble_eq_true rfl) rfl rfl ?_
          refine m_goto 21 dX11_runLine_113 (by decide) ?_
          refine m_dropK (lv' := [.ref 11, .int l1, .int (l2 + 1), .int r31, .retAddr 0]) [4] rfl ?_
          exact q
        · replace q := q.2 c24
          exact m_vret dX11_runLine_62 rfl q
set_option maxRecDepth 100000 in
theorem e_X11_fault {g : gT} {h : mh_T} {P : Int32 → mh_T → Prop}  (q : P (mI (wI h 11 0 0) 11 9) (wI h 11 0 0)) : MCi g yX11_fault uX11_fault [.ref 11] h P := by
  refine m_enter (by decide) rfl (Nat.le_of_ble_eq_true rfl) (lv := [.ref 11]) rfl ?_
  refine m_aload_n dX11_fault_0 rfl ?_
  refine m_iconst (v := 0) dX11_fault_1 (by decide) ?_
  refine pf_X11_69 rfl dX11_fault_2 ?_
  refine m_aload_n dX11_fault_5 rfl ?_
  refine gf_X11_111 rfl dX11_fault_6 ?_
  exact m_iret dX11_fault_9 rfl q
set_option maxRecDepth 100000 in
theorem e_X11_where {g : gT} {h : mh_T} {P : Int32 → mh_T → Prop}  (q : (¬ (mI (wI h 11 0 0) 11 11) = 4 → P (-1) (wI h 11 0 0)) ∧ ((mI (wI h 11 0 0) 11 11) = 4 → P (mI (wI h 11 0 0) 11 10) (wI h 11 0 0))) : MCi g yX11_where uX11_where [.ref 11] h P := by
  refine m_enter (by decide) rfl (Nat.le_of_ble_eq_true rfl) (lv := [.ref 11]) rfl ?_
  refine m_aload_n dX11_where_0 rfl ?_
  refine m_iconst (v := 0) dX11_where_1 (by decide) ?_
  refine pf_X11_69 rfl dX11_where_2 ?_
  refine m_aload_n dX11_where_5 rfl ?_
  refine gf_X11_72 rfl dX11_where_6 ?_
  refine m_iconst (v := 4) dX11_where_9 (by decide) ?_
  refine m_icmp_ne 20 dX11_where_10 (by decide) (fun c1 => ?_) (fun c1 => ?_)
  · replace q := q.1 c1
    refine m_iconst (v := (-1)) dX11_where_20 (by decide) ?_
    exact m_iret dX11_where_21 rfl q
  · replace q := q.2 c1
    refine m_aload_n dX11_where_13 rfl ?_
    refine gf_X11_13 rfl dX11_where_14 ?_
    refine m_goto 21 dX11_where_17 (by decide) ?_
    exact m_iret dX11_where_21 rfl q
set_option maxRecDepth 100000 in
theorem e_X11_isSet {g : gT} {h : mh_T} {P : Int32 → mh_T → Prop} (l1 : Int32) (q : ((mI h 11 14) = 0 → P 0 h) ∧ (¬ (mI h 11 14) = 0 → MCi g yX11_within uX11_within [.int l1, .int 0, .int ((mI h 45 (Int32.toNatClampNeg 0)) - 1)] h (fun r3 h2 => (r3 = 0 → P 0 h2) ∧ (¬ r3 = 0 → P 1 h2)))) : MCi g yX11_isSet uX11_isSet [.ref 11, .int l1] h P := by
  refine m_enter (by decide) rfl (Nat.le_of_ble_eq_true rfl) (lv := [.ref 11, .int l1]) rfl ?_
  refine m_aload_n dX11_isSet_0 rfl ?_
  refine gf_X11_183 rfl dX11_isSet_1 ?_
  refine m_if_eq 27 dX11_isSet_4 (by decide) (fun c1 => ?_) (fun c1 => ?_)
  · replace q := q.1 c1
    refine m_iconst (v := 0) dX11_isSet_27 (by decide) ?_
    exact m_zret dX11_isSet_28 rfl (by decide) q
  · replace q := q.2 c1
    refine m_iload_n dX11_isSet_7 rfl ?_
    refine m_iconst (v := 0) dX11_isSet_8 (by decide) ?_
    refine m_aload_n dX11_isSet_9 rfl ?_
    refine gf_X11_20 rfl dX11_isSet_10 ?_
    refine m_iconst (v := 0) dX11_isSet_13 (by decide) ?_
    refine m_iaload dX11_isSet_14 rfl (by decide) (by unfold vp_in; decide) ?_
    refine m_iconst (v := 1) dX11_isSet_15 (by decide) ?_
    refine m_isub dX11_isSet_16 ?_
    refine cl_X11_170 rfl (by decide) dX11_isSet_17 (Nat.le_of_ble_eq_true rfl) (MCi_go q (fun r3 h2 q => ?_))
    refine m_if_eq 27 dX11_isSet_20 (by decide) (fun c4 => ?_) (fun c4 => ?_)
    · replace q := q.1 c4
      refine m_iconst (v := 0) dX11_isSet_27 (by decide) ?_
      exact m_zret dX11_isSet_28 rfl (by decide) q
    · replace q := q.2 c4
      refine m_iconst (v := 1) dX11_isSet_23 (by decide) ?_
      refine m_goto 28 dX11_isSet_24 (by decide) ?_
      exact m_zret dX11_isSet_28 rfl (by decide) q
set_option maxRecDepth 100000 in
theorem e_X11_isLook {g : gT} {h : mh_T} {P : Int32 → mh_T → Prop} (l1 : Int32) (q : ((mI h 11 14) = 0 → P 0 h) ∧ (¬ (mI h 11 14) = 0 → MCi g yX11_within uX11_within [.int l1, .int 0, .int ((mI h 45 (Int32.toNatClampNeg 50)) - 1)] h (fun r3 h2 => (r3 = 0 → P 0 h2) ∧ (¬ r3 = 0 → P 1 h2)))) : MCi g yX11_isLook uX11_isLook [.ref 11, .int l1] h P := by
  refine m_enter (by decide) rfl (Nat.le_of_ble_eq_true rfl) (lv := [.ref 11, .int l1]) rfl ?_
  refine m_aload_n dX11_isLook_0 rfl ?_
  refine gf_X11_183 rfl dX11_isLook_1 ?_
  refine m_if_eq 28 dX11_isLook_4 (by decide) (fun c1 => ?_) (fun c1 => ?_)
  · replace q := q.1 c1
    refine m_iconst (v := 0) dX11_isLook_28 (by decide) ?_
    exact m_zret dX11_isLook_29 rfl (by decide) q
  · replace q := q.2 c1
    refine m_iload_n dX11_isLook_7 rfl ?_
    refine m_iconst (v := 0) dX11_isLook_8 (by decide) ?_
    refine m_aload_n dX11_isLook_9 rfl ?_
    refine gf_X11_20 rfl dX11_isLook_10 ?_
    refine m_bipush (v := 50) dX11_isLook_13 (by decide) ?_
    refine m_iaload dX11_isLook_15 rfl (by decide) (by unfold vp_in; decide) ?_
    refine m_iconst (v := 1) dX11_isLook_16 (by decide) ?_
    refine m_isub dX11_isLook_17 ?_
    refine cl_X11_170 rfl (by decide) dX11_isLook_18 (Nat.le_of_ble_eq_true rfl) (MCi_go q (fun r3 h2 q => ?_))
    refine m_if_eq 28 dX11_isLook_21 (by decide) (fun c4 => ?_) (fun c4 => ?_)
    · replace q := q.1 c4
      refine m_iconst (v := 0) dX11_isLook_28 (by decide) ?_
      exact m_zret dX11_isLook_29 rfl (by decide) q
    · replace q := q.2 c4
      refine m_iconst (v := 1) dX11_isLook_24 (by decide) ?_
      refine m_goto 29 dX11_isLook_25 (by decide) ?_
      exact m_zret dX11_isLook_29 rfl (by decide) q
set_option maxRecDepth 100000 in
theorem e_X11_outcomes {g : gT} {h : mh_T} {P : Int32 → mh_T → Prop} (l1 : Int32) (q : (vp_in (9 + l1) 346) ∧ ((¬ (mI h 45 (9 + l1).toNatClampNeg) = (-2) → P 4 h) ∧ ((mI h 45 (9 + l1).toNatClampNeg) = (-2) → P 2 h))) : MCi g yX11_outcomes uX11_outcomes [.ref 45, .int l1] h P := by
  refine m_enter (by decide) rfl (Nat.le_of_ble_eq_true rfl) (lv := [.ref 45, .int l1]) rfl ?_
  refine m_aload_n dX11_outcomes_0 rfl ?_
  refine m_bipush (v := 9) dX11_outcomes_1 (by decide) ?_
  refine m_iload_n dX11_outcomes_3 rfl ?_
  refine m_iadd dX11_outcomes_4 ?_
  obtain ⟨b1, q⟩ := q
  refine m_iaload dX11_outcomes_5 rfl (by decide) b1 ?_
  refine m_bipush (v := (-2)) dX11_outcomes_6 (by decide) ?_
  refine m_icmp_ne 15 dX11_outcomes_8 (by decide) (fun c2 => ?_) (fun c2 => ?_)
  · replace q := q.1 c2
    refine m_iconst (v := 4) dX11_outcomes_15 (by decide) ?_
    exact m_iret dX11_outcomes_16 rfl q
  · replace q := q.2 c2
    refine m_iconst (v := 2) dX11_outcomes_11 (by decide) ?_
    refine m_goto 16 dX11_outcomes_12 (by decide) ?_
    exact m_iret dX11_outcomes_16 rfl q
set_option maxRecDepth 100000 in
theorem e_X11_isOutcome {g : gT} {h : mh_T} {P : Int32 → mh_T → Prop} (l1 : Int32) (l2 : Int32) (q : MCi g yX11_isSet uX11_isSet [.ref 11, .int l1] h (fun r2 h1 => (r2 = 0 → P 0 h1) ∧ (¬ r2 = 0 → MCi g yX11_outcomes uX11_outcomes [.ref 45, .int l1] h1 (fun r5 h4 => MCi g yX11_within uX11_within [.int l2, .int 0, .int (r5 - 1)] h4 (fun r7 h6 => (r7 = 0 → P 0 h6) ∧ (¬ r7 = 0 → P 1 h6)))))) : MCi g yX11_isOutcome uX11_isOutcome [.ref 11, .int l1, .int l2] h P := by
  refine m_enter (by decide) rfl (Nat.le_of_ble_eq_true rfl) (lv := [.ref 11, .int l1, .int l2]) rfl ?_
  refine m_aload_n dX11_isOutcome_0 rfl ?_
  refine m_iload_n dX11_isOutcome_1 rfl ?_
  refine cl_X11_244 rfl (by decide) dX11_isOutcome_2 (Nat.le_of_ble_eq_true rfl) (MCi_go q (fun r2 h1 q => ?_))
  refine m_if_eq 30 dX11_isOutcome_5 (by decide) (fun c3 => ?_) (fun c3 => ?_)
  · replace q := q.1 c3
    refine m_iconst (v := 0) dX11_isOutcome_30 (by decide) ?_
    exact m_zret dX11_isOutcome_31 rfl (by decide) q
  · replace q := q.2 c3
    refine m_iload_n dX11_isOutcome_8 rfl ?_
    refine m_iconst (v := 0) dX11_isOutcome_9 (by decide) ?_
    refine m_aload_n dX11_isOutcome_10 rfl ?_
    refine gf_X11_20 rfl dX11_isOutcome_11 ?_
    refine m_iload_n dX11_isOutcome_14 rfl ?_
    refine cl_X11_247 rfl (by decide) dX11_isOutcome_15 (Nat.le_of_ble_eq_true rfl) (MCi_go q (fun r5 h4 q => ?_))
    refine m_iconst (v := 1) dX11_isOutcome_18 (by decide) ?_
    refine m_isub dX11_isOutcome_19 ?_
    refine cl_X11_170 rfl (by decide) dX11_isOutcome_20 (Nat.le_of_ble_eq_true rfl) (MCi_go q (fun r7 h6 q => ?_))
    refine m_if_eq 30 dX11_isOutcome_23 (by decide) (fun c8 => ?_) (fun c8 => ?_)
    · replace q := q.1 c8
      refine m_iconst (v := 0) dX11_isOutcome_30 (by decide) ?_
      exact m_zret dX11_isOutcome_31 rfl (by decide) q
    · replace q := q.2 c8
      refine m_iconst (v := 1) dX11_isOutcome_26 (by decide) ?_
      refine m_goto 31 dX11_isOutcome_27 (by decide) ?_
      exact m_zret dX11_isOutcome_31 rfl (by decide) q
set_option maxRecDepth 100000 in
theorem e_X11_hiddenMany {g : gT} {h : mh_T} {P : Int32 → mh_T → Prop}  (q : P (1 <<< ((mI h 45 (Int32.toNatClampNeg 50)) &&& 31)) h) : MCi g yX11_hiddenMany uX11_hiddenMany [.ref 11] h P := by
  refine m_enter (by decide) rfl (Nat.le_of_ble_eq_true rfl) (lv := [.ref 11]) rfl ?_
  refine m_iconst (v := 1) dX11_hiddenMany_0 (by decide) ?_
  refine m_aload_n dX11_hiddenMany_1 rfl ?_
  refine gf_X11_20 rfl dX11_hiddenMany_2 ?_
  refine m_bipush (v := 50) dX11_hiddenMany_5 (by decide) ?_
  refine m_iaload dX11_hiddenMany_7 rfl (by decide) (by unfold vp_in; decide) ?_
  refine m_ishl dX11_hiddenMany_8 ?_
  exact m_iret dX11_hiddenMany_9 rfl q
set_option maxRecDepth 100000 in
theorem e_X11_fitted {g : gT} {h : mh_T} {P : Int32 → mh_T → Prop} (l1 : Int32) (l2 : Int32) (q : (vp_in (1 + l1) 346) ∧ (∀ x2 : Int32, x2 = ((l2 >>> ((mI h 45 (1 + l1).toNatClampNeg) &&& 31)) &&& 1) → (vp_in (9 + l1) 346) ∧ ((¬ (mI h 45 (9 + l1).toNatClampNeg) = (-2) → (vp_in (9 + l1) 346) ∧ (P ((2 * x2) + ((l2 >>> ((mI h 45 (9 + l1).toNatClampNeg) &&& 31)) &&& 1)) h)) ∧ ((mI h 45 (9 + l1).toNatClampNeg) = (-2) → P x2 h)))) : MCi g yX11_fitted uX11_fitted [.ref 11, .int l1, .int l2] h P := by
  refine m_enter (by decide) rfl (Nat.le_of_ble_eq_true rfl) (lv := [.ref 11, .int l1, .int l2, .retAddr 0]) rfl ?_
  refine m_iload_n dX11_fitted_0 rfl ?_
  refine m_aload_n dX11_fitted_1 rfl ?_
  refine gf_X11_20 rfl dX11_fitted_2 ?_
  refine m_iconst (v := 1) dX11_fitted_5 (by decide) ?_
  refine m_iload_n dX11_fitted_6 rfl ?_
  refine m_iadd dX11_fitted_7 ?_
  obtain ⟨b1, q⟩ := q
  refine m_iaload dX11_fitted_8 rfl (by decide) b1 ?_
  refine m_ishr dX11_fitted_9 ?_
  refine m_iconst (v := 1) dX11_fitted_10 (by decide) ?_
  refine m_iand dX11_fitted_11 ?_
  obtain ⟨x2, ex2⟩ : ∃ z, z = ((l2 >>> ((mI h 45 (1 + l1).toNatClampNeg) &&& 31)) &&& 1) := ⟨_, rfl⟩
  rw [← ex2]
  replace q := q x2 ex2
  refine m_istore_n (lv' := [.ref 11, .int l1, .int l2, .int x2]) dX11_fitted_12 (Nat.le_of_ble_eq_true rfl) rfl rfl ?_
  refine m_aload_n dX11_fitted_13 rfl ?_
  refine gf_X11_20 rfl dX11_fitted_14 ?_
  refine m_bipush (v := 9) dX11_fitted_17 (by decide) ?_
  refine m_iload_n dX11_fitted_19 rfl ?_
  refine m_iadd dX11_fitted_20 ?_
  obtain ⟨b3, q⟩ := q
  refine m_iaload dX11_fitted_21 rfl (by decide) b3 ?_
  refine m_bipush (v := (-2)) dX11_fitted_22 (by decide) ?_
  refine m_icmp_ne 31 dX11_fitted_24 (by decide) (fun c4 => ?_) (fun c4 => ?_)
  · replace q := q.1 c4
    refine m_iconst (v := 2) dX11_fitted_31 (by decide) ?_
    refine m_iload_n dX11_fitted_32 rfl ?_
    refine m_imul dX11_fitted_33 ?_
    refine m_iload_n dX11_fitted_34 rfl ?_
    refine m_aload_n dX11_fitted_35 rfl ?_
    refine gf_X11_20 rfl dX11_fitted_36 ?_
    refine m_bipush (v := 9) dX11_fitted_39 (by decide) ?_
    refine m_iload_n dX11_fitted_41 rfl ?_
    refine m_iadd dX11_fitted_42 ?_
    obtain ⟨b5, q⟩ := q
    refine m_iaload dX11_fitted_43 rfl (by decide) b5 ?_
    refine m_ishr dX11_fitted_44 ?_
    refine m_iconst (v := 1) dX11_fitted_45 (by decide) ?_
    refine m_iand dX11_fitted_46 ?_
    refine m_iadd dX11_fitted_47 ?_
    exact m_iret dX11_fitted_48 rfl q
  · replace q := q.2 c4
    refine m_iload_n dX11_fitted_27 rfl ?_
    refine m_goto 48 dX11_fitted_28 (by decide) ?_
    exact m_iret dX11_fitted_48 rfl q
set_option maxRecDepth 100000 in
theorem e_X11_cell {g : gT} {h : mh_T} {P : Int32 → mh_T → Prop} (l0 : Int32) (l1 : Int32) (q : P ((97 * l0) + l1) h) : MCi g yX11_cell uX11_cell [.int l0, .int l1] h P := by
  refine m_enter (by decide) rfl (Nat.le_of_ble_eq_true rfl) (lv := [.int l0, .int l1]) rfl ?_
  refine m_bipush (v := 97) dX11_cell_0 (by decide) ?_
  refine m_iload_n dX11_cell_2 rfl ?_
  refine m_imul dX11_cell_3 ?_
  refine m_iload_n dX11_cell_4 rfl ?_
  refine m_iadd dX11_cell_5 ?_
  exact m_iret dX11_cell_6 rfl q
set_option maxRecDepth 100000 in
theorem e_X11_layTab {g : gT} {h : mh_T} {P : mh_T → Prop}  (q : MCi g yX11_hiddenMany uX11_hiddenMany [.ref 11] h (fun r2 h1 => ME g uX11_layTab 12 [.ref 11, .int r2, .int 0, .retAddr 0, .retAddr 0, .retAddr 0] [] (wI h1 11 30 0) (qV P))) : MCv g yX11_layTab uX11_layTab [.ref 11] h P := by
  refine m_enter (by decide) rfl (Nat.le_of_ble_eq_true rfl) (lv := [.ref 11, .retAddr 0, .retAddr 0, .retAddr 0, .retAddr 0, .retAddr 0]) rfl ?_
  refine m_aload_n dX11_layTab_0 rfl ?_
  refine cl_X11_251 rfl (by decide) dX11_layTab_1 (Nat.le_of_ble_eq_true rfl) (MCi_go q (fun r2 h1 q => ?_))
  refine m_istore_n (lv' := [.ref 11, .int r2, .retAddr 0, .retAddr 0, .retAddr 0, .retAddr 0]) dX11_layTab_4 (Nat.le_of_ble_eq_true rfl) rfl rfl ?_
  refine m_aload_n dX11_layTab_5 rfl ?_
  refine m_iconst (v := 0) dX11_layTab_6 (by decide) ?_
  refine pf_X11_254 rfl dX11_layTab_7 ?_
  refine m_iconst (v := 0) dX11_layTab_10 (by decide) ?_
  refine m_istore_n (lv' := [.ref 11, .int r2, .int 0, .retAddr 0, .retAddr 0, .retAddr 0]) dX11_layTab_11 (Nat.le_of_ble_eq_true rfl) rfl rfl ?_
  exact q
set_option maxRecDepth 100000 in
theorem r_X11_layTab_12 {g : gT} {h : mh_T} {P : mh_T → Prop} (l1 : Int32) (l2 : Int32) (q : ((mI h 45 (Int32.toNatClampNeg 0)) ≤ l2 → ME g uX11_layTab 59 [.ref 11, .int l1, .int 0, .retAddr 0, .retAddr 0, .retAddr 0] [] (wI h 11 31 ((l1 + (mI h 11 30)) + 1)) (qV P)) ∧ (¬ (mI h 45 (Int32.toNatClampNeg 0)) ≤ l2 → MCi g yX11_outcomes uX11_outcomes [.ref 45, .int l2] h (fun r3 h2 => ME g uX11_layTab 12 [.ref 11, .int l1, .int (l2 + 1), .retAddr 0, .retAddr 0, .retAddr 0] [] (wI h2 11 30 ((mI h 11 30) + r3)) (qV P)))) : ME g uX11_layTab 12 [.ref 11, .int l1, .int l2, .retAddr 0, .retAddr 0, .retAddr 0] [] h (qV P) := by
  refine m_iload_n dX11_layTab_12 rfl ?_
  refine m_aload_n dX11_layTab_13 rfl ?_
  refine gf_X11_20 rfl dX11_layTab_14 ?_
  refine m_iconst (v := 0) dX11_layTab_17 (by decide) ?_
  refine m_iaload dX11_layTab_18 rfl (by decide) (by unfold vp_in; decide) ?_
  refine m_icmp_ge 45 dX11_layTab_19 (by decide) (fun c1 => ?_) (fun c1 => ?_)
  · replace q := q.1 c1
    refine m_aload_n dX11_layTab_45 rfl ?_
    refine m_iload_n dX11_layTab_46 rfl ?_
    refine m_aload_n dX11_layTab_47 rfl ?_
    refine gf_X11_254 rfl dX11_layTab_48 ?_
    refine m_iadd dX11_layTab_51 ?_
    refine m_iconst (v := 1) dX11_layTab_52 (by decide) ?_
    refine m_iadd dX11_layTab_53 ?_
    refine pf_X11_257 rfl dX11_layTab_54 ?_
    refine m_iconst (v := 0) dX11_layTab_57 (by decide) ?_
    refine m_istore_n (lv' := [.ref 11, .int l1, .int 0, .retAddr 0, .retAddr 0, .retAddr 0]) dX11_layTab_58 (Nat.le_of_ble_eq_true rfl) rfl rfl ?_
    exact q
  · replace q := q.2 c1
    refine m_aload_n dX11_layTab_22 rfl ?_
    refine m_dup dX11_layTab_23 rfl ?_
    refine gf_X11_254 rfl dX11_layTab_24 ?_
    refine m_aload_n dX11_layTab_27 rfl ?_
    refine gf_X11_20 rfl dX11_layTab_28 ?_
    refine m_iload_n dX11_layTab_31 rfl ?_
    refine cl_X11_247 rfl (by decide) dX11_layTab_32 (Nat.le_of_ble_eq_true rfl) (MCi_go q (fun r3 h2 q => ?_))
    refine m_iadd dX11_layTab_35 ?_
    refine pf_X11_254 rfl dX11_layTab_36 ?_
    refine m_iinc (v := (l2 + 1)) (lv' := [.ref 11, .int l1, .int (l2 + 1), .retAddr 0, .retAddr 0, .retAddr 0]) dX11_layTab_39 (Nat.le_of_ble_eq_true rfl) rfl (congrArg (fun z => l2 + z) (by decide : Int32.ofInt 1 = 1)) rfl rfl ?_
    refine m_goto 12 dX11_layTab_42 (by decide) ?_
    exact q
set_option maxRecDepth 100000 in
theorem r_X11_layTab_59 {g : gT} {h : mh_T} {P : mh_T → Prop} (l1 : Int32) (l2 : Int32) (q : (3298 ≤ l2 → ME g uX11_layTab 83 [.ref 11, .int l1, .int 0, .int 0, .retAddr 0, .retAddr 0] [] h (qV P)) ∧ (¬ 3298 ≤ l2 → (vp_in l2 3298) ∧ (ME g uX11_layTab 59 [.ref 11, .int l1, .int (l2 + 1), .retAddr 0, .retAddr 0, .retAddr 0] [] (wL h 54 l2.toNatClampNeg 0) (qV P)))) : ME g uX11_layTab 59 [.ref 11, .int l1, .int l2, .retAddr 0, .retAddr 0, .retAddr 0] [] h (qV P) := by
  refine m_iload_n dX11_layTab_59 rfl ?_
  refine m_sipush (v := 3298) dX11_layTab_60 (by decide) ?_
  refine m_icmp_ge 79 dX11_layTab_63 (by decide) (fun c1 => ?_) (fun c1 => ?_)
  · replace q := q.1 c1
    refine m_iconst (v := 0) dX11_layTab_79 (by decide) ?_
    refine m_istore_n (lv' := [.ref 11, .int l1, .int 0, .retAddr 0, .retAddr 0, .retAddr 0]) dX11_layTab_80 (Nat.le_of_ble_eq_true rfl) rfl rfl ?_
    refine m_iconst (v := 0) dX11_layTab_81 (by decide) ?_
    refine m_istore_n (lv' := [.ref 11, .int l1, .int 0, .int 0, .retAddr 0, .retAddr 0]) dX11_layTab_82 (Nat.le_of_ble_eq_true rfl) rfl rfl ?_
    exact q
  · replace q := q.2 c1
    refine m_aload_n dX11_layTab_66 rfl ?_
    refine gf_X11_47 rfl dX11_layTab_67 ?_
    refine m_iload_n dX11_layTab_70 rfl ?_
    refine m_lconst (v := 0) dX11_layTab_71 (by decide) ?_
    obtain ⟨b2, q⟩ := q
    refine m_lastore dX11_layTab_72 rfl (by decide) b2 ?_
    refine m_iinc (v := (l2 + 1)) (lv' := [.ref 11, .int l1, .int (l2 + 1), .retAddr 0, .retAddr 0, .retAddr 0]) dX11_layTab_73 (Nat.le_of_ble_eq_true rfl) rfl (congrArg (fun z => l2 + z) (by decide : Int32.ofInt 1 = 1)) rfl rfl ?_
    refine m_goto 59 dX11_layTab_76 (by decide) ?_
    exact q
set_option maxRecDepth 100000 in
theorem r_X11_layTab_83 {g : gT} {h : mh_T} {P : mh_T → Prop} (l1 : Int32) (l2 : Int32) (l3 : Int32) (q : ((mI h 45 (Int32.toNatClampNeg 0)) ≤ l3 → ME g uX11_layTab 221 [.ref 11, .int l1, .int l2, .int 0, .retAddr 0, .retAddr 0] [] h (qV P)) ∧ (¬ (mI h 45 (Int32.toNatClampNeg 0)) ≤ l3 → ME g uX11_layTab 96 [.ref 11, .int l1, .int l2, .int l3, .int 0, .retAddr 0] [] h (qV P))) : ME g uX11_layTab 83 [.ref 11, .int l1, .int l2, .int l3, .retAddr 0, .retAddr 0] [] h (qV P) := by
  refine m_iload_n dX11_layTab_83 rfl ?_
  refine m_aload_n dX11_layTab_84 rfl ?_
  refine gf_X11_20 rfl dX11_layTab_85 ?_
  refine m_iconst (v := 0) dX11_layTab_88 (by decide) ?_
  refine m_iaload dX11_layTab_89 rfl (by decide) (by unfold vp_in; decide) ?_
  refine m_icmp_ge 219 dX11_layTab_90 (by decide) (fun c1 => ?_) (fun c1 => ?_)
  · replace q := q.1 c1
    refine m_iconst (v := 0) dX11_layTab_219 (by decide) ?_
    refine m_istore_n (lv' := [.ref 11, .int l1, .int l2, .int 0, .retAddr 0, .retAddr 0]) dX11_layTab_220 (Nat.le_of_ble_eq_true rfl) rfl rfl ?_
    exact q
  · replace q := q.2 c1
    refine m_iconst (v := 0) dX11_layTab_93 (by decide) ?_
    refine m_istore (lv' := [.ref 11, .int l1, .int l2, .int l3, .int 0, .retAddr 0]) dX11_layTab_94 (Nat.le_of_ble_eq_true rfl) rfl rfl ?_
    exact q
set_option maxRecDepth 100000 in
theorem r_X11_layTab_96 {g : gT} {h : mh_T} {P : mh_T → Prop} (l1 : Int32) (l2 : Int32) (l3 : Int32) (l4 : Int32) (q : MCi g yX11_outcomes uX11_outcomes [.ref 45, .int l3] h (fun r2 h1 => (r2 ≤ l4 → ME g uX11_layTab 83 [.ref 11, .int l1, .int l2, .int (l3 + 1), .retAddr 0, .retAddr 0] [] h1 (qV P)) ∧ (¬ r2 ≤ l4 → ME g uX11_layTab 112 [.ref 11, .int l1, .int l2, .int l3, .int l4, .int 0] [] h1 (qV P)))) : ME g uX11_layTab 96 [.ref 11, .int l1, .int l2, .int l3, .int l4, .retAddr 0] [] h (qV P) := by
  refine m_iload dX11_layTab_96 rfl ?_
  refine m_aload_n dX11_layTab_98 rfl ?_
  refine gf_X11_20 rfl dX11_layTab_99 ?_
  refine m_iload_n dX11_layTab_102 rfl ?_
  refine cl_X11_247 rfl (by decide) dX11_layTab_103 (Nat.le_of_ble_eq_true rfl) (MCi_go q (fun r2 h1 q => ?_))
  refine m_icmp_ge 213 dX11_layTab_106 (by decide) (fun c3 => ?_) (fun c3 => ?_)
  · replace q := q.1 c3
    refine m_iinc (v := (l3 + 1)) (lv' := [.ref 11, .int l1, .int l2, .int (l3 + 1), .int l4, .retAddr 0]) dX11_layTab_213 (Nat.le_of_ble_eq_true rfl) rfl (congrArg (fun z => l3 + z) (by decide : Int32.ofInt 1 = 1)) rfl rfl ?_
    refine m_goto 83 dX11_layTab_216 (by decide) ?_
    refine m_dropK (lv' := [.ref 11, .int l1, .int l2, .int (l3 + 1), .retAddr 0, .retAddr 0]) [4] rfl ?_
    exact q
  · replace q := q.2 c3
    refine m_iconst (v := 0) dX11_layTab_109 (by decide) ?_
    refine m_istore (lv' := [.ref 11, .int l1, .int l2, .int l3, .int l4, .int 0]) dX11_layTab_110 (Nat.le_of_ble_eq_true rfl) rfl rfl ?_
    exact q
set_option maxRecDepth 100000 in
theorem r_X11_layTab_112 {g : gT} {h : mh_T} {P : mh_T → Prop} (l1 : Int32) (l2 : Int32) (l3 : Int32) (l4 : Int32) (l5 : Int32) (q : (l1 ≤ l5 → MCi g yX11_cell uX11_cell [.int l2, .int (l1 + l2)] h (fun r3 h2 => (vp_in r3 3298) ∧ (MCi g yX11_cell uX11_cell [.int l2, .int ((mI (wL h2 54 r3.toNatClampNeg 1) 11 31) - 1)] (wL h2 54 r3.toNatClampNeg 1) (fun r6 h5 => (vp_in ((17 + (4 * l3)) + l4) 346) ∧ ((vp_in r6 3298) ∧ ((vp_in l2 32) ∧ (ME g uX11_layTab 96 [.ref 11, .int l1, .int (l2 + 1), .int l3, .int (l4 + 1), .retAddr 0] [] (wI (wL h5 54 r6.toNatClampNeg (Int32.toInt64 (mI h5 45 ((17 + (4 * l3)) + l4).toNatClampNeg))) 55 l2.toNatClampNeg (l1 + l2)) (qV P)))))))) ∧ (¬ l1 ≤ l5 → MCi g yX11_cell uX11_cell [.int l2, .int l5] h (fun r11 h10 => MCi g yX11_fitted uX11_fitted [.ref 11, .int l3, .int l5] h10 (fun r13 h12 => (¬ r13 = l4 → (vp_in r11 3298) ∧ (ME g uX11_layTab 112 [.ref 11, .int l1, .int l2, .int l3, .int l4, .int (l5 + 1)] [] (wL h12 54 r11.toNatClampNeg 0) (qV P))) ∧ (r13 = l4 → (vp_in r11 3298) ∧ (ME g uX11_layTab 112 [.ref 11, .int l1, .int l2, .int l3, .int l4, .int (l5 + 1)] [] (wL h12 54 r11.toNatClampNeg 1) (qV P))))))) : ME g uX11_layTab 112 [.ref 11, .int l1, .int l2, .int l3, .int l4, .int l5] [] h (qV P) := by
  refine m_iload dX11_layTab_112 rfl ?_
  refine m_iload_n dX11_layTab_114 rfl ?_
  refine m_icmp_ge 152 dX11_layTab_115 (by decide) (fun c1 => ?_) (fun c1 => ?_)
  · replace q := q.1 c1
    refine m_aload_n dX11_layTab_152 rfl ?_
    refine gf_X11_47 rfl dX11_layTab_153 ?_
    refine m_iload_n dX11_layTab_156 rfl ?_
    refine m_iload_n dX11_layTab_157 rfl ?_
    refine m_iload_n dX11_layTab_158 rfl ?_
    refine m_iadd dX11_layTab_159 ?_
    refine cl_X11_260 rfl (by decide) dX11_layTab_160 (Nat.le_of_ble_eq_true rfl) (MCi_go q (fun r3 h2 q => ?_))
    refine m_lconst (v := 1) dX11_layTab_163 (by decide) ?_
    obtain ⟨b4, q⟩ := q
    refine m_lastore dX11_layTab_164 rfl (by decide) b4 ?_
    refine m_aload_n dX11_layTab_165 rfl ?_
    refine gf_X11_47 rfl dX11_layTab_166 ?_
    refine m_iload_n dX11_layTab_169 rfl ?_
    refine m_aload_n dX11_layTab_170 rfl ?_
    refine gf_X11_257 rfl dX11_layTab_171 ?_
    refine m_iconst (v := 1) dX11_layTab_174 (by decide) ?_
    refine m_isub dX11_layTab_175 ?_
    refine cl_X11_260 rfl (by decide) dX11_layTab_176 (Nat.le_of_ble_eq_true rfl) (MCi_go q (fun r6 h5 q => ?_))
    refine m_aload_n dX11_layTab_179 rfl ?_
    refine gf_X11_20 rfl dX11_layTab_180 ?_
    refine m_bipush (v := 17) dX11_layTab_183 (by decide) ?_
    refine m_iconst (v := 4) dX11_layTab_185 (by decide) ?_
    refine m_iload_n dX11_layTab_186 rfl ?_
    refine m_imul dX11_layTab_187 ?_
    refine m_iadd dX11_layTab_188 ?_
    refine m_iload dX11_layTab_189 rfl ?_
    refine m_iadd dX11_layTab_191 ?_
    obtain ⟨b7, q⟩ := q
    refine m_iaload dX11_layTab_192 rfl (by decide) b7 ?_
    refine m_i2l dX11_layTab_193 ?_
    obtain ⟨b8, q⟩ := q
    refine m_lastore dX11_layTab_194 rfl (by decide) b8 ?_
    refine m_aload_n dX11_layTab_195 rfl ?_
    refine gf_X11_51 rfl dX11_layTab_196 ?_
    refine m_iload_n dX11_layTab_199 rfl ?_
    refine m_iload_n dX11_layTab_200 rfl ?_
    refine m_iload_n dX11_layTab_201 rfl ?_
    refine m_iadd dX11_layTab_202 ?_
    obtain ⟨b9, q⟩ := q
    refine m_iastore dX11_layTab_203 rfl (by decide) b9 ?_
    refine m_iinc (v := (l2 + 1)) (lv' := [.ref 11, .int l1, .int (l2 + 1), .int l3, .int l4, .int l5]) dX11_layTab_204 (Nat.le_of_ble_eq_true rfl) rfl (congrArg (fun z => l2 + z) (by decide : Int32.ofInt 1 = 1)) rfl rfl ?_
    refine m_iinc (v := (l4 + 1)) (lv' := [.ref 11, .int l1, .int (l2 + 1), .int l3, .int (l4 + 1), .int l5]) dX11_layTab_207 (Nat.le_of_ble_eq_true rfl) rfl (congrArg (fun z => l4 + z) (by decide : Int32.ofInt 1 = 1)) rfl rfl ?_
    refine m_goto 96 dX11_layTab_210 (by decide) ?_
    refine m_dropK (lv' := [.ref 11, .int l1, .int (l2 + 1), .int l3, .int (l4 + 1), .retAddr 0]) [5] rfl ?_
    exact q
  · replace q := q.2 c1
    refine m_aload_n dX11_layTab_118 rfl ?_
    refine gf_X11_47 rfl dX11_layTab_119 ?_
    refine m_iload_n dX11_layTab_122 rfl ?_
    refine m_iload dX11_layTab_123 rfl ?_
    refine cl_X11_260 rfl (by decide) dX11_layTab_125 (Nat.le_of_ble_eq_true rfl) (MCi_go q (fun r11 h10 q => ?_))
    refine m_aload_n dX11_layTab_128 rfl ?_
    refine m_iload_n dX11_layTab_129 rfl ?_
    refine m_iload dX11_layTab_130 rfl ?_
    refine cl_X11_263 rfl (by decide) dX11_layTab_132 (Nat.le_of_ble_eq_true rfl) (MCi_go q (fun r13 h12 q => ?_))
    refine m_iload dX11_layTab_135 rfl ?_
    refine m_icmp_ne 144 dX11_layTab_137 (by decide) (fun c14 => ?_) (fun c14 => ?_)
    · replace q := q.1 c14
      refine m_lconst (v := 0) dX11_layTab_144 (by decide) ?_
      obtain ⟨b15, q⟩ := q
      refine m_lastore dX11_layTab_145 rfl (by decide) b15 ?_
      refine m_iinc (v := (l5 + 1)) (lv' := [.ref 11, .int l1, .int l2, .int l3, .int l4, .int (l5 + 1)]) dX11_layTab_146 (Nat.le_of_ble_eq_true rfl) rfl (congrArg (fun z => l5 + z) (by decide : Int32.ofInt 1 = 1)) rfl rfl ?_
      refine m_goto 112 dX11_layTab_149 (by decide) ?_
      exact q
    · replace q := q.2 c14
      refine m_lconst (v := 1) dX11_layTab_140 (by decide) ?_
      refine m_goto 145 dX11_layTab_141 (by decide) ?_
      obtain ⟨b16, q⟩ := q
      refine m_lastore dX11_layTab_145 rfl (by decide) b16 ?_
      refine m_iinc (v := (l5 + 1)) (lv' := [.ref 11, .int l1, .int l2, .int l3, .int l4, .int (l5 + 1)]) dX11_layTab_146 (Nat.le_of_ble_eq_true rfl) rfl (congrArg (fun z => l5 + z) (by decide : Int32.ofInt 1 = 1)) rfl rfl ?_
      refine m_goto 112 dX11_layTab_149 (by decide) ?_
      exact q
set_option maxRecDepth 100000 in
theorem r_X11_layTab_221 {g : gT} {h : mh_T} {P : mh_T → Prop} (l1 : Int32) (l2 : Int32) (l3 : Int32) (q : (l1 ≤ l3 → P (wL h 11 29 1)) ∧ (¬ l1 ≤ l3 → MCi g yX11_cell uX11_cell [.int (mI h 11 30), .int l3] h (fun r3 h2 => (vp_in r3 3298) ∧ (ME g uX11_layTab 221 [.ref 11, .int l1, .int l2, .int (l3 + 1), .retAddr 0, .retAddr 0] [] (wL h2 54 r3.toNatClampNeg (-1)) (qV P))))) : ME g uX11_layTab 221 [.ref 11, .int l1, .int l2, .int l3, .retAddr 0, .retAddr 0] [] h (qV P) := by
  refine m_iload_n dX11_layTab_221 rfl ?_
  refine m_iload_n dX11_layTab_222 rfl ?_
  refine m_icmp_ge 248 dX11_layTab_223 (by decide) (fun c1 => ?_) (fun c1 => ?_)
  · replace q := q.1 c1
    refine m_aload_n dX11_layTab_248 rfl ?_
    refine m_lconst (v := 1) dX11_layTab_249 (by decide) ?_
    refine pf_X11_268 rfl dX11_layTab_250 ?_
    exact m_vret dX11_layTab_253 rfl q
  · replace q := q.2 c1
    refine m_aload_n dX11_layTab_226 rfl ?_
    refine gf_X11_47 rfl dX11_layTab_227 ?_
    refine m_aload_n dX11_layTab_230 rfl ?_
    refine gf_X11_254 rfl dX11_layTab_231 ?_
    refine m_iload_n dX11_layTab_234 rfl ?_
    refine cl_X11_260 rfl (by decide) dX11_layTab_235 (Nat.le_of_ble_eq_true rfl) (MCi_go q (fun r3 h2 q => ?_))
    refine m_ldc2 (v := (-1)) dX11_layTab_238 tw_833 ?_
    obtain ⟨b4, q⟩ := q
    refine m_lastore dX11_layTab_241 rfl (by decide) b4 ?_
    refine m_iinc (v := (l3 + 1)) (lv' := [.ref 11, .int l1, .int l2, .int (l3 + 1), .retAddr 0, .retAddr 0]) dX11_layTab_242 (Nat.le_of_ble_eq_true rfl) rfl (congrArg (fun z => l3 + z) (by decide : Int32.ofInt 1 = 1)) rfl rfl ?_
    refine m_goto 221 dX11_layTab_245 (by decide) ?_
    exact q
set_option maxRecDepth 100000 in
theorem e_X11_turnOver {g : gT} {h : mh_T} {P : mh_T → Prop} (l1 : Int32) (l2 : Int32) (q : MCi g yX11_cell uX11_cell [.int l1, .int l2] h (fun r2 h1 => (vp_in r2 3298) ∧ (∀ x4 : Int64, x4 = (mL h1 54 r2.toNatClampNeg) → ME g uX11_turnOver 14 [.ref 11, .int l1, .int l2, .long x4, .retAddr 0, .int 0, .retAddr 0, .retAddr 0, .retAddr 0] [] h1 (qV P)))) : MCv g yX11_turnOver uX11_turnOver [.ref 11, .int l1, .int l2] h P := by
  refine m_enter (by decide) rfl (Nat.le_of_ble_eq_true rfl) (lv := [.ref 11, .int l1, .int l2, .retAddr 0, .retAddr 0, .retAddr 0, .retAddr 0, .retAddr 0, .retAddr 0]) rfl ?_
  refine m_aload_n dX11_turnOver_0 rfl ?_
  refine gf_X11_47 rfl dX11_turnOver_1 ?_
  refine m_iload_n dX11_turnOver_4 rfl ?_
  refine m_iload_n dX11_turnOver_5 rfl ?_
  refine cl_X11_260 rfl (by decide) dX11_turnOver_6 (Nat.le_of_ble_eq_true rfl) (MCi_go q (fun r2 h1 q => ?_))
  obtain ⟨b3, q⟩ := q
  refine m_laload dX11_turnOver_9 rfl (by decide) b3 ?_
  obtain ⟨x4, ex4⟩ : ∃ z, z = (mL h1 54 r2.toNatClampNeg) := ⟨_, rfl⟩
  rw [← ex4]
  replace q := q x4 ex4
  refine m_lstore_n (lv' := [.ref 11, .int l1, .int l2, .long x4, .retAddr 0, .retAddr 0, .retAddr 0, .retAddr 0, .retAddr 0]) dX11_turnOver_10 (Nat.le_of_ble_eq_true rfl) rfl rfl ?_
  refine m_iconst (v := 0) dX11_turnOver_11 (by decide) ?_
  refine m_istore (lv' := [.ref 11, .int l1, .int l2, .long x4, .retAddr 0, .int 0, .retAddr 0, .retAddr 0, .retAddr 0]) dX11_turnOver_12 (Nat.le_of_ble_eq_true rfl) rfl rfl ?_
  exact q
set_option maxRecDepth 100000 in
theorem r_X11_turnOver_14 {g : gT} {h : mh_T} {P : mh_T → Prop} (l1 : Int32) (l2 : Int32) (l3 : Int64) (l5 : Int32) (q : (((mI h 11 30) + 1) < l5 → (vp_in l1 32) ∧ (P (wI (wL h 11 29 l3) 55 l1.toNatClampNeg l2))) ∧ (¬ ((mI h 11 30) + 1) < l5 → (¬ l5 = l1 → MCi g yX11_cell uX11_cell [.int l5, .int l2] h (fun r5 h4 => (vp_in r5 3298) ∧ (∀ x7 : Int64, x7 = (mL h4 54 r5.toNatClampNeg) → ME g uX11_turnOver 50 [.ref 11, .int l1, .int l2, .long l3, .retAddr 0, .int l5, .long x7, .retAddr 0, .int 0] [] h4 (qV P)))) ∧ (l5 = l1 → ME g uX11_turnOver 14 [.ref 11, .int l1, .int l2, .long l3, .retAddr 0, .int (l5 + 1), .retAddr 0, .retAddr 0, .retAddr 0] [] h (qV P)))) : ME g uX11_turnOver 14 [.ref 11, .int l1, .int l2, .long l3, .retAddr 0, .int l5, .retAddr 0, .retAddr 0, .retAddr 0] [] h (qV P) := by
  refine m_iload dX11_turnOver_14 rfl ?_
  refine m_aload_n dX11_turnOver_16 rfl ?_
  refine gf_X11_254 rfl dX11_turnOver_17 ?_
  refine m_iconst (v := 1) dX11_turnOver_20 (by decide) ?_
  refine m_iadd dX11_turnOver_21 ?_
  refine m_icmp_gt 117 dX11_turnOver_22 (by decide) (fun c1 => ?_) (fun c1 => ?_)
  · replace q := q.1 c1
    refine m_aload_n dX11_turnOver_117 rfl ?_
    refine m_lload_n dX11_turnOver_118 rfl ?_
    refine pf_X11_268 rfl dX11_turnOver_119 ?_
    refine m_aload_n dX11_turnOver_122 rfl ?_
    refine gf_X11_51 rfl dX11_turnOver_123 ?_
    refine m_iload_n dX11_turnOver_126 rfl ?_
    refine m_iload_n dX11_turnOver_127 rfl ?_
    obtain ⟨b2, q⟩ := q
    refine m_iastore dX11_turnOver_128 rfl (by decide) b2 ?_
    exact m_vret dX11_turnOver_129 rfl q
  · replace q := q.2 c1
    refine m_iload dX11_turnOver_25 rfl ?_
    refine m_iload_n dX11_turnOver_27 rfl ?_
    refine m_icmp_ne 34 dX11_turnOver_28 (by decide) (fun c3 => ?_) (fun c3 => ?_)
    · replace q := q.1 c3
      refine m_aload_n dX11_turnOver_34 rfl ?_
      refine gf_X11_47 rfl dX11_turnOver_35 ?_
      refine m_iload dX11_turnOver_38 rfl ?_
      refine m_iload_n dX11_turnOver_40 rfl ?_
      refine cl_X11_260 rfl (by decide) dX11_turnOver_41 (Nat.le_of_ble_eq_true rfl) (MCi_go q (fun r5 h4 q => ?_))
      obtain ⟨b6, q⟩ := q
      refine m_laload dX11_turnOver_44 rfl (by decide) b6 ?_
      obtain ⟨x7, ex7⟩ : ∃ z, z = (mL h4 54 r5.toNatClampNeg) := ⟨_, rfl⟩
      rw [← ex7]
      replace q := q x7 ex7
      refine m_lstore (lv' := [.ref 11, .int l1, .int l2, .long l3, .retAddr 0, .int l5, .long x7, .retAddr 0, .retAddr 0]) dX11_turnOver_45 (Nat.le_of_ble_eq_true rfl) rfl rfl ?_
      refine m_iconst (v := 0) dX11_turnOver_47 (by decide) ?_
      refine m_istore (lv' := [.ref 11, .int l1, .int l2, .long l3, .retAddr 0, .int l5, .long x7, .retAddr 0, .int 0]) dX11_turnOver_48 (Nat.le_of_ble_eq_true rfl) rfl rfl ?_
      exact q
    · replace q := q.2 c3
      refine m_goto 111 dX11_turnOver_31 (by decide) ?_
      refine m_iinc (v := (l5 + 1)) (lv' := [.ref 11, .int l1, .int l2, .long l3, .retAddr 0, .int (l5 + 1), .retAddr 0, .retAddr 0, .retAddr 0]) dX11_turnOver_111 (Nat.le_of_ble_eq_true rfl) rfl (congrArg (fun z => l5 + z) (by decide : Int32.ofInt 1 = 1)) rfl rfl ?_
      refine m_goto 14 dX11_turnOver_114 (by decide) ?_
      exact q
set_option maxRecDepth 100000 in
theorem r_X11_turnOver_50 {g : gT} {h : mh_T} {P : mh_T → Prop} (l1 : Int32) (l2 : Int32) (l3 : Int64) (l5 : Int32) (l6 : Int64) (l8 : Int32) (q : ((mI h 11 31) ≤ l8 → ME g uX11_turnOver 14 [.ref 11, .int l1, .int l2, .long l3, .retAddr 0, .int (l5 + 1), .retAddr 0, .retAddr 0, .retAddr 0] [] h (qV P)) ∧ (¬ (mI h 11 31) ≤ l8 → MCi g yX11_cell uX11_cell [.int l5, .int l8] h (fun r3 h2 => MCi g yX11_cell uX11_cell [.int l5, .int l8] h2 (fun r5 h4 => (vp_in r5 3298) ∧ (MCi g yX11_cell uX11_cell [.int l1, .int l8] h4 (fun r8 h7 => (vp_in r8 3298) ∧ ((¬ (mL h7 11 29) = 0) ∧ ((vp_in r3 3298) ∧ (ME g uX11_turnOver 50 [.ref 11, .int l1, .int l2, .long l3, .retAddr 0, .int l5, .long l6, .retAddr 0, .int (l8 + 1)] [] (wL h7 54 r3.toNatClampNeg ((((mL h4 54 r5.toNatClampNeg) * l3) - (l6 * (mL h7 54 r8.toNatClampNeg))) / (mL h7 11 29))) (qV P)))))))))) : ME g uX11_turnOver 50 [.ref 11, .int l1, .int l2, .long l3, .retAddr 0, .int l5, .long l6, .retAddr 0, .int l8] [] h (qV P) := by
  refine m_iload dX11_turnOver_50 rfl ?_
  refine m_aload_n dX11_turnOver_52 rfl ?_
  refine gf_X11_257 rfl dX11_turnOver_53 ?_
  refine m_icmp_ge 111 dX11_turnOver_56 (by decide) (fun c1 => ?_) (fun c1 => ?_)
  · replace q := q.1 c1
    refine m_iinc (v := (l5 + 1)) (lv' := [.ref 11, .int l1, .int l2, .long l3, .retAddr 0, .int (l5 + 1), .long l6, .retAddr 0, .int l8]) dX11_turnOver_111 (Nat.le_of_ble_eq_true rfl) rfl (congrArg (fun z => l5 + z) (by decide : Int32.ofInt 1 = 1)) rfl rfl ?_
    refine m_goto 14 dX11_turnOver_114 (by decide) ?_
    refine m_dropK (lv' := [.ref 11, .int l1, .int l2, .long l3, .retAddr 0, .int (l5 + 1), .retAddr 0, .retAddr 0, .retAddr 0]) [6, 8] rfl ?_
    exact q
  · replace q := q.2 c1
    refine m_aload_n dX11_turnOver_59 rfl ?_
    refine gf_X11_47 rfl dX11_turnOver_60 ?_
    refine m_iload dX11_turnOver_63 rfl ?_
    refine m_iload dX11_turnOver_65 rfl ?_
    refine cl_X11_260 rfl (by decide) dX11_turnOver_67 (Nat.le_of_ble_eq_true rfl) (MCi_go q (fun r3 h2 q => ?_))
    refine m_aload_n dX11_turnOver_70 rfl ?_
    refine gf_X11_47 rfl dX11_turnOver_71 ?_
    refine m_iload dX11_turnOver_74 rfl ?_
    refine m_iload dX11_turnOver_76 rfl ?_
    refine cl_X11_260 rfl (by decide) dX11_turnOver_78 (Nat.le_of_ble_eq_true rfl) (MCi_go q (fun r5 h4 q => ?_))
    obtain ⟨b6, q⟩ := q
    refine m_laload dX11_turnOver_81 rfl (by decide) b6 ?_
    refine m_lload_n dX11_turnOver_82 rfl ?_
    refine m_lmul dX11_turnOver_83 ?_
    refine m_lload dX11_turnOver_84 rfl ?_
    refine m_aload_n dX11_turnOver_86 rfl ?_
    refine gf_X11_47 rfl dX11_turnOver_87 ?_
    refine m_iload_n dX11_turnOver_90 rfl ?_
    refine m_iload dX11_turnOver_91 rfl ?_
    refine cl_X11_260 rfl (by decide) dX11_turnOver_93 (Nat.le_of_ble_eq_true rfl) (MCi_go q (fun r8 h7 q => ?_))
    obtain ⟨b9, q⟩ := q
    refine m_laload dX11_turnOver_96 rfl (by decide) b9 ?_
    refine m_lmul dX11_turnOver_97 ?_
    refine m_lsub dX11_turnOver_98 ?_
    refine m_aload_n dX11_turnOver_99 rfl ?_
    refine gf_X11_268 rfl dX11_turnOver_100 ?_
    obtain ⟨b10, q⟩ := q
    refine m_ldiv dX11_turnOver_103 b10 ?_
    obtain ⟨b11, q⟩ := q
    refine m_lastore dX11_turnOver_104 rfl (by decide) b11 ?_
    refine m_iinc (v := (l8 + 1)) (lv' := [.ref 11, .int l1, .int l2, .long l3, .retAddr 0, .int l5, .long l6, .retAddr 0, .int (l8 + 1)]) dX11_turnOver_105 (Nat.le_of_ble_eq_true rfl) rfl (congrArg (fun z => l8 + z) (by decide : Int32.ofInt 1 = 1)) rfl rfl ?_
    refine m_goto 50 dX11_turnOver_108 (by decide) ?_
    exact q
set_option maxRecDepth 100000 in
theorem e_X11_bounding {g : gT} {h : mh_T} {P : Int32 → mh_T → Prop} (l1 : Int32) (q : ME g uX11_bounding 4 [.ref 11, .int l1, .int (-1), .int 0, .retAddr 0, .retAddr 0, .retAddr 0, .retAddr 0, .retAddr 0, .retAddr 0, .retAddr 0, .retAddr 0] [] h (qI P)) : MCi g yX11_bounding uX11_bounding [.ref 11, .int l1] h P := by
  refine m_enter (by decide) rfl (Nat.le_of_ble_eq_true rfl) (lv := [.ref 11, .int l1, .retAddr 0, .retAddr 0, .retAddr 0, .retAddr 0, .retAddr 0, .retAddr 0, .retAddr 0, .retAddr 0, .retAddr 0, .retAddr 0]) rfl ?_
  refine m_iconst (v := (-1)) dX11_bounding_0 (by decide) ?_
  refine m_istore_n (lv' := [.ref 11, .int l1, .int (-1), .retAddr 0, .retAddr 0, .retAddr 0, .retAddr 0, .retAddr 0, .retAddr 0, .retAddr 0, .retAddr 0, .retAddr 0]) dX11_bounding_1 (Nat.le_of_ble_eq_true rfl) rfl rfl ?_
  refine m_iconst (v := 0) dX11_bounding_2 (by decide) ?_
  refine m_istore_n (lv' := [.ref 11, .int l1, .int (-1), .int 0, .retAddr 0, .retAddr 0, .retAddr 0, .retAddr 0, .retAddr 0, .retAddr 0, .retAddr 0, .retAddr 0]) dX11_bounding_3 (Nat.le_of_ble_eq_true rfl) rfl rfl ?_
  exact q
set_option maxRecDepth 100000 in
theorem r_X11_bounding_4 {g : gT} {h : mh_T} {P : Int32 → mh_T → Prop} (l1 : Int32) (l2 : Int32) (l3 : Int32) (q : ((mI h 11 30) ≤ l3 → P l2 h) ∧ (¬ (mI h 11 30) ≤ l3 → MCi g yX11_cell uX11_cell [.int l3, .int l1] h (fun r3 h2 => (vp_in r3 3298) ∧ (∀ x5 : Int64, x5 = (mL h2 54 r3.toNatClampNeg) → (0 < (lg_cmp x5 0) → (0 ≤ l2 → MCi g yX11_cell uX11_cell [.int l2, .int l1] h2 (fun r9 h8 => (vp_in r9 3298) ∧ (∀ x11 : Int64, x11 = (mL h8 54 r9.toNatClampNeg) → MCi g yX11_cell uX11_cell [.int l3, .int ((mI h8 11 31) - 1)] h8 (fun r13 h12 => (vp_in r13 3298) ∧ (∀ x15 : Int64, x15 = ((mL h12 54 r13.toNatClampNeg) * x11) → MCi g yX11_cell uX11_cell [.int l2, .int ((mI h12 11 31) - 1)] h12 (fun r17 h16 => (vp_in r17 3298) ∧ (∀ x19 : Int64, x19 = ((mL h16 54 r17.toNatClampNeg) * x5) → ((lg_cmp x15 x19) < 0 → ME g uX11_bounding 4 [.ref 11, .int l1, .int l3, .int (l3 + 1), .retAddr 0, .retAddr 0, .retAddr 0, .retAddr 0, .retAddr 0, .retAddr 0, .retAddr 0, .retAddr 0] [] h16 (qI P)) ∧ (¬ (lg_cmp x15 x19) < 0 → (¬ (lg_cmp x15 x19) = 0 → ME g uX11_bounding 4 [.ref 11, .int l1, .int l2, .int (l3 + 1), .retAddr 0, .retAddr 0, .retAddr 0, .retAddr 0, .retAddr 0, .retAddr 0, .retAddr 0, .retAddr 0] [] h16 (qI P)) ∧ ((lg_cmp x15 x19) = 0 → (vp_in l3 32) ∧ ((vp_in l2 32) ∧ (((mI h16 55 l2.toNatClampNeg) ≤ (mI h16 55 l3.toNatClampNeg) → ME g uX11_bounding 4 [.ref 11, .int l1, .int l2, .int (l3 + 1), .retAddr 0, .retAddr 0, .retAddr 0, .retAddr 0, .retAddr 0, .retAddr 0, .retAddr 0, .retAddr 0] [] h16 (qI P)) ∧ (¬ (mI h16 55 l2.toNatClampNeg) ≤ (mI h16 55 l3.toNatClampNeg) → ME g uX11_bounding 4 [.ref 11, .int l1, .int l3, .int (l3 + 1), .retAddr 0, .retAddr 0, .retAddr 0, .retAddr 0, .retAddr 0, .retAddr 0, .retAddr 0, .retAddr 0] [] h16 (qI P))))))))))))) ∧ (¬ 0 ≤ l2 → ME g uX11_bounding 4 [.ref 11, .int l1, .int l3, .int (l3 + 1), .retAddr 0, .retAddr 0, .retAddr 0, .retAddr 0, .retAddr 0, .retAddr 0, .retAddr 0, .retAddr 0] [] h2 (qI P))) ∧ (¬ 0 < (lg_cmp x5 0) → ME g uX11_bounding 4 [.ref 11, .int l1, .int l2, .int (l3 + 1), .retAddr 0, .retAddr 0, .retAddr 0, .retAddr 0, .retAddr 0, .retAddr 0, .retAddr 0, .retAddr 0] [] h2 (qI P)))))) : ME g uX11_bounding 4 [.ref 11, .int l1, .int l2, .int l3, .retAddr 0, .retAddr 0, .retAddr 0, .retAddr 0, .retAddr 0, .retAddr 0, .retAddr 0, .retAddr 0] [] h (qI P) := by
  refine m_iload_n dX11_bounding_4 rfl ?_
  refine m_aload_n dX11_bounding_5 rfl ?_
  refine gf_X11_254 rfl dX11_bounding_6 ?_
  refine m_icmp_ge 134 dX11_bounding_9 (by decide) (fun c1 => ?_) (fun c1 => ?_)
  · replace q := q.1 c1
    refine m_iload_n dX11_bounding_134 rfl ?_
    exact m_iret dX11_bounding_135 rfl q
  · replace q := q.2 c1
    refine m_aload_n dX11_bounding_12 rfl ?_
    refine gf_X11_47 rfl dX11_bounding_13 ?_
    refine m_iload_n dX11_bounding_16 rfl ?_
    refine m_iload_n dX11_bounding_17 rfl ?_
    refine cl_X11_260 rfl (by decide) dX11_bounding_18 (Nat.le_of_ble_eq_true rfl) (MCi_go q (fun r3 h2 q => ?_))
    obtain ⟨b4, q⟩ := q
    refine m_laload dX11_bounding_21 rfl (by decide) b4 ?_
    obtain ⟨x5, ex5⟩ : ∃ z, z = (mL h2 54 r3.toNatClampNeg) := ⟨_, rfl⟩
    rw [← ex5]
    replace q := q x5 ex5
    refine m_lstore (lv' := [.ref 11, .int l1, .int l2, .int l3, .long x5, .retAddr 0, .retAddr 0, .retAddr 0, .retAddr 0, .retAddr 0, .retAddr 0, .retAddr 0]) dX11_bounding_22 (Nat.le_of_ble_eq_true rfl) rfl rfl ?_
    refine m_lload dX11_bounding_24 rfl ?_
    refine m_lconst (v := 0) dX11_bounding_26 (by decide) ?_
    refine m_lcmp dX11_bounding_27 ?_
    refine m_if_gt 34 dX11_bounding_28 (by decide) (fun c6 => ?_) (fun c6 => ?_)
    · replace q := q.1 c6
      refine m_iload_n dX11_bounding_34 rfl ?_
      refine m_if_ge 43 dX11_bounding_35 (by decide) (fun c7 => ?_) (fun c7 => ?_)
      · replace q := q.1 c7
        refine m_aload_n dX11_bounding_43 rfl ?_
        refine gf_X11_47 rfl dX11_bounding_44 ?_
        refine m_iload_n dX11_bounding_47 rfl ?_
        refine m_iload_n dX11_bounding_48 rfl ?_
        refine cl_X11_260 rfl (by decide) dX11_bounding_49 (Nat.le_of_ble_eq_true rfl) (MCi_go q (fun r9 h8 q => ?_))
        obtain ⟨b10, q⟩ := q
        refine m_laload dX11_bounding_52 rfl (by decide) b10 ?_
        obtain ⟨x11, ex11⟩ : ∃ z, z = (mL h8 54 r9.toNatClampNeg) := ⟨_, rfl⟩
        rw [← ex11]
        replace q := q x11 ex11
        refine m_lstore (lv' := [.ref 11, .int l1, .int l2, .int l3, .long x5, .retAddr 0, .long x11, .retAddr 0, .retAddr 0, .retAddr 0, .retAddr 0, .retAddr 0]) dX11_bounding_53 (Nat.le_of_ble_eq_true rfl) rfl rfl ?_
        refine m_aload_n dX11_bounding_55 rfl ?_
        refine gf_X11_47 rfl dX11_bounding_56 ?_
        refine m_iload_n dX11_bounding_59 rfl ?_
        refine m_aload_n dX11_bounding_60 rfl ?_
        refine gf_X11_257 rfl dX11_bounding_61 ?_
        refine m_iconst (v := 1) dX11_bounding_64 (by decide) ?_
        refine m_isub dX11_bounding_65 ?_
        refine cl_X11_260 rfl (by decide) dX11_bounding_66 (Nat.le_of_ble_eq_true rfl) (MCi_go q (fun r13 h12 q => ?_))
        obtain ⟨b14, q⟩ := q
        refine m_laload dX11_bounding_69 rfl (by decide) b14 ?_
        refine m_lload dX11_bounding_70 rfl ?_
        refine m_lmul dX11_bounding_72 ?_
        obtain ⟨x15, ex15⟩ : ∃ z, z = ((mL h12 54 r13.toNatClampNeg) * x11) := ⟨_, rfl⟩
        rw [← ex15]
        replace q := q x15 ex15
        refine m_lstore (lv' := [.ref 11, .int l1, .int l2, .int l3, .long x5, .retAddr 0, .long x11, .retAddr 0, .long x15, .retAddr 0, .retAddr 0, .retAddr 0]) dX11_bounding_73 (Nat.le_of_ble_eq_true rfl) rfl rfl ?_
        refine m_aload_n dX11_bounding_75 rfl ?_
        refine gf_X11_47 rfl dX11_bounding_76 ?_
        refine m_iload_n dX11_bounding_79 rfl ?_
        refine m_aload_n dX11_bounding_80 rfl ?_
        refine gf_X11_257 rfl dX11_bounding_81 ?_
        refine m_iconst (v := 1) dX11_bounding_84 (by decide) ?_
        refine m_isub dX11_bounding_85 ?_
        refine cl_X11_260 rfl (by decide) dX11_bounding_86 (Nat.le_of_ble_eq_true rfl) (MCi_go q (fun r17 h16 q => ?_))
        obtain ⟨b18, q⟩ := q
        refine m_laload dX11_bounding_89 rfl (by decide) b18 ?_
        refine m_lload dX11_bounding_90 rfl ?_
        refine m_lmul dX11_bounding_92 ?_
        obtain ⟨x19, ex19⟩ : ∃ z, z = ((mL h16 54 r17.toNatClampNeg) * x5) := ⟨_, rfl⟩
        rw [← ex19]
        replace q := q x19 ex19
        refine m_lstore (lv' := [.ref 11, .int l1, .int l2, .int l3, .long x5, .retAddr 0, .long x11, .retAddr 0, .long x15, .retAddr 0, .long x19, .retAddr 0]) dX11_bounding_93 (Nat.le_of_ble_eq_true rfl) rfl rfl ?_
        refine m_lload dX11_bounding_95 rfl ?_
        refine m_lload dX11_bounding_97 rfl ?_
        refine m_lcmp dX11_bounding_99 ?_
        refine m_if_lt 126 dX11_bounding_100 (by decide) (fun c20 => ?_) (fun c20 => ?_)
        · replace q := q.1 c20
          refine m_iload_n dX11_bounding_126 rfl ?_
          refine m_istore_n (lv' := [.ref 11, .int l1, .int l3, .int l3, .long x5, .retAddr 0, .long x11, .retAddr 0, .long x15, .retAddr 0, .long x19, .retAddr 0]) dX11_bounding_127 (Nat.le_of_ble_eq_true rfl) rfl rfl ?_
          refine m_iinc (v := (l3 + 1)) (lv' := [.ref 11, .int l1, .int l3, .int (l3 + 1), .long x5, .retAddr 0, .long x11, .retAddr 0, .long x15, .retAddr 0, .long x19, .retAddr 0]) dX11_bounding_128 (Nat.le_of_ble_eq_true rfl) rfl (congrArg (fun z => l3 + z) (by decide : Int32.ofInt 1 = 1)) rfl rfl ?_
          refine m_goto 4 dX11_bounding_131 (by decide) ?_
          refine m_dropK (lv' := [.ref 11, .int l1, .int l3, .int (l3 + 1), .retAddr 0, .retAddr 0, .retAddr 0, .retAddr 0, .retAddr 0, .retAddr 0, .retAddr 0, .retAddr 0]) [4, 6, 8, 10] rfl ?_
          exact q
        · replace q := q.2 c20
          refine m_lload dX11_bounding_103 rfl ?_
          refine m_lload dX11_bounding_105 rfl ?_
          refine m_lcmp dX11_bounding_107 ?_
          refine m_if_ne 128 dX11_bounding_108 (by decide) (fun c21 => ?_) (fun c21 => ?_)
          · replace q := q.1 c21
            refine m_iinc (v := (l3 + 1)) (lv' := [.ref 11, .int l1, .int l2, .int (l3 + 1), .long x5, .retAddr 0, .long x11, .retAddr 0, .long x15, .retAddr 0, .long x19, .retAddr 0]) dX11_bounding_128 (Nat.le_of_ble_eq_true rfl) rfl (congrArg (fun z => l3 + z) (by decide : Int32.ofInt 1 = 1)) rfl rfl ?_
            refine m_goto 4 dX11_bounding_131 (by decide) ?_
            refine m_dropK (lv' := [.ref 11, .int l1, .int l2, .int (l3 + 1), .retAddr 0, .retAddr 0, .retAddr 0, .retAddr 0, .retAddr 0, .retAddr 0, .retAddr 0, .retAddr 0]) [4, 6, 8, 10] rfl ?_
            exact q
          · replace q := q.2 c21
            refine m_aload_n dX11_bounding_111 rfl ?_
            refine gf_X11_51 rfl dX11_bounding_112 ?_
            refine m_iload_n dX11_bounding_115 rfl ?_
            obtain ⟨b22, q⟩ := q
            refine m_iaload dX11_bounding_116 rfl (by decide) b22 ?_
            refine m_aload_n dX11_bounding_117 rfl ?_
            refine gf_X11_51 rfl dX11_bounding_118 ?_
            refine m_iload_n dX11_bounding_121 rfl ?_
            obtain ⟨b23, q⟩ := q
            refine m_iaload dX11_bounding_122 rfl (by decide) b23 ?_
            refine m_icmp_ge 128 dX11_bounding_123 (by decide) (fun c24 => ?_) (fun c24 => ?_)
            · replace q := q.1 c24
              refine m_iinc (v := (l3 + 1)) (lv' := [.ref 11, .int l1, .int l2, .int (l3 + 1), .long x5, .retAddr 0, .long x11, .retAddr 0, .long x15, .retAddr 0, .long x19, .retAddr 0]) dX11_bounding_128 (Nat.le_of_ble_eq_true rfl) rfl (congrArg (fun z => l3 + z) (by decide : Int32.ofInt 1 = 1)) rfl rfl ?_
              refine m_goto 4 dX11_bounding_131 (by decide) ?_
              refine m_dropK (lv' := [.ref 11, .int l1, .int l2, .int (l3 + 1), .retAddr 0, .retAddr 0, .retAddr 0, .retAddr 0, .retAddr 0, .retAddr 0, .retAddr 0, .retAddr 0]) [4, 6, 8, 10] rfl ?_
              exact q
            · replace q := q.2 c24
              refine m_iload_n dX11_bounding_126 rfl ?_
              refine m_istore_n (lv' := [.ref 11, .int l1, .int l3, .int l3, .long x5, .retAddr 0, .long x11, .retAddr 0, .long x15, .retAddr 0, .long x19, .retAddr 0]) dX11_bounding_127 (Nat.le_of_ble_eq_true rfl) rfl rfl ?_
              refine m_iinc (v := (l3 + 1)) (lv' := [.ref 11, .int l1, .int l3, .int (l3 + 1), .long x5, .retAddr 0, .long x11, .retAddr 0, .long x15, .retAddr 0, .long x19, .retAddr 0]) dX11_bounding_128 (Nat.le_of_ble_eq_true rfl) rfl (congrArg (fun z => l3 + z) (by decide : Int32.ofInt 1 = 1)) rfl rfl ?_
              refine m_goto 4 dX11_bounding_131 (by decide) ?_
              refine m_dropK (lv' := [.ref 11, .int l1, .int l3, .int (l3 + 1), .retAddr 0, .retAddr 0, .retAddr 0, .retAddr 0, .retAddr 0, .retAddr 0, .retAddr 0, .retAddr 0]) [4, 6, 8, 10] rfl ?_
              exact q
      · replace q := q.2 c7
        refine m_iload_n dX11_bounding_38 rfl ?_
        refine m_istore_n (lv' := [.ref 11, .int l1, .int l3, .int l3, .long x5, .retAddr 0, .retAddr 0, .retAddr 0, .retAddr 0, .retAddr 0, .retAddr 0, .retAddr 0]) dX11_bounding_39 (Nat.le_of_ble_eq_true rfl) rfl rfl ?_
        refine m_goto 128 dX11_bounding_40 (by decide) ?_
        refine m_iinc (v := (l3 + 1)) (lv' := [.ref 11, .int l1, .int l3, .int (l3 + 1), .long x5, .retAddr 0, .retAddr 0, .retAddr 0, .retAddr 0, .retAddr 0, .retAddr 0, .retAddr 0]) dX11_bounding_128 (Nat.le_of_ble_eq_true rfl) rfl (congrArg (fun z => l3 + z) (by decide : Int32.ofInt 1 = 1)) rfl rfl ?_
        refine m_goto 4 dX11_bounding_131 (by decide) ?_
        refine m_dropK (lv' := [.ref 11, .int l1, .int l3, .int (l3 + 1), .retAddr 0, .retAddr 0, .retAddr 0, .retAddr 0, .retAddr 0, .retAddr 0, .retAddr 0, .retAddr 0]) [4] rfl ?_
        exact q
    · replace q := q.2 c6
      refine m_goto 128 dX11_bounding_31 (by decide) ?_
      refine m_iinc (v := (l3 + 1)) (lv' := [.ref 11, .int l1, .int l2, .int (l3 + 1), .long x5, .retAddr 0, .retAddr 0, .retAddr 0, .retAddr 0, .retAddr 0, .retAddr 0, .retAddr 0]) dX11_bounding_128 (Nat.le_of_ble_eq_true rfl) rfl (congrArg (fun z => l3 + z) (by decide : Int32.ofInt 1 = 1)) rfl rfl ?_
      refine m_goto 4 dX11_bounding_131 (by decide) ?_
      refine m_dropK (lv' := [.ref 11, .int l1, .int l2, .int (l3 + 1), .retAddr 0, .retAddr 0, .retAddr 0, .retAddr 0, .retAddr 0, .retAddr 0, .retAddr 0, .retAddr 0]) [4] rfl ?_
      exact q
set_option maxRecDepth 100000 in
theorem e_X11_goesUp {g : gT} {h : mh_T} {P : mh_T → Prop} (l1 : Int32) (q : ME g uX11_goesUp 2 [.ref 11, .int l1, .int 1, .retAddr 0, .retAddr 0] [] h (qV P)) : MCv g yX11_goesUp uX11_goesUp [.ref 11, .int l1] h P := by
  refine m_enter (by decide) rfl (Nat.le_of_ble_eq_true rfl) (lv := [.ref 11, .int l1, .retAddr 0, .retAddr 0, .retAddr 0]) rfl ?_
  refine m_iconst (v := 1) dX11_goesUp_0 (by decide) ?_
  refine m_istore_n (lv' := [.ref 11, .int l1, .int 1, .retAddr 0, .retAddr 0]) dX11_goesUp_1 (Nat.le_of_ble_eq_true rfl) rfl rfl ?_
  exact q
set_option maxRecDepth 100000 in
theorem r_X11_goesUp_2 {g : gT} {h : mh_T} {P : mh_T → Prop} (l1 : Int32) (l2 : Int32) (q : (l2 = 0 → P h) ∧ (¬ l2 = 0 → ME g uX11_goesUp 11 [.ref 11, .int l1, .int l2, .int (-1), .int 0] [] h (qV P))) : ME g uX11_goesUp 2 [.ref 11, .int l1, .int l2, .retAddr 0, .retAddr 0] [] h (qV P) := by
  refine m_iload_n dX11_goesUp_2 rfl ?_
  refine m_if_eq 118 dX11_goesUp_3 (by decide) (fun c1 => ?_) (fun c1 => ?_)
  · replace q := q.1 c1
    exact m_vret dX11_goesUp_118 rfl q
  · replace q := q.2 c1
    refine m_iconst (v := (-1)) dX11_goesUp_6 (by decide) ?_
    refine m_istore_n (lv' := [.ref 11, .int l1, .int l2, .int (-1), .retAddr 0]) dX11_goesUp_7 (Nat.le_of_ble_eq_true rfl) rfl rfl ?_
    refine m_iconst (v := 0) dX11_goesUp_8 (by decide) ?_
    refine m_istore (lv' := [.ref 11, .int l1, .int l2, .int (-1), .int 0]) dX11_goesUp_9 (Nat.le_of_ble_eq_true rfl) rfl rfl ?_
    exact q
set_option maxRecDepth 100000 in
theorem r_X11_goesUp_11 {g : gT} {h : mh_T} {P : mh_T → Prop} (l1 : Int32) (l2 : Int32) (l3 : Int32) (l4 : Int32) (q : (((mI h 11 31) - 1) ≤ l4 → (0 ≤ l3 → MCi g yX11_bounding uX11_bounding [.ref 11, .int l3] h (fun r4 h3 => (r4 < 0 → ME g uX11_goesUp 2 [.ref 11, .int l1, .int 0, .retAddr 0, .retAddr 0] [] h3 (qV P)) ∧ (¬ r4 < 0 → MCv g yX11_turnOver uX11_turnOver [.ref 11, .int r4, .int l3] h3 (fun h8 => ME g uX11_goesUp 2 [.ref 11, .int l1, .int 1, .retAddr 0, .retAddr 0] [] h8 (qV P))))) ∧ (¬ 0 ≤ l3 → ME g uX11_goesUp 2 [.ref 11, .int l1, .int 0, .retAddr 0, .retAddr 0] [] h (qV P))) ∧ (¬ ((mI h 11 31) - 1) ≤ l4 → (0 ≤ l3 → (0 ≤ l3 → MCi g yX11_bounding uX11_bounding [.ref 11, .int l3] h (fun r14 h13 => (r14 < 0 → ME g uX11_goesUp 2 [.ref 11, .int l1, .int 0, .retAddr 0, .retAddr 0] [] h13 (qV P)) ∧ (¬ r14 < 0 → MCv g yX11_turnOver uX11_turnOver [.ref 11, .int r14, .int l3] h13 (fun h18 => ME g uX11_goesUp 2 [.ref 11, .int l1, .int 1, .retAddr 0, .retAddr 0] [] h18 (qV P))))) ∧ (¬ 0 ≤ l3 → ME g uX11_goesUp 2 [.ref 11, .int l1, .int 0, .retAddr 0, .retAddr 0] [] h (qV P))) ∧ (¬ 0 ≤ l3 → MCi g yX11_cell uX11_cell [.int l1, .int l4] h (fun r22 h21 => (vp_in r22 3298) ∧ ((0 ≤ (lg_cmp (mL h21 54 r22.toNatClampNeg) 0) → ME g uX11_goesUp 11 [.ref 11, .int l1, .int l2, .int l3, .int (l4 + 1)] [] h21 (qV P)) ∧ (¬ 0 ≤ (lg_cmp (mL h21 54 r22.toNatClampNeg) 0) → (l1 = (mI h21 11 30) → ME g uX11_goesUp 11 [.ref 11, .int l1, .int l2, .int l4, .int (l4 + 1)] [] h21 (qV P)) ∧ (¬ l1 = (mI h21 11 30) → MCi g yX11_cell uX11_cell [.int (mI h21 11 30), .int l4] h21 (fun r27 h26 => (vp_in r27 3298) ∧ ((¬ (lg_cmp (mL h26 54 r27.toNatClampNeg) 0) = 0 → ME g uX11_goesUp 11 [.ref 11, .int l1, .int l2, .int l3, .int (l4 + 1)] [] h26 (qV P)) ∧ ((lg_cmp (mL h26 54 r27.toNatClampNeg) 0) = 0 → ME g uX11_goesUp 11 [.ref 11, .int l1, .int l2, .int l4, .int (l4 + 1)] [] h26 (qV P))))))))))) : ME g uX11_goesUp 11 [.ref 11, .int l1, .int l2, .int l3, .int l4] [] h (qV P) := by
  refine m_iload dX11_goesUp_11 rfl ?_
  refine m_aload_n dX11_goesUp_13 rfl ?_
  refine gf_X11_257 rfl dX11_goesUp_14 ?_
  refine m_iconst (v := 1) dX11_goesUp_17 (by decide) ?_
  refine m_isub dX11_goesUp_18 ?_
  refine m_icmp_ge 78 dX11_goesUp_19 (by decide) (fun c1 => ?_) (fun c1 => ?_)
  · replace q := q.1 c1
    refine m_iload_n dX11_goesUp_78 rfl ?_
    refine m_if_ge 86 dX11_goesUp_79 (by decide) (fun c2 => ?_) (fun c2 => ?_)
    · replace q := q.1 c2
      refine m_aload_n dX11_goesUp_86 rfl ?_
      refine m_iload_n dX11_goesUp_87 rfl ?_
      refine cl_X11_272 rfl (by decide) dX11_goesUp_88 (Nat.le_of_ble_eq_true rfl) (MCi_go q (fun r4 h3 q => ?_))
      refine m_istore (lv' := [.ref 11, .int l1, .int l2, .int l3, .int r4]) dX11_goesUp_91 (Nat.le_of_ble_eq_true rfl) rfl rfl ?_
      refine m_iload dX11_goesUp_93 rfl ?_
      refine m_if_lt 102 dX11_goesUp_95 (by decide) (fun c5 => ?_) (fun c5 => ?_)
      · replace q := q.1 c5
        refine m_iconst (v := 0) dX11_goesUp_102 (by decide) ?_
        refine m_istore_n (lv' := [.ref 11, .int l1, .int 0, .int l3, .int r4]) dX11_goesUp_103 (Nat.le_of_ble_eq_true rfl) rfl rfl ?_
        refine m_iload_n dX11_goesUp_104 rfl ?_
        refine m_if_eq 115 dX11_goesUp_105 (by decide) (fun c6 => ?_) (fun c6 => absurd c6 (by decide))
        refine m_goto 2 dX11_goesUp_115 (by decide) ?_
        refine m_dropK (lv' := [.ref 11, .int l1, .int 0, .retAddr 0, .retAddr 0]) [3, 4] rfl ?_
        exact q
      · replace q := q.2 c5
        refine m_iconst (v := 1) dX11_goesUp_98 (by decide) ?_
        refine m_goto 103 dX11_goesUp_99 (by decide) ?_
        refine m_istore_n (lv' := [.ref 11, .int l1, .int 1, .int l3, .int r4]) dX11_goesUp_103 (Nat.le_of_ble_eq_true rfl) rfl rfl ?_
        refine m_iload_n dX11_goesUp_104 rfl ?_
        refine m_if_eq 115 dX11_goesUp_105 (by decide) (fun c7 => absurd c7 (by decide)) (fun c7 => ?_)
        refine m_aload_n dX11_goesUp_108 rfl ?_
        refine m_iload dX11_goesUp_109 rfl ?_
        refine m_iload_n dX11_goesUp_111 rfl ?_
        refine cl_X11_275 rfl (by decide) dX11_goesUp_112 (Nat.le_of_ble_eq_true rfl) (MCv_go q (fun h8 q => ?_))
        refine m_goto 2 dX11_goesUp_115 (by decide) ?_
        refine m_dropK (lv' := [.ref 11, .int l1, .int 1, .retAddr 0, .retAddr 0]) [3, 4] rfl ?_
        exact q
    · replace q := q.2 c2
      refine m_iconst (v := (-1)) dX11_goesUp_82 (by decide) ?_
      refine m_goto 91 dX11_goesUp_83 (by decide) ?_
      refine m_istore (lv' := [.ref 11, .int l1, .int l2, .int l3, .int (-1)]) dX11_goesUp_91 (Nat.le_of_ble_eq_true rfl) rfl rfl ?_
      refine m_iload dX11_goesUp_93 rfl ?_
      refine m_if_lt 102 dX11_goesUp_95 (by decide) (fun c9 => ?_) (fun c9 => absurd c9 (by decide))
      refine m_iconst (v := 0) dX11_goesUp_102 (by decide) ?_
      refine m_istore_n (lv' := [.ref 11, .int l1, .int 0, .int l3, .int (-1)]) dX11_goesUp_103 (Nat.le_of_ble_eq_true rfl) rfl rfl ?_
      refine m_iload_n dX11_goesUp_104 rfl ?_
      refine m_if_eq 115 dX11_goesUp_105 (by decide) (fun c10 => ?_) (fun c10 => absurd c10 (by decide))
      refine m_goto 2 dX11_goesUp_115 (by decide) ?_
      refine m_dropK (lv' := [.ref 11, .int l1, .int 0, .retAddr 0, .retAddr 0]) [3, 4] rfl ?_
      exact q
  · replace q := q.2 c1
    refine m_iload_n dX11_goesUp_22 rfl ?_
    refine m_if_ge 78 dX11_goesUp_23 (by decide) (fun c11 => ?_) (fun c11 => ?_)
    · replace q := q.1 c11
      refine m_iload_n dX11_goesUp_78 rfl ?_
      refine m_if_ge 86 dX11_goesUp_79 (by decide) (fun c12 => ?_) (fun c12 => ?_)
      · replace q := q.1 c12
        refine m_aload_n dX11_goesUp_86 rfl ?_
        refine m_iload_n dX11_goesUp_87 rfl ?_
        refine cl_X11_272 rfl (by decide) dX11_goesUp_88 (Nat.le_of_ble_eq_true rfl) (MCi_go q (fun r14 h13 q => ?_))
        refine m_istore (lv' := [.ref 11, .int l1, .int l2, .int l3, .int r14]) dX11_goesUp_91 (Nat.le_of_ble_eq_true rfl) rfl rfl ?_
        refine m_iload dX11_goesUp_93 rfl ?_
        refine m_if_lt 102 dX11_goesUp_95 (by decide) (fun c15 => ?_) (fun c15 => ?_)
        · replace q := q.1 c15
          refine m_iconst (v := 0) dX11_goesUp_102 (by decide) ?_
          refine m_istore_n (lv' := [.ref 11, .int l1, .int 0, .int l3, .int r14]) dX11_goesUp_103 (Nat.le_of_ble_eq_true rfl) rfl rfl ?_
          refine m_iload_n dX11_goesUp_104 rfl ?_
          refine m_if_eq 115 dX11_goesUp_105 (by decide) (fun c16 => ?_) (fun c16 => absurd c16 (by decide))
          refine m_goto 2 dX11_goesUp_115 (by decide) ?_
          refine m_dropK (lv' := [.ref 11, .int l1, .int 0, .retAddr 0, .retAddr 0]) [3, 4] rfl ?_
          exact q
        · replace q := q.2 c15
          refine m_iconst (v := 1) dX11_goesUp_98 (by decide) ?_
          refine m_goto 103 dX11_goesUp_99 (by decide) ?_
          refine m_istore_n (lv' := [.ref 11, .int l1, .int 1, .int l3, .int r14]) dX11_goesUp_103 (Nat.le_of_ble_eq_true rfl) rfl rfl ?_
          refine m_iload_n dX11_goesUp_104 rfl ?_
          refine m_if_eq 115 dX11_goesUp_105 (by decide) (fun c17 => absurd c17 (by decide)) (fun c17 => ?_)
          refine m_aload_n dX11_goesUp_108 rfl ?_
          refine m_iload dX11_goesUp_109 rfl ?_
          refine m_iload_n dX11_goesUp_111 rfl ?_
          refine cl_X11_275 rfl (by decide) dX11_goesUp_112 (Nat.le_of_ble_eq_true rfl) (MCv_go q (fun h18 q => ?_))
          refine m_goto 2 dX11_goesUp_115 (by decide) ?_
          refine m_dropK (lv' := [.ref 11, .int l1, .int 1, .retAddr 0, .retAddr 0]) [3, 4] rfl ?_
          exact q
      · replace q := q.2 c12
        refine m_iconst (v := (-1)) dX11_goesUp_82 (by decide) ?_
        refine m_goto 91 dX11_goesUp_83 (by decide) ?_
        refine m_istore (lv' := [.ref 11, .int l1, .int l2, .int l3, .int (-1)]) dX11_goesUp_91 (Nat.le_of_ble_eq_true rfl) rfl rfl ?_
        refine m_iload dX11_goesUp_93 rfl ?_
        refine m_if_lt 102 dX11_goesUp_95 (by decide) (fun c19 => ?_) (fun c19 => absurd c19 (by decide))
        refine m_iconst (v := 0) dX11_goesUp_102 (by decide) ?_
        refine m_istore_n (lv' := [.ref 11, .int l1, .int 0, .int l3, .int (-1)]) dX11_goesUp_103 (Nat.le_of_ble_eq_true rfl) rfl rfl ?_
        refine m_iload_n dX11_goesUp_104 rfl ?_
        refine m_if_eq 115 dX11_goesUp_105 (by decide) (fun c20 => ?_) (fun c20 => absurd c20 (by decide))
        refine m_goto 2 dX11_goesUp_115 (by decide) ?_
        refine m_dropK (lv' := [.ref 11, .int l1, .int 0, .retAddr 0, .retAddr 0]) [3, 4] rfl ?_
        exact q
    · replace q := q.2 c11
      refine m_aload_n dX11_goesUp_26 rfl ?_
      refine gf_X11_47 rfl dX11_goesUp_27 ?_
      refine m_iload_n dX11_goesUp_30 rfl ?_
      refine m_iload dX11_goesUp_31 rfl ?_
      refine cl_X11_260 rfl (by decide) dX11_goesUp_33 (Nat.le_of_ble_eq_true rfl) (MCi_go q (fun r22 h21 q => ?_))
      obtain ⟨b23, q⟩ := q
      refine m_laload dX11_goesUp_36 rfl (by decide) b23 ?_
      refine m_lconst (v := 0) dX11_goesUp_37 (by decide) ?_
      refine m_lcmp dX11_goesUp_38 ?_
      refine m_if_ge 72 dX11_goesUp_39 (by decide) (fun c24 => ?_) (fun c24 => ?_)
      · replace q := q.1 c24
        refine m_iinc (v := (l4 + 1)) (lv' := [.ref 11, .int l1, .int l2, .int l3, .int (l4 + 1)]) dX11_goesUp_72 (Nat.le_of_ble_eq_true rfl) rfl (congrArg (fun z => l4 + z) (by decide : Int32.ofInt 1 = 1)) rfl rfl ?_
        refine m_goto 11 dX11_goesUp_75 (by decide) ?_
        exact q
      · replace q := q.2 c24
        refine m_iload_n dX11_goesUp_42 rfl ?_
        refine m_aload_n dX11_goesUp_43 rfl ?_
        refine gf_X11_254 rfl dX11_goesUp_44 ?_
        refine m_icmp_eq 69 dX11_goesUp_47 (by decide) (fun c25 => ?_) (fun c25 => ?_)
        · replace q := q.1 c25
          refine m_iload dX11_goesUp_69 rfl ?_
          refine m_istore_n (lv' := [.ref 11, .int l1, .int l2, .int l4, .int l4]) dX11_goesUp_71 (Nat.le_of_ble_eq_true rfl) rfl rfl ?_
          refine m_iinc (v := (l4 + 1)) (lv' := [.ref 11, .int l1, .int l2, .int l4, .int (l4 + 1)]) dX11_goesUp_72 (Nat.le_of_ble_eq_true rfl) rfl (congrArg (fun z => l4 + z) (by decide : Int32.ofInt 1 = 1)) rfl rfl ?_
          refine m_goto 11 dX11_goesUp_75 (by decide) ?_
          exact q
        · replace q := q.2 c25
          refine m_aload_n dX11_goesUp_50 rfl ?_
          refine gf_X11_47 rfl dX11_goesUp_51 ?_
          refine m_aload_n dX11_goesUp_54 rfl ?_
          refine gf_X11_254 rfl dX11_goesUp_55 ?_
          refine m_iload dX11_goesUp_58 rfl ?_
          refine cl_X11_260 rfl (by decide) dX11_goesUp_60 (Nat.le_of_ble_eq_true rfl) (MCi_go q (fun r27 h26 q => ?_))
          obtain ⟨b28, q⟩ := q
          refine m_laload dX11_goesUp_63 rfl (by decide) b28 ?_
          refine m_lconst (v := 0) dX11_goesUp_64 (by decide) ?_
          refine m_lcmp dX11_goesUp_65 ?_
          refine m_if_ne 72 dX11_goesUp_66 (by decide) (fun c29 => ?_) (fun c29 => ?_)
          · replace q := q.1 c29
            refine m_iinc (v := (l4 + 1)) (lv' := [.ref 11, .int l1, .int l2, .int l3, .int (l4 + 1)]) dX11_goesUp_72 (Nat.le_of_ble_eq_true rfl) rfl (congrArg (fun z => l4 + z) (by decide : Int32.ofInt 1 = 1)) rfl rfl ?_
            refine m_goto 11 dX11_goesUp_75 (by decide) ?_
            exact q
          · replace q := q.2 c29
            refine m_iload dX11_goesUp_69 rfl ?_
            refine m_istore_n (lv' := [.ref 11, .int l1, .int l2, .int l4, .int l4]) dX11_goesUp_71 (Nat.le_of_ble_eq_true rfl) rfl rfl ?_
            refine m_iinc (v := (l4 + 1)) (lv' := [.ref 11, .int l1, .int l2, .int l4, .int (l4 + 1)]) dX11_goesUp_72 (Nat.le_of_ble_eq_true rfl) rfl (congrArg (fun z => l4 + z) (by decide : Int32.ofInt 1 = 1)) rfl rfl ?_
            refine m_goto 11 dX11_goesUp_75 (by decide) ?_
            exact q
set_option maxRecDepth 100000 in
theorem e_X11_common {g : gT} {h : mh_T} {P : Int64 → mh_T → Prop} (l0 : Int64) (l2 : Int64) (q : ME g uX11_common 6 [.long l0, .retAddr 0, .long l2, .retAddr 0, .long l0, .retAddr 0, .long l2, .retAddr 0, .retAddr 0, .retAddr 0] [] h (qL P)) : MCl g yX11_common uX11_common [.long l0, .long l2] h P := by
  refine m_enter (by decide) rfl (Nat.le_of_ble_eq_true rfl) (lv := [.long l0, .retAddr 0, .long l2, .retAddr 0, .retAddr 0, .retAddr 0, .retAddr 0, .retAddr 0, .retAddr 0, .retAddr 0]) rfl ?_
  refine m_lload_n dX11_common_0 rfl ?_
  refine m_lstore (lv' := [.long l0, .retAddr 0, .long l2, .retAddr 0, .long l0, .retAddr 0, .retAddr 0, .retAddr 0, .retAddr 0, .retAddr 0]) dX11_common_1 (Nat.le_of_ble_eq_true rfl) rfl rfl ?_
  refine m_lload_n dX11_common_3 rfl ?_
  refine m_lstore (lv' := [.long l0, .retAddr 0, .long l2, .retAddr 0, .long l0, .retAddr 0, .long l2, .retAddr 0, .retAddr 0, .retAddr 0]) dX11_common_4 (Nat.le_of_ble_eq_true rfl) rfl rfl ?_
  exact q
set_option maxRecDepth 100000 in
theorem r_X11_common_6 {g : gT} {h : mh_T} {P : Int64 → mh_T → Prop} (l0 : Int64) (l2 : Int64) (l4 : Int64) (l6 : Int64) (q : ((lg_cmp l6 0) = 0 → P l4 h) ∧ (¬ (lg_cmp l6 0) = 0 → (¬ l6 = 0) ∧ (∀ x3 : Int64, x3 = (l4 - l4 / l6 * l6) → ME g uX11_common 6 [.long l0, .retAddr 0, .long l2, .retAddr 0, .long l6, .retAddr 0, .long x3, .retAddr 0, .retAddr 0, .retAddr 0] [] h (qL P)))) : ME g uX11_common 6 [.long l0, .retAddr 0, .long l2, .retAddr 0, .long l4, .retAddr 0, .long l6, .retAddr 0, .retAddr 0, .retAddr 0] [] h (qL P) := by
  refine m_lload dX11_common_6 rfl ?_
  refine m_lconst (v := 0) dX11_common_8 (by decide) ?_
  refine m_lcmp dX11_common_9 ?_
  refine m_if_eq 31 dX11_common_10 (by decide) (fun c1 => ?_) (fun c1 => ?_)
  · replace q := q.1 c1
    refine m_lload dX11_common_31 rfl ?_
    exact m_lret dX11_common_33 rfl q
  · replace q := q.2 c1
    refine m_lload dX11_common_13 rfl ?_
    refine m_lload dX11_common_15 rfl ?_
    obtain ⟨b2, q⟩ := q
    refine m_lrem dX11_common_17 b2 ?_
    obtain ⟨x3, ex3⟩ : ∃ z, z = (l4 - l4 / l6 * l6) := ⟨_, rfl⟩
    rw [← ex3]
    replace q := q x3 ex3
    refine m_lstore (lv' := [.long l0, .retAddr 0, .long l2, .retAddr 0, .long l4, .retAddr 0, .long l6, .retAddr 0, .long x3, .retAddr 0]) dX11_common_18 (Nat.le_of_ble_eq_true rfl) rfl rfl ?_
    refine m_lload dX11_common_20 rfl ?_
    refine m_lstore (lv' := [.long l0, .retAddr 0, .long l2, .retAddr 0, .long l6, .retAddr 0, .long l6, .retAddr 0, .long x3, .retAddr 0]) dX11_common_22 (Nat.le_of_ble_eq_true rfl) rfl rfl ?_
    refine m_lload dX11_common_24 rfl ?_
    refine m_lstore (lv' := [.long l0, .retAddr 0, .long l2, .retAddr 0, .long l6, .retAddr 0, .long x3, .retAddr 0, .long x3, .retAddr 0]) dX11_common_26 (Nat.le_of_ble_eq_true rfl) rfl rfl ?_
    refine m_goto 6 dX11_common_28 (by decide) ?_
    refine m_dropK (lv' := [.long l0, .retAddr 0, .long l2, .retAddr 0, .long l6, .retAddr 0, .long x3, .retAddr 0, .retAddr 0, .retAddr 0]) [8] rfl ?_
    exact q
set_option maxRecDepth 100000 in
theorem e_X11_lowest {g : gT} {h : mh_T} {P : Int32 → mh_T → Prop} (l0 : Int64) (l2 : Int64) (l4 : Int32) (q : MCl g yX11_common uX11_common [.long l0, .long l2] h (fun r2 h1 => (l4 = 0 → (¬ r2 = 0) ∧ (P (Int64.toInt32 (l0 / r2)) h1)) ∧ (¬ l4 = 0 → (¬ r2 = 0) ∧ (P (Int64.toInt32 (l2 / r2)) h1)))) : MCi g yX11_lowest uX11_lowest [.long l0, .long l2, .int l4] h P := by
  refine m_enter (by decide) rfl (Nat.le_of_ble_eq_true rfl) (lv := [.long l0, .retAddr 0, .long l2, .retAddr 0, .int l4, .retAddr 0, .retAddr 0]) rfl ?_
  refine m_lload_n dX11_lowest_0 rfl ?_
  refine m_lload_n dX11_lowest_1 rfl ?_
  refine cl_X11_278 rfl (by decide) dX11_lowest_2 (Nat.le_of_ble_eq_true rfl) (MCl_go q (fun r2 h1 q => ?_))
  refine m_lstore (lv' := [.long l0, .retAddr 0, .long l2, .retAddr 0, .int l4, .long r2, .retAddr 0]) dX11_lowest_5 (Nat.le_of_ble_eq_true rfl) rfl rfl ?_
  refine m_iload dX11_lowest_7 rfl ?_
  refine m_if_eq 16 dX11_lowest_9 (by decide) (fun c3 => ?_) (fun c3 => ?_)
  · replace q := q.1 c3
    refine m_lload_n dX11_lowest_16 rfl ?_
    refine m_lload dX11_lowest_17 rfl ?_
    obtain ⟨b4, q⟩ := q
    refine m_ldiv dX11_lowest_19 b4 ?_
    refine m_l2i dX11_lowest_20 ?_
    exact m_iret dX11_lowest_21 rfl q
  · replace q := q.2 c3
    refine m_lload_n dX11_lowest_12 rfl ?_
    refine m_goto 17 dX11_lowest_13 (by decide) ?_
    refine m_lload dX11_lowest_17 rfl ?_
    obtain ⟨b5, q⟩ := q
    refine m_ldiv dX11_lowest_19 b5 ?_
    refine m_l2i dX11_lowest_20 ?_
    exact m_iret dX11_lowest_21 rfl q
set_option maxRecDepth 100000 in
theorem e_X11_isMixed {g : gT} {h : mh_T} {P : Int32 → mh_T → Prop}  (q : (¬ (mI h 45 (Int32.toNatClampNeg 0)) = 0 → MCv g yX11_layTab uX11_layTab [.ref 11] h (fun h2 => MCv g yX11_goesUp uX11_goesUp [.ref 11, .int (mI h2 11 30)] h2 (fun h3 => MCi g yX11_cell uX11_cell [.int (mI h3 11 30), .int ((mI h3 11 31) - 1)] h3 (fun r5 h4 => (vp_in r5 3298) ∧ ((¬ (lg_cmp (mL h4 54 r5.toNatClampNeg) ((mL h4 11 29) * (Int32.toInt64 (mI h4 45 (Int32.toNatClampNeg 49))))) = 0 → P 0 h4) ∧ ((lg_cmp (mL h4 54 r5.toNatClampNeg) ((mL h4 11 29) * (Int32.toInt64 (mI h4 45 (Int32.toNatClampNeg 49))))) = 0 → P 1 h4)))))) ∧ ((mI h 45 (Int32.toNatClampNeg 0)) = 0 → P 1 h)) : MCi g yX11_isMixed uX11_isMixed [.ref 11] h P := by
  refine m_enter (by decide) rfl (Nat.le_of_ble_eq_true rfl) (lv := [.ref 11]) rfl ?_
  refine m_aload_n dX11_isMixed_0 rfl ?_
  refine gf_X11_20 rfl dX11_isMixed_1 ?_
  refine m_iconst (v := 0) dX11_isMixed_4 (by decide) ?_
  refine m_iaload dX11_isMixed_5 rfl (by decide) (by unfold vp_in; decide) ?_
  refine m_if_ne 11 dX11_isMixed_6 (by decide) (fun c1 => ?_) (fun c1 => ?_)
  · replace q := q.1 c1
    refine m_aload_n dX11_isMixed_11 rfl ?_
    refine cl_X11_282 rfl (by decide) dX11_isMixed_12 (Nat.le_of_ble_eq_true rfl) (MCv_go q (fun h2 q => ?_))
    refine m_aload_n dX11_isMixed_15 rfl ?_
    refine m_aload_n dX11_isMixed_16 rfl ?_
    refine gf_X11_254 rfl dX11_isMixed_17 ?_
    refine cl_X11_285 rfl (by decide) dX11_isMixed_20 (Nat.le_of_ble_eq_true rfl) (MCv_go q (fun h3 q => ?_))
    refine m_aload_n dX11_isMixed_23 rfl ?_
    refine gf_X11_47 rfl dX11_isMixed_24 ?_
    refine m_aload_n dX11_isMixed_27 rfl ?_
    refine gf_X11_254 rfl dX11_isMixed_28 ?_
    refine m_aload_n dX11_isMixed_31 rfl ?_
    refine gf_X11_257 rfl dX11_isMixed_32 ?_
    refine m_iconst (v := 1) dX11_isMixed_35 (by decide) ?_
    refine m_isub dX11_isMixed_36 ?_
    refine cl_X11_260 rfl (by decide) dX11_isMixed_37 (Nat.le_of_ble_eq_true rfl) (MCi_go q (fun r5 h4 q => ?_))
    obtain ⟨b6, q⟩ := q
    refine m_laload dX11_isMixed_40 rfl (by decide) b6 ?_
    refine m_aload_n dX11_isMixed_41 rfl ?_
    refine gf_X11_268 rfl dX11_isMixed_42 ?_
    refine m_aload_n dX11_isMixed_45 rfl ?_
    refine gf_X11_20 rfl dX11_isMixed_46 ?_
    refine m_bipush (v := 49) dX11_isMixed_49 (by decide) ?_
    refine m_iaload dX11_isMixed_51 rfl (by decide) (by unfold vp_in; decide) ?_
    refine m_i2l dX11_isMixed_52 ?_
    refine m_lmul dX11_isMixed_53 ?_
    refine m_lcmp dX11_isMixed_54 ?_
    refine m_if_ne 62 dX11_isMixed_55 (by decide) (fun c7 => ?_) (fun c7 => ?_)
    · replace q := q.1 c7
      refine m_iconst (v := 0) dX11_isMixed_62 (by decide) ?_
      exact m_zret dX11_isMixed_63 rfl (by decide) q
    · replace q := q.2 c7
      refine m_iconst (v := 1) dX11_isMixed_58 (by decide) ?_
      refine m_goto 63 dX11_isMixed_59 (by decide) ?_
      exact m_zret dX11_isMixed_63 rfl (by decide) q
  · replace q := q.2 c1
    refine m_iconst (v := 1) dX11_isMixed_9 (by decide) ?_
    exact m_zret dX11_isMixed_10 rfl (by decide) q
set_option maxRecDepth 100000 in
theorem e_X11_share {g : gT} {h : mh_T} {P : Int32 → mh_T → Prop} (l1 : Int32) (q : MCv g yX11_good uX11_good [.ref 11] h (fun h1 => (¬ (mI h1 11 14) = 0 → MCi g yX11_isMixed uX11_isMixed [.ref 11] h1 (fun r4 h3 => (r4 = 0 → MCi g yX11_cell uX11_cell [.int (mI h3 11 30), .int ((mI h3 11 31) - 1)] h3 (fun r7 h6 => (vp_in r7 3298) ∧ (MCi g yX11_lowest uX11_lowest [.long (mL h6 54 r7.toNatClampNeg), .long ((mL h6 11 29) * (Int32.toInt64 (mI h6 45 (Int32.toNatClampNeg 49)))), .int l1] h6 (fun r10 h9 => P r10 h9)))) ∧ (¬ r4 = 0 → P 1 h3))) ∧ ((mI h1 11 14) = 0 → MCi g yX11_no uX11_no [.ref 11, .int 1] h1 (fun r12 h11 => P r12 h11)))) : MCi g yX11_share uX11_share [.ref 11, .int l1] h P := by
  refine m_enter (by decide) rfl (Nat.le_of_ble_eq_true rfl) (lv := [.ref 11, .int l1]) rfl ?_
  refine m_aload_n dX11_share_0 rfl ?_
  refine cl_X11_174 rfl (by decide) dX11_share_1 (Nat.le_of_ble_eq_true rfl) (MCv_go q (fun h1 q => ?_))
  refine m_aload_n dX11_share_4 rfl ?_
  refine gf_X11_183 rfl dX11_share_5 ?_
  refine m_if_ne 17 dX11_share_8 (by decide) (fun c2 => ?_) (fun c2 => ?_)
  · replace q := q.1 c2
    refine m_aload_n dX11_share_17 rfl ?_
    refine cl_X11_289 rfl (by decide) dX11_share_18 (Nat.le_of_ble_eq_true rfl) (MCi_go q (fun r4 h3 q => ?_))
    refine m_if_eq 26 dX11_share_21 (by decide) (fun c5 => ?_) (fun c5 => ?_)
    · replace q := q.1 c5
      refine m_aload_n dX11_share_26 rfl ?_
      refine gf_X11_47 rfl dX11_share_27 ?_
      refine m_aload_n dX11_share_30 rfl ?_
      refine gf_X11_254 rfl dX11_share_31 ?_
      refine m_aload_n dX11_share_34 rfl ?_
      refine gf_X11_257 rfl dX11_share_35 ?_
      refine m_iconst (v := 1) dX11_share_38 (by decide) ?_
      refine m_isub dX11_share_39 ?_
      refine cl_X11_260 rfl (by decide) dX11_share_40 (Nat.le_of_ble_eq_true rfl) (MCi_go q (fun r7 h6 q => ?_))
      obtain ⟨b8, q⟩ := q
      refine m_laload dX11_share_43 rfl (by decide) b8 ?_
      refine m_aload_n dX11_share_44 rfl ?_
      refine gf_X11_268 rfl dX11_share_45 ?_
      refine m_aload_n dX11_share_48 rfl ?_
      refine gf_X11_20 rfl dX11_share_49 ?_
      refine m_bipush (v := 49) dX11_share_52 (by decide) ?_
      refine m_iaload dX11_share_54 rfl (by decide) (by unfold vp_in; decide) ?_
      refine m_i2l dX11_share_55 ?_
      refine m_lmul dX11_share_56 ?_
      refine m_iload_n dX11_share_57 rfl ?_
      refine cl_X11_292 rfl (by decide) dX11_share_58 (Nat.le_of_ble_eq_true rfl) (MCi_go q (fun r10 h9 q => ?_))
      exact m_iret dX11_share_61 rfl q
    · replace q := q.2 c5
      refine m_iconst (v := 1) dX11_share_24 (by decide) ?_
      exact m_iret dX11_share_25 rfl q
  · replace q := q.2 c2
    refine m_aload_n dX11_share_11 rfl ?_
    refine m_iconst (v := 1) dX11_share_12 (by decide) ?_
    refine cl_X11_177 rfl (by decide) dX11_share_13 (Nat.le_of_ble_eq_true rfl) (MCi_go q (fun r12 h11 q => ?_))
    exact m_iret dX11_share_16 rfl q
set_option maxRecDepth 100000 in
theorem e_X11_isBit {g : gT} {h : mh_T} {P : Int32 → mh_T → Prop} (l0 : Int32) (q : (l0 = 0 → P 1 h) ∧ (¬ l0 = 0 → (¬ l0 = 1 → P 0 h) ∧ (l0 = 1 → P 1 h))) : MCi g yX11_isBit uX11_isBit [.int l0] h P := by
  refine m_enter (by decide) rfl (Nat.le_of_ble_eq_true rfl) (lv := [.int l0]) rfl ?_
  refine m_iload_n dX11_isBit_0 rfl ?_
  refine m_if_eq 9 dX11_isBit_1 (by decide) (fun c1 => ?_) (fun c1 => ?_)
  · replace q := q.1 c1
    refine m_iconst (v := 1) dX11_isBit_9 (by decide) ?_
    refine m_goto 14 dX11_isBit_10 (by decide) ?_
    exact m_zret dX11_isBit_14 rfl (by decide) q
  · replace q := q.2 c1
    refine m_iload_n dX11_isBit_4 rfl ?_
    refine m_iconst (v := 1) dX11_isBit_5 (by decide) ?_
    refine m_icmp_ne 13 dX11_isBit_6 (by decide) (fun c2 => ?_) (fun c2 => ?_)
    · replace q := q.1 c2
      refine m_iconst (v := 0) dX11_isBit_13 (by decide) ?_
      exact m_zret dX11_isBit_14 rfl (by decide) q
    · replace q := q.2 c2
      refine m_iconst (v := 1) dX11_isBit_9 (by decide) ?_
      refine m_goto 14 dX11_isBit_10 (by decide) ?_
      exact m_zret dX11_isBit_14 rfl (by decide) q
set_option maxRecDepth 100000 in
theorem e_X11_together {g : gT} {h : mh_T} {P : Int32 → mh_T → Prop} (l1 : Int32) (l2 : Int32) (l3 : Int32) (l4 : Int32) (l5 : Int32) (l6 : Int32) (q : MCv g yX11_good uX11_good [.ref 11] h (fun h1 => MCi g yX11_isLook uX11_isLook [.ref 11, .int l1] h1 (fun r3 h2 => (r3 = 0 → MCi g yX11_no uX11_no [.ref 11, .int 1] h2 (fun r6 h5 => P r6 h5)) ∧ (¬ r3 = 0 → MCi g yX11_isLook uX11_isLook [.ref 11, .int l3] h2 (fun r8 h7 => (r8 = 0 → MCi g yX11_no uX11_no [.ref 11, .int 1] h7 (fun r11 h10 => P r11 h10)) ∧ (¬ r8 = 0 → (l1 = l3 → MCi g yX11_no uX11_no [.ref 11, .int 1] h7 (fun r14 h13 => P r14 h13)) ∧ (¬ l1 = l3 → MCi g yX11_isBit uX11_isBit [.int l2] h7 (fun r16 h15 => (r16 = 0 → MCi g yX11_no uX11_no [.ref 11, .int 1] h15 (fun r19 h18 => P r19 h18)) ∧ (¬ r16 = 0 → MCi g yX11_isBit uX11_isBit [.int l4] h15 (fun r21 h20 => (¬ r21 = 0 → MCi g yX11_isMixed uX11_isMixed [.ref 11] h20 (fun r24 h23 => (¬ r24 = 0 → (¬ (mI h23 45 (Int32.toNatClampNeg 0)) = 0 → (l5 = 0 → ME g uX11_together 102 [.ref 11, .int l1, .int l2, .int l3, .int l4, .int l5, .int l6, .long 1, .retAddr 0, .int 0, .retAddr 0, .retAddr 0, .retAddr 0] [] h23 (qI P)) ∧ (¬ l5 = 0 → ME g uX11_together 102 [.ref 11, .int l1, .int l2, .int l3, .int l4, .int l5, .int l6, .long (-1), .retAddr 0, .int 0, .retAddr 0, .retAddr 0, .retAddr 0] [] h23 (qI P))) ∧ ((mI h23 45 (Int32.toNatClampNeg 0)) = 0 → (¬ l6 = 0 → P 1 h23) ∧ (l6 = 0 → (l5 = 0 → P 0 h23) ∧ (¬ l5 = 0 → P 1 h23)))) ∧ (r24 = 0 → MCi g yX11_no uX11_no [.ref 11, .int 6] h23 (fun r31 h30 => P r31 h30)))) ∧ (r21 = 0 → MCi g yX11_no uX11_no [.ref 11, .int 1] h20 (fun r33 h32 => P r33 h32)))))))))))) : MCi g yX11_together uX11_together [.ref 11, .int l1, .int l2, .int l3, .int l4, .int l5, .int l6] h P := by
  refine m_enter (by decide) rfl (Nat.le_of_ble_eq_true rfl) (lv := [.ref 11, .int l1, .int l2, .int l3, .int l4, .int l5, .int l6, .retAddr 0, .retAddr 0, .retAddr 0, .retAddr 0, .retAddr 0, .retAddr 0]) rfl ?_
  refine m_aload_n dX11_together_0 rfl ?_
  refine cl_X11_174 rfl (by decide) dX11_together_1 (Nat.le_of_ble_eq_true rfl) (MCv_go q (fun h1 q => ?_))
  refine m_aload_n dX11_together_4 rfl ?_
  refine m_iload_n dX11_together_5 rfl ?_
  refine cl_X11_296 rfl (by decide) dX11_together_6 (Nat.le_of_ble_eq_true rfl) (MCi_go q (fun r3 h2 q => ?_))
  refine m_if_eq 40 dX11_together_9 (by decide) (fun c4 => ?_) (fun c4 => ?_)
  · replace q := q.1 c4
    refine m_aload_n dX11_together_40 rfl ?_
    refine m_iconst (v := 1) dX11_together_41 (by decide) ?_
    refine cl_X11_177 rfl (by decide) dX11_together_42 (Nat.le_of_ble_eq_true rfl) (MCi_go q (fun r6 h5 q => ?_))
    exact m_iret dX11_together_45 rfl q
  · replace q := q.2 c4
    refine m_aload_n dX11_together_12 rfl ?_
    refine m_iload_n dX11_together_13 rfl ?_
    refine cl_X11_296 rfl (by decide) dX11_together_14 (Nat.le_of_ble_eq_true rfl) (MCi_go q (fun r8 h7 q => ?_))
    refine m_if_eq 40 dX11_together_17 (by decide) (fun c9 => ?_) (fun c9 => ?_)
    · replace q := q.1 c9
      refine m_aload_n dX11_together_40 rfl ?_
      refine m_iconst (v := 1) dX11_together_41 (by decide) ?_
      refine cl_X11_177 rfl (by decide) dX11_together_42 (Nat.le_of_ble_eq_true rfl) (MCi_go q (fun r11 h10 q => ?_))
      exact m_iret dX11_together_45 rfl q
    · replace q := q.2 c9
      refine m_iload_n dX11_together_20 rfl ?_
      refine m_iload_n dX11_together_21 rfl ?_
      refine m_icmp_eq 40 dX11_together_22 (by decide) (fun c12 => ?_) (fun c12 => ?_)
      · replace q := q.1 c12
        refine m_aload_n dX11_together_40 rfl ?_
        refine m_iconst (v := 1) dX11_together_41 (by decide) ?_
        refine cl_X11_177 rfl (by decide) dX11_together_42 (Nat.le_of_ble_eq_true rfl) (MCi_go q (fun r14 h13 q => ?_))
        exact m_iret dX11_together_45 rfl q
      · replace q := q.2 c12
        refine m_iload_n dX11_together_25 rfl ?_
        refine cl_X11_299 rfl (by decide) dX11_together_26 (Nat.le_of_ble_eq_true rfl) (MCi_go q (fun r16 h15 q => ?_))
        refine m_if_eq 40 dX11_together_29 (by decide) (fun c17 => ?_) (fun c17 => ?_)
        · replace q := q.1 c17
          refine m_aload_n dX11_together_40 rfl ?_
          refine m_iconst (v := 1) dX11_together_41 (by decide) ?_
          refine cl_X11_177 rfl (by decide) dX11_together_42 (Nat.le_of_ble_eq_true rfl) (MCi_go q (fun r19 h18 q => ?_))
          exact m_iret dX11_together_45 rfl q
        · replace q := q.2 c17
          refine m_iload dX11_together_32 rfl ?_
          refine cl_X11_299 rfl (by decide) dX11_together_34 (Nat.le_of_ble_eq_true rfl) (MCi_go q (fun r21 h20 q => ?_))
          refine m_if_ne 46 dX11_together_37 (by decide) (fun c22 => ?_) (fun c22 => ?_)
          · replace q := q.1 c22
            refine m_aload_n dX11_together_46 rfl ?_
            refine cl_X11_289 rfl (by decide) dX11_together_47 (Nat.le_of_ble_eq_true rfl) (MCi_go q (fun r24 h23 q => ?_))
            refine m_if_ne 60 dX11_together_50 (by decide) (fun c25 => ?_) (fun c25 => ?_)
            · replace q := q.1 c25
              refine m_aload_n dX11_together_60 rfl ?_
              refine gf_X11_20 rfl dX11_together_61 ?_
              refine m_iconst (v := 0) dX11_together_64 (by decide) ?_
              refine m_iaload dX11_together_65 rfl (by decide) (by unfold vp_in; decide) ?_
              refine m_if_ne 85 dX11_together_66 (by decide) (fun c26 => ?_) (fun c26 => ?_)
              · replace q := q.1 c26
                refine m_iload dX11_together_85 rfl ?_
                refine m_if_eq 96 dX11_together_87 (by decide) (fun c27 => ?_) (fun c27 => ?_)
                · replace q := q.1 c27
                  refine m_lconst (v := 1) dX11_together_96 (by decide) ?_
                  refine m_lstore (lv' := [.ref 11, .int l1, .int l2, .int l3, .int l4, .int l5, .int l6, .long 1, .retAddr 0, .retAddr 0, .retAddr 0, .retAddr 0, .retAddr 0]) dX11_together_97 (Nat.le_of_ble_eq_true rfl) rfl rfl ?_
                  refine m_iconst (v := 0) dX11_together_99 (by decide) ?_
                  refine m_istore (lv' := [.ref 11, .int l1, .int l2, .int l3, .int l4, .int l5, .int l6, .long 1, .retAddr 0, .int 0, .retAddr 0, .retAddr 0, .retAddr 0]) dX11_together_100 (Nat.le_of_ble_eq_true rfl) rfl rfl ?_
                  exact q
                · replace q := q.2 c27
                  refine m_ldc2 (v := (-1)) dX11_together_90 tw_833 ?_
                  refine m_goto 97 dX11_together_93 (by decide) ?_
                  refine m_lstore (lv' := [.ref 11, .int l1, .int l2, .int l3, .int l4, .int l5, .int l6, .long (-1), .retAddr 0, .retAddr 0, .retAddr 0, .retAddr 0, .retAddr 0]) dX11_together_97 (Nat.le_of_ble_eq_true rfl) rfl rfl ?_
                  refine m_iconst (v := 0) dX11_together_99 (by decide) ?_
                  refine m_istore (lv' := [.ref 11, .int l1, .int l2, .int l3, .int l4, .int l5, .int l6, .long (-1), .retAddr 0, .int 0, .retAddr 0, .retAddr 0, .retAddr 0]) dX11_together_100 (Nat.le_of_ble_eq_true rfl) rfl rfl ?_
                  exact q
              · replace q := q.2 c26
                refine m_iload dX11_together_69 rfl ?_
                refine m_if_ne 79 dX11_together_71 (by decide) (fun c28 => ?_) (fun c28 => ?_)
                · replace q := q.1 c28
                  refine m_iconst (v := 1) dX11_together_79 (by decide) ?_
                  refine m_goto 84 dX11_together_80 (by decide) ?_
                  exact m_iret dX11_together_84 rfl q
                · replace q := q.2 c28
                  refine m_iload dX11_together_74 rfl ?_
                  refine m_if_eq 83 dX11_together_76 (by decide) (fun c29 => ?_) (fun c29 => ?_)
                  · replace q := q.1 c29
                    refine m_iconst (v := 0) dX11_together_83 (by decide) ?_
                    exact m_iret dX11_together_84 rfl q
                  · replace q := q.2 c29
                    refine m_iconst (v := 1) dX11_together_79 (by decide) ?_
                    refine m_goto 84 dX11_together_80 (by decide) ?_
                    exact m_iret dX11_together_84 rfl q
            · replace q := q.2 c25
              refine m_aload_n dX11_together_53 rfl ?_
              refine m_bipush (v := 6) dX11_together_54 (by decide) ?_
              refine cl_X11_177 rfl (by decide) dX11_together_56 (Nat.le_of_ble_eq_true rfl) (MCi_go q (fun r31 h30 q => ?_))
              exact m_iret dX11_together_59 rfl q
          · replace q := q.2 c22
            refine m_aload_n dX11_together_40 rfl ?_
            refine m_iconst (v := 1) dX11_together_41 (by decide) ?_
            refine cl_X11_177 rfl (by decide) dX11_together_42 (Nat.le_of_ble_eq_true rfl) (MCi_go q (fun r33 h32 q => ?_))
            exact m_iret dX11_together_45 rfl q
set_option maxRecDepth 100000 in
theorem r_X11_together_102 {g : gT} {h : mh_T} {P : Int32 → mh_T → Prop} (l1 : Int32) (l2 : Int32) (l3 : Int32) (l4 : Int32) (l5 : Int32) (l6 : Int32) (l7 : Int64) (l9 : Int32) (q : ((mI h 11 31) ≤ l9 → ME g uX11_together 189 [.ref 11, .int l1, .int l2, .int l3, .int l4, .int l5, .int l6, .long l7, .retAddr 0, .int 0, .retAddr 0, .retAddr 0, .retAddr 0] [] h (qI P)) ∧ (¬ (mI h 11 31) ≤ l9 → MCi g yX11_hiddenMany uX11_hiddenMany [.ref 11] h (fun r3 h2 => (r3 ≤ l9 → MCi g yX11_cell uX11_cell [.int ((mI h2 11 30) + 1), .int l9] h2 (fun r6 h5 => (vp_in r6 3298) ∧ (ME g uX11_together 102 [.ref 11, .int l1, .int l2, .int l3, .int l4, .int l5, .int l6, .long l7, .retAddr 0, .int (l9 + 1), .retAddr 0, .retAddr 0, .retAddr 0] [] (wL h5 54 r6.toNatClampNeg 0) (qI P)))) ∧ (¬ r3 ≤ l9 → (¬ ((l9 >>> (l1 &&& 31)) &&& 1) = l2 → MCi g yX11_cell uX11_cell [.int ((mI h2 11 30) + 1), .int l9] h2 (fun r11 h10 => (vp_in r11 3298) ∧ (ME g uX11_together 102 [.ref 11, .int l1, .int l2, .int l3, .int l4, .int l5, .int l6, .long l7, .retAddr 0, .int (l9 + 1), .retAddr 0, .retAddr 0, .retAddr 0] [] (wL h10 54 r11.toNatClampNeg 0) (qI P)))) ∧ (((l9 >>> (l1 &&& 31)) &&& 1) = l2 → (¬ ((l9 >>> (l3 &&& 31)) &&& 1) = l4 → MCi g yX11_cell uX11_cell [.int ((mI h2 11 30) + 1), .int l9] h2 (fun r16 h15 => (vp_in r16 3298) ∧ (ME g uX11_together 102 [.ref 11, .int l1, .int l2, .int l3, .int l4, .int l5, .int l6, .long l7, .retAddr 0, .int (l9 + 1), .retAddr 0, .retAddr 0, .retAddr 0] [] (wL h15 54 r16.toNatClampNeg 0) (qI P)))) ∧ (((l9 >>> (l3 &&& 31)) &&& 1) = l4 → MCi g yX11_cell uX11_cell [.int ((mI h2 11 30) + 1), .int l9] h2 (fun r20 h19 => (vp_in r20 3298) ∧ (ME g uX11_together 102 [.ref 11, .int l1, .int l2, .int l3, .int l4, .int l5, .int l6, .long l7, .retAddr 0, .int (l9 + 1), .retAddr 0, .retAddr 0, .retAddr 0] [] (wL h19 54 r20.toNatClampNeg (l7 * (mL h19 11 29))) (qI P))))))))) : ME g uX11_together 102 [.ref 11, .int l1, .int l2, .int l3, .int l4, .int l5, .int l6, .long l7, .retAddr 0, .int l9, .retAddr 0, .retAddr 0, .retAddr 0] [] h (qI P) := by
  refine m_iload dX11_together_102 rfl ?_
  refine m_aload_n dX11_together_104 rfl ?_
  refine gf_X11_257 rfl dX11_together_105 ?_
  refine m_icmp_ge 186 dX11_together_108 (by decide) (fun c1 => ?_) (fun c1 => ?_)
  · replace q := q.1 c1
    refine m_iconst (v := 0) dX11_together_186 (by decide) ?_
    refine m_istore (lv' := [.ref 11, .int l1, .int l2, .int l3, .int l4, .int l5, .int l6, .long l7, .retAddr 0, .int 0, .retAddr 0, .retAddr 0, .retAddr 0]) dX11_together_187 (Nat.le_of_ble_eq_true rfl) rfl rfl ?_
    exact q
  · replace q := q.2 c1
    refine m_iload dX11_together_111 rfl ?_
    refine m_aload_n dX11_together_113 rfl ?_
    refine cl_X11_251 rfl (by decide) dX11_together_114 (Nat.le_of_ble_eq_true rfl) (MCi_go q (fun r3 h2 q => ?_))
    refine m_icmp_ge 145 dX11_together_117 (by decide) (fun c4 => ?_) (fun c4 => ?_)
    · replace q := q.1 c4
      refine m_iconst (v := 0) dX11_together_145 (by decide) ?_
      refine m_istore (lv' := [.ref 11, .int l1, .int l2, .int l3, .int l4, .int l5, .int l6, .long l7, .retAddr 0, .int l9, .int 0, .retAddr 0, .retAddr 0]) dX11_together_146 (Nat.le_of_ble_eq_true rfl) rfl rfl ?_
      refine m_aload_n dX11_together_148 rfl ?_
      refine gf_X11_47 rfl dX11_together_149 ?_
      refine m_aload_n dX11_together_152 rfl ?_
      refine gf_X11_254 rfl dX11_together_153 ?_
      refine m_iconst (v := 1) dX11_together_156 (by decide) ?_
      refine m_iadd dX11_together_157 ?_
      refine m_iload dX11_together_158 rfl ?_
      refine cl_X11_260 rfl (by decide) dX11_together_160 (Nat.le_of_ble_eq_true rfl) (MCi_go q (fun r6 h5 q => ?_))
      refine m_iload dX11_together_163 rfl ?_
      refine m_if_eq 178 dX11_together_165 (by decide) (fun c7 => ?_) (fun c7 => absurd c7 (by decide))
      refine m_lconst (v := 0) dX11_together_178 (by decide) ?_
      obtain ⟨b8, q⟩ := q
      refine m_lastore dX11_together_179 rfl (by decide) b8 ?_
      refine m_iinc (v := (l9 + 1)) (lv' := [.ref 11, .int l1, .int l2, .int l3, .int l4, .int l5, .int l6, .long l7, .retAddr 0, .int (l9 + 1), .int 0, .retAddr 0, .retAddr 0]) dX11_together_180 (Nat.le_of_ble_eq_true rfl) rfl (congrArg (fun z => l9 + z) (by decide : Int32.ofInt 1 = 1)) rfl rfl ?_
      refine m_goto 102 dX11_together_183 (by decide) ?_
      refine m_dropK (lv' := [.ref 11, .int l1, .int l2, .int l3, .int l4, .int l5, .int l6, .long l7, .retAddr 0, .int (l9 + 1), .retAddr 0, .retAddr 0, .retAddr 0]) [10] rfl ?_
      exact q
    · replace q := q.2 c4
      refine m_iload dX11_together_120 rfl ?_
      refine m_iload_n dX11_together_122 rfl ?_
      refine m_ishr dX11_together_123 ?_
      refine m_iconst (v := 1) dX11_together_124 (by decide) ?_
      refine m_iand dX11_together_125 ?_
      refine m_iload_n dX11_together_126 rfl ?_
      refine m_icmp_ne 145 dX11_together_127 (by decide) (fun c9 => ?_) (fun c9 => ?_)
      · replace q := q.1 c9
        refine m_iconst (v := 0) dX11_together_145 (by decide) ?_
        refine m_istore (lv' := [.ref 11, .int l1, .int l2, .int l3, .int l4, .int l5, .int l6, .long l7, .retAddr 0, .int l9, .int 0, .retAddr 0, .retAddr 0]) dX11_together_146 (Nat.le_of_ble_eq_true rfl) rfl rfl ?_
        refine m_aload_n dX11_together_148 rfl ?_
        refine gf_X11_47 rfl dX11_together_149 ?_
        refine m_aload_n dX11_together_152 rfl ?_
        refine gf_X11_254 rfl dX11_together_153 ?_
        refine m_iconst (v := 1) dX11_together_156 (by decide) ?_
        refine m_iadd dX11_together_157 ?_
        refine m_iload dX11_together_158 rfl ?_
        refine cl_X11_260 rfl (by decide) dX11_together_160 (Nat.le_of_ble_eq_true rfl) (MCi_go q (fun r11 h10 q => ?_))
        refine m_iload dX11_together_163 rfl ?_
        refine m_if_eq 178 dX11_together_165 (by decide) (fun c12 => ?_) (fun c12 => absurd c12 (by decide))
        refine m_lconst (v := 0) dX11_together_178 (by decide) ?_
        obtain ⟨b13, q⟩ := q
        refine m_lastore dX11_together_179 rfl (by decide) b13 ?_
        refine m_iinc (v := (l9 + 1)) (lv' := [.ref 11, .int l1, .int l2, .int l3, .int l4, .int l5, .int l6, .long l7, .retAddr 0, .int (l9 + 1), .int 0, .retAddr 0, .retAddr 0]) dX11_together_180 (Nat.le_of_ble_eq_true rfl) rfl (congrArg (fun z => l9 + z) (by decide : Int32.ofInt 1 = 1)) rfl rfl ?_
        refine m_goto 102 dX11_together_183 (by decide) ?_
        refine m_dropK (lv' := [.ref 11, .int l1, .int l2, .int l3, .int l4, .int l5, .int l6, .long l7, .retAddr 0, .int (l9 + 1), .retAddr 0, .retAddr 0, .retAddr 0]) [10] rfl ?_
        exact q
      · replace q := q.2 c9
        refine m_iload dX11_together_130 rfl ?_
        refine m_iload_n dX11_together_132 rfl ?_
        refine m_ishr dX11_together_133 ?_
        refine m_iconst (v := 1) dX11_together_134 (by decide) ?_
        refine m_iand dX11_together_135 ?_
        refine m_iload dX11_together_136 rfl ?_
        refine m_icmp_ne 145 dX11_together_138 (by decide) (fun c14 => ?_) (fun c14 => ?_)
        · replace q := q.1 c14
          refine m_iconst (v := 0) dX11_together_145 (by decide) ?_
          refine m_istore (lv' := [.ref 11, .int l1, .int l2, .int l3, .int l4, .int l5, .int l6, .long l7, .retAddr 0, .int l9, .int 0, .retAddr 0, .retAddr 0]) dX11_together_146 (Nat.le_of_ble_eq_true rfl) rfl rfl ?_
          refine m_aload_n dX11_together_148 rfl ?_
          refine gf_X11_47 rfl dX11_together_149 ?_
          refine m_aload_n dX11_together_152 rfl ?_
          refine gf_X11_254 rfl dX11_together_153 ?_
          refine m_iconst (v := 1) dX11_together_156 (by decide) ?_
          refine m_iadd dX11_together_157 ?_
          refine m_iload dX11_together_158 rfl ?_
          refine cl_X11_260 rfl (by decide) dX11_together_160 (Nat.le_of_ble_eq_true rfl) (MCi_go q (fun r16 h15 q => ?_))
          refine m_iload dX11_together_163 rfl ?_
          refine m_if_eq 178 dX11_together_165 (by decide) (fun c17 => ?_) (fun c17 => absurd c17 (by decide))
          refine m_lconst (v := 0) dX11_together_178 (by decide) ?_
          obtain ⟨b18, q⟩ := q
          refine m_lastore dX11_together_179 rfl (by decide) b18 ?_
          refine m_iinc (v := (l9 + 1)) (lv' := [.ref 11, .int l1, .int l2, .int l3, .int l4, .int l5, .int l6, .long l7, .retAddr 0, .int (l9 + 1), .int 0, .retAddr 0, .retAddr 0]) dX11_together_180 (Nat.le_of_ble_eq_true rfl) rfl (congrArg (fun z => l9 + z) (by decide : Int32.ofInt 1 = 1)) rfl rfl ?_
          refine m_goto 102 dX11_together_183 (by decide) ?_
          refine m_dropK (lv' := [.ref 11, .int l1, .int l2, .int l3, .int l4, .int l5, .int l6, .long l7, .retAddr 0, .int (l9 + 1), .retAddr 0, .retAddr 0, .retAddr 0]) [10] rfl ?_
          exact q
        · replace q := q.2 c14
          refine m_iconst (v := 1) dX11_together_141 (by decide) ?_
          refine m_goto 146 dX11_together_142 (by decide) ?_
          refine m_istore (lv' := [.ref 11, .int l1, .int l2, .int l3, .int l4, .int l5, .int l6, .long l7, .retAddr 0, .int l9, .int 1, .retAddr 0, .retAddr 0]) dX11_together_146 (Nat.le_of_ble_eq_true rfl) rfl rfl ?_
          refine m_aload_n dX11_together_148 rfl ?_
          refine gf_X11_47 rfl dX11_together_149 ?_
          refine m_aload_n dX11_together_152 rfl ?_
          refine gf_X11_254 rfl dX11_together_153 ?_
          refine m_iconst (v := 1) dX11_together_156 (by decide) ?_
          refine m_iadd dX11_together_157 ?_
          refine m_iload dX11_together_158 rfl ?_
          refine cl_X11_260 rfl (by decide) dX11_together_160 (Nat.le_of_ble_eq_true rfl) (MCi_go q (fun r20 h19 q => ?_))
          refine m_iload dX11_together_163 rfl ?_
          refine m_if_eq 178 dX11_together_165 (by decide) (fun c21 => absurd c21 (by decide)) (fun c21 => ?_)
          refine m_lload dX11_together_168 rfl ?_
          refine m_aload_n dX11_together_170 rfl ?_
          refine gf_X11_268 rfl dX11_together_171 ?_
          refine m_lmul dX11_together_174 ?_
          refine m_goto 179 dX11_together_175 (by decide) ?_
          obtain ⟨b22, q⟩ := q
          refine m_lastore dX11_together_179 rfl (by decide) b22 ?_
          refine m_iinc (v := (l9 + 1)) (lv' := [.ref 11, .int l1, .int l2, .int l3, .int l4, .int l5, .int l6, .long l7, .retAddr 0, .int (l9 + 1), .int 1, .retAddr 0, .retAddr 0]) dX11_together_180 (Nat.le_of_ble_eq_true rfl) rfl (congrArg (fun z => l9 + z) (by decide : Int32.ofInt 1 = 1)) rfl rfl ?_
          refine m_goto 102 dX11_together_183 (by decide) ?_
          refine m_dropK (lv' := [.ref 11, .int l1, .int l2, .int l3, .int l4, .int l5, .int l6, .long l7, .retAddr 0, .int (l9 + 1), .retAddr 0, .retAddr 0, .retAddr 0]) [10] rfl ?_
          exact q
set_option maxRecDepth 100000 in
theorem r_X11_together_189 {g : gT} {h : mh_T} {P : Int32 → mh_T → Prop} (l1 : Int32) (l2 : Int32) (l3 : Int32) (l4 : Int32) (l5 : Int32) (l6 : Int32) (l7 : Int64) (l9 : Int32) (q : ((mI h 11 30) ≤ l9 → MCv g yX11_goesUp uX11_goesUp [.ref 11, .int ((mI h 11 30) + 1)] h (fun h2 => MCi g yX11_cell uX11_cell [.int ((mI h2 11 30) + 1), .int ((mI h2 11 31) - 1)] h2 (fun r4 h3 => (vp_in r4 3298) ∧ (∀ x6 : Int64, x6 = ((-l7) * (mL h3 54 r4.toNatClampNeg)) → MCi g yX11_lowest uX11_lowest [.long x6, .long ((mL h3 11 29) * (Int32.toInt64 (mI h3 45 (Int32.toNatClampNeg 49)))), .int l6] h3 (fun r8 h7 => P r8 h7))))) ∧ (¬ (mI h 11 30) ≤ l9 → (vp_in l9 32) ∧ (∀ x10 : Int32, x10 = (mI h 55 l9.toNatClampNeg) → MCi g yX11_hiddenMany uX11_hiddenMany [.ref 11] h (fun r12 h11 => (r12 ≤ x10 → ME g uX11_together 247 [.ref 11, .int l1, .int l2, .int l3, .int l4, .int l5, .int l6, .long l7, .retAddr 0, .int l9, .int x10, .int 0, .int 0] [] h11 (qI P)) ∧ (¬ r12 ≤ x10 → (¬ ((x10 >>> (l1 &&& 31)) &&& 1) = l2 → ME g uX11_together 247 [.ref 11, .int l1, .int l2, .int l3, .int l4, .int l5, .int l6, .long l7, .retAddr 0, .int l9, .int x10, .int 0, .int 0] [] h11 (qI P)) ∧ (((x10 >>> (l1 &&& 31)) &&& 1) = l2 → (¬ ((x10 >>> (l3 &&& 31)) &&& 1) = l4 → ME g uX11_together 247 [.ref 11, .int l1, .int l2, .int l3, .int l4, .int l5, .int l6, .long l7, .retAddr 0, .int l9, .int x10, .int 0, .int 0] [] h11 (qI P)) ∧ (((x10 >>> (l3 &&& 31)) &&& 1) = l4 → ME g uX11_together 247 [.ref 11, .int l1, .int l2, .int l3, .int l4, .int l5, .int l6, .long l7, .retAddr 0, .int l9, .int x10, .int 1, .int 0] [] h11 (qI P)))))))) : ME g uX11_together 189 [.ref 11, .int l1, .int l2, .int l3, .int l4, .int l5, .int l6, .long l7, .retAddr 0, .int l9, .retAddr 0, .retAddr 0, .retAddr 0] [] h (qI P) := by
  refine m_iload dX11_together_189 rfl ?_
  refine m_aload_n dX11_together_191 rfl ?_
  refine gf_X11_254 rfl dX11_together_192 ?_
  refine m_icmp_ge 307 dX11_together_195 (by decide) (fun c1 => ?_) (fun c1 => ?_)
  · replace q := q.1 c1
    refine m_aload_n dX11_together_307 rfl ?_
    refine m_aload_n dX11_together_308 rfl ?_
    refine gf_X11_254 rfl dX11_together_309 ?_
    refine m_iconst (v := 1) dX11_together_312 (by decide) ?_
    refine m_iadd dX11_together_313 ?_
    refine cl_X11_285 rfl (by decide) dX11_together_314 (Nat.le_of_ble_eq_true rfl) (MCv_go q (fun h2 q => ?_))
    refine m_lload dX11_together_317 rfl ?_
    refine m_lneg dX11_together_319 ?_
    refine m_aload_n dX11_together_320 rfl ?_
    refine gf_X11_47 rfl dX11_together_321 ?_
    refine m_aload_n dX11_together_324 rfl ?_
    refine gf_X11_254 rfl dX11_together_325 ?_
    refine m_iconst (v := 1) dX11_together_328 (by decide) ?_
    refine m_iadd dX11_together_329 ?_
    refine m_aload_n dX11_together_330 rfl ?_
    refine gf_X11_257 rfl dX11_together_331 ?_
    refine m_iconst (v := 1) dX11_together_334 (by decide) ?_
    refine m_isub dX11_together_335 ?_
    refine cl_X11_260 rfl (by decide) dX11_together_336 (Nat.le_of_ble_eq_true rfl) (MCi_go q (fun r4 h3 q => ?_))
    obtain ⟨b5, q⟩ := q
    refine m_laload dX11_together_339 rfl (by decide) b5 ?_
    refine m_lmul dX11_together_340 ?_
    obtain ⟨x6, ex6⟩ : ∃ z, z = ((-l7) * (mL h3 54 r4.toNatClampNeg)) := ⟨_, rfl⟩
    rw [← ex6]
    replace q := q x6 ex6
    refine m_lstore (lv' := [.ref 11, .int l1, .int l2, .int l3, .int l4, .int l5, .int l6, .long l7, .retAddr 0, .long x6, .retAddr 0, .retAddr 0, .retAddr 0]) dX11_together_341 (Nat.le_of_ble_eq_true rfl) rfl rfl ?_
    refine m_lload dX11_together_343 rfl ?_
    refine m_aload_n dX11_together_345 rfl ?_
    refine gf_X11_268 rfl dX11_together_346 ?_
    refine m_aload_n dX11_together_349 rfl ?_
    refine gf_X11_20 rfl dX11_together_350 ?_
    refine m_bipush (v := 49) dX11_together_353 (by decide) ?_
    refine m_iaload dX11_together_355 rfl (by decide) (by unfold vp_in; decide) ?_
    refine m_i2l dX11_together_356 ?_
    refine m_lmul dX11_together_357 ?_
    refine m_iload dX11_together_358 rfl ?_
    refine cl_X11_292 rfl (by decide) dX11_together_360 (Nat.le_of_ble_eq_true rfl) (MCi_go q (fun r8 h7 q => ?_))
    exact m_iret dX11_together_363 rfl q
  · replace q := q.2 c1
    refine m_aload_n dX11_together_198 rfl ?_
    refine gf_X11_51 rfl dX11_together_199 ?_
    refine m_iload dX11_together_202 rfl ?_
    obtain ⟨b9, q⟩ := q
    refine m_iaload dX11_together_204 rfl (by decide) b9 ?_
    obtain ⟨x10, ex10⟩ : ∃ z, z = (mI h 55 l9.toNatClampNeg) := ⟨_, rfl⟩
    rw [← ex10]
    replace q := q x10 ex10
    refine m_istore (lv' := [.ref 11, .int l1, .int l2, .int l3, .int l4, .int l5, .int l6, .long l7, .retAddr 0, .int l9, .int x10, .retAddr 0, .retAddr 0]) dX11_together_205 (Nat.le_of_ble_eq_true rfl) rfl rfl ?_
    refine m_iload dX11_together_207 rfl ?_
    refine m_aload_n dX11_together_209 rfl ?_
    refine cl_X11_251 rfl (by decide) dX11_together_210 (Nat.le_of_ble_eq_true rfl) (MCi_go q (fun r12 h11 q => ?_))
    refine m_icmp_ge 241 dX11_together_213 (by decide) (fun c13 => ?_) (fun c13 => ?_)
    · replace q := q.1 c13
      refine m_iconst (v := 0) dX11_together_241 (by decide) ?_
      refine m_istore (lv' := [.ref 11, .int l1, .int l2, .int l3, .int l4, .int l5, .int l6, .long l7, .retAddr 0, .int l9, .int x10, .int 0, .retAddr 0]) dX11_together_242 (Nat.le_of_ble_eq_true rfl) rfl rfl ?_
      refine m_iconst (v := 0) dX11_together_244 (by decide) ?_
      refine m_istore (lv' := [.ref 11, .int l1, .int l2, .int l3, .int l4, .int l5, .int l6, .long l7, .retAddr 0, .int l9, .int x10, .int 0, .int 0]) dX11_together_245 (Nat.le_of_ble_eq_true rfl) rfl rfl ?_
      exact q
    · replace q := q.2 c13
      refine m_iload dX11_together_216 rfl ?_
      refine m_iload_n dX11_together_218 rfl ?_
      refine m_ishr dX11_together_219 ?_
      refine m_iconst (v := 1) dX11_together_220 (by decide) ?_
      refine m_iand dX11_together_221 ?_
      refine m_iload_n dX11_together_222 rfl ?_
      refine m_icmp_ne 241 dX11_together_223 (by decide) (fun c14 => ?_) (fun c14 => ?_)
      · replace q := q.1 c14
        refine m_iconst (v := 0) dX11_together_241 (by decide) ?_
        refine m_istore (lv' := [.ref 11, .int l1, .int l2, .int l3, .int l4, .int l5, .int l6, .long l7, .retAddr 0, .int l9, .int x10, .int 0, .retAddr 0]) dX11_together_242 (Nat.le_of_ble_eq_true rfl) rfl rfl ?_
        refine m_iconst (v := 0) dX11_together_244 (by decide) ?_
        refine m_istore (lv' := [.ref 11, .int l1, .int l2, .int l3, .int l4, .int l5, .int l6, .long l7, .retAddr 0, .int l9, .int x10, .int 0, .int 0]) dX11_together_245 (Nat.le_of_ble_eq_true rfl) rfl rfl ?_
        exact q
      · replace q := q.2 c14
        refine m_iload dX11_together_226 rfl ?_
        refine m_iload_n dX11_together_228 rfl ?_
        refine m_ishr dX11_together_229 ?_
        refine m_iconst (v := 1) dX11_together_230 (by decide) ?_
        refine m_iand dX11_together_231 ?_
        refine m_iload dX11_together_232 rfl ?_
        refine m_icmp_ne 241 dX11_together_234 (by decide) (fun c15 => ?_) (fun c15 => ?_)
        · replace q := q.1 c15
          refine m_iconst (v := 0) dX11_together_241 (by decide) ?_
          refine m_istore (lv' := [.ref 11, .int l1, .int l2, .int l3, .int l4, .int l5, .int l6, .long l7, .retAddr 0, .int l9, .int x10, .int 0, .retAddr 0]) dX11_together_242 (Nat.le_of_ble_eq_true rfl) rfl rfl ?_
          refine m_iconst (v := 0) dX11_together_244 (by decide) ?_
          refine m_istore (lv' := [.ref 11, .int l1, .int l2, .int l3, .int l4, .int l5, .int l6, .long l7, .retAddr 0, .int l9, .int x10, .int 0, .int 0]) dX11_together_245 (Nat.le_of_ble_eq_true rfl) rfl rfl ?_
          exact q
        · replace q := q.2 c15
          refine m_iconst (v := 1) dX11_together_237 (by decide) ?_
          refine m_goto 242 dX11_together_238 (by decide) ?_
          refine m_istore (lv' := [.ref 11, .int l1, .int l2, .int l3, .int l4, .int l5, .int l6, .long l7, .retAddr 0, .int l9, .int x10, .int 1, .retAddr 0]) dX11_together_242 (Nat.le_of_ble_eq_true rfl) rfl rfl ?_
          refine m_iconst (v := 0) dX11_together_244 (by decide) ?_
          refine m_istore (lv' := [.ref 11, .int l1, .int l2, .int l3, .int l4, .int l5, .int l6, .long l7, .retAddr 0, .int l9, .int x10, .int 1, .int 0]) dX11_together_245 (Nat.le_of_ble_eq_true rfl) rfl rfl ?_
          exact q
set_option maxRecDepth 100000 in
theorem r_X11_together_247 {g : gT} {h : mh_T} {P : Int32 → mh_T → Prop} (l1 : Int32) (l2 : Int32) (l3 : Int32) (l4 : Int32) (l5 : Int32) (l6 : Int32) (l7 : Int64) (l9 : Int32) (l10 : Int32) (l11 : Int32) (l12 : Int32) (q : ((mI h 11 31) ≤ l12 → ME g uX11_together 189 [.ref 11, .int l1, .int l2, .int l3, .int l4, .int l5, .int l6, .long l7, .retAddr 0, .int (l9 + 1), .retAddr 0, .retAddr 0, .retAddr 0] [] h (qI P)) ∧ (¬ (mI h 11 31) ≤ l12 → (l11 = 0 → ME g uX11_together 189 [.ref 11, .int l1, .int l2, .int l3, .int l4, .int l5, .int l6, .long l7, .retAddr 0, .int (l9 + 1), .retAddr 0, .retAddr 0, .retAddr 0] [] h (qI P)) ∧ (¬ l11 = 0 → MCi g yX11_cell uX11_cell [.int ((mI h 11 30) + 1), .int l12] h (fun r4 h3 => (vp_in r4 3298) ∧ (MCi g yX11_cell uX11_cell [.int l9, .int l12] h3 (fun r7 h6 => (vp_in r7 3298) ∧ ((vp_in r4 3298) ∧ (ME g uX11_together 247 [.ref 11, .int l1, .int l2, .int l3, .int l4, .int l5, .int l6, .long l7, .retAddr 0, .int l9, .int l10, .int l11, .int (l12 + 1)] [] (wL h6 54 r4.toNatClampNeg ((mL h3 54 r4.toNatClampNeg) - (l7 * (mL h6 54 r7.toNatClampNeg)))) (qI P))))))))) : ME g uX11_together 247 [.ref 11, .int l1, .int l2, .int l3, .int l4, .int l5, .int l6, .long l7, .retAddr 0, .int l9, .int l10, .int l11, .int l12] [] h (qI P) := by
  refine m_iload dX11_together_247 rfl ?_
  refine m_aload_n dX11_together_249 rfl ?_
  refine gf_X11_257 rfl dX11_together_250 ?_
  refine m_icmp_ge 301 dX11_together_253 (by decide) (fun c1 => ?_) (fun c1 => ?_)
  · replace q := q.1 c1
    refine m_iinc (v := (l9 + 1)) (lv' := [.ref 11, .int l1, .int l2, .int l3, .int l4, .int l5, .int l6, .long l7, .retAddr 0, .int (l9 + 1), .int l10, .int l11, .int l12]) dX11_together_301 (Nat.le_of_ble_eq_true rfl) rfl (congrArg (fun z => l9 + z) (by decide : Int32.ofInt 1 = 1)) rfl rfl ?_
    refine m_goto 189 dX11_together_304 (by decide) ?_
    refine m_dropK (lv' := [.ref 11, .int l1, .int l2, .int l3, .int l4, .int l5, .int l6, .long l7, .retAddr 0, .int (l9 + 1), .retAddr 0, .retAddr 0, .retAddr 0]) [10, 11, 12] rfl ?_
    exact q
  · replace q := q.2 c1
    refine m_iload dX11_together_256 rfl ?_
    refine m_if_eq 301 dX11_together_258 (by decide) (fun c2 => ?_) (fun c2 => ?_)
    · replace q := q.1 c2
      refine m_iinc (v := (l9 + 1)) (lv' := [.ref 11, .int l1, .int l2, .int l3, .int l4, .int l5, .int l6, .long l7, .retAddr 0, .int (l9 + 1), .int l10, .int l11, .int l12]) dX11_together_301 (Nat.le_of_ble_eq_true rfl) rfl (congrArg (fun z => l9 + z) (by decide : Int32.ofInt 1 = 1)) rfl rfl ?_
      refine m_goto 189 dX11_together_304 (by decide) ?_
      refine m_dropK (lv' := [.ref 11, .int l1, .int l2, .int l3, .int l4, .int l5, .int l6, .long l7, .retAddr 0, .int (l9 + 1), .retAddr 0, .retAddr 0, .retAddr 0]) [10, 11, 12] rfl ?_
      exact q
    · replace q := q.2 c2
      refine m_aload_n dX11_together_261 rfl ?_
      refine gf_X11_47 rfl dX11_together_262 ?_
      refine m_aload_n dX11_together_265 rfl ?_
      refine gf_X11_254 rfl dX11_together_266 ?_
      refine m_iconst (v := 1) dX11_together_269 (by decide) ?_
      refine m_iadd dX11_together_270 ?_
      refine m_iload dX11_together_271 rfl ?_
      refine cl_X11_260 rfl (by decide) dX11_together_273 (Nat.le_of_ble_eq_true rfl) (MCi_go q (fun r4 h3 q => ?_))
      refine m_dup2 dX11_together_276 rfl rfl ?_
      obtain ⟨b5, q⟩ := q
      refine m_laload dX11_together_277 rfl (by decide) b5 ?_
      refine m_lload dX11_together_278 rfl ?_
      refine m_aload_n dX11_together_280 rfl ?_
      refine gf_X11_47 rfl dX11_together_281 ?_
      refine m_iload dX11_together_284 rfl ?_
      refine m_iload dX11_together_286 rfl ?_
      refine cl_X11_260 rfl (by decide) dX11_together_288 (Nat.le_of_ble_eq_true rfl) (MCi_go q (fun r7 h6 q => ?_))
      obtain ⟨b8, q⟩ := q
      refine m_laload dX11_together_291 rfl (by decide) b8 ?_
      refine m_lmul dX11_together_292 ?_
      refine m_lsub dX11_together_293 ?_
      obtain ⟨b9, q⟩ := q
      refine m_lastore dX11_together_294 rfl (by decide) b9 ?_
      refine m_iinc (v := (l12 + 1)) (lv' := [.ref 11, .int l1, .int l2, .int l3, .int l4, .int l5, .int l6, .long l7, .retAddr 0, .int l9, .int l10, .int l11, .int (l12 + 1)]) dX11_together_295 (Nat.le_of_ble_eq_true rfl) rfl (congrArg (fun z => l12 + z) (by decide : Int32.ofInt 1 = 1)) rfl rfl ?_
      refine m_goto 247 dX11_together_298 (by decide) ?_
      exact q
set_option maxRecDepth 100000 in
theorem e_X11_fitsAll {g : gT} {h : mh_T} {P : Int32 → mh_T → Prop} (l1 : Int32) (l2 : Int32) (q : ME g uX11_fitsAll 5 [.ref 11, .int l1, .int l2, .int 1, .int 0] [] h (qI P)) : MCi g yX11_fitsAll uX11_fitsAll [.ref 11, .int l1, .int l2] h P := by
  refine m_enter (by decide) rfl (Nat.le_of_ble_eq_true rfl) (lv := [.ref 11, .int l1, .int l2, .retAddr 0, .retAddr 0]) rfl ?_
  refine m_iconst (v := 1) dX11_fitsAll_0 (by decide) ?_
  refine m_istore_n (lv' := [.ref 11, .int l1, .int l2, .int 1, .retAddr 0]) dX11_fitsAll_1 (Nat.le_of_ble_eq_true rfl) rfl rfl ?_
  refine m_iconst (v := 0) dX11_fitsAll_2 (by decide) ?_
  refine m_istore (lv' := [.ref 11, .int l1, .int l2, .int 1, .int 0]) dX11_fitsAll_3 (Nat.le_of_ble_eq_true rfl) rfl rfl ?_
  exact q
set_option maxRecDepth 100000 in
theorem r_X11_fitsAll_5 {g : gT} {h : mh_T} {P : Int32 → mh_T → Prop} (l1 : Int32) (l2 : Int32) (l3 : Int32) (l4 : Int32) (q : ((mI h 45 (Int32.toNatClampNeg 0)) ≤ l4 → (l3 = 0 ∨ l3 = 1) ∧ P l3 h) ∧ (¬ (mI h 45 (Int32.toNatClampNeg 0)) ≤ l4 → (l3 = 0 → ME g uX11_fitsAll 5 [.ref 11, .int l1, .int l2, .int 0, .int (l4 + 1)] [] h (qI P)) ∧ (¬ l3 = 0 → (l4 = l2 → ME g uX11_fitsAll 5 [.ref 11, .int l1, .int l2, .int 1, .int (l4 + 1)] [] h (qI P)) ∧ (¬ l4 = l2 → MCi g yX11_fitted uX11_fitted [.ref 11, .int l4, .int l1] h (fun r5 h4 => (vp_in ((17 + (4 * l4)) + r5) 346) ∧ (((mI h4 45 ((17 + (4 * l4)) + r5).toNatClampNeg) ≤ 0 → ME g uX11_fitsAll 5 [.ref 11, .int l1, .int l2, .int 0, .int (l4 + 1)] [] h4 (qI P)) ∧ (¬ (mI h4 45 ((17 + (4 * l4)) + r5).toNatClampNeg) ≤ 0 → ME g uX11_fitsAll 5 [.ref 11, .int l1, .int l2, .int 1, .int (l4 + 1)] [] h4 (qI P)))))))) : ME g uX11_fitsAll 5 [.ref 11, .int l1, .int l2, .int l3, .int l4] [] h (qI P) := by
  refine m_iload dX11_fitsAll_5 rfl ?_
  refine m_aload_n dX11_fitsAll_7 rfl ?_
  refine gf_X11_20 rfl dX11_fitsAll_8 ?_
  refine m_iconst (v := 0) dX11_fitsAll_11 (by decide) ?_
  refine m_iaload dX11_fitsAll_12 rfl (by decide) (by unfold vp_in; decide) ?_
  refine m_icmp_ge 61 dX11_fitsAll_13 (by decide) (fun c1 => ?_) (fun c1 => ?_)
  · replace q := q.1 c1
    refine m_iload_n dX11_fitsAll_61 rfl ?_
    exact m_zret dX11_fitsAll_62 rfl q.1 q.2
  · replace q := q.2 c1
    refine m_iload_n dX11_fitsAll_16 rfl ?_
    refine m_if_eq 53 dX11_fitsAll_17 (by decide) (fun c2 => ?_) (fun c2 => ?_)
    · replace q := q.1 c2
      refine m_iconst (v := 0) dX11_fitsAll_53 (by decide) ?_
      refine m_istore_n (lv' := [.ref 11, .int l1, .int l2, .int 0, .int l4]) dX11_fitsAll_54 (Nat.le_of_ble_eq_true rfl) rfl rfl ?_
      refine m_iinc (v := (l4 + 1)) (lv' := [.ref 11, .int l1, .int l2, .int 0, .int (l4 + 1)]) dX11_fitsAll_55 (Nat.le_of_ble_eq_true rfl) rfl (congrArg (fun z => l4 + z) (by decide : Int32.ofInt 1 = 1)) rfl rfl ?_
      refine m_goto 5 dX11_fitsAll_58 (by decide) ?_
      exact q
    · replace q := q.2 c2
      refine m_iload dX11_fitsAll_20 rfl ?_
      refine m_iload_n dX11_fitsAll_22 rfl ?_
      refine m_icmp_eq 49 dX11_fitsAll_23 (by decide) (fun c3 => ?_) (fun c3 => ?_)
      · replace q := q.1 c3
        refine m_iconst (v := 1) dX11_fitsAll_49 (by decide) ?_
        refine m_goto 54 dX11_fitsAll_50 (by decide) ?_
        refine m_istore_n (lv' := [.ref 11, .int l1, .int l2, .int 1, .int l4]) dX11_fitsAll_54 (Nat.le_of_ble_eq_true rfl) rfl rfl ?_
        refine m_iinc (v := (l4 + 1)) (lv' := [.ref 11, .int l1, .int l2, .int 1, .int (l4 + 1)]) dX11_fitsAll_55 (Nat.le_of_ble_eq_true rfl) rfl (congrArg (fun z => l4 + z) (by decide : Int32.ofInt 1 = 1)) rfl rfl ?_
        refine m_goto 5 dX11_fitsAll_58 (by decide) ?_
        exact q
      · replace q := q.2 c3
        refine m_aload_n dX11_fitsAll_26 rfl ?_
        refine gf_X11_20 rfl dX11_fitsAll_27 ?_
        refine m_bipush (v := 17) dX11_fitsAll_30 (by decide) ?_
        refine m_iconst (v := 4) dX11_fitsAll_32 (by decide) ?_
        refine m_iload dX11_fitsAll_33 rfl ?_
        refine m_imul dX11_fitsAll_35 ?_
        refine m_iadd dX11_fitsAll_36 ?_
        refine m_aload_n dX11_fitsAll_37 rfl ?_
        refine m_iload dX11_fitsAll_38 rfl ?_
        refine m_iload_n dX11_fitsAll_40 rfl ?_
        refine cl_X11_263 rfl (by decide) dX11_fitsAll_41 (Nat.le_of_ble_eq_true rfl) (MCi_go q (fun r5 h4 q => ?_))
        refine m_iadd dX11_fitsAll_44 ?_
        obtain ⟨b6, q⟩ := q
        refine m_iaload dX11_fitsAll_45 rfl (by decide) b6 ?_
        refine m_if_le 53 dX11_fitsAll_46 (by decide) (fun c7 => ?_) (fun c7 => ?_)
        · replace q := q.1 c7
          refine m_iconst (v := 0) dX11_fitsAll_53 (by decide) ?_
          refine m_istore_n (lv' := [.ref 11, .int l1, .int l2, .int 0, .int l4]) dX11_fitsAll_54 (Nat.le_of_ble_eq_true rfl) rfl rfl ?_
          refine m_iinc (v := (l4 + 1)) (lv' := [.ref 11, .int l1, .int l2, .int 0, .int (l4 + 1)]) dX11_fitsAll_55 (Nat.le_of_ble_eq_true rfl) rfl (congrArg (fun z => l4 + z) (by decide : Int32.ofInt 1 = 1)) rfl rfl ?_
          refine m_goto 5 dX11_fitsAll_58 (by decide) ?_
          exact q
        · replace q := q.2 c7
          refine m_iconst (v := 1) dX11_fitsAll_49 (by decide) ?_
          refine m_goto 54 dX11_fitsAll_50 (by decide) ?_
          refine m_istore_n (lv' := [.ref 11, .int l1, .int l2, .int 1, .int l4]) dX11_fitsAll_54 (Nat.le_of_ble_eq_true rfl) rfl rfl ?_
          refine m_iinc (v := (l4 + 1)) (lv' := [.ref 11, .int l1, .int l2, .int 1, .int (l4 + 1)]) dX11_fitsAll_55 (Nat.le_of_ble_eq_true rfl) rfl (congrArg (fun z => l4 + z) (by decide : Int32.ofInt 1 = 1)) rfl rfl ?_
          refine m_goto 5 dX11_fitsAll_58 (by decide) ?_
          exact q
set_option maxRecDepth 100000 in
theorem e_X11_doesExtend {g : gT} {h : mh_T} {P : Int32 → mh_T → Prop} (l1 : Int32) (l2 : Int32) (q : ME g uX11_doesExtend 5 [.ref 11, .int l1, .int l2, .int 0, .int 0] [] h (qI P)) : MCi g yX11_doesExtend uX11_doesExtend [.ref 11, .int l1, .int l2] h P := by
  refine m_enter (by decide) rfl (Nat.le_of_ble_eq_true rfl) (lv := [.ref 11, .int l1, .int l2, .retAddr 0, .retAddr 0]) rfl ?_
  refine m_iconst (v := 0) dX11_doesExtend_0 (by decide) ?_
  refine m_istore_n (lv' := [.ref 11, .int l1, .int l2, .int 0, .retAddr 0]) dX11_doesExtend_1 (Nat.le_of_ble_eq_true rfl) rfl rfl ?_
  refine m_iconst (v := 0) dX11_doesExtend_2 (by decide) ?_
  refine m_istore (lv' := [.ref 11, .int l1, .int l2, .int 0, .int 0]) dX11_doesExtend_3 (Nat.le_of_ble_eq_true rfl) rfl rfl ?_
  exact q
set_option maxRecDepth 100000 in
theorem r_X11_doesExtend_5 {g : gT} {h : mh_T} {P : Int32 → mh_T → Prop} (l1 : Int32) (l2 : Int32) (l3 : Int32) (l4 : Int32) (q : MCi g yX11_hiddenMany uX11_hiddenMany [.ref 11] h (fun r2 h1 => (r2 ≤ l4 → (l3 = 0 ∨ l3 = 1) ∧ P l3 h1) ∧ (¬ r2 ≤ l4 → (¬ l3 = 0 → ME g uX11_doesExtend 5 [.ref 11, .int l1, .int l2, .int 1, .int (l4 + 1)] [] h1 (qI P)) ∧ (l3 = 0 → MCi g yX11_fitted uX11_fitted [.ref 11, .int l1, .int l4] h1 (fun r6 h5 => (¬ r6 = l2 → ME g uX11_doesExtend 5 [.ref 11, .int l1, .int l2, .int 0, .int (l4 + 1)] [] h5 (qI P)) ∧ (r6 = l2 → MCi g yX11_fitsAll uX11_fitsAll [.ref 11, .int l4, .int l1] h5 (fun r9 h8 => (r9 = 0 → ME g uX11_doesExtend 5 [.ref 11, .int l1, .int l2, .int 0, .int (l4 + 1)] [] h8 (qI P)) ∧ (¬ r9 = 0 → ME g uX11_doesExtend 5 [.ref 11, .int l1, .int l2, .int 1, .int (l4 + 1)] [] h8 (qI P))))))))) : ME g uX11_doesExtend 5 [.ref 11, .int l1, .int l2, .int l3, .int l4] [] h (qI P) := by
  refine m_iload dX11_doesExtend_5 rfl ?_
  refine m_aload_n dX11_doesExtend_7 rfl ?_
  refine cl_X11_251 rfl (by decide) dX11_doesExtend_8 (Nat.le_of_ble_eq_true rfl) (MCi_go q (fun r2 h1 q => ?_))
  refine m_icmp_ge 51 dX11_doesExtend_11 (by decide) (fun c3 => ?_) (fun c3 => ?_)
  · replace q := q.1 c3
    refine m_iload_n dX11_doesExtend_51 rfl ?_
    exact m_zret dX11_doesExtend_52 rfl q.1 q.2
  · replace q := q.2 c3
    refine m_iload_n dX11_doesExtend_14 rfl ?_
    refine m_if_ne 39 dX11_doesExtend_15 (by decide) (fun c4 => ?_) (fun c4 => ?_)
    · replace q := q.1 c4
      refine m_iconst (v := 1) dX11_doesExtend_39 (by decide) ?_
      refine m_goto 44 dX11_doesExtend_40 (by decide) ?_
      refine m_istore_n (lv' := [.ref 11, .int l1, .int l2, .int 1, .int l4]) dX11_doesExtend_44 (Nat.le_of_ble_eq_true rfl) rfl rfl ?_
      refine m_iinc (v := (l4 + 1)) (lv' := [.ref 11, .int l1, .int l2, .int 1, .int (l4 + 1)]) dX11_doesExtend_45 (Nat.le_of_ble_eq_true rfl) rfl (congrArg (fun z => l4 + z) (by decide : Int32.ofInt 1 = 1)) rfl rfl ?_
      refine m_goto 5 dX11_doesExtend_48 (by decide) ?_
      exact q
    · replace q := q.2 c4
      refine m_aload_n dX11_doesExtend_18 rfl ?_
      refine m_iload_n dX11_doesExtend_19 rfl ?_
      refine m_iload dX11_doesExtend_20 rfl ?_
      refine cl_X11_263 rfl (by decide) dX11_doesExtend_22 (Nat.le_of_ble_eq_true rfl) (MCi_go q (fun r6 h5 q => ?_))
      refine m_iload_n dX11_doesExtend_25 rfl ?_
      refine m_icmp_ne 43 dX11_doesExtend_26 (by decide) (fun c7 => ?_) (fun c7 => ?_)
      · replace q := q.1 c7
        refine m_iconst (v := 0) dX11_doesExtend_43 (by decide) ?_
        refine m_istore_n (lv' := [.ref 11, .int l1, .int l2, .int 0, .int l4]) dX11_doesExtend_44 (Nat.le_of_ble_eq_true rfl) rfl rfl ?_
        refine m_iinc (v := (l4 + 1)) (lv' := [.ref 11, .int l1, .int l2, .int 0, .int (l4 + 1)]) dX11_doesExtend_45 (Nat.le_of_ble_eq_true rfl) rfl (congrArg (fun z => l4 + z) (by decide : Int32.ofInt 1 = 1)) rfl rfl ?_
        refine m_goto 5 dX11_doesExtend_48 (by decide) ?_
        exact q
      · replace q := q.2 c7
        refine m_aload_n dX11_doesExtend_29 rfl ?_
        refine m_iload dX11_doesExtend_30 rfl ?_
        refine m_iload_n dX11_doesExtend_32 rfl ?_
        refine cl_X11_302 rfl (by decide) dX11_doesExtend_33 (Nat.le_of_ble_eq_true rfl) (MCi_go q (fun r9 h8 q => ?_))
        refine m_if_eq 43 dX11_doesExtend_36 (by decide) (fun c10 => ?_) (fun c10 => ?_)
        · replace q := q.1 c10
          refine m_iconst (v := 0) dX11_doesExtend_43 (by decide) ?_
          refine m_istore_n (lv' := [.ref 11, .int l1, .int l2, .int 0, .int l4]) dX11_doesExtend_44 (Nat.le_of_ble_eq_true rfl) rfl rfl ?_
          refine m_iinc (v := (l4 + 1)) (lv' := [.ref 11, .int l1, .int l2, .int 0, .int (l4 + 1)]) dX11_doesExtend_45 (Nat.le_of_ble_eq_true rfl) rfl (congrArg (fun z => l4 + z) (by decide : Int32.ofInt 1 = 1)) rfl rfl ?_
          refine m_goto 5 dX11_doesExtend_48 (by decide) ?_
          exact q
        · replace q := q.2 c10
          refine m_iconst (v := 1) dX11_doesExtend_39 (by decide) ?_
          refine m_goto 44 dX11_doesExtend_40 (by decide) ?_
          refine m_istore_n (lv' := [.ref 11, .int l1, .int l2, .int 1, .int l4]) dX11_doesExtend_44 (Nat.le_of_ble_eq_true rfl) rfl rfl ?_
          refine m_iinc (v := (l4 + 1)) (lv' := [.ref 11, .int l1, .int l2, .int 1, .int (l4 + 1)]) dX11_doesExtend_45 (Nat.le_of_ble_eq_true rfl) rfl (congrArg (fun z => l4 + z) (by decide : Int32.ofInt 1 = 1)) rfl rfl ?_
          refine m_goto 5 dX11_doesExtend_48 (by decide) ?_
          exact q
set_option maxRecDepth 100000 in
theorem e_X11_extend {g : gT} {h : mh_T} {P : Int32 → mh_T → Prop} (l1 : Int32) (l2 : Int32) (q : MCv g yX11_good uX11_good [.ref 11] h (fun h1 => MCi g yX11_isOutcome uX11_isOutcome [.ref 11, .int l1, .int l2] h1 (fun r3 h2 => (r3 = 0 → MCi g yX11_no uX11_no [.ref 11, .int 1] h2 (fun r6 h5 => P r6 h5)) ∧ (¬ r3 = 0 → MCi g yX11_doesExtend uX11_doesExtend [.ref 11, .int l1, .int l2] h2 (fun r8 h7 => (r8 = 0 → P 0 h7) ∧ (¬ r8 = 0 → P 1 h7)))))) : MCi g yX11_extend uX11_extend [.ref 11, .int l1, .int l2] h P := by
  refine m_enter (by decide) rfl (Nat.le_of_ble_eq_true rfl) (lv := [.ref 11, .int l1, .int l2]) rfl ?_
  refine m_aload_n dX11_extend_0 rfl ?_
  refine cl_X11_174 rfl (by decide) dX11_extend_1 (Nat.le_of_ble_eq_true rfl) (MCv_go q (fun h1 q => ?_))
  refine m_aload_n dX11_extend_4 rfl ?_
  refine m_iload_n dX11_extend_5 rfl ?_
  refine m_iload_n dX11_extend_6 rfl ?_
  refine cl_X11_305 rfl (by decide) dX11_extend_7 (Nat.le_of_ble_eq_true rfl) (MCi_go q (fun r3 h2 q => ?_))
  refine m_if_eq 30 dX11_extend_10 (by decide) (fun c4 => ?_) (fun c4 => ?_)
  · replace q := q.1 c4
    refine m_aload_n dX11_extend_30 rfl ?_
    refine m_iconst (v := 1) dX11_extend_31 (by decide) ?_
    refine cl_X11_177 rfl (by decide) dX11_extend_32 (Nat.le_of_ble_eq_true rfl) (MCi_go q (fun r6 h5 q => ?_))
    exact m_iret dX11_extend_35 rfl q
  · replace q := q.2 c4
    refine m_aload_n dX11_extend_13 rfl ?_
    refine m_iload_n dX11_extend_14 rfl ?_
    refine m_iload_n dX11_extend_15 rfl ?_
    refine cl_X11_308 rfl (by decide) dX11_extend_16 (Nat.le_of_ble_eq_true rfl) (MCi_go q (fun r8 h7 q => ?_))
    refine m_if_eq 26 dX11_extend_19 (by decide) (fun c9 => ?_) (fun c9 => ?_)
    · replace q := q.1 c9
      refine m_iconst (v := 0) dX11_extend_26 (by decide) ?_
      refine m_goto 35 dX11_extend_27 (by decide) ?_
      exact m_iret dX11_extend_35 rfl q
    · replace q := q.2 c9
      refine m_iconst (v := 1) dX11_extend_22 (by decide) ?_
      refine m_goto 35 dX11_extend_23 (by decide) ?_
      exact m_iret dX11_extend_35 rfl q
set_option maxRecDepth 100000 in
theorem e_X11_level {g : gT} {h : mh_T} {P : Int32 → mh_T → Prop}  (q : MCv g yX11_good uX11_good [.ref 11] h (fun h1 => (¬ (mI h1 11 14) = 0 → MCi g yX11_isMixed uX11_isMixed [.ref 11] h1 (fun r4 h3 => (r4 = 0 → ME g uX11_level 32 [.ref 11, .int 0, .int 0, .int 0, .retAddr 0] [] h3 (qI P)) ∧ (¬ r4 = 0 → P 0 h3))) ∧ ((mI h1 11 14) = 0 → MCi g yX11_no uX11_no [.ref 11, .int 1] h1 (fun r7 h6 => P r7 h6)))) : MCi g yX11_level uX11_level [.ref 11] h P := by
  refine m_enter (by decide) rfl (Nat.le_of_ble_eq_true rfl) (lv := [.ref 11, .retAddr 0, .retAddr 0, .retAddr 0, .retAddr 0]) rfl ?_
  refine m_aload_n dX11_level_0 rfl ?_
  refine cl_X11_174 rfl (by decide) dX11_level_1 (Nat.le_of_ble_eq_true rfl) (MCv_go q (fun h1 q => ?_))
  refine m_aload_n dX11_level_4 rfl ?_
  refine gf_X11_183 rfl dX11_level_5 ?_
  refine m_if_ne 17 dX11_level_8 (by decide) (fun c2 => ?_) (fun c2 => ?_)
  · replace q := q.1 c2
    refine m_aload_n dX11_level_17 rfl ?_
    refine cl_X11_289 rfl (by decide) dX11_level_18 (Nat.le_of_ble_eq_true rfl) (MCi_go q (fun r4 h3 q => ?_))
    refine m_if_eq 26 dX11_level_21 (by decide) (fun c5 => ?_) (fun c5 => ?_)
    · replace q := q.1 c5
      refine m_iconst (v := 0) dX11_level_26 (by decide) ?_
      refine m_istore_n (lv' := [.ref 11, .int 0, .retAddr 0, .retAddr 0, .retAddr 0]) dX11_level_27 (Nat.le_of_ble_eq_true rfl) rfl rfl ?_
      refine m_iconst (v := 0) dX11_level_28 (by decide) ?_
      refine m_istore_n (lv' := [.ref 11, .int 0, .int 0, .retAddr 0, .retAddr 0]) dX11_level_29 (Nat.le_of_ble_eq_true rfl) rfl rfl ?_
      refine m_iconst (v := 0) dX11_level_30 (by decide) ?_
      refine m_istore_n (lv' := [.ref 11, .int 0, .int 0, .int 0, .retAddr 0]) dX11_level_31 (Nat.le_of_ble_eq_true rfl) rfl rfl ?_
      exact q
    · replace q := q.2 c5
      refine m_iconst (v := 0) dX11_level_24 (by decide) ?_
      exact m_iret dX11_level_25 rfl q
  · replace q := q.2 c2
    refine m_aload_n dX11_level_11 rfl ?_
    refine m_iconst (v := 1) dX11_level_12 (by decide) ?_
    refine cl_X11_177 rfl (by decide) dX11_level_13 (Nat.le_of_ble_eq_true rfl) (MCi_go q (fun r7 h6 q => ?_))
    exact m_iret dX11_level_16 rfl q
set_option maxRecDepth 100000 in
theorem r_X11_level_32 {g : gT} {h : mh_T} {P : Int32 → mh_T → Prop} (l1 : Int32) (l2 : Int32) (l3 : Int32) (q : ((mI h 45 (Int32.toNatClampNeg 0)) ≤ l3 → (¬ l2 = 0 → (l1 ≤ 0 → P 3 h) ∧ (¬ l1 ≤ 0 → P 2 h)) ∧ (l2 = 0 → P 1 h)) ∧ (¬ (mI h 45 (Int32.toNatClampNeg 0)) ≤ l3 → ME g uX11_level 45 [.ref 11, .int l1, .int l2, .int l3, .int 0] [] h (qI P))) : ME g uX11_level 32 [.ref 11, .int l1, .int l2, .int l3, .retAddr 0] [] h (qI P) := by
  refine m_iload_n dX11_level_32 rfl ?_
  refine m_aload_n dX11_level_33 rfl ?_
  refine gf_X11_20 rfl dX11_level_34 ?_
  refine m_iconst (v := 0) dX11_level_37 (by decide) ?_
  refine m_iaload dX11_level_38 rfl (by decide) (by unfold vp_in; decide) ?_
  refine m_icmp_ge 109 dX11_level_39 (by decide) (fun c1 => ?_) (fun c1 => ?_)
  · replace q := q.1 c1
    refine m_iload_n dX11_level_109 rfl ?_
    refine m_if_ne 117 dX11_level_110 (by decide) (fun c2 => ?_) (fun c2 => ?_)
    · replace q := q.1 c2
      refine m_iload_n dX11_level_117 rfl ?_
      refine m_if_le 125 dX11_level_118 (by decide) (fun c3 => ?_) (fun c3 => ?_)
      · replace q := q.1 c3
        refine m_iconst (v := 3) dX11_level_125 (by decide) ?_
        exact m_iret dX11_level_126 rfl q
      · replace q := q.2 c3
        refine m_iconst (v := 2) dX11_level_121 (by decide) ?_
        refine m_goto 126 dX11_level_122 (by decide) ?_
        exact m_iret dX11_level_126 rfl q
    · replace q := q.2 c2
      refine m_iconst (v := 1) dX11_level_113 (by decide) ?_
      refine m_goto 126 dX11_level_114 (by decide) ?_
      exact m_iret dX11_level_126 rfl q
  · replace q := q.2 c1
    refine m_iconst (v := 0) dX11_level_42 (by decide) ?_
    refine m_istore (lv' := [.ref 11, .int l1, .int l2, .int l3, .int 0]) dX11_level_43 (Nat.le_of_ble_eq_true rfl) rfl rfl ?_
    exact q
set_option maxRecDepth 100000 in
theorem r_X11_level_45 {g : gT} {h : mh_T} {P : Int32 → mh_T → Prop} (l1 : Int32) (l2 : Int32) (l3 : Int32) (l4 : Int32) (q : MCi g yX11_outcomes uX11_outcomes [.ref 45, .int l3] h (fun r2 h1 => (r2 ≤ l4 → ME g uX11_level 32 [.ref 11, .int l1, .int l2, .int (l3 + 1), .retAddr 0] [] h1 (qI P)) ∧ (¬ r2 ≤ l4 → (vp_in ((17 + (4 * l3)) + l4) 346) ∧ ((¬ (mI h1 45 ((17 + (4 * l3)) + l4).toNatClampNeg) = 0 → MCi g yX11_doesExtend uX11_doesExtend [.ref 11, .int l3, .int l4] h1 (fun r7 h6 => (r7 = 0 → ME g uX11_level 45 [.ref 11, .int l1, .int (l2 + 1), .int l3, .int (l4 + 1)] [] h6 (qI P)) ∧ (¬ r7 = 0 → ME g uX11_level 45 [.ref 11, .int (l1 + 1), .int l2, .int l3, .int (l4 + 1)] [] h6 (qI P)))) ∧ ((mI h1 45 ((17 + (4 * l3)) + l4).toNatClampNeg) = 0 → ME g uX11_level 45 [.ref 11, .int l1, .int l2, .int l3, .int (l4 + 1)] [] h1 (qI P)))))) : ME g uX11_level 45 [.ref 11, .int l1, .int l2, .int l3, .int l4] [] h (qI P) := by
  refine m_iload dX11_level_45 rfl ?_
  refine m_aload_n dX11_level_47 rfl ?_
  refine gf_X11_20 rfl dX11_level_48 ?_
  refine m_iload_n dX11_level_51 rfl ?_
  refine cl_X11_247 rfl (by decide) dX11_level_52 (Nat.le_of_ble_eq_true rfl) (MCi_go q (fun r2 h1 q => ?_))
  refine m_icmp_ge 103 dX11_level_55 (by decide) (fun c3 => ?_) (fun c3 => ?_)
  · replace q := q.1 c3
    refine m_iinc (v := (l3 + 1)) (lv' := [.ref 11, .int l1, .int l2, .int (l3 + 1), .int l4]) dX11_level_103 (Nat.le_of_ble_eq_true rfl) rfl (congrArg (fun z => l3 + z) (by decide : Int32.ofInt 1 = 1)) rfl rfl ?_
    refine m_goto 32 dX11_level_106 (by decide) ?_
    refine m_dropK (lv' := [.ref 11, .int l1, .int l2, .int (l3 + 1), .retAddr 0]) [4] rfl ?_
    exact q
  · replace q := q.2 c3
    refine m_aload_n dX11_level_58 rfl ?_
    refine gf_X11_20 rfl dX11_level_59 ?_
    refine m_bipush (v := 17) dX11_level_62 (by decide) ?_
    refine m_iconst (v := 4) dX11_level_64 (by decide) ?_
    refine m_iload_n dX11_level_65 rfl ?_
    refine m_imul dX11_level_66 ?_
    refine m_iadd dX11_level_67 ?_
    refine m_iload dX11_level_68 rfl ?_
    refine m_iadd dX11_level_70 ?_
    obtain ⟨b4, q⟩ := q
    refine m_iaload dX11_level_71 rfl (by decide) b4 ?_
    refine m_if_ne 78 dX11_level_72 (by decide) (fun c5 => ?_) (fun c5 => ?_)
    · replace q := q.1 c5
      refine m_aload_n dX11_level_78 rfl ?_
      refine m_iload_n dX11_level_79 rfl ?_
      refine m_iload dX11_level_80 rfl ?_
      refine cl_X11_308 rfl (by decide) dX11_level_82 (Nat.le_of_ble_eq_true rfl) (MCi_go q (fun r7 h6 q => ?_))
      refine m_if_eq 94 dX11_level_85 (by decide) (fun c8 => ?_) (fun c8 => ?_)
      · replace q := q.1 c8
        refine m_iinc (v := (l2 + 1)) (lv' := [.ref 11, .int l1, .int (l2 + 1), .int l3, .int l4]) dX11_level_94 (Nat.le_of_ble_eq_true rfl) rfl (congrArg (fun z => l2 + z) (by decide : Int32.ofInt 1 = 1)) rfl rfl ?_
        refine m_iinc (v := (l4 + 1)) (lv' := [.ref 11, .int l1, .int (l2 + 1), .int l3, .int (l4 + 1)]) dX11_level_97 (Nat.le_of_ble_eq_true rfl) rfl (congrArg (fun z => l4 + z) (by decide : Int32.ofInt 1 = 1)) rfl rfl ?_
        refine m_goto 45 dX11_level_100 (by decide) ?_
        exact q
      · replace q := q.2 c8
        refine m_iinc (v := (l1 + 1)) (lv' := [.ref 11, .int (l1 + 1), .int l2, .int l3, .int l4]) dX11_level_88 (Nat.le_of_ble_eq_true rfl) rfl (congrArg (fun z => l1 + z) (by decide : Int32.ofInt 1 = 1)) rfl rfl ?_
        refine m_goto 97 dX11_level_91 (by decide) ?_
        refine m_iinc (v := (l4 + 1)) (lv' := [.ref 11, .int (l1 + 1), .int l2, .int l3, .int (l4 + 1)]) dX11_level_97 (Nat.le_of_ble_eq_true rfl) rfl (congrArg (fun z => l4 + z) (by decide : Int32.ofInt 1 = 1)) rfl rfl ?_
        refine m_goto 45 dX11_level_100 (by decide) ?_
        exact q
    · replace q := q.2 c5
      refine m_goto 97 dX11_level_75 (by decide) ?_
      refine m_iinc (v := (l4 + 1)) (lv' := [.ref 11, .int l1, .int l2, .int l3, .int (l4 + 1)]) dX11_level_97 (Nat.le_of_ble_eq_true rfl) rfl (congrArg (fun z => l4 + z) (by decide : Int32.ofInt 1 = 1)) rfl rfl ?_
      refine m_goto 45 dX11_level_100 (by decide) ?_
      exact q
set_option maxRecDepth 100000 in
theorem e_X11_fittingAnswer {g : gT} {h : mh_T} {P : Int32 → mh_T → Prop} (l1 : Int32) (q : ME g uX11_fittingAnswer 4 [.ref 11, .int l1, .int 0, .int 0] [] h (qI P)) : MCi g yX11_fittingAnswer uX11_fittingAnswer [.ref 11, .int l1] h P := by
  refine m_enter (by decide) rfl (Nat.le_of_ble_eq_true rfl) (lv := [.ref 11, .int l1, .retAddr 0, .retAddr 0]) rfl ?_
  refine m_iconst (v := 0) dX11_fittingAnswer_0 (by decide) ?_
  refine m_istore_n (lv' := [.ref 11, .int l1, .int 0, .retAddr 0]) dX11_fittingAnswer_1 (Nat.le_of_ble_eq_true rfl) rfl rfl ?_
  refine m_iconst (v := 0) dX11_fittingAnswer_2 (by decide) ?_
  refine m_istore_n (lv' := [.ref 11, .int l1, .int 0, .int 0]) dX11_fittingAnswer_3 (Nat.le_of_ble_eq_true rfl) rfl rfl ?_
  exact q
set_option maxRecDepth 100000 in
theorem r_X11_fittingAnswer_4 {g : gT} {h : mh_T} {P : Int32 → mh_T → Prop} (l1 : Int32) (l2 : Int32) (l3 : Int32) (q : MCi g yX11_hiddenMany uX11_hiddenMany [.ref 11] h (fun r2 h1 => (r2 ≤ l3 → P (l2 - 1000) h1) ∧ (¬ r2 ≤ l3 → MCi g yX11_fitsAll uX11_fitsAll [.ref 11, .int l3, .int (-1)] h1 (fun r5 h4 => (¬ r5 = 0 → (¬ l2 = l1 → ME g uX11_fittingAnswer 4 [.ref 11, .int l1, .int (l2 + 1), .int (l3 + 1)] [] h4 (qI P)) ∧ (l2 = l1 → P l3 h4)) ∧ (r5 = 0 → ME g uX11_fittingAnswer 4 [.ref 11, .int l1, .int l2, .int (l3 + 1)] [] h4 (qI P)))))) : ME g uX11_fittingAnswer 4 [.ref 11, .int l1, .int l2, .int l3] [] h (qI P) := by
  refine m_iload_n dX11_fittingAnswer_4 rfl ?_
  refine m_aload_n dX11_fittingAnswer_5 rfl ?_
  refine cl_X11_251 rfl (by decide) dX11_fittingAnswer_6 (Nat.le_of_ble_eq_true rfl) (MCi_go q (fun r2 h1 q => ?_))
  refine m_icmp_ge 40 dX11_fittingAnswer_9 (by decide) (fun c3 => ?_) (fun c3 => ?_)
  · replace q := q.1 c3
    refine m_iload_n dX11_fittingAnswer_40 rfl ?_
    refine m_sipush (v := 1000) dX11_fittingAnswer_41 (by decide) ?_
    refine m_isub dX11_fittingAnswer_44 ?_
    exact m_iret dX11_fittingAnswer_45 rfl q
  · replace q := q.2 c3
    refine m_aload_n dX11_fittingAnswer_12 rfl ?_
    refine m_iload_n dX11_fittingAnswer_13 rfl ?_
    refine m_iconst (v := (-1)) dX11_fittingAnswer_14 (by decide) ?_
    refine cl_X11_302 rfl (by decide) dX11_fittingAnswer_15 (Nat.le_of_ble_eq_true rfl) (MCi_go q (fun r5 h4 q => ?_))
    refine m_if_ne 24 dX11_fittingAnswer_18 (by decide) (fun c6 => ?_) (fun c6 => ?_)
    · replace q := q.1 c6
      refine m_iload_n dX11_fittingAnswer_24 rfl ?_
      refine m_iload_n dX11_fittingAnswer_25 rfl ?_
      refine m_icmp_ne 31 dX11_fittingAnswer_26 (by decide) (fun c7 => ?_) (fun c7 => ?_)
      · replace q := q.1 c7
        refine m_iinc (v := (l2 + 1)) (lv' := [.ref 11, .int l1, .int (l2 + 1), .int l3]) dX11_fittingAnswer_31 (Nat.le_of_ble_eq_true rfl) rfl (congrArg (fun z => l2 + z) (by decide : Int32.ofInt 1 = 1)) rfl rfl ?_
        refine m_iinc (v := (l3 + 1)) (lv' := [.ref 11, .int l1, .int (l2 + 1), .int (l3 + 1)]) dX11_fittingAnswer_34 (Nat.le_of_ble_eq_true rfl) rfl (congrArg (fun z => l3 + z) (by decide : Int32.ofInt 1 = 1)) rfl rfl ?_
        refine m_goto 4 dX11_fittingAnswer_37 (by decide) ?_
        exact q
      · replace q := q.2 c7
        refine m_iload_n dX11_fittingAnswer_29 rfl ?_
        exact m_iret dX11_fittingAnswer_30 rfl q
    · replace q := q.2 c6
      refine m_goto 34 dX11_fittingAnswer_21 (by decide) ?_
      refine m_iinc (v := (l3 + 1)) (lv' := [.ref 11, .int l1, .int l2, .int (l3 + 1)]) dX11_fittingAnswer_34 (Nat.le_of_ble_eq_true rfl) rfl (congrArg (fun z => l3 + z) (by decide : Int32.ofInt 1 = 1)) rfl rfl ?_
      refine m_goto 4 dX11_fittingAnswer_37 (by decide) ?_
      exact q
set_option maxRecDepth 100000 in
theorem e_X11_hidden {g : gT} {h : mh_T} {P : Int32 → mh_T → Prop}  (q : MCv g yX11_good uX11_good [.ref 11] h (fun h1 => ((mI h1 11 14) = 0 → MCi g yX11_no uX11_no [.ref 11, .int 1] h1 (fun r4 h3 => P r4 h3)) ∧ (¬ (mI h1 11 14) = 0 → MCi g yX11_fittingAnswer uX11_fittingAnswer [.ref 11, .int (-1)] h1 (fun r6 h5 => P (r6 + 1000) h5)))) : MCi g yX11_hidden uX11_hidden [.ref 11] h P := by
  refine m_enter (by decide) rfl (Nat.le_of_ble_eq_true rfl) (lv := [.ref 11]) rfl ?_
  refine m_aload_n dX11_hidden_0 rfl ?_
  refine cl_X11_174 rfl (by decide) dX11_hidden_1 (Nat.le_of_ble_eq_true rfl) (MCv_go q (fun h1 q => ?_))
  refine m_aload_n dX11_hidden_4 rfl ?_
  refine gf_X11_183 rfl dX11_hidden_5 ?_
  refine m_if_eq 23 dX11_hidden_8 (by decide) (fun c2 => ?_) (fun c2 => ?_)
  · replace q := q.1 c2
    refine m_aload_n dX11_hidden_23 rfl ?_
    refine m_iconst (v := 1) dX11_hidden_24 (by decide) ?_
    refine cl_X11_177 rfl (by decide) dX11_hidden_25 (Nat.le_of_ble_eq_true rfl) (MCi_go q (fun r4 h3 q => ?_))
    exact m_iret dX11_hidden_28 rfl q
  · replace q := q.2 c2
    refine m_aload_n dX11_hidden_11 rfl ?_
    refine m_iconst (v := (-1)) dX11_hidden_12 (by decide) ?_
    refine cl_X11_311 rfl (by decide) dX11_hidden_13 (Nat.le_of_ble_eq_true rfl) (MCi_go q (fun r6 h5 q => ?_))
    refine m_sipush (v := 1000) dX11_hidden_16 (by decide) ?_
    refine m_iadd dX11_hidden_19 ?_
    refine m_goto 28 dX11_hidden_20 (by decide) ?_
    exact m_iret dX11_hidden_28 rfl q
set_option maxRecDepth 100000 in
theorem e_X11_answer {g : gT} {h : mh_T} {P : Int32 → mh_T → Prop} (l1 : Int32) (q : MCv g yX11_good uX11_good [.ref 11] h (fun h1 => ((mI h1 11 14) = 0 → MCi g yX11_no uX11_no [.ref 11, .int 1] h1 (fun r4 h3 => P r4 h3)) ∧ (¬ (mI h1 11 14) = 0 → (0 ≤ l1 → MCi g yX11_fittingAnswer uX11_fittingAnswer [.ref 11, .int l1] h1 (fun r7 h6 => (0 ≤ r7 → P r7 h6) ∧ (¬ 0 ≤ r7 → MCi g yX11_no uX11_no [.ref 11, .int 1] h6 (fun r10 h9 => P r10 h9)))) ∧ (¬ 0 ≤ l1 → MCi g yX11_no uX11_no [.ref 11, .int 1] h1 (fun r12 h11 => P r12 h11))))) : MCi g yX11_answer uX11_answer [.ref 11, .int l1] h P := by
  refine m_enter (by decide) rfl (Nat.le_of_ble_eq_true rfl) (lv := [.ref 11, .int l1, .retAddr 0]) rfl ?_
  refine m_aload_n dX11_answer_0 rfl ?_
  refine cl_X11_174 rfl (by decide) dX11_answer_1 (Nat.le_of_ble_eq_true rfl) (MCv_go q (fun h1 q => ?_))
  refine m_aload_n dX11_answer_4 rfl ?_
  refine gf_X11_183 rfl dX11_answer_5 ?_
  refine m_if_eq 15 dX11_answer_8 (by decide) (fun c2 => ?_) (fun c2 => ?_)
  · replace q := q.1 c2
    refine m_aload_n dX11_answer_15 rfl ?_
    refine m_iconst (v := 1) dX11_answer_16 (by decide) ?_
    refine cl_X11_177 rfl (by decide) dX11_answer_17 (Nat.le_of_ble_eq_true rfl) (MCi_go q (fun r4 h3 q => ?_))
    exact m_iret dX11_answer_20 rfl q
  · replace q := q.2 c2
    refine m_iload_n dX11_answer_11 rfl ?_
    refine m_if_ge 21 dX11_answer_12 (by decide) (fun c5 => ?_) (fun c5 => ?_)
    · replace q := q.1 c5
      refine m_aload_n dX11_answer_21 rfl ?_
      refine m_iload_n dX11_answer_22 rfl ?_
      refine cl_X11_311 rfl (by decide) dX11_answer_23 (Nat.le_of_ble_eq_true rfl) (MCi_go q (fun r7 h6 q => ?_))
      refine m_istore_n (lv' := [.ref 11, .int l1, .int r7]) dX11_answer_26 (Nat.le_of_ble_eq_true rfl) rfl rfl ?_
      refine m_iload_n dX11_answer_27 rfl ?_
      refine m_if_ge 39 dX11_answer_28 (by decide) (fun c8 => ?_) (fun c8 => ?_)
      · replace q := q.1 c8
        refine m_iload_n dX11_answer_39 rfl ?_
        exact m_iret dX11_answer_40 rfl q
      · replace q := q.2 c8
        refine m_aload_n dX11_answer_31 rfl ?_
        refine m_iconst (v := 1) dX11_answer_32 (by decide) ?_
        refine cl_X11_177 rfl (by decide) dX11_answer_33 (Nat.le_of_ble_eq_true rfl) (MCi_go q (fun r10 h9 q => ?_))
        refine m_goto 40 dX11_answer_36 (by decide) ?_
        exact m_iret dX11_answer_40 rfl q
    · replace q := q.2 c5
      refine m_aload_n dX11_answer_15 rfl ?_
      refine m_iconst (v := 1) dX11_answer_16 (by decide) ?_
      refine cl_X11_177 rfl (by decide) dX11_answer_17 (Nat.le_of_ble_eq_true rfl) (MCi_go q (fun r12 h11 q => ?_))
      exact m_iret dX11_answer_20 rfl q
set_option maxRecDepth 100000 in
theorem e_X11_onesOf {g : gT} {h : mh_T} {P : Int32 → mh_T → Prop} (l1 : Int32) (l2 : Int32) (q : ∀ x1 : Int32, x1 = (17 + (4 * l1)) → (vp_in (9 + l1) 346) ∧ ((¬ (mI h 45 (9 + l1).toNatClampNeg) = (-2) → (vp_in (1 + l1) 346) ∧ ((¬ (mI h 45 (1 + l1).toNatClampNeg) = l2 → (vp_in (9 + l1) 346) ∧ ((¬ (mI h 45 (9 + l1).toNatClampNeg) = l2 → P (-1) h) ∧ ((mI h 45 (9 + l1).toNatClampNeg) = l2 → (vp_in (x1 + 1) 346) ∧ ((vp_in (x1 + 3) 346) ∧ (P ((mI h 45 (x1 + 1).toNatClampNeg) + (mI h 45 (x1 + 3).toNatClampNeg)) h))))) ∧ ((mI h 45 (1 + l1).toNatClampNeg) = l2 → (vp_in (x1 + 2) 346) ∧ ((vp_in (x1 + 3) 346) ∧ (P ((mI h 45 (x1 + 2).toNatClampNeg) + (mI h 45 (x1 + 3).toNatClampNeg)) h))))) ∧ ((mI h 45 (9 + l1).toNatClampNeg) = (-2) → (vp_in (1 + l1) 346) ∧ ((¬ (mI h 45 (1 + l1).toNatClampNeg) = l2 → P (-1) h) ∧ ((mI h 45 (1 + l1).toNatClampNeg) = l2 → (vp_in (x1 + 1) 346) ∧ (P (mI h 45 (x1 + 1).toNatClampNeg) h)))))) : MCi g yX11_onesOf uX11_onesOf [.ref 11, .int l1, .int l2] h P := by
  refine m_enter (by decide) rfl (Nat.le_of_ble_eq_true rfl) (lv := [.ref 11, .int l1, .int l2, .retAddr 0]) rfl ?_
  refine m_bipush (v := 17) dX11_onesOf_0 (by decide) ?_
  refine m_iconst (v := 4) dX11_onesOf_2 (by decide) ?_
  refine m_iload_n dX11_onesOf_3 rfl ?_
  refine m_imul dX11_onesOf_4 ?_
  refine m_iadd dX11_onesOf_5 ?_
  obtain ⟨x1, ex1⟩ : ∃ z, z = (17 + (4 * l1)) := ⟨_, rfl⟩
  rw [← ex1]
  replace q := q x1 ex1
  refine m_istore_n (lv' := [.ref 11, .int l1, .int l2, .int x1]) dX11_onesOf_6 (Nat.le_of_ble_eq_true rfl) rfl rfl ?_
  refine m_aload_n dX11_onesOf_7 rfl ?_
  refine gf_X11_20 rfl dX11_onesOf_8 ?_
  refine m_bipush (v := 9) dX11_onesOf_11 (by decide) ?_
  refine m_iload_n dX11_onesOf_13 rfl ?_
  refine m_iadd dX11_onesOf_14 ?_
  obtain ⟨b2, q⟩ := q
  refine m_iaload dX11_onesOf_15 rfl (by decide) b2 ?_
  refine m_bipush (v := (-2)) dX11_onesOf_16 (by decide) ?_
  refine m_icmp_ne 46 dX11_onesOf_18 (by decide) (fun c3 => ?_) (fun c3 => ?_)
  · replace q := q.1 c3
    refine m_aload_n dX11_onesOf_46 rfl ?_
    refine gf_X11_20 rfl dX11_onesOf_47 ?_
    refine m_iconst (v := 1) dX11_onesOf_50 (by decide) ?_
    refine m_iload_n dX11_onesOf_51 rfl ?_
    refine m_iadd dX11_onesOf_52 ?_
    obtain ⟨b4, q⟩ := q
    refine m_iaload dX11_onesOf_53 rfl (by decide) b4 ?_
    refine m_iload_n dX11_onesOf_54 rfl ?_
    refine m_icmp_ne 78 dX11_onesOf_55 (by decide) (fun c5 => ?_) (fun c5 => ?_)
    · replace q := q.1 c5
      refine m_aload_n dX11_onesOf_78 rfl ?_
      refine gf_X11_20 rfl dX11_onesOf_79 ?_
      refine m_bipush (v := 9) dX11_onesOf_82 (by decide) ?_
      refine m_iload_n dX11_onesOf_84 rfl ?_
      refine m_iadd dX11_onesOf_85 ?_
      obtain ⟨b6, q⟩ := q
      refine m_iaload dX11_onesOf_86 rfl (by decide) b6 ?_
      refine m_iload_n dX11_onesOf_87 rfl ?_
      refine m_icmp_ne 111 dX11_onesOf_88 (by decide) (fun c7 => ?_) (fun c7 => ?_)
      · replace q := q.1 c7
        refine m_iconst (v := (-1)) dX11_onesOf_111 (by decide) ?_
        exact m_iret dX11_onesOf_112 rfl q
      · replace q := q.2 c7
        refine m_aload_n dX11_onesOf_91 rfl ?_
        refine gf_X11_20 rfl dX11_onesOf_92 ?_
        refine m_iload_n dX11_onesOf_95 rfl ?_
        refine m_iconst (v := 1) dX11_onesOf_96 (by decide) ?_
        refine m_iadd dX11_onesOf_97 ?_
        obtain ⟨b8, q⟩ := q
        refine m_iaload dX11_onesOf_98 rfl (by decide) b8 ?_
        refine m_aload_n dX11_onesOf_99 rfl ?_
        refine gf_X11_20 rfl dX11_onesOf_100 ?_
        refine m_iload_n dX11_onesOf_103 rfl ?_
        refine m_iconst (v := 3) dX11_onesOf_104 (by decide) ?_
        refine m_iadd dX11_onesOf_105 ?_
        obtain ⟨b9, q⟩ := q
        refine m_iaload dX11_onesOf_106 rfl (by decide) b9 ?_
        refine m_iadd dX11_onesOf_107 ?_
        refine m_goto 112 dX11_onesOf_108 (by decide) ?_
        exact m_iret dX11_onesOf_112 rfl q
    · replace q := q.2 c5
      refine m_aload_n dX11_onesOf_58 rfl ?_
      refine gf_X11_20 rfl dX11_onesOf_59 ?_
      refine m_iload_n dX11_onesOf_62 rfl ?_
      refine m_iconst (v := 2) dX11_onesOf_63 (by decide) ?_
      refine m_iadd dX11_onesOf_64 ?_
      obtain ⟨b10, q⟩ := q
      refine m_iaload dX11_onesOf_65 rfl (by decide) b10 ?_
      refine m_aload_n dX11_onesOf_66 rfl ?_
      refine gf_X11_20 rfl dX11_onesOf_67 ?_
      refine m_iload_n dX11_onesOf_70 rfl ?_
      refine m_iconst (v := 3) dX11_onesOf_71 (by decide) ?_
      refine m_iadd dX11_onesOf_72 ?_
      obtain ⟨b11, q⟩ := q
      refine m_iaload dX11_onesOf_73 rfl (by decide) b11 ?_
      refine m_iadd dX11_onesOf_74 ?_
      refine m_goto 112 dX11_onesOf_75 (by decide) ?_
      exact m_iret dX11_onesOf_112 rfl q
  · replace q := q.2 c3
    refine m_aload_n dX11_onesOf_21 rfl ?_
    refine gf_X11_20 rfl dX11_onesOf_22 ?_
    refine m_iconst (v := 1) dX11_onesOf_25 (by decide) ?_
    refine m_iload_n dX11_onesOf_26 rfl ?_
    refine m_iadd dX11_onesOf_27 ?_
    obtain ⟨b12, q⟩ := q
    refine m_iaload dX11_onesOf_28 rfl (by decide) b12 ?_
    refine m_iload_n dX11_onesOf_29 rfl ?_
    refine m_icmp_ne 44 dX11_onesOf_30 (by decide) (fun c13 => ?_) (fun c13 => ?_)
    · replace q := q.1 c13
      refine m_iconst (v := (-1)) dX11_onesOf_44 (by decide) ?_
      exact m_iret dX11_onesOf_45 rfl q
    · replace q := q.2 c13
      refine m_aload_n dX11_onesOf_33 rfl ?_
      refine gf_X11_20 rfl dX11_onesOf_34 ?_
      refine m_iload_n dX11_onesOf_37 rfl ?_
      refine m_iconst (v := 1) dX11_onesOf_38 (by decide) ?_
      refine m_iadd dX11_onesOf_39 ?_
      obtain ⟨b14, q⟩ := q
      refine m_iaload dX11_onesOf_40 rfl (by decide) b14 ?_
      refine m_goto 45 dX11_onesOf_41 (by decide) ?_
      exact m_iret dX11_onesOf_45 rfl q
