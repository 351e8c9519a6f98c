set_option maxRecDepth 100000 in
theorem e_X11_disturbed {g : gT} {h : mh_T} {P : Int32 → mh_T → Prop}  (q : MCv g yX11_good uX11_good [.ref 11] h (fun h1 => (¬ (mI h1 11 14) = 0 → ME g uX11_disturbed 19 [.ref 11, .int 0, .retAddr 0, .retAddr 0, .retAddr 0] [] h1 (qI P)) ∧ ((mI h1 11 14) = 0 → MCi g yX11_no uX11_no [.ref 11, .int 1] h1 (fun r4 h3 => P r4 h3)))) : MCi g yX11_disturbed uX11_disturbed [.ref 11] h P := by
  refine m_enter (by decide) rfl (Nat.le_of_ble_eq_true rfl) (lv := [.ref 11, .retAddr 0, .retAddr 0, .retAddr 0, .retAddr 0]) rfl ?_
  refine m_aload_n dX11_disturbed_0 rfl ?_
  refine cl_X11_174 rfl (by decide) dX11_disturbed_1 (Nat.le_of_ble_eq_true rfl) (MCv_go q (fun h1 q => ?_))
  refine m_aload_n dX11_disturbed_4 rfl ?_
  refine gf_X11_183 rfl dX11_disturbed_5 ?_
  refine m_if_ne 17 dX11_disturbed_8 (by decide) (fun c2 => ?_) (fun c2 => ?_)
  · replace q := q.1 c2
    refine m_iconst (v := 0) dX11_disturbed_17 (by decide) ?_
    refine m_istore_n (lv' := [.ref 11, .int 0, .retAddr 0, .retAddr 0, .retAddr 0]) dX11_disturbed_18 (Nat.le_of_ble_eq_true rfl) rfl rfl ?_
    exact q
  · replace q := q.2 c2
    refine m_aload_n dX11_disturbed_11 rfl ?_
    refine m_iconst (v := 1) dX11_disturbed_12 (by decide) ?_
    refine cl_X11_177 rfl (by decide) dX11_disturbed_13 (Nat.le_of_ble_eq_true rfl) (MCi_go q (fun r4 h3 q => ?_))
    exact m_iret dX11_disturbed_16 rfl q
set_option maxRecDepth 100000 in
theorem r_X11_disturbed_19 {g : gT} {h : mh_T} {P : Int32 → mh_T → Prop} (l1 : Int32) (q : ((mI h 45 (Int32.toNatClampNeg 50)) ≤ l1 → P (-2) h) ∧ (¬ (mI h 45 (Int32.toNatClampNeg 50)) ≤ l1 → ME g uX11_disturbed 34 [.ref 11, .int l1, .int (-1), .int 0, .retAddr 0] [] h (qI P))) : ME g uX11_disturbed 19 [.ref 11, .int l1, .retAddr 0, .retAddr 0, .retAddr 0] [] h (qI P) := by
  refine m_iload_n dX11_disturbed_19 rfl ?_
  refine m_aload_n dX11_disturbed_20 rfl ?_
  refine gf_X11_20 rfl dX11_disturbed_21 ?_
  refine m_bipush (v := 50) dX11_disturbed_24 (by decide) ?_
  refine m_iaload dX11_disturbed_26 rfl (by decide) (by unfold vp_in; decide) ?_
  refine m_icmp_ge 93 dX11_disturbed_27 (by decide) (fun c1 => ?_) (fun c1 => ?_)
  · replace q := q.1 c1
    refine m_bipush (v := (-2)) dX11_disturbed_93 (by decide) ?_
    exact m_iret dX11_disturbed_95 rfl q
  · replace q := q.2 c1
    refine m_iconst (v := (-1)) dX11_disturbed_30 (by decide) ?_
    refine m_istore_n (lv' := [.ref 11, .int l1, .int (-1), .retAddr 0, .retAddr 0]) dX11_disturbed_31 (Nat.le_of_ble_eq_true rfl) rfl rfl ?_
    refine m_iconst (v := 0) dX11_disturbed_32 (by decide) ?_
    refine m_istore_n (lv' := [.ref 11, .int l1, .int (-1), .int 0, .retAddr 0]) dX11_disturbed_33 (Nat.le_of_ble_eq_true rfl) rfl rfl ?_
    exact q
set_option maxRecDepth 100000 in
theorem r_X11_disturbed_34 {g : gT} {h : mh_T} {P : Int32 → mh_T → Prop} (l1 : Int32) (l2 : Int32) (l3 : Int32) (q : ((mI h 45 (Int32.toNatClampNeg 0)) ≤ l3 → ME g uX11_disturbed 19 [.ref 11, .int (l1 + 1), .retAddr 0, .retAddr 0, .retAddr 0] [] h (qI P)) ∧ (¬ (mI h 45 (Int32.toNatClampNeg 0)) ≤ l3 → MCi g yX11_onesOf uX11_onesOf [.ref 11, .int l3, .int l1] h (fun r3 h2 => (r3 < 0 → (r3 < 0 → ME g uX11_disturbed 34 [.ref 11, .int l1, .int l2, .int (l3 + 1), .retAddr 0] [] h2 (qI P)) ∧ (¬ r3 < 0 → ME g uX11_disturbed 34 [.ref 11, .int l1, .int r3, .int (l3 + 1), .retAddr 0] [] h2 (qI P))) ∧ (¬ r3 < 0 → (l2 < 0 → (r3 < 0 → ME g uX11_disturbed 34 [.ref 11, .int l1, .int l2, .int (l3 + 1), .retAddr 0] [] h2 (qI P)) ∧ (¬ r3 < 0 → ME g uX11_disturbed 34 [.ref 11, .int l1, .int r3, .int (l3 + 1), .retAddr 0] [] h2 (qI P))) ∧ (¬ l2 < 0 → (r3 = l2 → (r3 < 0 → ME g uX11_disturbed 34 [.ref 11, .int l1, .int l2, .int (l3 + 1), .retAddr 0] [] h2 (qI P)) ∧ (¬ r3 < 0 → ME g uX11_disturbed 34 [.ref 11, .int l1, .int r3, .int (l3 + 1), .retAddr 0] [] h2 (qI P))) ∧ (¬ r3 = l2 → P l1 h2)))))) : ME g uX11_disturbed 34 [.ref 11, .int l1, .int l2, .int l3, .retAddr 0] [] h (qI P) := by
  refine m_iload_n dX11_disturbed_34 rfl ?_
  refine m_aload_n dX11_disturbed_35 rfl ?_
  refine gf_X11_20 rfl dX11_disturbed_36 ?_
  refine m_iconst (v := 0) dX11_disturbed_39 (by decide) ?_
  refine m_iaload dX11_disturbed_40 rfl (by decide) (by unfold vp_in; decide) ?_
  refine m_icmp_ge 87 dX11_disturbed_41 (by decide) (fun c1 => ?_) (fun c1 => ?_)
  · replace q := q.1 c1
    refine m_iinc (v := (l1 + 1)) (lv' := [.ref 11, .int (l1 + 1), .int l2, .int l3, .retAddr 0]) dX11_disturbed_87 (Nat.le_of_ble_eq_true rfl) rfl (congrArg (fun z => l1 + z) (by decide : Int32.ofInt 1 = 1)) rfl rfl ?_
    refine m_goto 19 dX11_disturbed_90 (by decide) ?_
    refine m_dropK (lv' := [.ref 11, .int (l1 + 1), .retAddr 0, .retAddr 0, .retAddr 0]) [2, 3] rfl ?_
    exact q
  · replace q := q.2 c1
    refine m_aload_n dX11_disturbed_44 rfl ?_
    refine m_iload_n dX11_disturbed_45 rfl ?_
    refine m_iload_n dX11_disturbed_46 rfl ?_
    refine cl_X11_314 rfl (by decide) dX11_disturbed_47 (Nat.le_of_ble_eq_true rfl) (MCi_go q (fun r3 h2 q => ?_))
    refine m_istore (lv' := [.ref 11, .int l1, .int l2, .int l3, .int r3]) dX11_disturbed_50 (Nat.le_of_ble_eq_true rfl) rfl rfl ?_
    refine m_iload dX11_disturbed_52 rfl ?_
    refine m_if_lt 69 dX11_disturbed_54 (by decide) (fun c4 => ?_) (fun c4 => ?_)
    · replace q := q.1 c4
      refine m_iload dX11_disturbed_69 rfl ?_
      refine m_if_lt 79 dX11_disturbed_71 (by decide) (fun c5 => ?_) (fun c5 => ?_)
      · replace q := q.1 c5
        refine m_iload_n dX11_disturbed_79 rfl ?_
        refine m_istore_n (lv' := [.ref 11, .int l1, .int l2, .int l3, .int r3]) dX11_disturbed_80 (Nat.le_of_ble_eq_true rfl) rfl rfl ?_
        refine m_iinc (v := (l3 + 1)) (lv' := [.ref 11, .int l1, .int l2, .int (l3 + 1), .int r3]) dX11_disturbed_81 (Nat.le_of_ble_eq_true rfl) rfl (congrArg (fun z => l3 + z) (by decide : Int32.ofInt 1 = 1)) rfl rfl ?_
        refine m_goto 34 dX11_disturbed_84 (by decide) ?_
        refine m_dropK (lv' := [.ref 11, .int l1, .int l2, .int (l3 + 1), .retAddr 0]) [4] rfl ?_
        exact q
      · replace q := q.2 c5
        refine m_iload dX11_disturbed_74 rfl ?_
        refine m_goto 80 dX11_disturbed_76 (by decide) ?_
        refine m_istore_n (lv' := [.ref 11, .int l1, .int r3, .int l3, .int r3]) dX11_disturbed_80 (Nat.le_of_ble_eq_true rfl) rfl rfl ?_
        refine m_iinc (v := (l3 + 1)) (lv' := [.ref 11, .int l1, .int r3, .int (l3 + 1), .int r3]) dX11_disturbed_81 (Nat.le_of_ble_eq_true rfl) rfl (congrArg (fun z => l3 + z) (by decide : Int32.ofInt 1 = 1)) rfl rfl ?_
        refine m_goto 34 dX11_disturbed_84 (by decide) ?_
        refine m_dropK (lv' := [.ref 11, .int l1, .int r3, .int (l3 + 1), .retAddr 0]) [4] rfl ?_
        exact q
    · replace q := q.2 c4
      refine m_iload_n dX11_disturbed_57 rfl ?_
      refine m_if_lt 69 dX11_disturbed_58 (by decide) (fun c6 => ?_) (fun c6 => ?_)
      · replace q := q.1 c6
        refine m_iload dX11_disturbed_69 rfl ?_
        refine m_if_lt 79 dX11_disturbed_71 (by decide) (fun c7 => ?_) (fun c7 => ?_)
        · replace q := q.1 c7
          refine m_iload_n dX11_disturbed_79 rfl ?_
          refine m_istore_n (lv' := [.ref 11, .int l1, .int l2, .int l3, .int r3]) dX11_disturbed_80 (Nat.le_of_ble_eq_true rfl) rfl rfl ?_
          refine m_iinc (v := (l3 + 1)) (lv' := [.ref 11, .int l1, .int l2, .int (l3 + 1), .int r3]) dX11_disturbed_81 (Nat.le_of_ble_eq_true rfl) rfl (congrArg (fun z => l3 + z) (by decide : Int32.ofInt 1 = 1)) rfl rfl ?_
          refine m_goto 34 dX11_disturbed_84 (by decide) ?_
          refine m_dropK (lv' := [.ref 11, .int l1, .int l2, .int (l3 + 1), .retAddr 0]) [4] rfl ?_
          exact q
        · replace q := q.2 c7
          refine m_iload dX11_disturbed_74 rfl ?_
          refine m_goto 80 dX11_disturbed_76 (by decide) ?_
          refine m_istore_n (lv' := [.ref 11, .int l1, .int r3, .int l3, .int r3]) dX11_disturbed_80 (Nat.le_of_ble_eq_true rfl) rfl rfl ?_
          refine m_iinc (v := (l3 + 1)) (lv' := [.ref 11, .int l1, .int r3, .int (l3 + 1), .int r3]) dX11_disturbed_81 (Nat.le_of_ble_eq_true rfl) rfl (congrArg (fun z => l3 + z) (by decide : Int32.ofInt 1 = 1)) rfl rfl ?_
          refine m_goto 34 dX11_disturbed_84 (by decide) ?_
          refine m_dropK (lv' := [.ref 11, .int l1, .int r3, .int (l3 + 1), .retAddr 0]) [4] rfl ?_
          exact q
      · replace q := q.2 c6
        refine m_iload dX11_disturbed_61 rfl ?_
        refine m_iload_n dX11_disturbed_63 rfl ?_
        refine m_icmp_eq 69 dX11_disturbed_64 (by decide) (fun c8 => ?_) (fun c8 => ?_)
        · replace q := q.1 c8
          refine m_iload dX11_disturbed_69 rfl ?_
          refine m_if_lt 79 dX11_disturbed_71 (by decide) (fun c9 => ?_) (fun c9 => ?_)
          · replace q := q.1 c9
            refine m_iload_n dX11_disturbed_79 rfl ?_
            refine m_istore_n (lv' := [.ref 11, .int l1, .int l2, .int l3, .int r3]) dX11_disturbed_80 (Nat.le_of_ble_eq_true rfl) rfl rfl ?_
            refine m_iinc (v := (l3 + 1)) (lv' := [.ref 11, .int l1, .int l2, .int (l3 + 1), .int r3]) dX11_disturbed_81 (Nat.le_of_ble_eq_true rfl) rfl (congrArg (fun z => l3 + z) (by decide : Int32.ofInt 1 = 1)) rfl rfl ?_
            refine m_goto 34 dX11_disturbed_84 (by decide) ?_
            refine m_dropK (lv' := [.ref 11, .int l1, .int l2, .int (l3 + 1), .retAddr 0]) [4] rfl ?_
            exact q
          · replace q := q.2 c9
            refine m_iload dX11_disturbed_74 rfl ?_
            refine m_goto 80 dX11_disturbed_76 (by decide) ?_
            refine m_istore_n (lv' := [.ref 11, .int l1, .int r3, .int l3, .int r3]) dX11_disturbed_80 (Nat.le_of_ble_eq_true rfl) rfl rfl ?_
            refine m_iinc (v := (l3 + 1)) (lv' := [.ref 11, .int l1, .int r3, .int (l3 + 1), .int r3]) dX11_disturbed_81 (Nat.le_of_ble_eq_true rfl) rfl (congrArg (fun z => l3 + z) (by decide : Int32.ofInt 1 = 1)) rfl rfl ?_
            refine m_goto 34 dX11_disturbed_84 (by decide) ?_
            refine m_dropK (lv' := [.ref 11, .int l1, .int r3, .int (l3 + 1), .retAddr 0]) [4] rfl ?_
            exact q
        · replace q := q.2 c8
          refine m_iload_n dX11_disturbed_67 rfl ?_
          exact m_iret dX11_disturbed_68 rfl q
set_option maxRecDepth 100000 in
theorem e_X11_sameOf {g : gT} {h : mh_T} {P : Int32 → mh_T → Prop} (l1 : Int32) (q : ∀ x1 : Int32, x1 = (17 + (4 * l1)) → (vp_in x1 346) ∧ ((vp_in (x1 + 3) 346) ∧ ((vp_in (x1 + 1) 346) ∧ ((vp_in (x1 + 2) 346) ∧ (P ((((mI h 45 x1.toNatClampNeg) + (mI h 45 (x1 + 3).toNatClampNeg)) - (mI h 45 (x1 + 1).toNatClampNeg)) - (mI h 45 (x1 + 2).toNatClampNeg)) h))))) : MCi g yX11_sameOf uX11_sameOf [.ref 11, .int l1] h P := by
  refine m_enter (by decide) rfl (Nat.le_of_ble_eq_true rfl) (lv := [.ref 11, .int l1, .retAddr 0]) rfl ?_
  refine m_bipush (v := 17) dX11_sameOf_0 (by decide) ?_
  refine m_iconst (v := 4) dX11_sameOf_2 (by decide) ?_
  refine m_iload_n dX11_sameOf_3 rfl ?_
  refine m_imul dX11_sameOf_4 ?_
  refine m_iadd dX11_sameOf_5 ?_
  obtain ⟨x1, ex1⟩ : ∃ z, z = (17 + (4 * l1)) := ⟨_, rfl⟩
  rw [← ex1]
  replace q := q x1 ex1
  refine m_istore_n (lv' := [.ref 11, .int l1, .int x1]) dX11_sameOf_6 (Nat.le_of_ble_eq_true rfl) rfl rfl ?_
  refine m_aload_n dX11_sameOf_7 rfl ?_
  refine gf_X11_20 rfl dX11_sameOf_8 ?_
  refine m_iload_n dX11_sameOf_11 rfl ?_
  obtain ⟨b2, q⟩ := q
  refine m_iaload dX11_sameOf_12 rfl (by decide) b2 ?_
  refine m_aload_n dX11_sameOf_13 rfl ?_
  refine gf_X11_20 rfl dX11_sameOf_14 ?_
  refine m_iload_n dX11_sameOf_17 rfl ?_
  refine m_iconst (v := 3) dX11_sameOf_18 (by decide) ?_
  refine m_iadd dX11_sameOf_19 ?_
  obtain ⟨b3, q⟩ := q
  refine m_iaload dX11_sameOf_20 rfl (by decide) b3 ?_
  refine m_iadd dX11_sameOf_21 ?_
  refine m_aload_n dX11_sameOf_22 rfl ?_
  refine gf_X11_20 rfl dX11_sameOf_23 ?_
  refine m_iload_n dX11_sameOf_26 rfl ?_
  refine m_iconst (v := 1) dX11_sameOf_27 (by decide) ?_
  refine m_iadd dX11_sameOf_28 ?_
  obtain ⟨b4, q⟩ := q
  refine m_iaload dX11_sameOf_29 rfl (by decide) b4 ?_
  refine m_isub dX11_sameOf_30 ?_
  refine m_aload_n dX11_sameOf_31 rfl ?_
  refine gf_X11_20 rfl dX11_sameOf_32 ?_
  refine m_iload_n dX11_sameOf_35 rfl ?_
  refine m_iconst (v := 2) dX11_sameOf_36 (by decide) ?_
  refine m_iadd dX11_sameOf_37 ?_
  obtain ⟨b5, q⟩ := q
  refine m_iaload dX11_sameOf_38 rfl (by decide) b5 ?_
  refine m_isub dX11_sameOf_39 ?_
  exact m_iret dX11_sameOf_40 rfl q
set_option maxRecDepth 100000 in
theorem e_X11_same {g : gT} {h : mh_T} {P : Int32 → mh_T → Prop} (l1 : Int32) (q : MCv g yX11_good uX11_good [.ref 11] h (fun h1 => MCi g yX11_isSet uX11_isSet [.ref 11, .int l1] h1 (fun r3 h2 => (r3 = 0 → MCi g yX11_less uX11_less [.ref 11, .int 1, .int (-1000)] h2 (fun r6 h5 => P r6 h5)) ∧ (¬ r3 = 0 → (vp_in (9 + l1) 346) ∧ (((mI h2 45 (9 + l1).toNatClampNeg) = (-2) → MCi g yX11_less uX11_less [.ref 11, .int 1, .int (-1000)] h2 (fun r10 h9 => P r10 h9)) ∧ (¬ (mI h2 45 (9 + l1).toNatClampNeg) = (-2) → MCi g yX11_sameOf uX11_sameOf [.ref 11, .int l1] h2 (fun r12 h11 => P r12 h11))))))) : MCi g yX11_same uX11_same [.ref 11, .int l1] h P := by
  refine m_enter (by decide) rfl (Nat.le_of_ble_eq_true rfl) (lv := [.ref 11, .int l1]) rfl ?_
  refine m_aload_n dX11_same_0 rfl ?_
  refine cl_X11_174 rfl (by decide) dX11_same_1 (Nat.le_of_ble_eq_true rfl) (MCv_go q (fun h1 q => ?_))
  refine m_aload_n dX11_same_4 rfl ?_
  refine m_iload_n dX11_same_5 rfl ?_
  refine cl_X11_244 rfl (by decide) dX11_same_6 (Nat.le_of_ble_eq_true rfl) (MCi_go q (fun r3 h2 q => ?_))
  refine m_if_eq 34 dX11_same_9 (by decide) (fun c4 => ?_) (fun c4 => ?_)
  · replace q := q.1 c4
    refine m_aload_n dX11_same_34 rfl ?_
    refine m_iconst (v := 1) dX11_same_35 (by decide) ?_
    refine m_sipush (v := (-1000)) dX11_same_36 (by decide) ?_
    refine cl_X11_320 rfl (by decide) dX11_same_39 (Nat.le_of_ble_eq_true rfl) (MCi_go q (fun r6 h5 q => ?_))
    exact m_iret dX11_same_42 rfl q
  · replace q := q.2 c4
    refine m_aload_n dX11_same_12 rfl ?_
    refine gf_X11_20 rfl dX11_same_13 ?_
    refine m_bipush (v := 9) dX11_same_16 (by decide) ?_
    refine m_iload_n dX11_same_18 rfl ?_
    refine m_iadd dX11_same_19 ?_
    obtain ⟨b7, q⟩ := q
    refine m_iaload dX11_same_20 rfl (by decide) b7 ?_
    refine m_bipush (v := (-2)) dX11_same_21 (by decide) ?_
    refine m_icmp_eq 34 dX11_same_23 (by decide) (fun c8 => ?_) (fun c8 => ?_)
    · replace q := q.1 c8
      refine m_aload_n dX11_same_34 rfl ?_
      refine m_iconst (v := 1) dX11_same_35 (by decide) ?_
      refine m_sipush (v := (-1000)) dX11_same_36 (by decide) ?_
      refine cl_X11_320 rfl (by decide) dX11_same_39 (Nat.le_of_ble_eq_true rfl) (MCi_go q (fun r10 h9 q => ?_))
      exact m_iret dX11_same_42 rfl q
    · replace q := q.2 c8
      refine m_aload_n dX11_same_26 rfl ?_
      refine m_iload_n dX11_same_27 rfl ?_
      refine cl_X11_317 rfl (by decide) dX11_same_28 (Nat.le_of_ble_eq_true rfl) (MCi_go q (fun r12 h11 q => ?_))
      refine m_goto 42 dX11_same_31 (by decide) ?_
      exact m_iret dX11_same_42 rfl q
set_option maxRecDepth 100000 in
theorem e_X11_isCycle {g : gT} {h : mh_T} {P : Int32 → mh_T → Prop} (l1 : Int32) (q : MCi g yX11_within uX11_within [.int l1, .int 0, .int ((1 <<< ((mI h 45 (Int32.toNatClampNeg 0)) &&& 31)) - 1)] h (fun r2 h1 => (r2 = 0 → P 0 h1) ∧ (¬ r2 = 0 → MCi g yX11_bits uX11_bits [.int l1] h1 (fun r5 h4 => (3 ≤ r5 → ME g uX11_isCycle 38 [.ref 11, .int l1, .int 0, .int 0, .int 0, .int 0, .retAddr 0, .retAddr 0] [] h4 (qI P)) ∧ (¬ 3 ≤ r5 → P 0 h4))))) : MCi g yX11_isCycle uX11_isCycle [.ref 11, .int l1] h P := by
  refine m_enter (by decide) rfl (Nat.le_of_ble_eq_true rfl) (lv := [.ref 11, .int l1, .retAddr 0, .retAddr 0, .retAddr 0, .retAddr 0, .retAddr 0, .retAddr 0]) rfl ?_
  refine m_iload_n dX11_isCycle_0 rfl ?_
  refine m_iconst (v := 0) dX11_isCycle_1 (by decide) ?_
  refine m_iconst (v := 1) dX11_isCycle_2 (by decide) ?_
  refine m_aload_n dX11_isCycle_3 rfl ?_
  refine gf_X11_20 rfl dX11_isCycle_4 ?_
  refine m_iconst (v := 0) dX11_isCycle_7 (by decide) ?_
  refine m_iaload dX11_isCycle_8 rfl (by decide) (by unfold vp_in; decide) ?_
  refine m_ishl dX11_isCycle_9 ?_
  refine m_iconst (v := 1) dX11_isCycle_10 (by decide) ?_
  refine m_isub dX11_isCycle_11 ?_
  refine cl_X11_170 rfl (by decide) dX11_isCycle_12 (Nat.le_of_ble_eq_true rfl) (MCi_go q (fun r2 h1 q => ?_))
  refine m_if_eq 26 dX11_isCycle_15 (by decide) (fun c3 => ?_) (fun c3 => ?_)
  · replace q := q.1 c3
    refine m_iconst (v := 0) dX11_isCycle_26 (by decide) ?_
    exact m_zret dX11_isCycle_27 rfl (by decide) q
  · replace q := q.2 c3
    refine m_iload_n dX11_isCycle_18 rfl ?_
    refine cl_X11_323 rfl (by decide) dX11_isCycle_19 (Nat.le_of_ble_eq_true rfl) (MCi_go q (fun r5 h4 q => ?_))
    refine m_iconst (v := 3) dX11_isCycle_22 (by decide) ?_
    refine m_icmp_ge 28 dX11_isCycle_23 (by decide) (fun c6 => ?_) (fun c6 => ?_)
    · replace q := q.1 c6
      refine m_iconst (v := 0) dX11_isCycle_28 (by decide) ?_
      refine m_istore_n (lv' := [.ref 11, .int l1, .int 0, .retAddr 0, .retAddr 0, .retAddr 0, .retAddr 0, .retAddr 0]) dX11_isCycle_29 (Nat.le_of_ble_eq_true rfl) rfl rfl ?_
      refine m_iconst (v := 0) dX11_isCycle_30 (by decide) ?_
      refine m_istore_n (lv' := [.ref 11, .int l1, .int 0, .int 0, .retAddr 0, .retAddr 0, .retAddr 0, .retAddr 0]) dX11_isCycle_31 (Nat.le_of_ble_eq_true rfl) rfl rfl ?_
      refine m_iconst (v := 0) dX11_isCycle_32 (by decide) ?_
      refine m_istore (lv' := [.ref 11, .int l1, .int 0, .int 0, .int 0, .retAddr 0, .retAddr 0, .retAddr 0]) dX11_isCycle_33 (Nat.le_of_ble_eq_true rfl) rfl rfl ?_
      refine m_iconst (v := 0) dX11_isCycle_35 (by decide) ?_
      refine m_istore (lv' := [.ref 11, .int l1, .int 0, .int 0, .int 0, .int 0, .retAddr 0, .retAddr 0]) dX11_isCycle_36 (Nat.le_of_ble_eq_true rfl) rfl rfl ?_
      exact q
    · replace q := q.2 c6
      refine m_iconst (v := 0) dX11_isCycle_26 (by decide) ?_
      exact m_zret dX11_isCycle_27 rfl (by decide) q
set_option maxRecDepth 100000 in
theorem r_X11_isCycle_38 {g : gT} {h : mh_T} {P : Int32 → mh_T → Prop} (l1 : Int32) (l2 : Int32) (l3 : Int32) (l4 : Int32) (l5 : Int32) (q : ((mI h 45 (Int32.toNatClampNeg 0)) ≤ l5 → (l2 = l3 → ME g uX11_isCycle 145 [.ref 11, .int l1, .int l2, .int l3, .int l4, .int 0, .retAddr 0, .retAddr 0] [] h (qI P)) ∧ (¬ l2 = l3 → P 0 h)) ∧ (¬ (mI h 45 (Int32.toNatClampNeg 0)) ≤ l5 → MCi g yX11_has uX11_has [.int l1, .int l5] h (fun r4 h3 => (¬ r4 = 0 → (vp_in (9 + l5) 346) ∧ ((¬ (mI h3 45 (9 + l5).toNatClampNeg) = (-2) → (vp_in (1 + l5) 346) ∧ ((vp_in (9 + l5) 346) ∧ (∀ x10 : Int32, x10 = ((1 <<< ((mI h3 45 (1 + l5).toNatClampNeg) &&& 31)) ||| (1 <<< ((mI h3 45 (9 + l5).toNatClampNeg) &&& 31))) → ((l3 &&& x10) = 0 → ∀ x12 : Int32, x12 = (l3 ||| (l2 &&& x10)) → ∀ x13 : Int32, x13 = (l2 ||| x10) → ME g uX11_isCycle 38 [.ref 11, .int l1, .int x13, .int x12, .int x10, .int (l5 + 1), .retAddr 0, .retAddr 0] [] h3 (qI P)) ∧ (¬ (l3 &&& x10) = 0 → P 0 h3)))) ∧ ((mI h3 45 (9 + l5).toNatClampNeg) = (-2) → P 0 h3))) ∧ (r4 = 0 → ME g uX11_isCycle 38 [.ref 11, .int l1, .int l2, .int l3, .int l4, .int (l5 + 1), .retAddr 0, .retAddr 0] [] h3 (qI P))))) : ME g uX11_isCycle 38 [.ref 11, .int l1, .int l2, .int l3, .int l4, .int l5, .retAddr 0, .retAddr 0] [] h (qI P) := by
  refine m_iload dX11_isCycle_38 rfl ?_
  refine m_aload_n dX11_isCycle_40 rfl ?_
  refine gf_X11_20 rfl dX11_isCycle_41 ?_
  refine m_iconst (v := 0) dX11_isCycle_44 (by decide) ?_
  refine m_iaload dX11_isCycle_45 rfl (by decide) (by unfold vp_in; decide) ?_
  refine m_icmp_ge 135 dX11_isCycle_46 (by decide) (fun c1 => ?_) (fun c1 => ?_)
  · replace q := q.1 c1
    refine m_iload_n dX11_isCycle_135 rfl ?_
    refine m_iload_n dX11_isCycle_136 rfl ?_
    refine m_icmp_eq 142 dX11_isCycle_137 (by decide) (fun c2 => ?_) (fun c2 => ?_)
    · replace q := q.1 c2
      refine m_iconst (v := 0) dX11_isCycle_142 (by decide) ?_
      refine m_istore (lv' := [.ref 11, .int l1, .int l2, .int l3, .int l4, .int 0, .retAddr 0, .retAddr 0]) dX11_isCycle_143 (Nat.le_of_ble_eq_true rfl) rfl rfl ?_
      exact q
    · replace q := q.2 c2
      refine m_iconst (v := 0) dX11_isCycle_140 (by decide) ?_
      exact m_zret dX11_isCycle_141 rfl (by decide) q
  · replace q := q.2 c1
    refine m_iload_n dX11_isCycle_49 rfl ?_
    refine m_iload dX11_isCycle_50 rfl ?_
    refine cl_X11_162 rfl (by decide) dX11_isCycle_52 (Nat.le_of_ble_eq_true rfl) (MCi_go q (fun r4 h3 q => ?_))
    refine m_if_ne 61 dX11_isCycle_55 (by decide) (fun c5 => ?_) (fun c5 => ?_)
    · replace q := q.1 c5
      refine m_aload_n dX11_isCycle_61 rfl ?_
      refine gf_X11_20 rfl dX11_isCycle_62 ?_
      refine m_bipush (v := 9) dX11_isCycle_65 (by decide) ?_
      refine m_iload dX11_isCycle_67 rfl ?_
      refine m_iadd dX11_isCycle_69 ?_
      obtain ⟨b6, q⟩ := q
      refine m_iaload dX11_isCycle_70 rfl (by decide) b6 ?_
      refine m_bipush (v := (-2)) dX11_isCycle_71 (by decide) ?_
      refine m_icmp_ne 78 dX11_isCycle_73 (by decide) (fun c7 => ?_) (fun c7 => ?_)
      · replace q := q.1 c7
        refine m_iconst (v := 1) dX11_isCycle_78 (by decide) ?_
        refine m_aload_n dX11_isCycle_79 rfl ?_
        refine gf_X11_20 rfl dX11_isCycle_80 ?_
        refine m_iconst (v := 1) dX11_isCycle_83 (by decide) ?_
        refine m_iload dX11_isCycle_84 rfl ?_
        refine m_iadd dX11_isCycle_86 ?_
        obtain ⟨b8, q⟩ := q
        refine m_iaload dX11_isCycle_87 rfl (by decide) b8 ?_
        refine m_ishl dX11_isCycle_88 ?_
        refine m_iconst (v := 1) dX11_isCycle_89 (by decide) ?_
        refine m_aload_n dX11_isCycle_90 rfl ?_
        refine gf_X11_20 rfl dX11_isCycle_91 ?_
        refine m_bipush (v := 9) dX11_isCycle_94 (by decide) ?_
        refine m_iload dX11_isCycle_96 rfl ?_
        refine m_iadd dX11_isCycle_98 ?_
        obtain ⟨b9, q⟩ := q
        refine m_iaload dX11_isCycle_99 rfl (by decide) b9 ?_
        refine m_ishl dX11_isCycle_100 ?_
        refine m_ior dX11_isCycle_101 ?_
        obtain ⟨x10, ex10⟩ : ∃ z, z = ((1 <<< ((mI h3 45 (1 + l5).toNatClampNeg) &&& 31)) ||| (1 <<< ((mI h3 45 (9 + l5).toNatClampNeg) &&& 31))) := ⟨_, rfl⟩
        rw [← ex10]
        replace q := q x10 ex10
        refine m_istore (lv' := [.ref 11, .int l1, .int l2, .int l3, .int l4, .int l5, .int x10, .retAddr 0]) dX11_isCycle_102 (Nat.le_of_ble_eq_true rfl) rfl rfl ?_
        refine m_iload_n dX11_isCycle_104 rfl ?_
        refine m_iload dX11_isCycle_105 rfl ?_
        refine m_iand dX11_isCycle_107 ?_
        refine m_if_eq 113 dX11_isCycle_108 (by decide) (fun c11 => ?_) (fun c11 => ?_)
        · replace q := q.1 c11
          refine m_iload_n dX11_isCycle_113 rfl ?_
          refine m_iload_n dX11_isCycle_114 rfl ?_
          refine m_iload dX11_isCycle_115 rfl ?_
          refine m_iand dX11_isCycle_117 ?_
          refine m_ior dX11_isCycle_118 ?_
          obtain ⟨x12, ex12⟩ : ∃ z, z = (l3 ||| (l2 &&& x10)) := ⟨_, rfl⟩
          rw [← ex12]
          replace q := q x12 ex12
          refine m_istore_n (lv' := [.ref 11, .int l1, .int l2, .int x12, .int l4, .int l5, .int x10, .retAddr 0]) dX11_isCycle_119 (Nat.le_of_ble_eq_true rfl) rfl rfl ?_
          refine m_iload_n dX11_isCycle_120 rfl ?_
          refine m_iload dX11_isCycle_121 rfl ?_
          refine m_ior dX11_isCycle_123 ?_
          obtain ⟨x13, ex13⟩ : ∃ z, z = (l2 ||| x10) := ⟨_, rfl⟩
          rw [← ex13]
          replace q := q x13 ex13
          refine m_istore_n (lv' := [.ref 11, .int l1, .int x13, .int x12, .int l4, .int l5, .int x10, .retAddr 0]) dX11_isCycle_124 (Nat.le_of_ble_eq_true rfl) rfl rfl ?_
          refine m_iload dX11_isCycle_125 rfl ?_
          refine m_istore (lv' := [.ref 11, .int l1, .int x13, .int x12, .int x10, .int l5, .int x10, .retAddr 0]) dX11_isCycle_127 (Nat.le_of_ble_eq_true rfl) rfl rfl ?_
          refine m_iinc (v := (l5 + 1)) (lv' := [.ref 11, .int l1, .int x13, .int x12, .int x10, .int (l5 + 1), .int x10, .retAddr 0]) dX11_isCycle_129 (Nat.le_of_ble_eq_true rfl) rfl (congrArg (fun z => l5 + z) (by decide : Int32.ofInt 1 = 1)) rfl rfl ?_
          refine m_goto 38 dX11_isCycle_132 (by decide) ?_
          refine m_dropK (lv' := [.ref 11, .int l1, .int x13, .int x12, .int x10, .int (l5 + 1), .retAddr 0, .retAddr 0]) [6] rfl ?_
          exact q
        · replace q := q.2 c11
          refine m_iconst (v := 0) dX11_isCycle_111 (by decide) ?_
          exact m_zret dX11_isCycle_112 rfl (by decide) q
      · replace q := q.2 c7
        refine m_iconst (v := 0) dX11_isCycle_76 (by decide) ?_
        exact m_zret dX11_isCycle_77 rfl (by decide) q
    · replace q := q.2 c5
      refine m_goto 129 dX11_isCycle_58 (by decide) ?_
      refine m_iinc (v := (l5 + 1)) (lv' := [.ref 11, .int l1, .int l2, .int l3, .int l4, .int (l5 + 1), .retAddr 0, .retAddr 0]) dX11_isCycle_129 (Nat.le_of_ble_eq_true rfl) rfl (congrArg (fun z => l5 + z) (by decide : Int32.ofInt 1 = 1)) rfl rfl ?_
      refine m_goto 38 dX11_isCycle_132 (by decide) ?_
      exact q
set_option maxRecDepth 100000 in
theorem r_X11_isCycle_145 {g : gT} {h : mh_T} {P : Int32 → mh_T → Prop} (l1 : Int32) (l2 : Int32) (l3 : Int32) (l4 : Int32) (l5 : Int32) (q : (l4 = l5 → (¬ l4 = l2 → P 0 h) ∧ (l4 = l2 → P 1 h)) ∧ (¬ l4 = l5 → ME g uX11_isCycle 159 [.ref 11, .int l1, .int l2, .int l3, .int l4, .int l4, .int 0, .retAddr 0] [] h (qI P))) : ME g uX11_isCycle 145 [.ref 11, .int l1, .int l2, .int l3, .int l4, .int l5, .retAddr 0, .retAddr 0] [] h (qI P) := by
  refine m_iload dX11_isCycle_145 rfl ?_
  refine m_iload dX11_isCycle_147 rfl ?_
  refine m_icmp_eq 237 dX11_isCycle_149 (by decide) (fun c1 => ?_) (fun c1 => ?_)
  · replace q := q.1 c1
    refine m_iload dX11_isCycle_237 rfl ?_
    refine m_iload_n dX11_isCycle_239 rfl ?_
    refine m_icmp_ne 247 dX11_isCycle_240 (by decide) (fun c2 => ?_) (fun c2 => ?_)
    · replace q := q.1 c2
      refine m_iconst (v := 0) dX11_isCycle_247 (by decide) ?_
      exact m_zret dX11_isCycle_248 rfl (by decide) q
    · replace q := q.2 c2
      refine m_iconst (v := 1) dX11_isCycle_243 (by decide) ?_
      refine m_goto 248 dX11_isCycle_244 (by decide) ?_
      exact m_zret dX11_isCycle_248 rfl (by decide) q
  · replace q := q.2 c1
    refine m_iload dX11_isCycle_152 rfl ?_
    refine m_istore (lv' := [.ref 11, .int l1, .int l2, .int l3, .int l4, .int l4, .retAddr 0, .retAddr 0]) dX11_isCycle_154 (Nat.le_of_ble_eq_true rfl) rfl rfl ?_
    refine m_iconst (v := 0) dX11_isCycle_156 (by decide) ?_
    refine m_istore (lv' := [.ref 11, .int l1, .int l2, .int l3, .int l4, .int l4, .int 0, .retAddr 0]) dX11_isCycle_157 (Nat.le_of_ble_eq_true rfl) rfl rfl ?_
    exact q
set_option maxRecDepth 100000 in
theorem r_X11_isCycle_159 {g : gT} {h : mh_T} {P : Int32 → mh_T → Prop} (l1 : Int32) (l2 : Int32) (l3 : Int32) (l4 : Int32) (l5 : Int32) (l6 : Int32) (q : ((mI h 45 (Int32.toNatClampNeg 0)) ≤ l6 → ME g uX11_isCycle 145 [.ref 11, .int l1, .int l2, .int l3, .int l4, .int l5, .retAddr 0, .retAddr 0] [] h (qI P)) ∧ (¬ (mI h 45 (Int32.toNatClampNeg 0)) ≤ l6 → MCi g yX11_has uX11_has [.int l1, .int l6] h (fun r3 h2 => (r3 = 0 → ((0 &&& l4) = 0 → ∀ x6 : Int32, x6 = (l4 ||| 0) → ME g uX11_isCycle 159 [.ref 11, .int l1, .int l2, .int l3, .int x6, .int l5, .int (l6 + 1), .retAddr 0] [] h2 (qI P)) ∧ (¬ (0 &&& l4) = 0 → ∀ x7 : Int32, x7 = (l4 ||| 0) → ME g uX11_isCycle 159 [.ref 11, .int l1, .int l2, .int l3, .int x7, .int l5, .int (l6 + 1), .retAddr 0] [] h2 (qI P))) ∧ (¬ r3 = 0 → (vp_in (1 + l6) 346) ∧ ((vp_in (9 + l6) 346) ∧ (∀ x10 : Int32, x10 = ((1 <<< ((mI h2 45 (1 + l6).toNatClampNeg) &&& 31)) ||| (1 <<< ((mI h2 45 (9 + l6).toNatClampNeg) &&& 31))) → ((x10 &&& l4) = 0 → ∀ x12 : Int32, x12 = (l4 ||| 0) → ME g uX11_isCycle 159 [.ref 11, .int l1, .int l2, .int l3, .int x12, .int l5, .int (l6 + 1), .retAddr 0] [] h2 (qI P)) ∧ (¬ (x10 &&& l4) = 0 → ∀ x13 : Int32, x13 = (l4 ||| x10) → ME g uX11_isCycle 159 [.ref 11, .int l1, .int l2, .int l3, .int x13, .int l5, .int (l6 + 1), .retAddr 0] [] h2 (qI P)))))))) : ME g uX11_isCycle 159 [.ref 11, .int l1, .int l2, .int l3, .int l4, .int l5, .int l6, .retAddr 0] [] h (qI P) := by
  refine m_iload dX11_isCycle_159 rfl ?_
  refine m_aload_n dX11_isCycle_161 rfl ?_
  refine gf_X11_20 rfl dX11_isCycle_162 ?_
  refine m_iconst (v := 0) dX11_isCycle_165 (by decide) ?_
  refine m_iaload dX11_isCycle_166 rfl (by decide) (by unfold vp_in; decide) ?_
  refine m_icmp_ge 234 dX11_isCycle_167 (by decide) (fun c1 => ?_) (fun c1 => ?_)
  · replace q := q.1 c1
    refine m_goto 145 dX11_isCycle_234 (by decide) ?_
    refine m_dropK (lv' := [.ref 11, .int l1, .int l2, .int l3, .int l4, .int l5, .retAddr 0, .retAddr 0]) [6] rfl ?_
    exact q
  · replace q := q.2 c1
    refine m_iload_n dX11_isCycle_170 rfl ?_
    refine m_iload dX11_isCycle_171 rfl ?_
    refine cl_X11_162 rfl (by decide) dX11_isCycle_173 (Nat.le_of_ble_eq_true rfl) (MCi_go q (fun r3 h2 q => ?_))
    refine m_if_eq 206 dX11_isCycle_176 (by decide) (fun c4 => ?_) (fun c4 => ?_)
    · replace q := q.1 c4
      refine m_iconst (v := 0) dX11_isCycle_206 (by decide) ?_
      refine m_istore (lv' := [.ref 11, .int l1, .int l2, .int l3, .int l4, .int l5, .int l6, .int 0]) dX11_isCycle_207 (Nat.le_of_ble_eq_true rfl) rfl rfl ?_
      refine m_iload dX11_isCycle_209 rfl ?_
      refine m_iload dX11_isCycle_211 rfl ?_
      refine m_iload dX11_isCycle_213 rfl ?_
      refine m_iand dX11_isCycle_215 ?_
      refine m_if_eq 224 dX11_isCycle_216 (by decide) (fun c5 => ?_) (fun c5 => ?_)
      · replace q := q.1 c5
        refine m_iconst (v := 0) dX11_isCycle_224 (by decide) ?_
        refine m_ior dX11_isCycle_225 ?_
        obtain ⟨x6, ex6⟩ : ∃ z, z = (l4 ||| 0) := ⟨_, rfl⟩
        rw [← ex6]
        replace q := q x6 ex6
        refine m_istore (lv' := [.ref 11, .int l1, .int l2, .int l3, .int x6, .int l5, .int l6, .int 0]) dX11_isCycle_226 (Nat.le_of_ble_eq_true rfl) rfl rfl ?_
        refine m_iinc (v := (l6 + 1)) (lv' := [.ref 11, .int l1, .int l2, .int l3, .int x6, .int l5, .int (l6 + 1), .int 0]) dX11_isCycle_228 (Nat.le_of_ble_eq_true rfl) rfl (congrArg (fun z => l6 + z) (by decide : Int32.ofInt 1 = 1)) rfl rfl ?_
        refine m_goto 159 dX11_isCycle_231 (by decide) ?_
        refine m_dropK (lv' := [.ref 11, .int l1, .int l2, .int l3, .int x6, .int l5, .int (l6 + 1), .retAddr 0]) [7] rfl ?_
        exact q
      · replace q := q.2 c5
        refine m_iload dX11_isCycle_219 rfl ?_
        refine m_goto 225 dX11_isCycle_221 (by decide) ?_
        refine m_ior dX11_isCycle_225 ?_
        obtain ⟨x7, ex7⟩ : ∃ z, z = (l4 ||| 0) := ⟨_, rfl⟩
        rw [← ex7]
        replace q := q x7 ex7
        refine m_istore (lv' := [.ref 11, .int l1, .int l2, .int l3, .int x7, .int l5, .int l6, .int 0]) dX11_isCycle_226 (Nat.le_of_ble_eq_true rfl) rfl rfl ?_
        refine m_iinc (v := (l6 + 1)) (lv' := [.ref 11, .int l1, .int l2, .int l3, .int x7, .int l5, .int (l6 + 1), .int 0]) dX11_isCycle_228 (Nat.le_of_ble_eq_true rfl) rfl (congrArg (fun z => l6 + z) (by decide : Int32.ofInt 1 = 1)) rfl rfl ?_
        refine m_goto 159 dX11_isCycle_231 (by decide) ?_
        refine m_dropK (lv' := [.ref 11, .int l1, .int l2, .int l3, .int x7, .int l5, .int (l6 + 1), .retAddr 0]) [7] rfl ?_
        exact q
    · replace q := q.2 c4
      refine m_iconst (v := 1) dX11_isCycle_179 (by decide) ?_
      refine m_aload_n dX11_isCycle_180 rfl ?_
      refine gf_X11_20 rfl dX11_isCycle_181 ?_
      refine m_iconst (v := 1) dX11_isCycle_184 (by decide) ?_
      refine m_iload dX11_isCycle_185 rfl ?_
      refine m_iadd dX11_isCycle_187 ?_
      obtain ⟨b8, q⟩ := q
      refine m_iaload dX11_isCycle_188 rfl (by decide) b8 ?_
      refine m_ishl dX11_isCycle_189 ?_
      refine m_iconst (v := 1) dX11_isCycle_190 (by decide) ?_
      refine m_aload_n dX11_isCycle_191 rfl ?_
      refine gf_X11_20 rfl dX11_isCycle_192 ?_
      refine m_bipush (v := 9) dX11_isCycle_195 (by decide) ?_
      refine m_iload dX11_isCycle_197 rfl ?_
      refine m_iadd dX11_isCycle_199 ?_
      obtain ⟨b9, q⟩ := q
      refine m_iaload dX11_isCycle_200 rfl (by decide) b9 ?_
      refine m_ishl dX11_isCycle_201 ?_
      refine m_ior dX11_isCycle_202 ?_
      refine m_goto 207 dX11_isCycle_203 (by decide) ?_
      obtain ⟨x10, ex10⟩ : ∃ z, z = ((1 <<< ((mI h2 45 (1 + l6).toNatClampNeg) &&& 31)) ||| (1 <<< ((mI h2 45 (9 + l6).toNatClampNeg) &&& 31))) := ⟨_, rfl⟩
      rw [← ex10]
      replace q := q x10 ex10
      refine m_istore (lv' := [.ref 11, .int l1, .int l2, .int l3, .int l4, .int l5, .int l6, .int x10]) dX11_isCycle_207 (Nat.le_of_ble_eq_true rfl) rfl rfl ?_
      refine m_iload dX11_isCycle_209 rfl ?_
      refine m_iload dX11_isCycle_211 rfl ?_
      refine m_iload dX11_isCycle_213 rfl ?_
      refine m_iand dX11_isCycle_215 ?_
      refine m_if_eq 224 dX11_isCycle_216 (by decide) (fun c11 => ?_) (fun c11 => ?_)
      · replace q := q.1 c11
        refine m_iconst (v := 0) dX11_isCycle_224 (by decide) ?_
        refine m_ior dX11_isCycle_225 ?_
        obtain ⟨x12, ex12⟩ : ∃ z, z = (l4 ||| 0) := ⟨_, rfl⟩
        rw [← ex12]
        replace q := q x12 ex12
        refine m_istore (lv' := [.ref 11, .int l1, .int l2, .int l3, .int x12, .int l5, .int l6, .int x10]) dX11_isCycle_226 (Nat.le_of_ble_eq_true rfl) rfl rfl ?_
        refine m_iinc (v := (l6 + 1)) (lv' := [.ref 11, .int l1, .int l2, .int l3, .int x12, .int l5, .int (l6 + 1), .int x10]) dX11_isCycle_228 (Nat.le_of_ble_eq_true rfl) rfl (congrArg (fun z => l6 + z) (by decide : Int32.ofInt 1 = 1)) rfl rfl ?_
        refine m_goto 159 dX11_isCycle_231 (by decide) ?_
        refine m_dropK (lv' := [.ref 11, .int l1, .int l2, .int l3, .int x12, .int l5, .int (l6 + 1), .retAddr 0]) [7] rfl ?_
        exact q
      · replace q := q.2 c11
        refine m_iload dX11_isCycle_219 rfl ?_
        refine m_goto 225 dX11_isCycle_221 (by decide) ?_
        refine m_ior dX11_isCycle_225 ?_
        obtain ⟨x13, ex13⟩ : ∃ z, z = (l4 ||| x10) := ⟨_, rfl⟩
        rw [← ex13]
        replace q := q x13 ex13
        refine m_istore (lv' := [.ref 11, .int l1, .int l2, .int l3, .int x13, .int l5, .int l6, .int x10]) dX11_isCycle_226 (Nat.le_of_ble_eq_true rfl) rfl rfl ?_
        refine m_iinc (v := (l6 + 1)) (lv' := [.ref 11, .int l1, .int l2, .int l3, .int x13, .int l5, .int (l6 + 1), .int x10]) dX11_isCycle_228 (Nat.le_of_ble_eq_true rfl) rfl (congrArg (fun z => l6 + z) (by decide : Int32.ofInt 1 = 1)) rfl rfl ?_
        refine m_goto 159 dX11_isCycle_231 (by decide) ?_
        refine m_dropK (lv' := [.ref 11, .int l1, .int l2, .int l3, .int x13, .int l5, .int (l6 + 1), .retAddr 0]) [7] rfl ?_
        exact q
set_option maxRecDepth 100000 in
theorem e_X11_cycleOf {g : gT} {h : mh_T} {P : Int32 → mh_T → Prop} (l1 : Int32) (q : ME g uX11_cycleOf 4 [.ref 11, .int l1, .int 0, .int 0] [] h (qI P)) : MCi g yX11_cycleOf uX11_cycleOf [.ref 11, .int l1] h P := by
  refine m_enter (by decide) rfl (Nat.le_of_ble_eq_true rfl) (lv := [.ref 11, .int l1, .retAddr 0, .retAddr 0]) rfl ?_
  refine m_iconst (v := 0) dX11_cycleOf_0 (by decide) ?_
  refine m_istore_n (lv' := [.ref 11, .int l1, .int 0, .retAddr 0]) dX11_cycleOf_1 (Nat.le_of_ble_eq_true rfl) rfl rfl ?_
  refine m_iconst (v := 0) dX11_cycleOf_2 (by decide) ?_
  refine m_istore_n (lv' := [.ref 11, .int l1, .int 0, .int 0]) dX11_cycleOf_3 (Nat.le_of_ble_eq_true rfl) rfl rfl ?_
  exact q
set_option maxRecDepth 100000 in
theorem r_X11_cycleOf_4 {g : gT} {h : mh_T} {P : Int32 → mh_T → Prop} (l1 : Int32) (l2 : Int32) (l3 : Int32) (q : ((1 <<< ((mI h 45 (Int32.toNatClampNeg 0)) &&& 31)) ≤ l3 → P (l2 - 1000) h) ∧ (¬ (1 <<< ((mI h 45 (Int32.toNatClampNeg 0)) &&& 31)) ≤ l3 → MCi g yX11_isCycle uX11_isCycle [.ref 11, .int l3] h (fun r3 h2 => (¬ r3 = 0 → (¬ l2 = l1 → ME g uX11_cycleOf 4 [.ref 11, .int l1, .int (l2 + 1), .int (l3 + 1)] [] h2 (qI P)) ∧ (l2 = l1 → P l3 h2)) ∧ (r3 = 0 → ME g uX11_cycleOf 4 [.ref 11, .int l1, .int l2, .int (l3 + 1)] [] h2 (qI P))))) : ME g uX11_cycleOf 4 [.ref 11, .int l1, .int l2, .int l3] [] h (qI P) := by
  refine m_iload_n dX11_cycleOf_4 rfl ?_
  refine m_iconst (v := 1) dX11_cycleOf_5 (by decide) ?_
  refine m_aload_n dX11_cycleOf_6 rfl ?_
  refine gf_X11_20 rfl dX11_cycleOf_7 ?_
  refine m_iconst (v := 0) dX11_cycleOf_10 (by decide) ?_
  refine m_iaload dX11_cycleOf_11 rfl (by decide) (by unfold vp_in; decide) ?_
  refine m_ishl dX11_cycleOf_12 ?_
  refine m_icmp_ge 43 dX11_cycleOf_13 (by decide) (fun c1 => ?_) (fun c1 => ?_)
  · replace q := q.1 c1
    refine m_iload_n dX11_cycleOf_43 rfl ?_
    refine m_sipush (v := 1000) dX11_cycleOf_44 (by decide) ?_
    refine m_isub dX11_cycleOf_47 ?_
    exact m_iret dX11_cycleOf_48 rfl q
  · replace q := q.2 c1
    refine m_aload_n dX11_cycleOf_16 rfl ?_
    refine m_iload_n dX11_cycleOf_17 rfl ?_
    refine cl_X11_326 rfl (by decide) dX11_cycleOf_18 (Nat.le_of_ble_eq_true rfl) (MCi_go q (fun r3 h2 q => ?_))
    refine m_if_ne 27 dX11_cycleOf_21 (by decide) (fun c4 => ?_) (fun c4 => ?_)
    · replace q := q.1 c4
      refine m_iload_n dX11_cycleOf_27 rfl ?_
      refine m_iload_n dX11_cycleOf_28 rfl ?_
      refine m_icmp_ne 34 dX11_cycleOf_29 (by decide) (fun c5 => ?_) (fun c5 => ?_)
      · replace q := q.1 c5
        refine m_iinc (v := (l2 + 1)) (lv' := [.ref 11, .int l1, .int (l2 + 1), .int l3]) dX11_cycleOf_34 (Nat.le_of_ble_eq_true rfl) rfl (congrArg (fun z => l2 + z) (by decide : Int32.ofInt 1 = 1)) rfl rfl ?_
        refine m_iinc (v := (l3 + 1)) (lv' := [.ref 11, .int l1, .int (l2 + 1), .int (l3 + 1)]) dX11_cycleOf_37 (Nat.le_of_ble_eq_true rfl) rfl (congrArg (fun z => l3 + z) (by decide : Int32.ofInt 1 = 1)) rfl rfl ?_
        refine m_goto 4 dX11_cycleOf_40 (by decide) ?_
        exact q
      · replace q := q.2 c5
        refine m_iload_n dX11_cycleOf_32 rfl ?_
        exact m_iret dX11_cycleOf_33 rfl q
    · replace q := q.2 c4
      refine m_goto 37 dX11_cycleOf_24 (by decide) ?_
      refine m_iinc (v := (l3 + 1)) (lv' := [.ref 11, .int l1, .int l2, .int (l3 + 1)]) dX11_cycleOf_37 (Nat.le_of_ble_eq_true rfl) rfl (congrArg (fun z => l3 + z) (by decide : Int32.ofInt 1 = 1)) rfl rfl ?_
      refine m_goto 4 dX11_cycleOf_40 (by decide) ?_
      exact q
set_option maxRecDepth 100000 in
theorem e_X11_cycles {g : gT} {h : mh_T} {P : Int32 → mh_T → Prop}  (q : MCv g yX11_good uX11_good [.ref 11] h (fun h1 => ((mI h1 11 14) = 0 → MCi g yX11_no uX11_no [.ref 11, .int 1] h1 (fun r4 h3 => P r4 h3)) ∧ (¬ (mI h1 11 14) = 0 → MCi g yX11_cycleOf uX11_cycleOf [.ref 11, .int (-1)] h1 (fun r6 h5 => P (r6 + 1000) h5)))) : MCi g yX11_cycles uX11_cycles [.ref 11] h P := by
  refine m_enter (by decide) rfl (Nat.le_of_ble_eq_true rfl) (lv := [.ref 11]) rfl ?_
  refine m_aload_n dX11_cycles_0 rfl ?_
  refine cl_X11_174 rfl (by decide) dX11_cycles_1 (Nat.le_of_ble_eq_true rfl) (MCv_go q (fun h1 q => ?_))
  refine m_aload_n dX11_cycles_4 rfl ?_
  refine gf_X11_183 rfl dX11_cycles_5 ?_
  refine m_if_eq 23 dX11_cycles_8 (by decide) (fun c2 => ?_) (fun c2 => ?_)
  · replace q := q.1 c2
    refine m_aload_n dX11_cycles_23 rfl ?_
    refine m_iconst (v := 1) dX11_cycles_24 (by decide) ?_
    refine cl_X11_177 rfl (by decide) dX11_cycles_25 (Nat.le_of_ble_eq_true rfl) (MCi_go q (fun r4 h3 q => ?_))
    exact m_iret dX11_cycles_28 rfl q
  · replace q := q.2 c2
    refine m_aload_n dX11_cycles_11 rfl ?_
    refine m_iconst (v := (-1)) dX11_cycles_12 (by decide) ?_
    refine cl_X11_329 rfl (by decide) dX11_cycles_13 (Nat.le_of_ble_eq_true rfl) (MCi_go q (fun r6 h5 q => ?_))
    refine m_sipush (v := 1000) dX11_cycles_16 (by decide) ?_
    refine m_iadd dX11_cycles_19 ?_
    refine m_goto 28 dX11_cycles_20 (by decide) ?_
    exact m_iret dX11_cycles_28 rfl q
set_option maxRecDepth 100000 in
theorem e_X11_cycle {g : gT} {h : mh_T} {P : Int32 → mh_T → Prop} (l1 : Int32) (q : MCv g yX11_good uX11_good [.ref 11] h (fun h1 => ((mI h1 11 14) = 0 → MCi g yX11_no uX11_no [.ref 11, .int 1] h1 (fun r4 h3 => P r4 h3)) ∧ (¬ (mI h1 11 14) = 0 → (0 ≤ l1 → MCi g yX11_cycleOf uX11_cycleOf [.ref 11, .int l1] h1 (fun r7 h6 => (0 ≤ r7 → P r7 h6) ∧ (¬ 0 ≤ r7 → MCi g yX11_no uX11_no [.ref 11, .int 1] h6 (fun r10 h9 => P r10 h9)))) ∧ (¬ 0 ≤ l1 → MCi g yX11_no uX11_no [.ref 11, .int 1] h1 (fun r12 h11 => P r12 h11))))) : MCi g yX11_cycle uX11_cycle [.ref 11, .int l1] h P := by
  refine m_enter (by decide) rfl (Nat.le_of_ble_eq_true rfl) (lv := [.ref 11, .int l1, .retAddr 0]) rfl ?_
  refine m_aload_n dX11_cycle_0 rfl ?_
  refine cl_X11_174 rfl (by decide) dX11_cycle_1 (Nat.le_of_ble_eq_true rfl) (MCv_go q (fun h1 q => ?_))
  refine m_aload_n dX11_cycle_4 rfl ?_
  refine gf_X11_183 rfl dX11_cycle_5 ?_
  refine m_if_eq 15 dX11_cycle_8 (by decide) (fun c2 => ?_) (fun c2 => ?_)
  · replace q := q.1 c2
    refine m_aload_n dX11_cycle_15 rfl ?_
    refine m_iconst (v := 1) dX11_cycle_16 (by decide) ?_
    refine cl_X11_177 rfl (by decide) dX11_cycle_17 (Nat.le_of_ble_eq_true rfl) (MCi_go q (fun r4 h3 q => ?_))
    exact m_iret dX11_cycle_20 rfl q
  · replace q := q.2 c2
    refine m_iload_n dX11_cycle_11 rfl ?_
    refine m_if_ge 21 dX11_cycle_12 (by decide) (fun c5 => ?_) (fun c5 => ?_)
    · replace q := q.1 c5
      refine m_aload_n dX11_cycle_21 rfl ?_
      refine m_iload_n dX11_cycle_22 rfl ?_
      refine cl_X11_329 rfl (by decide) dX11_cycle_23 (Nat.le_of_ble_eq_true rfl) (MCi_go q (fun r7 h6 q => ?_))
      refine m_istore_n (lv' := [.ref 11, .int l1, .int r7]) dX11_cycle_26 (Nat.le_of_ble_eq_true rfl) rfl rfl ?_
      refine m_iload_n dX11_cycle_27 rfl ?_
      refine m_if_ge 39 dX11_cycle_28 (by decide) (fun c8 => ?_) (fun c8 => ?_)
      · replace q := q.1 c8
        refine m_iload_n dX11_cycle_39 rfl ?_
        exact m_iret dX11_cycle_40 rfl q
      · replace q := q.2 c8
        refine m_aload_n dX11_cycle_31 rfl ?_
        refine m_iconst (v := 1) dX11_cycle_32 (by decide) ?_
        refine cl_X11_177 rfl (by decide) dX11_cycle_33 (Nat.le_of_ble_eq_true rfl) (MCi_go q (fun r10 h9 q => ?_))
        refine m_goto 40 dX11_cycle_36 (by decide) ?_
        exact m_iret dX11_cycle_40 rfl q
    · replace q := q.2 c5
      refine m_aload_n dX11_cycle_15 rfl ?_
      refine m_iconst (v := 1) dX11_cycle_16 (by decide) ?_
      refine cl_X11_177 rfl (by decide) dX11_cycle_17 (Nat.le_of_ble_eq_true rfl) (MCi_go q (fun r12 h11 q => ?_))
      exact m_iret dX11_cycle_20 rfl q
set_option maxRecDepth 100000 in
theorem e_X11_excessOf {g : gT} {h : mh_T} {P : Int32 → mh_T → Prop} (l1 : Int32) (q : ME g uX11_excessOf 6 [.ref 11, .int l1, .int (-100000), .int 0, .retAddr 0, .retAddr 0] [] h (qI P)) : MCi g yX11_excessOf uX11_excessOf [.ref 11, .int l1] h P := by
  refine m_enter (by decide) rfl (Nat.le_of_ble_eq_true rfl) (lv := [.ref 11, .int l1, .retAddr 0, .retAddr 0, .retAddr 0, .retAddr 0]) rfl ?_
  refine m_ldcw (v := (-100000)) dX11_excessOf_0 tw_906 ?_
  refine m_istore_n (lv' := [.ref 11, .int l1, .int (-100000), .retAddr 0, .retAddr 0, .retAddr 0]) dX11_excessOf_3 (Nat.le_of_ble_eq_true rfl) rfl rfl ?_
  refine m_iconst (v := 0) dX11_excessOf_4 (by decide) ?_
  refine m_istore_n (lv' := [.ref 11, .int l1, .int (-100000), .int 0, .retAddr 0, .retAddr 0]) dX11_excessOf_5 (Nat.le_of_ble_eq_true rfl) rfl rfl ?_
  exact q
set_option maxRecDepth 100000 in
theorem r_X11_excessOf_6 {g : gT} {h : mh_T} {P : Int32 → mh_T → Prop} (l1 : Int32) (l2 : Int32) (l3 : Int32) (q : ((1 <<< ((mI h 45 (Int32.toNatClampNeg 0)) &&& 31)) ≤ l3 → MCi g yX11_bits uX11_bits [.int l1] h (fun r3 h2 => P (l2 - ((mI h 45 (Int32.toNatClampNeg 49)) * (r3 - 2))) h2)) ∧ (¬ (1 <<< ((mI h 45 (Int32.toNatClampNeg 0)) &&& 31)) ≤ l3 → (¬ (l3 &&& (l1 ^^^ (-1))) = 0 → ME g uX11_excessOf 6 [.ref 11, .int l1, .int l2, .int (l3 + 1), .retAddr 0, .retAddr 0] [] h (qI P)) ∧ ((l3 &&& (l1 ^^^ (-1))) = 0 → MCi g yX11_bits uX11_bits [.int l3] h (fun r6 h5 => (¬ (r6 - r6 / 2 * 2) = 0 → ME g uX11_excessOf 44 [.ref 11, .int l1, .int l2, .int l3, .int 0, .int 0] [] h5 (qI P)) ∧ ((r6 - r6 / 2 * 2) = 0 → ME g uX11_excessOf 6 [.ref 11, .int l1, .int l2, .int (l3 + 1), .retAddr 0, .retAddr 0] [] h5 (qI P)))))) : ME g uX11_excessOf 6 [.ref 11, .int l1, .int l2, .int l3, .retAddr 0, .retAddr 0] [] h (qI P) := by
  refine m_iload_n dX11_excessOf_6 rfl ?_
  refine m_iconst (v := 1) dX11_excessOf_7 (by decide) ?_
  refine m_aload_n dX11_excessOf_8 rfl ?_
  refine gf_X11_20 rfl dX11_excessOf_9 ?_
  refine m_iconst (v := 0) dX11_excessOf_12 (by decide) ?_
  refine m_iaload dX11_excessOf_13 rfl (by decide) (by unfold vp_in; decide) ?_
  refine m_ishl dX11_excessOf_14 ?_
  refine m_icmp_ge 123 dX11_excessOf_15 (by decide) (fun c1 => ?_) (fun c1 => ?_)
  · replace q := q.1 c1
    refine m_iload_n dX11_excessOf_123 rfl ?_
    refine m_aload_n dX11_excessOf_124 rfl ?_
    refine gf_X11_20 rfl dX11_excessOf_125 ?_
    refine m_bipush (v := 49) dX11_excessOf_128 (by decide) ?_
    refine m_iaload dX11_excessOf_130 rfl (by decide) (by unfold vp_in; decide) ?_
    refine m_iload_n dX11_excessOf_131 rfl ?_
    refine cl_X11_323 rfl (by decide) dX11_excessOf_132 (Nat.le_of_ble_eq_true rfl) (MCi_go q (fun r3 h2 q => ?_))
    refine m_iconst (v := 2) dX11_excessOf_135 (by decide) ?_
    refine m_isub dX11_excessOf_136 ?_
    refine m_imul dX11_excessOf_137 ?_
    refine m_isub dX11_excessOf_138 ?_
    exact m_iret dX11_excessOf_139 rfl q
  · replace q := q.2 c1
    refine m_iload_n dX11_excessOf_18 rfl ?_
    refine m_iload_n dX11_excessOf_19 rfl ?_
    refine m_iconst (v := (-1)) dX11_excessOf_20 (by decide) ?_
    refine m_ixor dX11_excessOf_21 ?_
    refine m_iand dX11_excessOf_22 ?_
    refine m_if_ne 117 dX11_excessOf_23 (by decide) (fun c4 => ?_) (fun c4 => ?_)
    · replace q := q.1 c4
      refine m_iinc (v := (l3 + 1)) (lv' := [.ref 11, .int l1, .int l2, .int (l3 + 1), .retAddr 0, .retAddr 0]) dX11_excessOf_117 (Nat.le_of_ble_eq_true rfl) rfl (congrArg (fun z => l3 + z) (by decide : Int32.ofInt 1 = 1)) rfl rfl ?_
      refine m_goto 6 dX11_excessOf_120 (by decide) ?_
      exact q
    · replace q := q.2 c4
      refine m_iload_n dX11_excessOf_26 rfl ?_
      refine cl_X11_323 rfl (by decide) dX11_excessOf_27 (Nat.le_of_ble_eq_true rfl) (MCi_go q (fun r6 h5 q => ?_))
      refine m_iconst (v := 2) dX11_excessOf_30 (by decide) ?_
      refine m_irem dX11_excessOf_31 (by decide) ?_
      refine m_if_ne 38 dX11_excessOf_32 (by decide) (fun c7 => ?_) (fun c7 => ?_)
      · replace q := q.1 c7
        refine m_iconst (v := 0) dX11_excessOf_38 (by decide) ?_
        refine m_istore (lv' := [.ref 11, .int l1, .int l2, .int l3, .int 0, .retAddr 0]) dX11_excessOf_39 (Nat.le_of_ble_eq_true rfl) rfl rfl ?_
        refine m_iconst (v := 0) dX11_excessOf_41 (by decide) ?_
        refine m_istore (lv' := [.ref 11, .int l1, .int l2, .int l3, .int 0, .int 0]) dX11_excessOf_42 (Nat.le_of_ble_eq_true rfl) rfl rfl ?_
        exact q
      · replace q := q.2 c7
        refine m_goto 117 dX11_excessOf_35 (by decide) ?_
        refine m_iinc (v := (l3 + 1)) (lv' := [.ref 11, .int l1, .int l2, .int (l3 + 1), .retAddr 0, .retAddr 0]) dX11_excessOf_117 (Nat.le_of_ble_eq_true rfl) rfl (congrArg (fun z => l3 + z) (by decide : Int32.ofInt 1 = 1)) rfl rfl ?_
        refine m_goto 6 dX11_excessOf_120 (by decide) ?_
        exact q
set_option maxRecDepth 100000 in
theorem r_X11_excessOf_44 {g : gT} {h : mh_T} {P : Int32 → mh_T → Prop} (l1 : Int32) (l2 : Int32) (l3 : Int32) (l4 : Int32) (l5 : Int32) (q : ((mI h 45 (Int32.toNatClampNeg 0)) ≤ l5 → (l4 ≤ l2 → ME g uX11_excessOf 6 [.ref 11, .int l1, .int l2, .int (l3 + 1), .retAddr 0, .retAddr 0] [] h (qI P)) ∧ (¬ l4 ≤ l2 → ME g uX11_excessOf 6 [.ref 11, .int l1, .int l4, .int (l3 + 1), .retAddr 0, .retAddr 0] [] h (qI P))) ∧ (¬ (mI h 45 (Int32.toNatClampNeg 0)) ≤ l5 → MCi g yX11_has uX11_has [.int l1, .int l5] h (fun r4 h3 => (r4 = 0 → ∀ x6 : Int32, x6 = (l4 + 0) → ME g uX11_excessOf 44 [.ref 11, .int l1, .int l2, .int l3, .int x6, .int (l5 + 1)] [] h3 (qI P)) ∧ (¬ r4 = 0 → MCi g yX11_has uX11_has [.int l3, .int l5] h3 (fun r8 h7 => (r8 = 0 → MCi g yX11_sameOf uX11_sameOf [.ref 11, .int l5] h7 (fun r11 h10 => ∀ x12 : Int32, x12 = (l4 + r11) → ME g uX11_excessOf 44 [.ref 11, .int l1, .int l2, .int l3, .int x12, .int (l5 + 1)] [] h10 (qI P))) ∧ (¬ r8 = 0 → MCi g yX11_sameOf uX11_sameOf [.ref 11, .int l5] h7 (fun r14 h13 => ∀ x15 : Int32, x15 = (l4 + (-r14)) → ME g uX11_excessOf 44 [.ref 11, .int l1, .int l2, .int l3, .int x15, .int (l5 + 1)] [] h13 (qI P)))))))) : ME g uX11_excessOf 44 [.ref 11, .int l1, .int l2, .int l3, .int l4, .int l5] [] h (qI P) := by
  refine m_iload dX11_excessOf_44 rfl ?_
  refine m_aload_n dX11_excessOf_46 rfl ?_
  refine gf_X11_20 rfl dX11_excessOf_47 ?_
  refine m_iconst (v := 0) dX11_excessOf_50 (by decide) ?_
  refine m_iaload dX11_excessOf_51 rfl (by decide) (by unfold vp_in; decide) ?_
  refine m_icmp_ge 104 dX11_excessOf_52 (by decide) (fun c1 => ?_) (fun c1 => ?_)
  · replace q := q.1 c1
    refine m_iload dX11_excessOf_104 rfl ?_
    refine m_iload_n dX11_excessOf_106 rfl ?_
    refine m_icmp_le 115 dX11_excessOf_107 (by decide) (fun c2 => ?_) (fun c2 => ?_)
    · replace q := q.1 c2
      refine m_iload_n dX11_excessOf_115 rfl ?_
      refine m_istore_n (lv' := [.ref 11, .int l1, .int l2, .int l3, .int l4, .int l5]) dX11_excessOf_116 (Nat.le_of_ble_eq_true rfl) rfl rfl ?_
      refine m_iinc (v := (l3 + 1)) (lv' := [.ref 11, .int l1, .int l2, .int (l3 + 1), .int l4, .int l5]) dX11_excessOf_117 (Nat.le_of_ble_eq_true rfl) rfl (congrArg (fun z => l3 + z) (by decide : Int32.ofInt 1 = 1)) rfl rfl ?_
      refine m_goto 6 dX11_excessOf_120 (by decide) ?_
      refine m_dropK (lv' := [.ref 11, .int l1, .int l2, .int (l3 + 1), .retAddr 0, .retAddr 0]) [4, 5] rfl ?_
      exact q
    · replace q := q.2 c2
      refine m_iload dX11_excessOf_110 rfl ?_
      refine m_goto 116 dX11_excessOf_112 (by decide) ?_
      refine m_istore_n (lv' := [.ref 11, .int l1, .int l4, .int l3, .int l4, .int l5]) dX11_excessOf_116 (Nat.le_of_ble_eq_true rfl) rfl rfl ?_
      refine m_iinc (v := (l3 + 1)) (lv' := [.ref 11, .int l1, .int l4, .int (l3 + 1), .int l4, .int l5]) dX11_excessOf_117 (Nat.le_of_ble_eq_true rfl) rfl (congrArg (fun z => l3 + z) (by decide : Int32.ofInt 1 = 1)) rfl rfl ?_
      refine m_goto 6 dX11_excessOf_120 (by decide) ?_
      refine m_dropK (lv' := [.ref 11, .int l1, .int l4, .int (l3 + 1), .retAddr 0, .retAddr 0]) [4, 5] rfl ?_
      exact q
  · replace q := q.2 c1
    refine m_iload dX11_excessOf_55 rfl ?_
    refine m_iload_n dX11_excessOf_57 rfl ?_
    refine m_iload dX11_excessOf_58 rfl ?_
    refine cl_X11_162 rfl (by decide) dX11_excessOf_60 (Nat.le_of_ble_eq_true rfl) (MCi_go q (fun r4 h3 q => ?_))
    refine m_if_eq 94 dX11_excessOf_63 (by decide) (fun c5 => ?_) (fun c5 => ?_)
    · replace q := q.1 c5
      refine m_iconst (v := 0) dX11_excessOf_94 (by decide) ?_
      refine m_iadd dX11_excessOf_95 ?_
      obtain ⟨x6, ex6⟩ : ∃ z, z = (l4 + 0) := ⟨_, rfl⟩
      rw [← ex6]
      replace q := q x6 ex6
      refine m_istore (lv' := [.ref 11, .int l1, .int l2, .int l3, .int x6, .int l5]) dX11_excessOf_96 (Nat.le_of_ble_eq_true rfl) rfl rfl ?_
      refine m_iinc (v := (l5 + 1)) (lv' := [.ref 11, .int l1, .int l2, .int l3, .int x6, .int (l5 + 1)]) dX11_excessOf_98 (Nat.le_of_ble_eq_true rfl) rfl (congrArg (fun z => l5 + z) (by decide : Int32.ofInt 1 = 1)) rfl rfl ?_
      refine m_goto 44 dX11_excessOf_101 (by decide) ?_
      exact q
    · replace q := q.2 c5
      refine m_iload_n dX11_excessOf_66 rfl ?_
      refine m_iload dX11_excessOf_67 rfl ?_
      refine cl_X11_162 rfl (by decide) dX11_excessOf_69 (Nat.le_of_ble_eq_true rfl) (MCi_go q (fun r8 h7 q => ?_))
      refine m_if_eq 85 dX11_excessOf_72 (by decide) (fun c9 => ?_) (fun c9 => ?_)
      · replace q := q.1 c9
        refine m_aload_n dX11_excessOf_85 rfl ?_
        refine m_iload dX11_excessOf_86 rfl ?_
        refine cl_X11_317 rfl (by decide) dX11_excessOf_88 (Nat.le_of_ble_eq_true rfl) (MCi_go q (fun r11 h10 q => ?_))
        refine m_goto 95 dX11_excessOf_91 (by decide) ?_
        refine m_iadd dX11_excessOf_95 ?_
        obtain ⟨x12, ex12⟩ : ∃ z, z = (l4 + r11) := ⟨_, rfl⟩
        rw [← ex12]
        replace q := q x12 ex12
        refine m_istore (lv' := [.ref 11, .int l1, .int l2, .int l3, .int x12, .int l5]) dX11_excessOf_96 (Nat.le_of_ble_eq_true rfl) rfl rfl ?_
        refine m_iinc (v := (l5 + 1)) (lv' := [.ref 11, .int l1, .int l2, .int l3, .int x12, .int (l5 + 1)]) dX11_excessOf_98 (Nat.le_of_ble_eq_true rfl) rfl (congrArg (fun z => l5 + z) (by decide : Int32.ofInt 1 = 1)) rfl rfl ?_
        refine m_goto 44 dX11_excessOf_101 (by decide) ?_
        exact q
      · replace q := q.2 c9
        refine m_aload_n dX11_excessOf_75 rfl ?_
        refine m_iload dX11_excessOf_76 rfl ?_
        refine cl_X11_317 rfl (by decide) dX11_excessOf_78 (Nat.le_of_ble_eq_true rfl) (MCi_go q (fun r14 h13 q => ?_))
        refine m_ineg dX11_excessOf_81 ?_
        refine m_goto 95 dX11_excessOf_82 (by decide) ?_
        refine m_iadd dX11_excessOf_95 ?_
        obtain ⟨x15, ex15⟩ : ∃ z, z = (l4 + (-r14)) := ⟨_, rfl⟩
        rw [← ex15]
        replace q := q x15 ex15
        refine m_istore (lv' := [.ref 11, .int l1, .int l2, .int l3, .int x15, .int l5]) dX11_excessOf_96 (Nat.le_of_ble_eq_true rfl) rfl rfl ?_
        refine m_iinc (v := (l5 + 1)) (lv' := [.ref 11, .int l1, .int l2, .int l3, .int x15, .int (l5 + 1)]) dX11_excessOf_98 (Nat.le_of_ble_eq_true rfl) rfl (congrArg (fun z => l5 + z) (by decide : Int32.ofInt 1 = 1)) rfl rfl ?_
        refine m_goto 44 dX11_excessOf_101 (by decide) ?_
        exact q
set_option maxRecDepth 100000 in
theorem e_X11_excess {g : gT} {h : mh_T} {P : Int32 → mh_T → Prop} (l1 : Int32) (q : MCv g yX11_good uX11_good [.ref 11] h (fun h1 => (¬ (mI h1 11 14) = 0 → MCi g yX11_isCycle uX11_isCycle [.ref 11, .int l1] h1 (fun r4 h3 => (r4 = 0 → MCi g yX11_less uX11_less [.ref 11, .int 5, .int (-1000)] h3 (fun r7 h6 => P r7 h6)) ∧ (¬ r4 = 0 → MCi g yX11_excessOf uX11_excessOf [.ref 11, .int l1] h3 (fun r9 h8 => P r9 h8)))) ∧ ((mI h1 11 14) = 0 → MCi g yX11_less uX11_less [.ref 11, .int 1, .int (-1000)] h1 (fun r11 h10 => P r11 h10)))) : MCi g yX11_excess uX11_excess [.ref 11, .int l1] h P := by
  refine m_enter (by decide) rfl (Nat.le_of_ble_eq_true rfl) (lv := [.ref 11, .int l1]) rfl ?_
  refine m_aload_n dX11_excess_0 rfl ?_
  refine cl_X11_174 rfl (by decide) dX11_excess_1 (Nat.le_of_ble_eq_true rfl) (MCv_go q (fun h1 q => ?_))
  refine m_aload_n dX11_excess_4 rfl ?_
  refine gf_X11_183 rfl dX11_excess_5 ?_
  refine m_if_ne 20 dX11_excess_8 (by decide) (fun c2 => ?_) (fun c2 => ?_)
  · replace q := q.1 c2
    refine m_aload_n dX11_excess_20 rfl ?_
    refine m_iload_n dX11_excess_21 rfl ?_
    refine cl_X11_326 rfl (by decide) dX11_excess_22 (Nat.le_of_ble_eq_true rfl) (MCi_go q (fun r4 h3 q => ?_))
    refine m_if_eq 36 dX11_excess_25 (by decide) (fun c5 => ?_) (fun c5 => ?_)
    · replace q := q.1 c5
      refine m_aload_n dX11_excess_36 rfl ?_
      refine m_iconst (v := 5) dX11_excess_37 (by decide) ?_
      refine m_sipush (v := (-1000)) dX11_excess_38 (by decide) ?_
      refine cl_X11_320 rfl (by decide) dX11_excess_41 (Nat.le_of_ble_eq_true rfl) (MCi_go q (fun r7 h6 q => ?_))
      exact m_iret dX11_excess_44 rfl q
    · replace q := q.2 c5
      refine m_aload_n dX11_excess_28 rfl ?_
      refine m_iload_n dX11_excess_29 rfl ?_
      refine cl_X11_333 rfl (by decide) dX11_excess_30 (Nat.le_of_ble_eq_true rfl) (MCi_go q (fun r9 h8 q => ?_))
      refine m_goto 44 dX11_excess_33 (by decide) ?_
      exact m_iret dX11_excess_44 rfl q
  · replace q := q.2 c2
    refine m_aload_n dX11_excess_11 rfl ?_
    refine m_iconst (v := 1) dX11_excess_12 (by decide) ?_
    refine m_sipush (v := (-1000)) dX11_excess_13 (by decide) ?_
    refine cl_X11_320 rfl (by decide) dX11_excess_16 (Nat.le_of_ble_eq_true rfl) (MCi_go q (fun r11 h10 q => ?_))
    exact m_iret dX11_excess_19 rfl q
set_option maxRecDepth 100000 in
theorem e_X11_widest {g : gT} {h : mh_T} {P : Int32 → mh_T → Prop}  (q : MCv g yX11_good uX11_good [.ref 11] h (fun h1 => (¬ (mI h1 11 14) = 0 → ME g uX11_widest 24 [.ref 11, .int (-2), .int 0, .int 0, .retAddr 0] [] h1 (qI P)) ∧ ((mI h1 11 14) = 0 → MCi g yX11_no uX11_no [.ref 11, .int 1] h1 (fun r4 h3 => P r4 h3)))) : MCi g yX11_widest uX11_widest [.ref 11] h P := by
  refine m_enter (by decide) rfl (Nat.le_of_ble_eq_true rfl) (lv := [.ref 11, .retAddr 0, .retAddr 0, .retAddr 0, .retAddr 0]) rfl ?_
  refine m_aload_n dX11_widest_0 rfl ?_
  refine cl_X11_174 rfl (by decide) dX11_widest_1 (Nat.le_of_ble_eq_true rfl) (MCv_go q (fun h1 q => ?_))
  refine m_aload_n dX11_widest_4 rfl ?_
  refine gf_X11_183 rfl dX11_widest_5 ?_
  refine m_if_ne 17 dX11_widest_8 (by decide) (fun c2 => ?_) (fun c2 => ?_)
  · replace q := q.1 c2
    refine m_bipush (v := (-2)) dX11_widest_17 (by decide) ?_
    refine m_istore_n (lv' := [.ref 11, .int (-2), .retAddr 0, .retAddr 0, .retAddr 0]) dX11_widest_19 (Nat.le_of_ble_eq_true rfl) rfl rfl ?_
    refine m_iconst (v := 0) dX11_widest_20 (by decide) ?_
    refine m_istore_n (lv' := [.ref 11, .int (-2), .int 0, .retAddr 0, .retAddr 0]) dX11_widest_21 (Nat.le_of_ble_eq_true rfl) rfl rfl ?_
    refine m_iconst (v := 0) dX11_widest_22 (by decide) ?_
    refine m_istore_n (lv' := [.ref 11, .int (-2), .int 0, .int 0, .retAddr 0]) dX11_widest_23 (Nat.le_of_ble_eq_true rfl) rfl rfl ?_
    exact q
  · replace q := q.2 c2
    refine m_aload_n dX11_widest_11 rfl ?_
    refine m_iconst (v := 1) dX11_widest_12 (by decide) ?_
    refine cl_X11_177 rfl (by decide) dX11_widest_13 (Nat.le_of_ble_eq_true rfl) (MCi_go q (fun r4 h3 q => ?_))
    exact m_iret dX11_widest_16 rfl q
set_option maxRecDepth 100000 in
theorem r_X11_widest_24 {g : gT} {h : mh_T} {P : Int32 → mh_T → Prop} (l1 : Int32) (l2 : Int32) (l3 : Int32) (q : ((1 <<< ((mI h 45 (Int32.toNatClampNeg 0)) &&& 31)) ≤ l3 → P l1 h) ∧ (¬ (1 <<< ((mI h 45 (Int32.toNatClampNeg 0)) &&& 31)) ≤ l3 → MCi g yX11_isCycle uX11_isCycle [.ref 11, .int l3] h (fun r3 h2 => (¬ r3 = 0 → MCi g yX11_excessOf uX11_excessOf [.ref 11, .int l3] h2 (fun r6 h5 => (l1 = (-2) → ME g uX11_widest 24 [.ref 11, .int l3, .int r6, .int (l3 + 1), .retAddr 0] [] h5 (qI P)) ∧ (¬ l1 = (-2) → (l2 < r6 → ME g uX11_widest 24 [.ref 11, .int l3, .int r6, .int (l3 + 1), .retAddr 0] [] h5 (qI P)) ∧ (¬ l2 < r6 → ME g uX11_widest 24 [.ref 11, .int l1, .int l2, .int (l3 + 1), .retAddr 0] [] h5 (qI P))))) ∧ (r3 = 0 → ME g uX11_widest 24 [.ref 11, .int l1, .int l2, .int (l3 + 1), .retAddr 0] [] h2 (qI P))))) : ME g uX11_widest 24 [.ref 11, .int l1, .int l2, .int l3, .retAddr 0] [] h (qI P) := by
  refine m_iload_n dX11_widest_24 rfl ?_
  refine m_iconst (v := 1) dX11_widest_25 (by decide) ?_
  refine m_aload_n dX11_widest_26 rfl ?_
  refine gf_X11_20 rfl dX11_widest_27 ?_
  refine m_iconst (v := 0) dX11_widest_30 (by decide) ?_
  refine m_iaload dX11_widest_31 rfl (by decide) (by unfold vp_in; decide) ?_
  refine m_ishl dX11_widest_32 ?_
  refine m_icmp_ge 80 dX11_widest_33 (by decide) (fun c1 => ?_) (fun c1 => ?_)
  · replace q := q.1 c1
    refine m_iload_n dX11_widest_80 rfl ?_
    exact m_iret dX11_widest_81 rfl q
  · replace q := q.2 c1
    refine m_aload_n dX11_widest_36 rfl ?_
    refine m_iload_n dX11_widest_37 rfl ?_
    refine cl_X11_326 rfl (by decide) dX11_widest_38 (Nat.le_of_ble_eq_true rfl) (MCi_go q (fun r3 h2 q => ?_))
    refine m_if_ne 47 dX11_widest_41 (by decide) (fun c4 => ?_) (fun c4 => ?_)
    · replace q := q.1 c4
      refine m_aload_n dX11_widest_47 rfl ?_
      refine m_iload_n dX11_widest_48 rfl ?_
      refine cl_X11_333 rfl (by decide) dX11_widest_49 (Nat.le_of_ble_eq_true rfl) (MCi_go q (fun r6 h5 q => ?_))
      refine m_istore (lv' := [.ref 11, .int l1, .int l2, .int l3, .int r6]) dX11_widest_52 (Nat.le_of_ble_eq_true rfl) rfl rfl ?_
      refine m_iload_n dX11_widest_54 rfl ?_
      refine m_bipush (v := (-2)) dX11_widest_55 (by decide) ?_
      refine m_icmp_eq 69 dX11_widest_57 (by decide) (fun c7 => ?_) (fun c7 => ?_)
      · replace q := q.1 c7
        refine m_iload_n dX11_widest_69 rfl ?_
        refine m_istore_n (lv' := [.ref 11, .int l3, .int l2, .int l3, .int r6]) dX11_widest_70 (Nat.le_of_ble_eq_true rfl) rfl rfl ?_
        refine m_iload dX11_widest_71 rfl ?_
        refine m_istore_n (lv' := [.ref 11, .int l3, .int r6, .int l3, .int r6]) dX11_widest_73 (Nat.le_of_ble_eq_true rfl) rfl rfl ?_
        refine m_iinc (v := (l3 + 1)) (lv' := [.ref 11, .int l3, .int r6, .int (l3 + 1), .int r6]) dX11_widest_74 (Nat.le_of_ble_eq_true rfl) rfl (congrArg (fun z => l3 + z) (by decide : Int32.ofInt 1 = 1)) rfl rfl ?_
        refine m_goto 24 dX11_widest_77 (by decide) ?_
        refine m_dropK (lv' := [.ref 11, .int l3, .int r6, .int (l3 + 1), .retAddr 0]) [4] rfl ?_
        exact q
      · replace q := q.2 c7
        refine m_iload dX11_widest_60 rfl ?_
        refine m_iload_n dX11_widest_62 rfl ?_
        refine m_icmp_gt 69 dX11_widest_63 (by decide) (fun c8 => ?_) (fun c8 => ?_)
        · replace q := q.1 c8
          refine m_iload_n dX11_widest_69 rfl ?_
          refine m_istore_n (lv' := [.ref 11, .int l3, .int l2, .int l3, .int r6]) dX11_widest_70 (Nat.le_of_ble_eq_true rfl) rfl rfl ?_
          refine m_iload dX11_widest_71 rfl ?_
          refine m_istore_n (lv' := [.ref 11, .int l3, .int r6, .int l3, .int r6]) dX11_widest_73 (Nat.le_of_ble_eq_true rfl) rfl rfl ?_
          refine m_iinc (v := (l3 + 1)) (lv' := [.ref 11, .int l3, .int r6, .int (l3 + 1), .int r6]) dX11_widest_74 (Nat.le_of_ble_eq_true rfl) rfl (congrArg (fun z => l3 + z) (by decide : Int32.ofInt 1 = 1)) rfl rfl ?_
          refine m_goto 24 dX11_widest_77 (by decide) ?_
          refine m_dropK (lv' := [.ref 11, .int l3, .int r6, .int (l3 + 1), .retAddr 0]) [4] rfl ?_
          exact q
        · replace q := q.2 c8
          refine m_goto 74 dX11_widest_66 (by decide) ?_
          refine m_iinc (v := (l3 + 1)) (lv' := [.ref 11, .int l1, .int l2, .int (l3 + 1), .int r6]) dX11_widest_74 (Nat.le_of_ble_eq_true rfl) rfl (congrArg (fun z => l3 + z) (by decide : Int32.ofInt 1 = 1)) rfl rfl ?_
          refine m_goto 24 dX11_widest_77 (by decide) ?_
          refine m_dropK (lv' := [.ref 11, .int l1, .int l2, .int (l3 + 1), .retAddr 0]) [4] rfl ?_
          exact q
    · replace q := q.2 c4
      refine m_goto 74 dX11_widest_44 (by decide) ?_
      refine m_iinc (v := (l3 + 1)) (lv' := [.ref 11, .int l1, .int l2, .int (l3 + 1), .retAddr 0]) dX11_widest_74 (Nat.le_of_ble_eq_true rfl) rfl (congrArg (fun z => l3 + z) (by decide : Int32.ofInt 1 = 1)) rfl rfl ?_
      refine m_goto 24 dX11_widest_77 (by decide) ?_
      exact q
set_option maxRecDepth 100000 in
theorem e_X11_stake {g : gT} {h : mh_T} {P : Int32 → mh_T → Prop} (l1 : Int32) (l2 : Int32) (l3 : Int32) (q : MCv g yX11_good uX11_good [.ref 11] h (fun h1 => MCi g yX11_isOutcome uX11_isOutcome [.ref 11, .int l1, .int l2] h1 (fun r3 h2 => (¬ r3 = 0 → MCi g yX11_within uX11_within [.int l3, .int 0, .int 99] h2 (fun r6 h5 => (¬ r6 = 0 → (vp_in ((4 * l1) + l2) 32) ∧ (P 1 (wI h5 47 ((4 * l1) + l2).toNatClampNeg l3))) ∧ (r6 = 0 → MCi g yX11_isNot uX11_isNot [.ref 11, .int 2] h5 (fun r10 h9 => (r10 = 0 ∨ r10 = 1) ∧ P r10 h9)))) ∧ (r3 = 0 → MCi g yX11_isNot uX11_isNot [.ref 11, .int 1] h2 (fun r12 h11 => (r12 = 0 ∨ r12 = 1) ∧ P r12 h11))))) : MCi g yX11_stake uX11_stake [.ref 11, .int l1, .int l2, .int l3] h P := by
  refine m_enter (by decide) rfl (Nat.le_of_ble_eq_true rfl) (lv := [.ref 11, .int l1, .int l2, .int l3]) rfl ?_
  refine m_aload_n dX11_stake_0 rfl ?_
  refine cl_X11_174 rfl (by decide) dX11_stake_1 (Nat.le_of_ble_eq_true rfl) (MCv_go q (fun h1 q => ?_))
  refine m_aload_n dX11_stake_4 rfl ?_
  refine m_iload_n dX11_stake_5 rfl ?_
  refine m_iload_n dX11_stake_6 rfl ?_
  refine cl_X11_305 rfl (by decide) dX11_stake_7 (Nat.le_of_ble_eq_true rfl) (MCi_go q (fun r3 h2 q => ?_))
  refine m_if_ne 19 dX11_stake_10 (by decide) (fun c4 => ?_) (fun c4 => ?_)
  · replace q := q.1 c4
    refine m_iload_n dX11_stake_19 rfl ?_
    refine m_iconst (v := 0) dX11_stake_20 (by decide) ?_
    refine m_bipush (v := 99) dX11_stake_21 (by decide) ?_
    refine cl_X11_170 rfl (by decide) dX11_stake_23 (Nat.le_of_ble_eq_true rfl) (MCi_go q (fun r6 h5 q => ?_))
    refine m_if_ne 35 dX11_stake_26 (by decide) (fun c7 => ?_) (fun c7 => ?_)
    · replace q := q.1 c7
      refine m_aload_n dX11_stake_35 rfl ?_
      refine gf_X11_26 rfl dX11_stake_36 ?_
      refine m_iconst (v := 4) dX11_stake_39 (by decide) ?_
      refine m_iload_n dX11_stake_40 rfl ?_
      refine m_imul dX11_stake_41 ?_
      refine m_iload_n dX11_stake_42 rfl ?_
      refine m_iadd dX11_stake_43 ?_
      refine m_iload_n dX11_stake_44 rfl ?_
      obtain ⟨b8, q⟩ := q
      refine m_iastore dX11_stake_45 rfl (by decide) b8 ?_
      refine m_iconst (v := 1) dX11_stake_46 (by decide) ?_
      exact m_zret dX11_stake_47 rfl (by decide) q
    · replace q := q.2 c7
      refine m_aload_n dX11_stake_29 rfl ?_
      refine m_iconst (v := 2) dX11_stake_30 (by decide) ?_
      refine cl_X11_336 rfl (by decide) dX11_stake_31 (Nat.le_of_ble_eq_true rfl) (MCi_go q (fun r10 h9 q => ?_))
      exact m_zret dX11_stake_34 rfl q.1 q.2
  · replace q := q.2 c4
    refine m_aload_n dX11_stake_13 rfl ?_
    refine m_iconst (v := 1) dX11_stake_14 (by decide) ?_
    refine cl_X11_336 rfl (by decide) dX11_stake_15 (Nat.le_of_ble_eq_true rfl) (MCi_go q (fun r12 h11 q => ?_))
    exact m_zret dX11_stake_18 rfl q.1 q.2
set_option maxRecDepth 100000 in
theorem e_X11_winsOf {g : gT} {h : mh_T} {P : Int32 → mh_T → Prop}  (q : ME g uX11_winsOf 4 [.ref 11, .int 0, .int 0, .retAddr 0] [] h (qI P)) : MCi g yX11_winsOf uX11_winsOf [.ref 11] h P := by
  refine m_enter (by decide) rfl (Nat.le_of_ble_eq_true rfl) (lv := [.ref 11, .retAddr 0, .retAddr 0, .retAddr 0]) rfl ?_
  refine m_iconst (v := 0) dX11_winsOf_0 (by decide) ?_
  refine m_istore_n (lv' := [.ref 11, .int 0, .retAddr 0, .retAddr 0]) dX11_winsOf_1 (Nat.le_of_ble_eq_true rfl) rfl rfl ?_
  refine m_iconst (v := 0) dX11_winsOf_2 (by decide) ?_
  refine m_istore_n (lv' := [.ref 11, .int 0, .int 0, .retAddr 0]) dX11_winsOf_3 (Nat.le_of_ble_eq_true rfl) rfl rfl ?_
  exact q
set_option maxRecDepth 100000 in
theorem r_X11_winsOf_4 {g : gT} {h : mh_T} {P : Int32 → mh_T → Prop} (l1 : Int32) (l2 : Int32) (q : ((mI h 45 (Int32.toNatClampNeg 0)) ≤ l2 → P l1 h) ∧ (¬ (mI h 45 (Int32.toNatClampNeg 0)) ≤ l2 → ME g uX11_winsOf 16 [.ref 11, .int l1, .int l2, .int 0] [] h (qI P))) : ME g uX11_winsOf 4 [.ref 11, .int l1, .int l2, .retAddr 0] [] h (qI P) := by
  refine m_iload_n dX11_winsOf_4 rfl ?_
  refine m_aload_n dX11_winsOf_5 rfl ?_
  refine gf_X11_20 rfl dX11_winsOf_6 ?_
  refine m_iconst (v := 0) dX11_winsOf_9 (by decide) ?_
  refine m_iaload dX11_winsOf_10 rfl (by decide) (by unfold vp_in; decide) ?_
  refine m_icmp_ge 67 dX11_winsOf_11 (by decide) (fun c1 => ?_) (fun c1 => ?_)
  · replace q := q.1 c1
    refine m_iload_n dX11_winsOf_67 rfl ?_
    exact m_iret dX11_winsOf_68 rfl q
  · replace q := q.2 c1
    refine m_iconst (v := 0) dX11_winsOf_14 (by decide) ?_
    refine m_istore_n (lv' := [.ref 11, .int l1, .int l2, .int 0]) dX11_winsOf_15 (Nat.le_of_ble_eq_true rfl) rfl rfl ?_
    exact q
set_option maxRecDepth 100000 in
theorem r_X11_winsOf_16 {g : gT} {h : mh_T} {P : Int32 → mh_T → Prop} (l1 : Int32) (l2 : Int32) (l3 : Int32) (q : MCi g yX11_outcomes uX11_outcomes [.ref 45, .int l2] h (fun r2 h1 => (r2 ≤ l3 → ME g uX11_winsOf 4 [.ref 11, .int l1, .int (l2 + 1), .retAddr 0] [] h1 (qI P)) ∧ (¬ r2 ≤ l3 → (vp_in ((4 * l2) + l3) 32) ∧ ((vp_in ((17 + (4 * l2)) + l3) 346) ∧ (∀ x6 : Int32, x6 = (l1 + ((mI h1 47 ((4 * l2) + l3).toNatClampNeg) * (mI h1 45 ((17 + (4 * l2)) + l3).toNatClampNeg))) → ME g uX11_winsOf 16 [.ref 11, .int x6, .int l2, .int (l3 + 1)] [] h1 (qI P)))))) : ME g uX11_winsOf 16 [.ref 11, .int l1, .int l2, .int l3] [] h (qI P) := by
  refine m_iload_n dX11_winsOf_16 rfl ?_
  refine m_aload_n dX11_winsOf_17 rfl ?_
  refine gf_X11_20 rfl dX11_winsOf_18 ?_
  refine m_iload_n dX11_winsOf_21 rfl ?_
  refine cl_X11_247 rfl (by decide) dX11_winsOf_22 (Nat.le_of_ble_eq_true rfl) (MCi_go q (fun r2 h1 q => ?_))
  refine m_icmp_ge 61 dX11_winsOf_25 (by decide) (fun c3 => ?_) (fun c3 => ?_)
  · replace q := q.1 c3
    refine m_iinc (v := (l2 + 1)) (lv' := [.ref 11, .int l1, .int (l2 + 1), .int l3]) dX11_winsOf_61 (Nat.le_of_ble_eq_true rfl) rfl (congrArg (fun z => l2 + z) (by decide : Int32.ofInt 1 = 1)) rfl rfl ?_
    refine m_goto 4 dX11_winsOf_64 (by decide) ?_
    refine m_dropK (lv' := [.ref 11, .int l1, .int (l2 + 1), .retAddr 0]) [3] rfl ?_
    exact q
  · replace q := q.2 c3
    refine m_iload_n dX11_winsOf_28 rfl ?_
    refine m_aload_n dX11_winsOf_29 rfl ?_
    refine gf_X11_26 rfl dX11_winsOf_30 ?_
    refine m_iconst (v := 4) dX11_winsOf_33 (by decide) ?_
    refine m_iload_n dX11_winsOf_34 rfl ?_
    refine m_imul dX11_winsOf_35 ?_
    refine m_iload_n dX11_winsOf_36 rfl ?_
    refine m_iadd dX11_winsOf_37 ?_
    obtain ⟨b4, q⟩ := q
    refine m_iaload dX11_winsOf_38 rfl (by decide) b4 ?_
    refine m_aload_n dX11_winsOf_39 rfl ?_
    refine gf_X11_20 rfl dX11_winsOf_40 ?_
    refine m_bipush (v := 17) dX11_winsOf_43 (by decide) ?_
    refine m_iconst (v := 4) dX11_winsOf_45 (by decide) ?_
    refine m_iload_n dX11_winsOf_46 rfl ?_
    refine m_imul dX11_winsOf_47 ?_
    refine m_iadd dX11_winsOf_48 ?_
    refine m_iload_n dX11_winsOf_49 rfl ?_
    refine m_iadd dX11_winsOf_50 ?_
    obtain ⟨b5, q⟩ := q
    refine m_iaload dX11_winsOf_51 rfl (by decide) b5 ?_
    refine m_imul dX11_winsOf_52 ?_
    refine m_iadd dX11_winsOf_53 ?_
    obtain ⟨x6, ex6⟩ : ∃ z, z = (l1 + ((mI h1 47 ((4 * l2) + l3).toNatClampNeg) * (mI h1 45 ((17 + (4 * l2)) + l3).toNatClampNeg))) := ⟨_, rfl⟩
    rw [← ex6]
    replace q := q x6 ex6
    refine m_istore_n (lv' := [.ref 11, .int x6, .int l2, .int l3]) dX11_winsOf_54 (Nat.le_of_ble_eq_true rfl) rfl rfl ?_
    refine m_iinc (v := (l3 + 1)) (lv' := [.ref 11, .int x6, .int l2, .int (l3 + 1)]) dX11_winsOf_55 (Nat.le_of_ble_eq_true rfl) rfl (congrArg (fun z => l3 + z) (by decide : Int32.ofInt 1 = 1)) rfl rfl ?_
    refine m_goto 16 dX11_winsOf_58 (by decide) ?_
    exact q
set_option maxRecDepth 100000 in
theorem e_X11_paid {g : gT} {h : mh_T} {P : Int32 → mh_T → Prop} (l1 : Int32) (q : ME g uX11_paid 4 [.ref 11, .int l1, .int 0, .int 0] [] h (qI P)) : MCi g yX11_paid uX11_paid [.ref 11, .int l1] h P := by
  refine m_enter (by decide) rfl (Nat.le_of_ble_eq_true rfl) (lv := [.ref 11, .int l1, .retAddr 0, .retAddr 0]) rfl ?_
  refine m_iconst (v := 0) dX11_paid_0 (by decide) ?_
  refine m_istore_n (lv' := [.ref 11, .int l1, .int 0, .retAddr 0]) dX11_paid_1 (Nat.le_of_ble_eq_true rfl) rfl rfl ?_
  refine m_iconst (v := 0) dX11_paid_2 (by decide) ?_
  refine m_istore_n (lv' := [.ref 11, .int l1, .int 0, .int 0]) dX11_paid_3 (Nat.le_of_ble_eq_true rfl) rfl rfl ?_
  exact q
set_option maxRecDepth 100000 in
theorem r_X11_paid_4 {g : gT} {h : mh_T} {P : Int32 → mh_T → Prop} (l1 : Int32) (l2 : Int32) (l3 : Int32) (q : ((mI h 45 (Int32.toNatClampNeg 0)) ≤ l3 → P l2 h) ∧ (¬ (mI h 45 (Int32.toNatClampNeg 0)) ≤ l3 → MCi g yX11_fitted uX11_fitted [.ref 11, .int l3, .int l1] h (fun r3 h2 => (vp_in ((4 * l3) + r3) 32) ∧ (∀ x5 : Int32, x5 = (l2 + (mI h2 47 ((4 * l3) + r3).toNatClampNeg)) → ME g uX11_paid 4 [.ref 11, .int l1, .int x5, .int (l3 + 1)] [] h2 (qI P))))) : ME g uX11_paid 4 [.ref 11, .int l1, .int l2, .int l3] [] h (qI P) := by
  refine m_iload_n dX11_paid_4 rfl ?_
  refine m_aload_n dX11_paid_5 rfl ?_
  refine gf_X11_20 rfl dX11_paid_6 ?_
  refine m_iconst (v := 0) dX11_paid_9 (by decide) ?_
  refine m_iaload dX11_paid_10 rfl (by decide) (by unfold vp_in; decide) ?_
  refine m_icmp_ge 38 dX11_paid_11 (by decide) (fun c1 => ?_) (fun c1 => ?_)
  · replace q := q.1 c1
    refine m_iload_n dX11_paid_38 rfl ?_
    exact m_iret dX11_paid_39 rfl q
  · replace q := q.2 c1
    refine m_iload_n dX11_paid_14 rfl ?_
    refine m_aload_n dX11_paid_15 rfl ?_
    refine gf_X11_26 rfl dX11_paid_16 ?_
    refine m_iconst (v := 4) dX11_paid_19 (by decide) ?_
    refine m_iload_n dX11_paid_20 rfl ?_
    refine m_imul dX11_paid_21 ?_
    refine m_aload_n dX11_paid_22 rfl ?_
    refine m_iload_n dX11_paid_23 rfl ?_
    refine m_iload_n dX11_paid_24 rfl ?_
    refine cl_X11_263 rfl (by decide) dX11_paid_25 (Nat.le_of_ble_eq_true rfl) (MCi_go q (fun r3 h2 q => ?_))
    refine m_iadd dX11_paid_28 ?_
    obtain ⟨b4, q⟩ := q
    refine m_iaload dX11_paid_29 rfl (by decide) b4 ?_
    refine m_iadd dX11_paid_30 ?_
    obtain ⟨x5, ex5⟩ : ∃ z, z = (l2 + (mI h2 47 ((4 * l3) + r3).toNatClampNeg)) := ⟨_, rfl⟩
    rw [← ex5]
    replace q := q x5 ex5
    refine m_istore_n (lv' := [.ref 11, .int l1, .int x5, .int l3]) dX11_paid_31 (Nat.le_of_ble_eq_true rfl) rfl rfl ?_
    refine m_iinc (v := (l3 + 1)) (lv' := [.ref 11, .int l1, .int x5, .int (l3 + 1)]) dX11_paid_32 (Nat.le_of_ble_eq_true rfl) rfl (congrArg (fun z => l3 + z) (by decide : Int32.ofInt 1 = 1)) rfl rfl ?_
    refine m_goto 4 dX11_paid_35 (by decide) ?_
    exact q
set_option maxRecDepth 100000 in
theorem e_X11_worstHidden {g : gT} {h : mh_T} {P : Int32 → mh_T → Prop}  (q : ME g uX11_worstHidden 4 [.ref 11, .int 0, .int 1] [] h (qI P)) : MCi g yX11_worstHidden uX11_worstHidden [.ref 11] h P := by
  refine m_enter (by decide) rfl (Nat.le_of_ble_eq_true rfl) (lv := [.ref 11, .retAddr 0, .retAddr 0]) rfl ?_
  refine m_iconst (v := 0) dX11_worstHidden_0 (by decide) ?_
  refine m_istore_n (lv' := [.ref 11, .int 0, .retAddr 0]) dX11_worstHidden_1 (Nat.le_of_ble_eq_true rfl) rfl rfl ?_
  refine m_iconst (v := 1) dX11_worstHidden_2 (by decide) ?_
  refine m_istore_n (lv' := [.ref 11, .int 0, .int 1]) dX11_worstHidden_3 (Nat.le_of_ble_eq_true rfl) rfl rfl ?_
  exact q
set_option maxRecDepth 100000 in
theorem r_X11_worstHidden_4 {g : gT} {h : mh_T} {P : Int32 → mh_T → Prop} (l1 : Int32) (l2 : Int32) (q : MCi g yX11_hiddenMany uX11_hiddenMany [.ref 11] h (fun r2 h1 => (r2 ≤ l2 → P l1 h1) ∧ (¬ r2 ≤ l2 → MCi g yX11_paid uX11_paid [.ref 11, .int l2] h1 (fun r5 h4 => MCi g yX11_paid uX11_paid [.ref 11, .int l1] h4 (fun r7 h6 => (r7 ≤ r5 → ME g uX11_worstHidden 4 [.ref 11, .int l1, .int (l2 + 1)] [] h6 (qI P)) ∧ (¬ r7 ≤ r5 → ME g uX11_worstHidden 4 [.ref 11, .int l2, .int (l2 + 1)] [] h6 (qI P))))))) : ME g uX11_worstHidden 4 [.ref 11, .int l1, .int l2] [] h (qI P) := by
  refine m_iload_n dX11_worstHidden_4 rfl ?_
  refine m_aload_n dX11_worstHidden_5 rfl ?_
  refine cl_X11_251 rfl (by decide) dX11_worstHidden_6 (Nat.le_of_ble_eq_true rfl) (MCi_go q (fun r2 h1 q => ?_))
  refine m_icmp_ge 37 dX11_worstHidden_9 (by decide) (fun c3 => ?_) (fun c3 => ?_)
  · replace q := q.1 c3
    refine m_iload_n dX11_worstHidden_37 rfl ?_
    exact m_iret dX11_worstHidden_38 rfl q
  · replace q := q.2 c3
    refine m_aload_n dX11_worstHidden_12 rfl ?_
    refine m_iload_n dX11_worstHidden_13 rfl ?_
    refine cl_X11_339 rfl (by decide) dX11_worstHidden_14 (Nat.le_of_ble_eq_true rfl) (MCi_go q (fun r5 h4 q => ?_))
    refine m_aload_n dX11_worstHidden_17 rfl ?_
    refine m_iload_n dX11_worstHidden_18 rfl ?_
    refine cl_X11_339 rfl (by decide) dX11_worstHidden_19 (Nat.le_of_ble_eq_true rfl) (MCi_go q (fun r7 h6 q => ?_))
    refine m_icmp_ge 29 dX11_worstHidden_22 (by decide) (fun c8 => ?_) (fun c8 => ?_)
    · replace q := q.1 c8
      refine m_iload_n dX11_worstHidden_29 rfl ?_
      refine m_istore_n (lv' := [.ref 11, .int l1, .int l2]) dX11_worstHidden_30 (Nat.le_of_ble_eq_true rfl) rfl rfl ?_
      refine m_iinc (v := (l2 + 1)) (lv' := [.ref 11, .int l1, .int (l2 + 1)]) dX11_worstHidden_31 (Nat.le_of_ble_eq_true rfl) rfl (congrArg (fun z => l2 + z) (by decide : Int32.ofInt 1 = 1)) rfl rfl ?_
      refine m_goto 4 dX11_worstHidden_34 (by decide) ?_
      exact q
    · replace q := q.2 c8
      refine m_iload_n dX11_worstHidden_25 rfl ?_
      refine m_goto 30 dX11_worstHidden_26 (by decide) ?_
      refine m_istore_n (lv' := [.ref 11, .int l2, .int l2]) dX11_worstHidden_30 (Nat.le_of_ble_eq_true rfl) rfl rfl ?_
      refine m_iinc (v := (l2 + 1)) (lv' := [.ref 11, .int l2, .int (l2 + 1)]) dX11_worstHidden_31 (Nat.le_of_ble_eq_true rfl) rfl (congrArg (fun z => l2 + z) (by decide : Int32.ofInt 1 = 1)) rfl rfl ?_
      refine m_goto 4 dX11_worstHidden_34 (by decide) ?_
      exact q
set_option maxRecDepth 100000 in
theorem e_X11_wins {g : gT} {h : mh_T} {P : Int32 → mh_T → Prop}  (q : MCv g yX11_good uX11_good [.ref 11] h (fun h1 => ((mI h1 11 14) = 0 → MCi g yX11_no uX11_no [.ref 11, .int 1] h1 (fun r4 h3 => P r4 h3)) ∧ (¬ (mI h1 11 14) = 0 → MCi g yX11_winsOf uX11_winsOf [.ref 11] h1 (fun r6 h5 => P r6 h5)))) : MCi g yX11_wins uX11_wins [.ref 11] h P := by
  refine m_enter (by decide) rfl (Nat.le_of_ble_eq_true rfl) (lv := [.ref 11]) rfl ?_
  refine m_aload_n dX11_wins_0 rfl ?_
  refine cl_X11_174 rfl (by decide) dX11_wins_1 (Nat.le_of_ble_eq_true rfl) (MCv_go q (fun h1 q => ?_))
  refine m_aload_n dX11_wins_4 rfl ?_
  refine gf_X11_183 rfl dX11_wins_5 ?_
  refine m_if_eq 18 dX11_wins_8 (by decide) (fun c2 => ?_) (fun c2 => ?_)
  · replace q := q.1 c2
    refine m_aload_n dX11_wins_18 rfl ?_
    refine m_iconst (v := 1) dX11_wins_19 (by decide) ?_
    refine cl_X11_177 rfl (by decide) dX11_wins_20 (Nat.le_of_ble_eq_true rfl) (MCi_go q (fun r4 h3 q => ?_))
    exact m_iret dX11_wins_23 rfl q
  · replace q := q.2 c2
    refine m_aload_n dX11_wins_11 rfl ?_
    refine cl_X11_342 rfl (by decide) dX11_wins_12 (Nat.le_of_ble_eq_true rfl) (MCi_go q (fun r6 h5 q => ?_))
    refine m_goto 23 dX11_wins_15 (by decide) ?_
    exact m_iret dX11_wins_23 rfl q
set_option maxRecDepth 100000 in
theorem e_X11_worst {g : gT} {h : mh_T} {P : Int32 → mh_T → Prop}  (q : MCv g yX11_good uX11_good [.ref 11] h (fun h1 => ((mI h1 11 14) = 0 → MCi g yX11_no uX11_no [.ref 11, .int 1] h1 (fun r4 h3 => P r4 h3)) ∧ (¬ (mI h1 11 14) = 0 → MCi g yX11_worstHidden uX11_worstHidden [.ref 11] h1 (fun r6 h5 => MCi g yX11_paid uX11_paid [.ref 11, .int r6] h5 (fun r8 h7 => P r8 h7))))) : MCi g yX11_worst uX11_worst [.ref 11] h P := by
  refine m_enter (by decide) rfl (Nat.le_of_ble_eq_true rfl) (lv := [.ref 11]) rfl ?_
  refine m_aload_n dX11_worst_0 rfl ?_
  refine cl_X11_174 rfl (by decide) dX11_worst_1 (Nat.le_of_ble_eq_true rfl) (MCv_go q (fun h1 q => ?_))
  refine m_aload_n dX11_worst_4 rfl ?_
  refine gf_X11_183 rfl dX11_worst_5 ?_
  refine m_if_eq 22 dX11_worst_8 (by decide) (fun c2 => ?_) (fun c2 => ?_)
  · replace q := q.1 c2
    refine m_aload_n dX11_worst_22 rfl ?_
    refine m_iconst (v := 1) dX11_worst_23 (by decide) ?_
    refine cl_X11_177 rfl (by decide) dX11_worst_24 (Nat.le_of_ble_eq_true rfl) (MCi_go q (fun r4 h3 q => ?_))
    exact m_iret dX11_worst_27 rfl q
  · replace q := q.2 c2
    refine m_aload_n dX11_worst_11 rfl ?_
    refine m_aload_n dX11_worst_12 rfl ?_
    refine cl_X11_345 rfl (by decide) dX11_worst_13 (Nat.le_of_ble_eq_true rfl) (MCi_go q (fun r6 h5 q => ?_))
    refine cl_X11_339 rfl (by decide) dX11_worst_16 (Nat.le_of_ble_eq_true rfl) (MCi_go q (fun r8 h7 q => ?_))
    refine m_goto 27 dX11_worst_19 (by decide) ?_
    exact m_iret dX11_worst_27 rfl q
set_option maxRecDepth 100000 in
theorem e_X11_worstAt {g : gT} {h : mh_T} {P : Int32 → mh_T → Prop}  (q : MCv g yX11_good uX11_good [.ref 11] h (fun h1 => ((mI h1 11 14) = 0 → MCi g yX11_no uX11_no [.ref 11, .int 1] h1 (fun r4 h3 => P r4 h3)) ∧ (¬ (mI h1 11 14) = 0 → MCi g yX11_worstHidden uX11_worstHidden [.ref 11] h1 (fun r6 h5 => P r6 h5)))) : MCi g yX11_worstAt uX11_worstAt [.ref 11] h P := by
  refine m_enter (by decide) rfl (Nat.le_of_ble_eq_true rfl) (lv := [.ref 11]) rfl ?_
  refine m_aload_n dX11_worstAt_0 rfl ?_
  refine cl_X11_174 rfl (by decide) dX11_worstAt_1 (Nat.le_of_ble_eq_true rfl) (MCv_go q (fun h1 q => ?_))
  refine m_aload_n dX11_worstAt_4 rfl ?_
  refine gf_X11_183 rfl dX11_worstAt_5 ?_
  refine m_if_eq 18 dX11_worstAt_8 (by decide) (fun c2 => ?_) (fun c2 => ?_)
  · replace q := q.1 c2
    refine m_aload_n dX11_worstAt_18 rfl ?_
    refine m_iconst (v := 1) dX11_worstAt_19 (by decide) ?_
    refine cl_X11_177 rfl (by decide) dX11_worstAt_20 (Nat.le_of_ble_eq_true rfl) (MCi_go q (fun r4 h3 q => ?_))
    exact m_iret dX11_worstAt_23 rfl q
  · replace q := q.2 c2
    refine m_aload_n dX11_worstAt_11 rfl ?_
    refine cl_X11_345 rfl (by decide) dX11_worstAt_12 (Nat.le_of_ble_eq_true rfl) (MCi_go q (fun r6 h5 q => ?_))
    refine m_goto 23 dX11_worstAt_15 (by decide) ?_
    exact m_iret dX11_worstAt_23 rfl q
set_option maxRecDepth 100000 in
theorem e_X11_bars {g : gT} {h : mh_T} {P : Int32 → mh_T → Prop}  (q : MCv g yX11_good uX11_good [.ref 11] h (fun h1 => ((mI h1 11 14) = 0 → MCi g yX11_no uX11_no [.ref 11, .int 1] h1 (fun r4 h3 => P r4 h3)) ∧ (¬ (mI h1 11 14) = 0 → MCi g yX11_winsOf uX11_winsOf [.ref 11] h1 (fun r6 h5 => MCi g yX11_worstHidden uX11_worstHidden [.ref 11] h5 (fun r8 h7 => MCi g yX11_paid uX11_paid [.ref 11, .int r8] h7 (fun r10 h9 => ((r10 * (mI h9 45 (Int32.toNatClampNeg 49))) ≤ r6 → P 0 h9) ∧ (¬ (r10 * (mI h9 45 (Int32.toNatClampNeg 49))) ≤ r6 → P 1 h9))))))) : MCi g yX11_bars uX11_bars [.ref 11] h P := by
  refine m_enter (by decide) rfl (Nat.le_of_ble_eq_true rfl) (lv := [.ref 11]) rfl ?_
  refine m_aload_n dX11_bars_0 rfl ?_
  refine cl_X11_174 rfl (by decide) dX11_bars_1 (Nat.le_of_ble_eq_true rfl) (MCv_go q (fun h1 q => ?_))
  refine m_aload_n dX11_bars_4 rfl ?_
  refine gf_X11_183 rfl dX11_bars_5 ?_
  refine m_if_eq 42 dX11_bars_8 (by decide) (fun c2 => ?_) (fun c2 => ?_)
  · replace q := q.1 c2
    refine m_aload_n dX11_bars_42 rfl ?_
    refine m_iconst (v := 1) dX11_bars_43 (by decide) ?_
    refine cl_X11_177 rfl (by decide) dX11_bars_44 (Nat.le_of_ble_eq_true rfl) (MCi_go q (fun r4 h3 q => ?_))
    exact m_iret dX11_bars_47 rfl q
  · replace q := q.2 c2
    refine m_aload_n dX11_bars_11 rfl ?_
    refine cl_X11_342 rfl (by decide) dX11_bars_12 (Nat.le_of_ble_eq_true rfl) (MCi_go q (fun r6 h5 q => ?_))
    refine m_aload_n dX11_bars_15 rfl ?_
    refine m_aload_n dX11_bars_16 rfl ?_
    refine cl_X11_345 rfl (by decide) dX11_bars_17 (Nat.le_of_ble_eq_true rfl) (MCi_go q (fun r8 h7 q => ?_))
    refine cl_X11_339 rfl (by decide) dX11_bars_20 (Nat.le_of_ble_eq_true rfl) (MCi_go q (fun r10 h9 q => ?_))
    refine m_aload_n dX11_bars_23 rfl ?_
    refine gf_X11_20 rfl dX11_bars_24 ?_
    refine m_bipush (v := 49) dX11_bars_27 (by decide) ?_
    refine m_iaload dX11_bars_29 rfl (by decide) (by unfold vp_in; decide) ?_
    refine m_imul dX11_bars_30 ?_
    refine m_icmp_ge 38 dX11_bars_31 (by decide) (fun c11 => ?_) (fun c11 => ?_)
    · replace q := q.1 c11
      refine m_iconst (v := 0) dX11_bars_38 (by decide) ?_
      refine m_goto 47 dX11_bars_39 (by decide) ?_
      exact m_iret dX11_bars_47 rfl q
    · replace q := q.2 c11
      refine m_iconst (v := 1) dX11_bars_34 (by decide) ?_
      refine m_goto 47 dX11_bars_35 (by decide) ?_
      exact m_iret dX11_bars_47 rfl q
set_option maxRecDepth 100000 in
theorem e_X11_fair {g : gT} {h : mh_T} {P : Int32 → mh_T → Prop} (l1 : Int32) (q : MCv g yX11_good uX11_good [.ref 11] h (fun h1 => (¬ (mI h1 11 14) = 0 → MCi g yX11_worstHidden uX11_worstHidden [.ref 11] h1 (fun r4 h3 => MCi g yX11_paid uX11_paid [.ref 11, .int r4] h3 (fun r6 h5 => ∀ x7 : Int32, x7 = (r6 * (mI h5 45 (Int32.toNatClampNeg 49))) → (x7 = 0 → P 1 h5) ∧ (¬ x7 = 0 → MCi g yX11_winsOf uX11_winsOf [.ref 11] h5 (fun r10 h9 => (r10 < x7 → MCi g yX11_winsOf uX11_winsOf [.ref 11] h9 (fun r13 h12 => MCi g yX11_lowest uX11_lowest [.long (Int32.toInt64 r13), .long (Int32.toInt64 x7), .int l1] h12 (fun r15 h14 => P r15 h14))) ∧ (¬ r10 < x7 → P 1 h9)))))) ∧ ((mI h1 11 14) = 0 → MCi g yX11_no uX11_no [.ref 11, .int 1] h1 (fun r17 h16 => P r17 h16)))) : MCi g yX11_fair uX11_fair [.ref 11, .int l1] h P := by
  refine m_enter (by decide) rfl (Nat.le_of_ble_eq_true rfl) (lv := [.ref 11, .int l1, .retAddr 0]) rfl ?_
  refine m_aload_n dX11_fair_0 rfl ?_
  refine cl_X11_174 rfl (by decide) dX11_fair_1 (Nat.le_of_ble_eq_true rfl) (MCv_go q (fun h1 q => ?_))
  refine m_aload_n dX11_fair_4 rfl ?_
  refine gf_X11_183 rfl dX11_fair_5 ?_
  refine m_if_ne 17 dX11_fair_8 (by decide) (fun c2 => ?_) (fun c2 => ?_)
  · replace q := q.1 c2
    refine m_aload_n dX11_fair_17 rfl ?_
    refine m_aload_n dX11_fair_18 rfl ?_
    refine cl_X11_345 rfl (by decide) dX11_fair_19 (Nat.le_of_ble_eq_true rfl) (MCi_go q (fun r4 h3 q => ?_))
    refine cl_X11_339 rfl (by decide) dX11_fair_22 (Nat.le_of_ble_eq_true rfl) (MCi_go q (fun r6 h5 q => ?_))
    refine m_aload_n dX11_fair_25 rfl ?_
    refine gf_X11_20 rfl dX11_fair_26 ?_
    refine m_bipush (v := 49) dX11_fair_29 (by decide) ?_
    refine m_iaload dX11_fair_31 rfl (by decide) (by unfold vp_in; decide) ?_
    refine m_imul dX11_fair_32 ?_
    obtain ⟨x7, ex7⟩ : ∃ z, z = (r6 * (mI h5 45 (Int32.toNatClampNeg 49))) := ⟨_, rfl⟩
    rw [← ex7]
    replace q := q x7 ex7
    refine m_istore_n (lv' := [.ref 11, .int l1, .int x7]) dX11_fair_33 (Nat.le_of_ble_eq_true rfl) rfl rfl ?_
    refine m_iload_n dX11_fair_34 rfl ?_
    refine m_if_eq 46 dX11_fair_35 (by decide) (fun c8 => ?_) (fun c8 => ?_)
    · replace q := q.1 c8
      refine m_iconst (v := 1) dX11_fair_46 (by decide) ?_
      refine m_goto 61 dX11_fair_47 (by decide) ?_
      exact m_iret dX11_fair_61 rfl q
    · replace q := q.2 c8
      refine m_aload_n dX11_fair_38 rfl ?_
      refine cl_X11_342 rfl (by decide) dX11_fair_39 (Nat.le_of_ble_eq_true rfl) (MCi_go q (fun r10 h9 q => ?_))
      refine m_iload_n dX11_fair_42 rfl ?_
      refine m_icmp_lt 50 dX11_fair_43 (by decide) (fun c11 => ?_) (fun c11 => ?_)
      · replace q := q.1 c11
        refine m_aload_n dX11_fair_50 rfl ?_
        refine cl_X11_342 rfl (by decide) dX11_fair_51 (Nat.le_of_ble_eq_true rfl) (MCi_go q (fun r13 h12 q => ?_))
        refine m_i2l dX11_fair_54 ?_
        refine m_iload_n dX11_fair_55 rfl ?_
        refine m_i2l dX11_fair_56 ?_
        refine m_iload_n dX11_fair_57 rfl ?_
        refine cl_X11_292 rfl (by decide) dX11_fair_58 (Nat.le_of_ble_eq_true rfl) (MCi_go q (fun r15 h14 q => ?_))
        exact m_iret dX11_fair_61 rfl q
      · replace q := q.2 c11
        refine m_iconst (v := 1) dX11_fair_46 (by decide) ?_
        refine m_goto 61 dX11_fair_47 (by decide) ?_
        exact m_iret dX11_fair_61 rfl q
  · replace q := q.2 c2
    refine m_aload_n dX11_fair_11 rfl ?_
    refine m_iconst (v := 1) dX11_fair_12 (by decide) ?_
    refine cl_X11_177 rfl (by decide) dX11_fair_13 (Nat.le_of_ble_eq_true rfl) (MCi_go q (fun r17 h16 q => ?_))
    exact m_iret dX11_fair_16 rfl q
set_option maxRecDepth 100000 in
theorem e_X11_linesBy {g : gT} {h : mh_T} {P : Int32 → mh_T → Prop} (l1 : Int32) (q : ME g uX11_linesBy 4 [.ref 11, .int l1, .int 0, .int 0, .retAddr 0, .retAddr 0] [] h (qI P)) : MCi g yX11_linesBy uX11_linesBy [.ref 11, .int l1] h P := by
  refine m_enter (by decide) rfl (Nat.le_of_ble_eq_true rfl) (lv := [.ref 11, .int l1, .retAddr 0, .retAddr 0, .retAddr 0, .retAddr 0]) rfl ?_
  refine m_iconst (v := 0) dX11_linesBy_0 (by decide) ?_
  refine m_istore_n (lv' := [.ref 11, .int l1, .int 0, .retAddr 0, .retAddr 0, .retAddr 0]) dX11_linesBy_1 (Nat.le_of_ble_eq_true rfl) rfl rfl ?_
  refine m_iconst (v := 0) dX11_linesBy_2 (by decide) ?_
  refine m_istore_n (lv' := [.ref 11, .int l1, .int 0, .int 0, .retAddr 0, .retAddr 0]) dX11_linesBy_3 (Nat.le_of_ble_eq_true rfl) rfl rfl ?_
  exact q
set_option maxRecDepth 100000 in
theorem r_X11_linesBy_4 {g : gT} {h : mh_T} {P : Int32 → mh_T → Prop} (l1 : Int32) (l2 : Int32) (l3 : Int32) (q : ((mI h 45 (Int32.toNatClampNeg 52)) ≤ l3 → P l2 h) ∧ (¬ (mI h 45 (Int32.toNatClampNeg 52)) ≤ l3 → ME g uX11_linesBy 21 [.ref 11, .int l1, .int l2, .int l3, .int 0, .int 0] [] h (qI P))) : ME g uX11_linesBy 4 [.ref 11, .int l1, .int l2, .int l3, .retAddr 0, .retAddr 0] [] h (qI P) := by
  refine m_iload_n dX11_linesBy_4 rfl ?_
  refine m_aload_n dX11_linesBy_5 rfl ?_
  refine gf_X11_20 rfl dX11_linesBy_6 ?_
  refine m_bipush (v := 52) dX11_linesBy_9 (by decide) ?_
  refine m_iaload dX11_linesBy_11 rfl (by decide) (by unfold vp_in; decide) ?_
  refine m_icmp_ge 88 dX11_linesBy_12 (by decide) (fun c1 => ?_) (fun c1 => ?_)
  · replace q := q.1 c1
    refine m_iload_n dX11_linesBy_88 rfl ?_
    exact m_iret dX11_linesBy_89 rfl q
  · replace q := q.2 c1
    refine m_iconst (v := 0) dX11_linesBy_15 (by decide) ?_
    refine m_istore (lv' := [.ref 11, .int l1, .int l2, .int l3, .int 0, .retAddr 0]) dX11_linesBy_16 (Nat.le_of_ble_eq_true rfl) rfl rfl ?_
    refine m_iconst (v := 0) dX11_linesBy_18 (by decide) ?_
    refine m_istore (lv' := [.ref 11, .int l1, .int l2, .int l3, .int 0, .int 0]) dX11_linesBy_19 (Nat.le_of_ble_eq_true rfl) rfl rfl ?_
    exact q
set_option maxRecDepth 100000 in
theorem r_X11_linesBy_21 {g : gT} {h : mh_T} {P : Int32 → mh_T → Prop} (l1 : Int32) (l2 : Int32) (l3 : Int32) (l4 : Int32) (l5 : Int32) (q : (3 ≤ l5 → (vp_in (77 + l3) 346) ∧ ((¬ (l4 - l4 / 2 * 2) = (mI h 45 (77 + l3).toNatClampNeg) → ∀ x4 : Int32, x4 = (l2 ||| 0) → ME g uX11_linesBy 4 [.ref 11, .int l1, .int x4, .int (l3 + 1), .retAddr 0, .retAddr 0] [] h (qI P)) ∧ ((l4 - l4 / 2 * 2) = (mI h 45 (77 + l3).toNatClampNeg) → ∀ x5 : Int32, x5 = (l2 ||| (1 <<< (l3 &&& 31))) → ME g uX11_linesBy 4 [.ref 11, .int l1, .int x5, .int (l3 + 1), .retAddr 0, .retAddr 0] [] h (qI P)))) ∧ (¬ 3 ≤ l5 → (vp_in ((53 + (3 * l3)) + l5) 346) ∧ (∀ x7 : Int32, x7 = (l4 + ((l1 >>> ((mI h 45 ((53 + (3 * l3)) + l5).toNatClampNeg) &&& 31)) &&& 1)) → ME g uX11_linesBy 21 [.ref 11, .int l1, .int l2, .int l3, .int x7, .int (l5 + 1)] [] h (qI P)))) : ME g uX11_linesBy 21 [.ref 11, .int l1, .int l2, .int l3, .int l4, .int l5] [] h (qI P) := by
  refine m_iload dX11_linesBy_21 rfl ?_
  refine m_iconst (v := 3) dX11_linesBy_23 (by decide) ?_
  refine m_icmp_ge 56 dX11_linesBy_24 (by decide) (fun c1 => ?_) (fun c1 => ?_)
  · replace q := q.1 c1
    refine m_iload_n dX11_linesBy_56 rfl ?_
    refine m_iload dX11_linesBy_57 rfl ?_
    refine m_iconst (v := 2) dX11_linesBy_59 (by decide) ?_
    refine m_irem dX11_linesBy_60 (by decide) ?_
    refine m_aload_n dX11_linesBy_61 rfl ?_
    refine gf_X11_20 rfl dX11_linesBy_62 ?_
    refine m_bipush (v := 77) dX11_linesBy_65 (by decide) ?_
    refine m_iload_n dX11_linesBy_67 rfl ?_
    refine m_iadd dX11_linesBy_68 ?_
    obtain ⟨b2, q⟩ := q
    refine m_iaload dX11_linesBy_69 rfl (by decide) b2 ?_
    refine m_icmp_ne 79 dX11_linesBy_70 (by decide) (fun c3 => ?_) (fun c3 => ?_)
    · replace q := q.1 c3
      refine m_iconst (v := 0) dX11_linesBy_79 (by decide) ?_
      refine m_ior dX11_linesBy_80 ?_
      obtain ⟨x4, ex4⟩ : ∃ z, z = (l2 ||| 0) := ⟨_, rfl⟩
      rw [← ex4]
      replace q := q x4 ex4
      refine m_istore_n (lv' := [.ref 11, .int l1, .int x4, .int l3, .int l4, .int l5]) dX11_linesBy_81 (Nat.le_of_ble_eq_true rfl) rfl rfl ?_
      refine m_iinc (v := (l3 + 1)) (lv' := [.ref 11, .int l1, .int x4, .int (l3 + 1), .int l4, .int l5]) dX11_linesBy_82 (Nat.le_of_ble_eq_true rfl) rfl (congrArg (fun z => l3 + z) (by decide : Int32.ofInt 1 = 1)) rfl rfl ?_
      refine m_goto 4 dX11_linesBy_85 (by decide) ?_
      refine m_dropK (lv' := [.ref 11, .int l1, .int x4, .int (l3 + 1), .retAddr 0, .retAddr 0]) [4, 5] rfl ?_
      exact q
    · replace q := q.2 c3
      refine m_iconst (v := 1) dX11_linesBy_73 (by decide) ?_
      refine m_iload_n dX11_linesBy_74 rfl ?_
      refine m_ishl dX11_linesBy_75 ?_
      refine m_goto 80 dX11_linesBy_76 (by decide) ?_
      refine m_ior dX11_linesBy_80 ?_
      obtain ⟨x5, ex5⟩ : ∃ z, z = (l2 ||| (1 <<< (l3 &&& 31))) := ⟨_, rfl⟩
      rw [← ex5]
      replace q := q x5 ex5
      refine m_istore_n (lv' := [.ref 11, .int l1, .int x5, .int l3, .int l4, .int l5]) dX11_linesBy_81 (Nat.le_of_ble_eq_true rfl) rfl rfl ?_
      refine m_iinc (v := (l3 + 1)) (lv' := [.ref 11, .int l1, .int x5, .int (l3 + 1), .int l4, .int l5]) dX11_linesBy_82 (Nat.le_of_ble_eq_true rfl) rfl (congrArg (fun z => l3 + z) (by decide : Int32.ofInt 1 = 1)) rfl rfl ?_
      refine m_goto 4 dX11_linesBy_85 (by decide) ?_
      refine m_dropK (lv' := [.ref 11, .int l1, .int x5, .int (l3 + 1), .retAddr 0, .retAddr 0]) [4, 5] rfl ?_
      exact q
  · replace q := q.2 c1
    refine m_iload dX11_linesBy_27 rfl ?_
    refine m_iload_n dX11_linesBy_29 rfl ?_
    refine m_aload_n dX11_linesBy_30 rfl ?_
    refine gf_X11_20 rfl dX11_linesBy_31 ?_
    refine m_bipush (v := 53) dX11_linesBy_34 (by decide) ?_
    refine m_iconst (v := 3) dX11_linesBy_36 (by decide) ?_
    refine m_iload_n dX11_linesBy_37 rfl ?_
    refine m_imul dX11_linesBy_38 ?_
    refine m_iadd dX11_linesBy_39 ?_
    refine m_iload dX11_linesBy_40 rfl ?_
    refine m_iadd dX11_linesBy_42 ?_
    obtain ⟨b6, q⟩ := q
    refine m_iaload dX11_linesBy_43 rfl (by decide) b6 ?_
    refine m_ishr dX11_linesBy_44 ?_
    refine m_iconst (v := 1) dX11_linesBy_45 (by decide) ?_
    refine m_iand dX11_linesBy_46 ?_
    refine m_iadd dX11_linesBy_47 ?_
    obtain ⟨x7, ex7⟩ : ∃ z, z = (l4 + ((l1 >>> ((mI h 45 ((53 + (3 * l3)) + l5).toNatClampNeg) &&& 31)) &&& 1)) := ⟨_, rfl⟩
    rw [← ex7]
    replace q := q x7 ex7
    refine m_istore (lv' := [.ref 11, .int l1, .int l2, .int l3, .int x7, .int l5]) dX11_linesBy_48 (Nat.le_of_ble_eq_true rfl) rfl rfl ?_
    refine m_iinc (v := (l5 + 1)) (lv' := [.ref 11, .int l1, .int l2, .int l3, .int x7, .int (l5 + 1)]) dX11_linesBy_50 (Nat.le_of_ble_eq_true rfl) rfl (congrArg (fun z => l5 + z) (by decide : Int32.ofInt 1 = 1)) rfl rfl ?_
    refine m_goto 21 dX11_linesBy_53 (by decide) ?_
    exact q
set_option maxRecDepth 100000 in
theorem e_X11_allLines {g : gT} {h : mh_T} {P : Int32 → mh_T → Prop}  (q : P ((1 <<< ((mI h 45 (Int32.toNatClampNeg 52)) &&& 31)) - 1) h) : MCi g yX11_allLines uX11_allLines [.ref 11] h P := by
  refine m_enter (by decide) rfl (Nat.le_of_ble_eq_true rfl) (lv := [.ref 11]) rfl ?_
  refine m_iconst (v := 1) dX11_allLines_0 (by decide) ?_
  refine m_aload_n dX11_allLines_1 rfl ?_
  refine gf_X11_20 rfl dX11_allLines_2 ?_
  refine m_bipush (v := 52) dX11_allLines_5 (by decide) ?_
  refine m_iaload dX11_allLines_7 rfl (by decide) (by unfold vp_in; decide) ?_
  refine m_ishl dX11_allLines_8 ?_
  refine m_iconst (v := 1) dX11_allLines_9 (by decide) ?_
  refine m_isub dX11_allLines_10 ?_
  exact m_iret dX11_allLines_11 rfl q
set_option maxRecDepth 100000 in
theorem e_X11_ways {g : gT} {h : mh_T} {P : Int32 → mh_T → Prop}  (q : MCv g yX11_good uX11_good [.ref 11] h (fun h1 => (¬ (mI h1 11 14) = 0 → ME g uX11_ways 21 [.ref 11, .int 0, .int 0] [] h1 (qI P)) ∧ ((mI h1 11 14) = 0 → MCi g yX11_no uX11_no [.ref 11, .int 1] h1 (fun r4 h3 => P r4 h3)))) : MCi g yX11_ways uX11_ways [.ref 11] h P := by
  refine m_enter (by decide) rfl (Nat.le_of_ble_eq_true rfl) (lv := [.ref 11, .retAddr 0, .retAddr 0]) rfl ?_
  refine m_aload_n dX11_ways_0 rfl ?_
  refine cl_X11_174 rfl (by decide) dX11_ways_1 (Nat.le_of_ble_eq_true rfl) (MCv_go q (fun h1 q => ?_))
  refine m_aload_n dX11_ways_4 rfl ?_
  refine gf_X11_183 rfl dX11_ways_5 ?_
  refine m_if_ne 17 dX11_ways_8 (by decide) (fun c2 => ?_) (fun c2 => ?_)
  · replace q := q.1 c2
    refine m_iconst (v := 0) dX11_ways_17 (by decide) ?_
    refine m_istore_n (lv' := [.ref 11, .int 0, .retAddr 0]) dX11_ways_18 (Nat.le_of_ble_eq_true rfl) rfl rfl ?_
    refine m_iconst (v := 0) dX11_ways_19 (by decide) ?_
    refine m_istore_n (lv' := [.ref 11, .int 0, .int 0]) dX11_ways_20 (Nat.le_of_ble_eq_true rfl) rfl rfl ?_
    exact q
  · replace q := q.2 c2
    refine m_aload_n dX11_ways_11 rfl ?_
    refine m_iconst (v := 1) dX11_ways_12 (by decide) ?_
    refine cl_X11_177 rfl (by decide) dX11_ways_13 (Nat.le_of_ble_eq_true rfl) (MCi_go q (fun r4 h3 q => ?_))
    exact m_iret dX11_ways_16 rfl q
set_option maxRecDepth 100000 in
theorem r_X11_ways_21 {g : gT} {h : mh_T} {P : Int32 → mh_T → Prop} (l1 : Int32) (l2 : Int32) (q : ((1 <<< ((mI h 45 (Int32.toNatClampNeg 51)) &&& 31)) ≤ l2 → P l1 h) ∧ (¬ (1 <<< ((mI h 45 (Int32.toNatClampNeg 51)) &&& 31)) ≤ l2 → MCi g yX11_linesBy uX11_linesBy [.ref 11, .int l2] h (fun r3 h2 => MCi g yX11_allLines uX11_allLines [.ref 11] h2 (fun r5 h4 => (¬ r3 = r5 → ∀ x7 : Int32, x7 = (l1 + 0) → ME g uX11_ways 21 [.ref 11, .int x7, .int (l2 + 1)] [] h4 (qI P)) ∧ (r3 = r5 → ∀ x8 : Int32, x8 = (l1 + 1) → ME g uX11_ways 21 [.ref 11, .int x8, .int (l2 + 1)] [] h4 (qI P)))))) : ME g uX11_ways 21 [.ref 11, .int l1, .int l2] [] h (qI P) := by
  refine m_iload_n dX11_ways_21 rfl ?_
  refine m_iconst (v := 1) dX11_ways_22 (by decide) ?_
  refine m_aload_n dX11_ways_23 rfl ?_
  refine gf_X11_20 rfl dX11_ways_24 ?_
  refine m_bipush (v := 51) dX11_ways_27 (by decide) ?_
  refine m_iaload dX11_ways_29 rfl (by decide) (by unfold vp_in; decide) ?_
  refine m_ishl dX11_ways_30 ?_
  refine m_icmp_ge 60 dX11_ways_31 (by decide) (fun c1 => ?_) (fun c1 => ?_)
  · replace q := q.1 c1
    refine m_iload_n dX11_ways_60 rfl ?_
    exact m_iret dX11_ways_61 rfl q
  · replace q := q.2 c1
    refine m_iload_n dX11_ways_34 rfl ?_
    refine m_aload_n dX11_ways_35 rfl ?_
    refine m_iload_n dX11_ways_36 rfl ?_
    refine cl_X11_348 rfl (by decide) dX11_ways_37 (Nat.le_of_ble_eq_true rfl) (MCi_go q (fun r3 h2 q => ?_))
    refine m_aload_n dX11_ways_40 rfl ?_
    refine cl_X11_351 rfl (by decide) dX11_ways_41 (Nat.le_of_ble_eq_true rfl) (MCi_go q (fun r5 h4 q => ?_))
    refine m_icmp_ne 51 dX11_ways_44 (by decide) (fun c6 => ?_) (fun c6 => ?_)
    · replace q := q.1 c6
      refine m_iconst (v := 0) dX11_ways_51 (by decide) ?_
      refine m_iadd dX11_ways_52 ?_
      obtain ⟨x7, ex7⟩ : ∃ z, z = (l1 + 0) := ⟨_, rfl⟩
      rw [← ex7]
      replace q := q x7 ex7
      refine m_istore_n (lv' := [.ref 11, .int x7, .int l2]) dX11_ways_53 (Nat.le_of_ble_eq_true rfl) rfl rfl ?_
      refine m_iinc (v := (l2 + 1)) (lv' := [.ref 11, .int x7, .int (l2 + 1)]) dX11_ways_54 (Nat.le_of_ble_eq_true rfl) rfl (congrArg (fun z => l2 + z) (by decide : Int32.ofInt 1 = 1)) rfl rfl ?_
      refine m_goto 21 dX11_ways_57 (by decide) ?_
      exact q
    · replace q := q.2 c6
      refine m_iconst (v := 1) dX11_ways_47 (by decide) ?_
      refine m_goto 52 dX11_ways_48 (by decide) ?_
      refine m_iadd dX11_ways_52 ?_
      obtain ⟨x8, ex8⟩ : ∃ z, z = (l1 + 1) := ⟨_, rfl⟩
      rw [← ex8]
      replace q := q x8 ex8
      refine m_istore_n (lv' := [.ref 11, .int x8, .int l2]) dX11_ways_53 (Nat.le_of_ble_eq_true rfl) rfl rfl ?_
      refine m_iinc (v := (l2 + 1)) (lv' := [.ref 11, .int x8, .int (l2 + 1)]) dX11_ways_54 (Nat.le_of_ble_eq_true rfl) rfl (congrArg (fun z => l2 + z) (by decide : Int32.ofInt 1 = 1)) rfl rfl ?_
      refine m_goto 21 dX11_ways_57 (by decide) ?_
      exact q
set_option maxRecDepth 100000 in
theorem e_X11_forced {g : gT} {h : mh_T} {P : Int32 → mh_T → Prop} (l1 : Int32) (q : MCv g yX11_good uX11_good [.ref 11] h (fun h1 => ((mI h1 11 14) = 0 → MCi g yX11_no uX11_no [.ref 11, .int 1] h1 (fun r4 h3 => P r4 h3)) ∧ (¬ (mI h1 11 14) = 0 → MCi g yX11_within uX11_within [.int l1, .int 0, .int ((mI h1 45 (Int32.toNatClampNeg 51)) - 1)] h1 (fun r6 h5 => (¬ r6 = 0 → ME g uX11_forced 41 [.ref 11, .int l1, .int 0, .int 0, .int 0] [] h5 (qI P)) ∧ (r6 = 0 → MCi g yX11_no uX11_no [.ref 11, .int 1] h5 (fun r9 h8 => P r9 h8)))))) : MCi g yX11_forced uX11_forced [.ref 11, .int l1] h P := by
  refine m_enter (by decide) rfl (Nat.le_of_ble_eq_true rfl) (lv := [.ref 11, .int l1, .retAddr 0, .retAddr 0, .retAddr 0]) rfl ?_
  refine m_aload_n dX11_forced_0 rfl ?_
  refine cl_X11_174 rfl (by decide) dX11_forced_1 (Nat.le_of_ble_eq_true rfl) (MCv_go q (fun h1 q => ?_))
  refine m_aload_n dX11_forced_4 rfl ?_
  refine gf_X11_183 rfl dX11_forced_5 ?_
  refine m_if_eq 28 dX11_forced_8 (by decide) (fun c2 => ?_) (fun c2 => ?_)
  · replace q := q.1 c2
    refine m_aload_n dX11_forced_28 rfl ?_
    refine m_iconst (v := 1) dX11_forced_29 (by decide) ?_
    refine cl_X11_177 rfl (by decide) dX11_forced_30 (Nat.le_of_ble_eq_true rfl) (MCi_go q (fun r4 h3 q => ?_))
    exact m_iret dX11_forced_33 rfl q
  · replace q := q.2 c2
    refine m_iload_n dX11_forced_11 rfl ?_
    refine m_iconst (v := 0) dX11_forced_12 (by decide) ?_
    refine m_aload_n dX11_forced_13 rfl ?_
    refine gf_X11_20 rfl dX11_forced_14 ?_
    refine m_bipush (v := 51) dX11_forced_17 (by decide) ?_
    refine m_iaload dX11_forced_19 rfl (by decide) (by unfold vp_in; decide) ?_
    refine m_iconst (v := 1) dX11_forced_20 (by decide) ?_
    refine m_isub dX11_forced_21 ?_
    refine cl_X11_170 rfl (by decide) dX11_forced_22 (Nat.le_of_ble_eq_true rfl) (MCi_go q (fun r6 h5 q => ?_))
    refine m_if_ne 34 dX11_forced_25 (by decide) (fun c7 => ?_) (fun c7 => ?_)
    · replace q := q.1 c7
      refine m_iconst (v := 0) dX11_forced_34 (by decide) ?_
      refine m_istore_n (lv' := [.ref 11, .int l1, .int 0, .retAddr 0, .retAddr 0]) dX11_forced_35 (Nat.le_of_ble_eq_true rfl) rfl rfl ?_
      refine m_iconst (v := 0) dX11_forced_36 (by decide) ?_
      refine m_istore_n (lv' := [.ref 11, .int l1, .int 0, .int 0, .retAddr 0]) dX11_forced_37 (Nat.le_of_ble_eq_true rfl) rfl rfl ?_
      refine m_iconst (v := 0) dX11_forced_38 (by decide) ?_
      refine m_istore (lv' := [.ref 11, .int l1, .int 0, .int 0, .int 0]) dX11_forced_39 (Nat.le_of_ble_eq_true rfl) rfl rfl ?_
      exact q
    · replace q := q.2 c7
      refine m_aload_n dX11_forced_28 rfl ?_
      refine m_iconst (v := 1) dX11_forced_29 (by decide) ?_
      refine cl_X11_177 rfl (by decide) dX11_forced_30 (Nat.le_of_ble_eq_true rfl) (MCi_go q (fun r9 h8 q => ?_))
      exact m_iret dX11_forced_33 rfl q
set_option maxRecDepth 100000 in
theorem r_X11_forced_41 {g : gT} {h : mh_T} {P : Int32 → mh_T → Prop} (l1 : Int32) (l2 : Int32) (l3 : Int32) (l4 : Int32) (q : ((1 <<< ((mI h 45 (Int32.toNatClampNeg 51)) &&& 31)) ≤ l4 → (¬ (l2 + l3) = 0 → (¬ l2 = 0 → (¬ l3 = 0 → P (-2) h) ∧ (l3 = 0 → P 0 h)) ∧ (l2 = 0 → P 1 h)) ∧ ((l2 + l3) = 0 → MCi g yX11_no uX11_no [.ref 11, .int 6] h (fun r6 h5 => P r6 h5))) ∧ (¬ (1 <<< ((mI h 45 (Int32.toNatClampNeg 51)) &&& 31)) ≤ l4 → MCi g yX11_linesBy uX11_linesBy [.ref 11, .int l4] h (fun r8 h7 => MCi g yX11_allLines uX11_allLines [.ref 11] h7 (fun r10 h9 => (r8 = r10 → MCi g yX11_has uX11_has [.int l4, .int l1] h9 (fun r13 h12 => (r13 = 0 → ME g uX11_forced 41 [.ref 11, .int l1, .int (l2 + 1), .int l3, .int (l4 + 1)] [] h12 (qI P)) ∧ (¬ r13 = 0 → ME g uX11_forced 41 [.ref 11, .int l1, .int l2, .int (l3 + 1), .int (l4 + 1)] [] h12 (qI P)))) ∧ (¬ r8 = r10 → ME g uX11_forced 41 [.ref 11, .int l1, .int l2, .int l3, .int (l4 + 1)] [] h9 (qI P)))))) : ME g uX11_forced 41 [.ref 11, .int l1, .int l2, .int l3, .int l4] [] h (qI P) := by
  refine m_iload dX11_forced_41 rfl ?_
  refine m_iconst (v := 1) dX11_forced_43 (by decide) ?_
  refine m_aload_n dX11_forced_44 rfl ?_
  refine gf_X11_20 rfl dX11_forced_45 ?_
  refine m_bipush (v := 51) dX11_forced_48 (by decide) ?_
  refine m_iaload dX11_forced_50 rfl (by decide) (by unfold vp_in; decide) ?_
  refine m_ishl dX11_forced_51 ?_
  refine m_icmp_ge 95 dX11_forced_52 (by decide) (fun c1 => ?_) (fun c1 => ?_)
  · replace q := q.1 c1
    refine m_iload_n dX11_forced_95 rfl ?_
    refine m_iload_n dX11_forced_96 rfl ?_
    refine m_iadd dX11_forced_97 ?_
    refine m_if_ne 108 dX11_forced_98 (by decide) (fun c2 => ?_) (fun c2 => ?_)
    · replace q := q.1 c2
      refine m_iload_n dX11_forced_108 rfl ?_
      refine m_if_ne 116 dX11_forced_109 (by decide) (fun c3 => ?_) (fun c3 => ?_)
      · replace q := q.1 c3
        refine m_iload_n dX11_forced_116 rfl ?_
        refine m_if_ne 124 dX11_forced_117 (by decide) (fun c4 => ?_) (fun c4 => ?_)
        · replace q := q.1 c4
          refine m_bipush (v := (-2)) dX11_forced_124 (by decide) ?_
          exact m_iret dX11_forced_126 rfl q
        · replace q := q.2 c4
          refine m_iconst (v := 0) dX11_forced_120 (by decide) ?_
          refine m_goto 126 dX11_forced_121 (by decide) ?_
          exact m_iret dX11_forced_126 rfl q
      · replace q := q.2 c3
        refine m_iconst (v := 1) dX11_forced_112 (by decide) ?_
        refine m_goto 126 dX11_forced_113 (by decide) ?_
        exact m_iret dX11_forced_126 rfl q
    · replace q := q.2 c2
      refine m_aload_n dX11_forced_101 rfl ?_
      refine m_bipush (v := 6) dX11_forced_102 (by decide) ?_
      refine cl_X11_177 rfl (by decide) dX11_forced_104 (Nat.le_of_ble_eq_true rfl) (MCi_go q (fun r6 h5 q => ?_))
      exact m_iret dX11_forced_107 rfl q
  · replace q := q.2 c1
    refine m_aload_n dX11_forced_55 rfl ?_
    refine m_iload dX11_forced_56 rfl ?_
    refine cl_X11_348 rfl (by decide) dX11_forced_58 (Nat.le_of_ble_eq_true rfl) (MCi_go q (fun r8 h7 q => ?_))
    refine m_aload_n dX11_forced_61 rfl ?_
    refine cl_X11_351 rfl (by decide) dX11_forced_62 (Nat.le_of_ble_eq_true rfl) (MCi_go q (fun r10 h9 q => ?_))
    refine m_icmp_eq 71 dX11_forced_65 (by decide) (fun c11 => ?_) (fun c11 => ?_)
    · replace q := q.1 c11
      refine m_iload dX11_forced_71 rfl ?_
      refine m_iload_n dX11_forced_73 rfl ?_
      refine cl_X11_162 rfl (by decide) dX11_forced_74 (Nat.le_of_ble_eq_true rfl) (MCi_go q (fun r13 h12 q => ?_))
      refine m_if_eq 86 dX11_forced_77 (by decide) (fun c14 => ?_) (fun c14 => ?_)
      · replace q := q.1 c14
        refine m_iinc (v := (l2 + 1)) (lv' := [.ref 11, .int l1, .int (l2 + 1), .int l3, .int l4]) dX11_forced_86 (Nat.le_of_ble_eq_true rfl) rfl (congrArg (fun z => l2 + z) (by decide : Int32.ofInt 1 = 1)) rfl rfl ?_
        refine m_iinc (v := (l4 + 1)) (lv' := [.ref 11, .int l1, .int (l2 + 1), .int l3, .int (l4 + 1)]) dX11_forced_89 (Nat.le_of_ble_eq_true rfl) rfl (congrArg (fun z => l4 + z) (by decide : Int32.ofInt 1 = 1)) rfl rfl ?_
        refine m_goto 41 dX11_forced_92 (by decide) ?_
        exact q
      · replace q := q.2 c14
        refine m_iinc (v := (l3 + 1)) (lv' := [.ref 11, .int l1, .int l2, .int (l3 + 1), .int l4]) dX11_forced_80 (Nat.le_of_ble_eq_true rfl) rfl (congrArg (fun z => l3 + z) (by decide : Int32.ofInt 1 = 1)) rfl rfl ?_
        refine m_goto 89 dX11_forced_83 (by decide) ?_
        refine m_iinc (v := (l4 + 1)) (lv' := [.ref 11, .int l1, .int l2, .int (l3 + 1), .int (l4 + 1)]) dX11_forced_89 (Nat.le_of_ble_eq_true rfl) rfl (congrArg (fun z => l4 + z) (by decide : Int32.ofInt 1 = 1)) rfl rfl ?_
        refine m_goto 41 dX11_forced_92 (by decide) ?_
        exact q
    · replace q := q.2 c11
      refine m_goto 89 dX11_forced_68 (by decide) ?_
      refine m_iinc (v := (l4 + 1)) (lv' := [.ref 11, .int l1, .int l2, .int l3, .int (l4 + 1)]) dX11_forced_89 (Nat.le_of_ble_eq_true rfl) rfl (congrArg (fun z => l4 + z) (by decide : Int32.ofInt 1 = 1)) rfl rfl ?_
      refine m_goto 41 dX11_forced_92 (by decide) ?_
      exact q
set_option maxRecDepth 100000 in
theorem e_X11_canLines {g : gT} {h : mh_T} {P : Int32 → mh_T → Prop} (l1 : Int32) (q : ME g uX11_canLines 4 [.ref 11, .int l1, .int 0, .int 0] [] h (qI P)) : MCi g yX11_canLines uX11_canLines [.ref 11, .int l1] h P := by
  refine m_enter (by decide) rfl (Nat.le_of_ble_eq_true rfl) (lv := [.ref 11, .int l1, .retAddr 0, .retAddr 0]) rfl ?_
  refine m_iconst (v := 0) dX11_canLines_0 (by decide) ?_
  refine m_istore_n (lv' := [.ref 11, .int l1, .int 0, .retAddr 0]) dX11_canLines_1 (Nat.le_of_ble_eq_true rfl) rfl rfl ?_
  refine m_iconst (v := 0) dX11_canLines_2 (by decide) ?_
  refine m_istore_n (lv' := [.ref 11, .int l1, .int 0, .int 0]) dX11_canLines_3 (Nat.le_of_ble_eq_true rfl) rfl rfl ?_
  exact q
set_option maxRecDepth 100000 in
theorem r_X11_canLines_4 {g : gT} {h : mh_T} {P : Int32 → mh_T → Prop} (l1 : Int32) (l2 : Int32) (l3 : Int32) (q : ((1 <<< ((mI h 45 (Int32.toNatClampNeg 51)) &&& 31)) ≤ l3 → (l2 = 0 ∨ l2 = 1) ∧ P l2 h) ∧ (¬ (1 <<< ((mI h 45 (Int32.toNatClampNeg 51)) &&& 31)) ≤ l3 → (¬ l2 = 0 → (l2 = 0 ∨ l2 = 1) ∧ P l2 h) ∧ (l2 = 0 → MCi g yX11_linesBy uX11_linesBy [.ref 11, .int l3] h (fun r4 h3 => (¬ (l1 &&& (r4 ^^^ (-1))) = 0 → ME g uX11_canLines 4 [.ref 11, .int l1, .int 0, .int (l3 + 1)] [] h3 (qI P)) ∧ ((l1 &&& (r4 ^^^ (-1))) = 0 → ME g uX11_canLines 4 [.ref 11, .int l1, .int 1, .int (l3 + 1)] [] h3 (qI P)))))) : ME g uX11_canLines 4 [.ref 11, .int l1, .int l2, .int l3] [] h (qI P) := by
  refine m_iload_n dX11_canLines_4 rfl ?_
  refine m_iconst (v := 1) dX11_canLines_5 (by decide) ?_
  refine m_aload_n dX11_canLines_6 rfl ?_
  refine gf_X11_20 rfl dX11_canLines_7 ?_
  refine m_bipush (v := 51) dX11_canLines_10 (by decide) ?_
  refine m_iaload dX11_canLines_12 rfl (by decide) (by unfold vp_in; decide) ?_
  refine m_ishl dX11_canLines_13 ?_
  refine m_icmp_ge 45 dX11_canLines_14 (by decide) (fun c1 => ?_) (fun c1 => ?_)
  · replace q := q.1 c1
    refine m_iload_n dX11_canLines_45 rfl ?_
    exact m_zret dX11_canLines_46 rfl q.1 q.2
  · replace q := q.2 c1
    refine m_iload_n dX11_canLines_17 rfl ?_
    refine m_if_ne 45 dX11_canLines_18 (by decide) (fun c2 => ?_) (fun c2 => ?_)
    · replace q := q.1 c2
      refine m_iload_n dX11_canLines_45 rfl ?_
      exact m_zret dX11_canLines_46 rfl q.1 q.2
    · replace q := q.2 c2
      refine m_iload_n dX11_canLines_21 rfl ?_
      refine m_aload_n dX11_canLines_22 rfl ?_
      refine m_iload_n dX11_canLines_23 rfl ?_
      refine cl_X11_348 rfl (by decide) dX11_canLines_24 (Nat.le_of_ble_eq_true rfl) (MCi_go q (fun r4 h3 q => ?_))
      refine m_iconst (v := (-1)) dX11_canLines_27 (by decide) ?_
      refine m_ixor dX11_canLines_28 ?_
      refine m_iand dX11_canLines_29 ?_
      refine m_if_ne 37 dX11_canLines_30 (by decide) (fun c5 => ?_) (fun c5 => ?_)
      · replace q := q.1 c5
        refine m_iconst (v := 0) dX11_canLines_37 (by decide) ?_
        refine m_istore_n (lv' := [.ref 11, .int l1, .int 0, .int l3]) dX11_canLines_38 (Nat.le_of_ble_eq_true rfl) rfl rfl ?_
        refine m_iinc (v := (l3 + 1)) (lv' := [.ref 11, .int l1, .int 0, .int (l3 + 1)]) dX11_canLines_39 (Nat.le_of_ble_eq_true rfl) rfl (congrArg (fun z => l3 + z) (by decide : Int32.ofInt 1 = 1)) rfl rfl ?_
        refine m_goto 4 dX11_canLines_42 (by decide) ?_
        exact q
      · replace q := q.2 c5
        refine m_iconst (v := 1) dX11_canLines_33 (by decide) ?_
        refine m_goto 38 dX11_canLines_34 (by decide) ?_
        refine m_istore_n (lv' := [.ref 11, .int l1, .int 1, .int l3]) dX11_canLines_38 (Nat.le_of_ble_eq_true rfl) rfl rfl ?_
        refine m_iinc (v := (l3 + 1)) (lv' := [.ref 11, .int l1, .int 1, .int (l3 + 1)]) dX11_canLines_39 (Nat.le_of_ble_eq_true rfl) rfl (congrArg (fun z => l3 + z) (by decide : Int32.ofInt 1 = 1)) rfl rfl ?_
        refine m_goto 4 dX11_canLines_42 (by decide) ?_
        exact q
set_option maxRecDepth 100000 in
theorem e_X11_core {g : gT} {h : mh_T} {P : Int32 → mh_T → Prop}  (q : MCv g yX11_good uX11_good [.ref 11] h (fun h1 => (¬ (mI h1 11 14) = 0 → ME g uX11_core 22 [.ref 11, .int (-2), .int 0] [] h1 (qI P)) ∧ ((mI h1 11 14) = 0 → MCi g yX11_no uX11_no [.ref 11, .int 1] h1 (fun r4 h3 => P r4 h3)))) : MCi g yX11_core uX11_core [.ref 11] h P := by
  refine m_enter (by decide) rfl (Nat.le_of_ble_eq_true rfl) (lv := [.ref 11, .retAddr 0, .retAddr 0]) rfl ?_
  refine m_aload_n dX11_core_0 rfl ?_
  refine cl_X11_174 rfl (by decide) dX11_core_1 (Nat.le_of_ble_eq_true rfl) (MCv_go q (fun h1 q => ?_))
  refine m_aload_n dX11_core_4 rfl ?_
  refine gf_X11_183 rfl dX11_core_5 ?_
  refine m_if_ne 17 dX11_core_8 (by decide) (fun c2 => ?_) (fun c2 => ?_)
  · replace q := q.1 c2
    refine m_bipush (v := (-2)) dX11_core_17 (by decide) ?_
    refine m_istore_n (lv' := [.ref 11, .int (-2), .retAddr 0]) dX11_core_19 (Nat.le_of_ble_eq_true rfl) rfl rfl ?_
    refine m_iconst (v := 0) dX11_core_20 (by decide) ?_
    refine m_istore_n (lv' := [.ref 11, .int (-2), .int 0]) dX11_core_21 (Nat.le_of_ble_eq_true rfl) rfl rfl ?_
    exact q
  · replace q := q.2 c2
    refine m_aload_n dX11_core_11 rfl ?_
    refine m_iconst (v := 1) dX11_core_12 (by decide) ?_
    refine cl_X11_177 rfl (by decide) dX11_core_13 (Nat.le_of_ble_eq_true rfl) (MCi_go q (fun r4 h3 q => ?_))
    exact m_iret dX11_core_16 rfl q
set_option maxRecDepth 100000 in
theorem r_X11_core_22 {g : gT} {h : mh_T} {P : Int32 → mh_T → Prop} (l1 : Int32) (l2 : Int32) (q : MCi g yX11_allLines uX11_allLines [.ref 11] h (fun r2 h1 => (r2 < l2 → P l1 h1) ∧ (¬ r2 < l2 → (l1 = (-2) → MCi g yX11_canLines uX11_canLines [.ref 11, .int l2] h1 (fun r6 h5 => (¬ r6 = 0 → ME g uX11_core 22 [.ref 11, .int l1, .int (l2 + 1)] [] h5 (qI P)) ∧ (r6 = 0 → ME g uX11_core 22 [.ref 11, .int l2, .int (l2 + 1)] [] h5 (qI P)))) ∧ (¬ l1 = (-2) → MCi g yX11_bits uX11_bits [.int l2] h1 (fun r9 h8 => MCi g yX11_bits uX11_bits [.int l1] h8 (fun r11 h10 => (r11 ≤ r9 → ME g uX11_core 22 [.ref 11, .int l1, .int (l2 + 1)] [] h10 (qI P)) ∧ (¬ r11 ≤ r9 → MCi g yX11_canLines uX11_canLines [.ref 11, .int l2] h10 (fun r14 h13 => (¬ r14 = 0 → ME g uX11_core 22 [.ref 11, .int l1, .int (l2 + 1)] [] h13 (qI P)) ∧ (r14 = 0 → ME g uX11_core 22 [.ref 11, .int l2, .int (l2 + 1)] [] h13 (qI P)))))))))) : ME g uX11_core 22 [.ref 11, .int l1, .int l2] [] h (qI P) := by
  refine m_iload_n dX11_core_22 rfl ?_
  refine m_aload_n dX11_core_23 rfl ?_
  refine cl_X11_351 rfl (by decide) dX11_core_24 (Nat.le_of_ble_eq_true rfl) (MCi_go q (fun r2 h1 q => ?_))
  refine m_icmp_gt 63 dX11_core_27 (by decide) (fun c3 => ?_) (fun c3 => ?_)
  · replace q := q.1 c3
    refine m_iload_n dX11_core_63 rfl ?_
    exact m_iret dX11_core_64 rfl q
  · replace q := q.2 c3
    refine m_iload_n dX11_core_30 rfl ?_
    refine m_bipush (v := (-2)) dX11_core_31 (by decide) ?_
    refine m_icmp_eq 47 dX11_core_33 (by decide) (fun c4 => ?_) (fun c4 => ?_)
    · replace q := q.1 c4
      refine m_aload_n dX11_core_47 rfl ?_
      refine m_iload_n dX11_core_48 rfl ?_
      refine cl_X11_354 rfl (by decide) dX11_core_49 (Nat.le_of_ble_eq_true rfl) (MCi_go q (fun r6 h5 q => ?_))
      refine m_if_ne 57 dX11_core_52 (by decide) (fun c7 => ?_) (fun c7 => ?_)
      · replace q := q.1 c7
        refine m_iinc (v := (l2 + 1)) (lv' := [.ref 11, .int l1, .int (l2 + 1)]) dX11_core_57 (Nat.le_of_ble_eq_true rfl) rfl (congrArg (fun z => l2 + z) (by decide : Int32.ofInt 1 = 1)) rfl rfl ?_
        refine m_goto 22 dX11_core_60 (by decide) ?_
        exact q
      · replace q := q.2 c7
        refine m_iload_n dX11_core_55 rfl ?_
        refine m_istore_n (lv' := [.ref 11, .int l2, .int l2]) dX11_core_56 (Nat.le_of_ble_eq_true rfl) rfl rfl ?_
        refine m_iinc (v := (l2 + 1)) (lv' := [.ref 11, .int l2, .int (l2 + 1)]) dX11_core_57 (Nat.le_of_ble_eq_true rfl) rfl (congrArg (fun z => l2 + z) (by decide : Int32.ofInt 1 = 1)) rfl rfl ?_
        refine m_goto 22 dX11_core_60 (by decide) ?_
        exact q
    · replace q := q.2 c4
      refine m_iload_n dX11_core_36 rfl ?_
      refine cl_X11_323 rfl (by decide) dX11_core_37 (Nat.le_of_ble_eq_true rfl) (MCi_go q (fun r9 h8 q => ?_))
      refine m_iload_n dX11_core_40 rfl ?_
      refine cl_X11_323 rfl (by decide) dX11_core_41 (Nat.le_of_ble_eq_true rfl) (MCi_go q (fun r11 h10 q => ?_))
      refine m_icmp_ge 57 dX11_core_44 (by decide) (fun c12 => ?_) (fun c12 => ?_)
      · replace q := q.1 c12
        refine m_iinc (v := (l2 + 1)) (lv' := [.ref 11, .int l1, .int (l2 + 1)]) dX11_core_57 (Nat.le_of_ble_eq_true rfl) rfl (congrArg (fun z => l2 + z) (by decide : Int32.ofInt 1 = 1)) rfl rfl ?_
        refine m_goto 22 dX11_core_60 (by decide) ?_
        exact q
      · replace q := q.2 c12
        refine m_aload_n dX11_core_47 rfl ?_
        refine m_iload_n dX11_core_48 rfl ?_
        refine cl_X11_354 rfl (by decide) dX11_core_49 (Nat.le_of_ble_eq_true rfl) (MCi_go q (fun r14 h13 q => ?_))
        refine m_if_ne 57 dX11_core_52 (by decide) (fun c15 => ?_) (fun c15 => ?_)
        · replace q := q.1 c15
          refine m_iinc (v := (l2 + 1)) (lv' := [.ref 11, .int l1, .int (l2 + 1)]) dX11_core_57 (Nat.le_of_ble_eq_true rfl) rfl (congrArg (fun z => l2 + z) (by decide : Int32.ofInt 1 = 1)) rfl rfl ?_
          refine m_goto 22 dX11_core_60 (by decide) ?_
          exact q
        · replace q := q.2 c15
          refine m_iload_n dX11_core_55 rfl ?_
          refine m_istore_n (lv' := [.ref 11, .int l2, .int l2]) dX11_core_56 (Nat.le_of_ble_eq_true rfl) rfl rfl ?_
          refine m_iinc (v := (l2 + 1)) (lv' := [.ref 11, .int l2, .int (l2 + 1)]) dX11_core_57 (Nat.le_of_ble_eq_true rfl) rfl (congrArg (fun z => l2 + z) (by decide : Int32.ofInt 1 = 1)) rfl rfl ?_
          refine m_goto 22 dX11_core_60 (by decide) ?_
          exact q
set_option maxRecDepth 100000 in
theorem e_X11_can {g : gT} {h : mh_T} {P : Int32 → mh_T → Prop} (l1 : Int32) (q : MCv g yX11_good uX11_good [.ref 11] h (fun h1 => (¬ (mI h1 11 14) = 0 → MCi g yX11_allLines uX11_allLines [.ref 11] h1 (fun r4 h3 => MCi g yX11_within uX11_within [.int l1, .int 0, .int r4] h3 (fun r6 h5 => (r6 = 0 → MCi g yX11_no uX11_no [.ref 11, .int 2] h5 (fun r9 h8 => P r9 h8)) ∧ (¬ r6 = 0 → MCi g yX11_canLines uX11_canLines [.ref 11, .int l1] h5 (fun r11 h10 => (r11 = 0 → P 0 h10) ∧ (¬ r11 = 0 → P 1 h10)))))) ∧ ((mI h1 11 14) = 0 → MCi g yX11_no uX11_no [.ref 11, .int 1] h1 (fun r14 h13 => P r14 h13)))) : MCi g yX11_can uX11_can [.ref 11, .int l1] h P := by
  refine m_enter (by decide) rfl (Nat.le_of_ble_eq_true rfl) (lv := [.ref 11, .int l1]) rfl ?_
  refine m_aload_n dX11_can_0 rfl ?_
  refine cl_X11_174 rfl (by decide) dX11_can_1 (Nat.le_of_ble_eq_true rfl) (MCv_go q (fun h1 q => ?_))
  refine m_aload_n dX11_can_4 rfl ?_
  refine gf_X11_183 rfl dX11_can_5 ?_
  refine m_if_ne 17 dX11_can_8 (by decide) (fun c2 => ?_) (fun c2 => ?_)
  · replace q := q.1 c2
    refine m_iload_n dX11_can_17 rfl ?_
    refine m_iconst (v := 0) dX11_can_18 (by decide) ?_
    refine m_aload_n dX11_can_19 rfl ?_
    refine cl_X11_351 rfl (by decide) dX11_can_20 (Nat.le_of_ble_eq_true rfl) (MCi_go q (fun r4 h3 q => ?_))
    refine cl_X11_170 rfl (by decide) dX11_can_23 (Nat.le_of_ble_eq_true rfl) (MCi_go q (fun r6 h5 q => ?_))
    refine m_if_eq 45 dX11_can_26 (by decide) (fun c7 => ?_) (fun c7 => ?_)
    · replace q := q.1 c7
      refine m_aload_n dX11_can_45 rfl ?_
      refine m_iconst (v := 2) dX11_can_46 (by decide) ?_
      refine cl_X11_177 rfl (by decide) dX11_can_47 (Nat.le_of_ble_eq_true rfl) (MCi_go q (fun r9 h8 q => ?_))
      exact m_iret dX11_can_50 rfl q
    · replace q := q.2 c7
      refine m_aload_n dX11_can_29 rfl ?_
      refine m_iload_n dX11_can_30 rfl ?_
      refine cl_X11_354 rfl (by decide) dX11_can_31 (Nat.le_of_ble_eq_true rfl) (MCi_go q (fun r11 h10 q => ?_))
      refine m_if_eq 41 dX11_can_34 (by decide) (fun c12 => ?_) (fun c12 => ?_)
      · replace q := q.1 c12
        refine m_iconst (v := 0) dX11_can_41 (by decide) ?_
        refine m_goto 50 dX11_can_42 (by decide) ?_
        exact m_iret dX11_can_50 rfl q
      · replace q := q.2 c12
        refine m_iconst (v := 1) dX11_can_37 (by decide) ?_
        refine m_goto 50 dX11_can_38 (by decide) ?_
        exact m_iret dX11_can_50 rfl q
  · replace q := q.2 c2
    refine m_aload_n dX11_can_11 rfl ?_
    refine m_iconst (v := 1) dX11_can_12 (by decide) ?_
    refine cl_X11_177 rfl (by decide) dX11_can_13 (Nat.le_of_ble_eq_true rfl) (MCi_go q (fun r14 h13 q => ?_))
    exact m_iret dX11_can_16 rfl q
set_option maxRecDepth 100000 in
theorem e_X11_game {g : gT} {h : mh_T} {P : Int32 → mh_T → Prop}  (q : MCv g yX11_good uX11_good [.ref 11] h (fun h1 => (¬ (mI h1 11 14) = 0 → ME g uX11_game 21 [.ref 11, .int 0, .int 0] [] h1 (qI P)) ∧ ((mI h1 11 14) = 0 → MCi g yX11_no uX11_no [.ref 11, .int 1] h1 (fun r4 h3 => P r4 h3)))) : MCi g yX11_game uX11_game [.ref 11] h P := by
  refine m_enter (by decide) rfl (Nat.le_of_ble_eq_true rfl) (lv := [.ref 11, .retAddr 0, .retAddr 0]) rfl ?_
  refine m_aload_n dX11_game_0 rfl ?_
  refine cl_X11_174 rfl (by decide) dX11_game_1 (Nat.le_of_ble_eq_true rfl) (MCv_go q (fun h1 q => ?_))
  refine m_aload_n dX11_game_4 rfl ?_
  refine gf_X11_183 rfl dX11_game_5 ?_
  refine m_if_ne 17 dX11_game_8 (by decide) (fun c2 => ?_) (fun c2 => ?_)
  · replace q := q.1 c2
    refine m_iconst (v := 0) dX11_game_17 (by decide) ?_
    refine m_istore_n (lv' := [.ref 11, .int 0, .retAddr 0]) dX11_game_18 (Nat.le_of_ble_eq_true rfl) rfl rfl ?_
    refine m_iconst (v := 0) dX11_game_19 (by decide) ?_
    refine m_istore_n (lv' := [.ref 11, .int 0, .int 0]) dX11_game_20 (Nat.le_of_ble_eq_true rfl) rfl rfl ?_
    exact q
  · replace q := q.2 c2
    refine m_aload_n dX11_game_11 rfl ?_
    refine m_iconst (v := 1) dX11_game_12 (by decide) ?_
    refine cl_X11_177 rfl (by decide) dX11_game_13 (Nat.le_of_ble_eq_true rfl) (MCi_go q (fun r4 h3 q => ?_))
    exact m_iret dX11_game_16 rfl q
set_option maxRecDepth 100000 in
theorem r_X11_game_21 {g : gT} {h : mh_T} {P : Int32 → mh_T → Prop} (l1 : Int32) (l2 : Int32) (q : ((1 <<< ((mI h 45 (Int32.toNatClampNeg 51)) &&& 31)) ≤ l2 → P l1 h) ∧ (¬ (1 <<< ((mI h 45 (Int32.toNatClampNeg 51)) &&& 31)) ≤ l2 → MCi g yX11_linesBy uX11_linesBy [.ref 11, .int l2] h (fun r3 h2 => MCi g yX11_bits uX11_bits [.int r3] h2 (fun r5 h4 => (r5 ≤ l1 → ME g uX11_game 21 [.ref 11, .int l1, .int (l2 + 1)] [] h4 (qI P)) ∧ (¬ r5 ≤ l1 → MCi g yX11_linesBy uX11_linesBy [.ref 11, .int l2] h4 (fun r8 h7 => MCi g yX11_bits uX11_bits [.int r8] h7 (fun r10 h9 => ME g uX11_game 21 [.ref 11, .int r10, .int (l2 + 1)] [] h9 (qI P)))))))) : ME g uX11_game 21 [.ref 11, .int l1, .int l2] [] h (qI P) := by
  refine m_iload_n dX11_game_21 rfl ?_
  refine m_iconst (v := 1) dX11_game_22 (by decide) ?_
  refine m_aload_n dX11_game_23 rfl ?_
  refine gf_X11_20 rfl dX11_game_24 ?_
  refine m_bipush (v := 51) dX11_game_27 (by decide) ?_
  refine m_iaload dX11_game_29 rfl (by decide) (by unfold vp_in; decide) ?_
  refine m_ishl dX11_game_30 ?_
  refine m_icmp_ge 65 dX11_game_31 (by decide) (fun c1 => ?_) (fun c1 => ?_)
  · replace q := q.1 c1
    refine m_iload_n dX11_game_65 rfl ?_
    exact m_iret dX11_game_66 rfl q
  · replace q := q.2 c1
    refine m_aload_n dX11_game_34 rfl ?_
    refine m_iload_n dX11_game_35 rfl ?_
    refine cl_X11_348 rfl (by decide) dX11_game_36 (Nat.le_of_ble_eq_true rfl) (MCi_go q (fun r3 h2 q => ?_))
    refine cl_X11_323 rfl (by decide) dX11_game_39 (Nat.le_of_ble_eq_true rfl) (MCi_go q (fun r5 h4 q => ?_))
    refine m_iload_n dX11_game_42 rfl ?_
    refine m_icmp_le 57 dX11_game_43 (by decide) (fun c6 => ?_) (fun c6 => ?_)
    · replace q := q.1 c6
      refine m_iload_n dX11_game_57 rfl ?_
      refine m_istore_n (lv' := [.ref 11, .int l1, .int l2]) dX11_game_58 (Nat.le_of_ble_eq_true rfl) rfl rfl ?_
      refine m_iinc (v := (l2 + 1)) (lv' := [.ref 11, .int l1, .int (l2 + 1)]) dX11_game_59 (Nat.le_of_ble_eq_true rfl) rfl (congrArg (fun z => l2 + z) (by decide : Int32.ofInt 1 = 1)) rfl rfl ?_
      refine m_goto 21 dX11_game_62 (by decide) ?_
      exact q
    · replace q := q.2 c6
      refine m_aload_n dX11_game_46 rfl ?_
      refine m_iload_n dX11_game_47 rfl ?_
      refine cl_X11_348 rfl (by decide) dX11_game_48 (Nat.le_of_ble_eq_true rfl) (MCi_go q (fun r8 h7 q => ?_))
      refine cl_X11_323 rfl (by decide) dX11_game_51 (Nat.le_of_ble_eq_true rfl) (MCi_go q (fun r10 h9 q => ?_))
      refine m_goto 58 dX11_game_54 (by decide) ?_
      refine m_istore_n (lv' := [.ref 11, .int r10, .int l2]) dX11_game_58 (Nat.le_of_ble_eq_true rfl) rfl rfl ?_
      refine m_iinc (v := (l2 + 1)) (lv' := [.ref 11, .int r10, .int (l2 + 1)]) dX11_game_59 (Nat.le_of_ble_eq_true rfl) rfl (congrArg (fun z => l2 + z) (by decide : Int32.ofInt 1 = 1)) rfl rfl ?_
      refine m_goto 21 dX11_game_62 (by decide) ?_
      exact q
set_option maxRecDepth 100000 in
theorem e_X11_areSquare {g : gT} {h : mh_T} {P : Int32 → mh_T → Prop} (l1 : Int32) (l2 : Int32) (q : ME g uX11_areSquare 5 [.ref 11, .int l1, .int l2, .int 0, .int 0] [] h (qI P)) : MCi g yX11_areSquare uX11_areSquare [.ref 11, .int l1, .int l2] h P := by
  refine m_enter (by decide) rfl (Nat.le_of_ble_eq_true rfl) (lv := [.ref 11, .int l1, .int l2, .retAddr 0, .retAddr 0]) rfl ?_
  refine m_iconst (v := 0) dX11_areSquare_0 (by decide) ?_
  refine m_istore_n (lv' := [.ref 11, .int l1, .int l2, .int 0, .retAddr 0]) dX11_areSquare_1 (Nat.le_of_ble_eq_true rfl) rfl rfl ?_
  refine m_iconst (v := 0) dX11_areSquare_2 (by decide) ?_
  refine m_istore (lv' := [.ref 11, .int l1, .int l2, .int 0, .int 0]) dX11_areSquare_3 (Nat.le_of_ble_eq_true rfl) rfl rfl ?_
  exact q
set_option maxRecDepth 100000 in
theorem r_X11_areSquare_5 {g : gT} {h : mh_T} {P : Int32 → mh_T → Prop} (l1 : Int32) (l2 : Int32) (l3 : Int32) (l4 : Int32) (q : (4 ≤ l4 → (¬ l3 = 0 → P 0 h) ∧ (l3 = 0 → P 1 h)) ∧ (¬ 4 ≤ l4 → (vp_in ((86 + (4 * l1)) + l4) 346) ∧ ((vp_in ((86 + (4 * l2)) + l4) 346) ∧ (∀ x5 : Int32, x5 = (l3 + ((mI h 45 ((86 + (4 * l1)) + l4).toNatClampNeg) * (mI h 45 ((86 + (4 * l2)) + l4).toNatClampNeg))) → ME g uX11_areSquare 5 [.ref 11, .int l1, .int l2, .int x5, .int (l4 + 1)] [] h (qI P))))) : ME g uX11_areSquare 5 [.ref 11, .int l1, .int l2, .int l3, .int l4] [] h (qI P) := by
  refine m_iload dX11_areSquare_5 rfl ?_
  refine m_iconst (v := 4) dX11_areSquare_7 (by decide) ?_
  refine m_icmp_ge 49 dX11_areSquare_8 (by decide) (fun c1 => ?_) (fun c1 => ?_)
  · replace q := q.1 c1
    refine m_iload_n dX11_areSquare_49 rfl ?_
    refine m_if_ne 57 dX11_areSquare_50 (by decide) (fun c2 => ?_) (fun c2 => ?_)
    · replace q := q.1 c2
      refine m_iconst (v := 0) dX11_areSquare_57 (by decide) ?_
      exact m_zret dX11_areSquare_58 rfl (by decide) q
    · replace q := q.2 c2
      refine m_iconst (v := 1) dX11_areSquare_53 (by decide) ?_
      refine m_goto 58 dX11_areSquare_54 (by decide) ?_
      exact m_zret dX11_areSquare_58 rfl (by decide) q
  · replace q := q.2 c1
    refine m_iload_n dX11_areSquare_11 rfl ?_
    refine m_aload_n dX11_areSquare_12 rfl ?_
    refine gf_X11_20 rfl dX11_areSquare_13 ?_
    refine m_bipush (v := 86) dX11_areSquare_16 (by decide) ?_
    refine m_iconst (v := 4) dX11_areSquare_18 (by decide) ?_
    refine m_iload_n dX11_areSquare_19 rfl ?_
    refine m_imul dX11_areSquare_20 ?_
    refine m_iadd dX11_areSquare_21 ?_
    refine m_iload dX11_areSquare_22 rfl ?_
    refine m_iadd dX11_areSquare_24 ?_
    obtain ⟨b3, q⟩ := q
    refine m_iaload dX11_areSquare_25 rfl (by decide) b3 ?_
    refine m_aload_n dX11_areSquare_26 rfl ?_
    refine gf_X11_20 rfl dX11_areSquare_27 ?_
    refine m_bipush (v := 86) dX11_areSquare_30 (by decide) ?_
    refine m_iconst (v := 4) dX11_areSquare_32 (by decide) ?_
    refine m_iload_n dX11_areSquare_33 rfl ?_
    refine m_imul dX11_areSquare_34 ?_
    refine m_iadd dX11_areSquare_35 ?_
    refine m_iload dX11_areSquare_36 rfl ?_
    refine m_iadd dX11_areSquare_38 ?_
    obtain ⟨b4, q⟩ := q
    refine m_iaload dX11_areSquare_39 rfl (by decide) b4 ?_
    refine m_imul dX11_areSquare_40 ?_
    refine m_iadd dX11_areSquare_41 ?_
    obtain ⟨x5, ex5⟩ : ∃ z, z = (l3 + ((mI h 45 ((86 + (4 * l1)) + l4).toNatClampNeg) * (mI h 45 ((86 + (4 * l2)) + l4).toNatClampNeg))) := ⟨_, rfl⟩
    rw [← ex5]
    replace q := q x5 ex5
    refine m_istore_n (lv' := [.ref 11, .int l1, .int l2, .int x5, .int l4]) dX11_areSquare_42 (Nat.le_of_ble_eq_true rfl) rfl rfl ?_
    refine m_iinc (v := (l4 + 1)) (lv' := [.ref 11, .int l1, .int l2, .int x5, .int (l4 + 1)]) dX11_areSquare_43 (Nat.le_of_ble_eq_true rfl) rfl (congrArg (fun z => l4 + z) (by decide : Int32.ofInt 1 = 1)) rfl rfl ?_
    refine m_goto 5 dX11_areSquare_46 (by decide) ?_
    exact q
set_option maxRecDepth 100000 in
theorem e_X11_isRay {g : gT} {h : mh_T} {P : Int32 → mh_T → Prop} (l1 : Int32) (q : ((mI h 11 14) = 0 → P 0 h) ∧ (¬ (mI h 11 14) = 0 → MCi g yX11_within uX11_within [.int l1, .int 0, .int ((mI h 45 (Int32.toNatClampNeg 85)) - 1)] h (fun r3 h2 => (r3 = 0 → P 0 h2) ∧ (¬ r3 = 0 → P 1 h2)))) : MCi g yX11_isRay uX11_isRay [.ref 11, .int l1] h P := by
  refine m_enter (by decide) rfl (Nat.le_of_ble_eq_true rfl) (lv := [.ref 11, .int l1]) rfl ?_
  refine m_aload_n dX11_isRay_0 rfl ?_
  refine gf_X11_183 rfl dX11_isRay_1 ?_
  refine m_if_eq 28 dX11_isRay_4 (by decide) (fun c1 => ?_) (fun c1 => ?_)
  · replace q := q.1 c1
    refine m_iconst (v := 0) dX11_isRay_28 (by decide) ?_
    exact m_zret dX11_isRay_29 rfl (by decide) q
  · replace q := q.2 c1
    refine m_iload_n dX11_isRay_7 rfl ?_
    refine m_iconst (v := 0) dX11_isRay_8 (by decide) ?_
    refine m_aload_n dX11_isRay_9 rfl ?_
    refine gf_X11_20 rfl dX11_isRay_10 ?_
    refine m_bipush (v := 85) dX11_isRay_13 (by decide) ?_
    refine m_iaload dX11_isRay_15 rfl (by decide) (by unfold vp_in; decide) ?_
    refine m_iconst (v := 1) dX11_isRay_16 (by decide) ?_
    refine m_isub dX11_isRay_17 ?_
    refine cl_X11_170 rfl (by decide) dX11_isRay_18 (Nat.le_of_ble_eq_true rfl) (MCi_go q (fun r3 h2 q => ?_))
    refine m_if_eq 28 dX11_isRay_21 (by decide) (fun c4 => ?_) (fun c4 => ?_)
    · replace q := q.1 c4
      refine m_iconst (v := 0) dX11_isRay_28 (by decide) ?_
      exact m_zret dX11_isRay_29 rfl (by decide) q
    · replace q := q.2 c4
      refine m_iconst (v := 1) dX11_isRay_24 (by decide) ?_
      refine m_goto 29 dX11_isRay_25 (by decide) ?_
      exact m_zret dX11_isRay_29 rfl (by decide) q
set_option maxRecDepth 100000 in
theorem e_X11_square {g : gT} {h : mh_T} {P : Int32 → mh_T → Prop} (l1 : Int32) (l2 : Int32) (q : MCv g yX11_good uX11_good [.ref 11] h (fun h1 => MCi g yX11_isRay uX11_isRay [.ref 11, .int l1] h1 (fun r3 h2 => (r3 = 0 → MCi g yX11_no uX11_no [.ref 11, .int 1] h2 (fun r6 h5 => P r6 h5)) ∧ (¬ r3 = 0 → MCi g yX11_isRay uX11_isRay [.ref 11, .int l2] h2 (fun r8 h7 => (r8 = 0 → MCi g yX11_no uX11_no [.ref 11, .int 1] h7 (fun r11 h10 => P r11 h10)) ∧ (¬ r8 = 0 → (l1 = l2 → MCi g yX11_no uX11_no [.ref 11, .int 1] h7 (fun r14 h13 => P r14 h13)) ∧ (¬ l1 = l2 → MCi g yX11_areSquare uX11_areSquare [.ref 11, .int l1, .int l2] h7 (fun r16 h15 => (r16 = 0 → P 0 h15) ∧ (¬ r16 = 0 → P 1 h15))))))))) : MCi g yX11_square uX11_square [.ref 11, .int l1, .int l2] h P := by
  refine m_enter (by decide) rfl (Nat.le_of_ble_eq_true rfl) (lv := [.ref 11, .int l1, .int l2]) rfl ?_
  refine m_aload_n dX11_square_0 rfl ?_
  refine cl_X11_174 rfl (by decide) dX11_square_1 (Nat.le_of_ble_eq_true rfl) (MCv_go q (fun h1 q => ?_))
  refine m_aload_n dX11_square_4 rfl ?_
  refine m_iload_n dX11_square_5 rfl ?_
  refine cl_X11_357 rfl (by decide) dX11_square_6 (Nat.le_of_ble_eq_true rfl) (MCi_go q (fun r3 h2 q => ?_))
  refine m_if_eq 42 dX11_square_9 (by decide) (fun c4 => ?_) (fun c4 => ?_)
  · replace q := q.1 c4
    refine m_aload_n dX11_square_42 rfl ?_
    refine m_iconst (v := 1) dX11_square_43 (by decide) ?_
    refine cl_X11_177 rfl (by decide) dX11_square_44 (Nat.le_of_ble_eq_true rfl) (MCi_go q (fun r6 h5 q => ?_))
    exact m_iret dX11_square_47 rfl q
  · replace q := q.2 c4
    refine m_aload_n dX11_square_12 rfl ?_
    refine m_iload_n dX11_square_13 rfl ?_
    refine cl_X11_357 rfl (by decide) dX11_square_14 (Nat.le_of_ble_eq_true rfl) (MCi_go q (fun r8 h7 q => ?_))
    refine m_if_eq 42 dX11_square_17 (by decide) (fun c9 => ?_) (fun c9 => ?_)
    · replace q := q.1 c9
      refine m_aload_n dX11_square_42 rfl ?_
      refine m_iconst (v := 1) dX11_square_43 (by decide) ?_
      refine cl_X11_177 rfl (by decide) dX11_square_44 (Nat.le_of_ble_eq_true rfl) (MCi_go q (fun r11 h10 q => ?_))
      exact m_iret dX11_square_47 rfl q
    · replace q := q.2 c9
      refine m_iload_n dX11_square_20 rfl ?_
      refine m_iload_n dX11_square_21 rfl ?_
      refine m_icmp_eq 42 dX11_square_22 (by decide) (fun c12 => ?_) (fun c12 => ?_)
      · replace q := q.1 c12
        refine m_aload_n dX11_square_42 rfl ?_
        refine m_iconst (v := 1) dX11_square_43 (by decide) ?_
        refine cl_X11_177 rfl (by decide) dX11_square_44 (Nat.le_of_ble_eq_true rfl) (MCi_go q (fun r14 h13 q => ?_))
        exact m_iret dX11_square_47 rfl q
      · replace q := q.2 c12
        refine m_aload_n dX11_square_25 rfl ?_
        refine m_iload_n dX11_square_26 rfl ?_
        refine m_iload_n dX11_square_27 rfl ?_
        refine cl_X11_360 rfl (by decide) dX11_square_28 (Nat.le_of_ble_eq_true rfl) (MCi_go q (fun r16 h15 q => ?_))
        refine m_if_eq 38 dX11_square_31 (by decide) (fun c17 => ?_) (fun c17 => ?_)
        · replace q := q.1 c17
          refine m_iconst (v := 0) dX11_square_38 (by decide) ?_
          refine m_goto 47 dX11_square_39 (by decide) ?_
          exact m_iret dX11_square_47 rfl q
        · replace q := q.2 c17
          refine m_iconst (v := 1) dX11_square_34 (by decide) ?_
          refine m_goto 47 dX11_square_35 (by decide) ?_
          exact m_iret dX11_square_47 rfl q
set_option maxRecDepth 100000 in
theorem e_X11_layCorners {g : gT} {h : mh_T} {P : mh_T → Prop}  (q : ME g uX11_layCorners 7 [.ref 11, .int 0, .retAddr 0, .retAddr 0, .retAddr 0] [] (wI h 11 34 0) (qV P)) : MCv g yX11_layCorners uX11_layCorners [.ref 11] h P := by
  refine m_enter (by decide) rfl (Nat.le_of_ble_eq_true rfl) (lv := [.ref 11, .retAddr 0, .retAddr 0, .retAddr 0, .retAddr 0]) rfl ?_
  refine m_aload_n dX11_layCorners_0 rfl ?_
  refine m_iconst (v := 0) dX11_layCorners_1 (by decide) ?_
  refine pf_X11_363 rfl dX11_layCorners_2 ?_
  refine m_iconst (v := 0) dX11_layCorners_5 (by decide) ?_
  refine m_istore_n (lv' := [.ref 11, .int 0, .retAddr 0, .retAddr 0, .retAddr 0]) dX11_layCorners_6 (Nat.le_of_ble_eq_true rfl) rfl rfl ?_
  exact q
set_option maxRecDepth 100000 in
theorem r_X11_layCorners_7 {g : gT} {h : mh_T} {P : mh_T → Prop} (l1 : Int32) (q : ((mI h 45 (Int32.toNatClampNeg 85)) ≤ l1 → ME g uX11_layCorners 82 [.ref 11, .int 0, .retAddr 0, .retAddr 0, .retAddr 0] [] h (qV P)) ∧ (¬ (mI h 45 (Int32.toNatClampNeg 85)) ≤ l1 → (vp_in l1 18) ∧ (ME g uX11_layCorners 27 [.ref 11, .int l1, .int 0, .retAddr 0, .retAddr 0] [] (wI h 57 l1.toNatClampNeg 0) (qV P)))) : ME g uX11_layCorners 7 [.ref 11, .int l1, .retAddr 0, .retAddr 0, .retAddr 0] [] h (qV P) := by
  refine m_iload_n dX11_layCorners_7 rfl ?_
  refine m_aload_n dX11_layCorners_8 rfl ?_
  refine gf_X11_20 rfl dX11_layCorners_9 ?_
  refine m_bipush (v := 85) dX11_layCorners_12 (by decide) ?_
  refine m_iaload dX11_layCorners_14 rfl (by decide) (by unfold vp_in; decide) ?_
  refine m_icmp_ge 80 dX11_layCorners_15 (by decide) (fun c1 => ?_) (fun c1 => ?_)
  · replace q := q.1 c1
    refine m_iconst (v := 0) dX11_layCorners_80 (by decide) ?_
    refine m_istore_n (lv' := [.ref 11, .int 0, .retAddr 0, .retAddr 0, .retAddr 0]) dX11_layCorners_81 (Nat.le_of_ble_eq_true rfl) rfl rfl ?_
    exact q
  · replace q := q.2 c1
    refine m_aload_n dX11_layCorners_18 rfl ?_
    refine gf_X11_57 rfl dX11_layCorners_19 ?_
    refine m_iload_n dX11_layCorners_22 rfl ?_
    refine m_iconst (v := 0) dX11_layCorners_23 (by decide) ?_
    obtain ⟨b2, q⟩ := q
    refine m_iastore dX11_layCorners_24 rfl (by decide) b2 ?_
    refine m_iconst (v := 0) dX11_layCorners_25 (by decide) ?_
    refine m_istore_n (lv' := [.ref 11, .int l1, .int 0, .retAddr 0, .retAddr 0]) dX11_layCorners_26 (Nat.le_of_ble_eq_true rfl) rfl rfl ?_
    exact q
set_option maxRecDepth 100000 in
theorem r_X11_layCorners_27 {g : gT} {h : mh_T} {P : mh_T → Prop} (l1 : Int32) (l2 : Int32) (q : ((mI h 45 (Int32.toNatClampNeg 85)) ≤ l2 → ME g uX11_layCorners 7 [.ref 11, .int (l1 + 1), .retAddr 0, .retAddr 0, .retAddr 0] [] h (qV P)) ∧ (¬ (mI h 45 (Int32.toNatClampNeg 85)) ≤ l2 → (vp_in l1 18) ∧ ((l1 = l2 → (vp_in l1 18) ∧ (ME g uX11_layCorners 27 [.ref 11, .int l1, .int (l2 + 1), .retAddr 0, .retAddr 0] [] (wI h 57 l1.toNatClampNeg ((mI h 57 l1.toNatClampNeg) ||| 0)) (qV P))) ∧ (¬ l1 = l2 → MCi g yX11_areSquare uX11_areSquare [.ref 11, .int l1, .int l2] h (fun r6 h5 => (r6 = 0 → (vp_in l1 18) ∧ (ME g uX11_layCorners 27 [.ref 11, .int l1, .int (l2 + 1), .retAddr 0, .retAddr 0] [] (wI h5 57 l1.toNatClampNeg ((mI h 57 l1.toNatClampNeg) ||| 0)) (qV P))) ∧ (¬ r6 = 0 → (vp_in l1 18) ∧ (ME g uX11_layCorners 27 [.ref 11, .int l1, .int (l2 + 1), .retAddr 0, .retAddr 0] [] (wI h5 57 l1.toNatClampNeg ((mI h 57 l1.toNatClampNeg) ||| (1 <<< (l2 &&& 31)))) (qV P)))))))) : ME g uX11_layCorners 27 [.ref 11, .int l1, .int l2, .retAddr 0, .retAddr 0] [] h (qV P) := by
  refine m_iload_n dX11_layCorners_27 rfl ?_
  refine m_aload_n dX11_layCorners_28 rfl ?_
  refine gf_X11_20 rfl dX11_layCorners_29 ?_
  refine m_bipush (v := 85) dX11_layCorners_32 (by decide) ?_
  refine m_iaload dX11_layCorners_34 rfl (by decide) (by unfold vp_in; decide) ?_
  refine m_icmp_ge 74 dX11_layCorners_35 (by decide) (fun c1 => ?_) (fun c1 => ?_)
  · replace q := q.1 c1
    refine m_iinc (v := (l1 + 1)) (lv' := [.ref 11, .int (l1 + 1), .int l2, .retAddr 0, .retAddr 0]) dX11_layCorners_74 (Nat.le_of_ble_eq_true rfl) rfl (congrArg (fun z => l1 + z) (by decide : Int32.ofInt 1 = 1)) rfl rfl ?_
    refine m_goto 7 dX11_layCorners_77 (by decide) ?_
    refine m_dropK (lv' := [.ref 11, .int (l1 + 1), .retAddr 0, .retAddr 0, .retAddr 0]) [2] rfl ?_
    exact q
  · replace q := q.2 c1
    refine m_aload_n dX11_layCorners_38 rfl ?_
    refine gf_X11_57 rfl dX11_layCorners_39 ?_
    refine m_iload_n dX11_layCorners_42 rfl ?_
    refine m_dup2 dX11_layCorners_43 rfl rfl ?_
    obtain ⟨b2, q⟩ := q
    refine m_iaload dX11_layCorners_44 rfl (by decide) b2 ?_
    refine m_iload_n dX11_layCorners_45 rfl ?_
    refine m_iload_n dX11_layCorners_46 rfl ?_
    refine m_icmp_eq 65 dX11_layCorners_47 (by decide) (fun c3 => ?_) (fun c3 => ?_)
    · replace q := q.1 c3
      refine m_iconst (v := 0) dX11_layCorners_65 (by decide) ?_
      refine m_ior dX11_layCorners_66 ?_
      obtain ⟨b4, q⟩ := q
      refine m_iastore dX11_layCorners_67 rfl (by decide) b4 ?_
      refine m_iinc (v := (l2 + 1)) (lv' := [.ref 11, .int l1, .int (l2 + 1), .retAddr 0, .retAddr 0]) dX11_layCorners_68 (Nat.le_of_ble_eq_true rfl) rfl (congrArg (fun z => l2 + z) (by decide : Int32.ofInt 1 = 1)) rfl rfl ?_
      refine m_goto 27 dX11_layCorners_71 (by decide) ?_
      exact q
    · replace q := q.2 c3
      refine m_aload_n dX11_layCorners_50 rfl ?_
      refine m_iload_n dX11_layCorners_51 rfl ?_
      refine m_iload_n dX11_layCorners_52 rfl ?_
      refine cl_X11_360 rfl (by decide) dX11_layCorners_53 (Nat.le_of_ble_eq_true rfl) (MCi_go q (fun r6 h5 q => ?_))
      refine m_if_eq 65 dX11_layCorners_56 (by decide) (fun c7 => ?_) (fun c7 => ?_)
      · replace q := q.1 c7
        refine m_iconst (v := 0) dX11_layCorners_65 (by decide) ?_
        refine m_ior dX11_layCorners_66 ?_
        obtain ⟨b8, q⟩ := q
        refine m_iastore dX11_layCorners_67 rfl (by decide) b8 ?_
        refine m_iinc (v := (l2 + 1)) (lv' := [.ref 11, .int l1, .int (l2 + 1), .retAddr 0, .retAddr 0]) dX11_layCorners_68 (Nat.le_of_ble_eq_true rfl) rfl (congrArg (fun z => l2 + z) (by decide : Int32.ofInt 1 = 1)) rfl rfl ?_
        refine m_goto 27 dX11_layCorners_71 (by decide) ?_
        exact q
      · replace q := q.2 c7
        refine m_iconst (v := 1) dX11_layCorners_59 (by decide) ?_
        refine m_iload_n dX11_layCorners_60 rfl ?_
        refine m_ishl dX11_layCorners_61 ?_
        refine m_goto 66 dX11_layCorners_62 (by decide) ?_
        refine m_ior dX11_layCorners_66 ?_
        obtain ⟨b9, q⟩ := q
        refine m_iastore dX11_layCorners_67 rfl (by decide) b9 ?_
        refine m_iinc (v := (l2 + 1)) (lv' := [.ref 11, .int l1, .int (l2 + 1), .retAddr 0, .retAddr 0]) dX11_layCorners_68 (Nat.le_of_ble_eq_true rfl) rfl (congrArg (fun z => l2 + z) (by decide : Int32.ofInt 1 = 1)) rfl rfl ?_
        refine m_goto 27 dX11_layCorners_71 (by decide) ?_
        exact q
set_option maxRecDepth 100000 in
theorem r_X11_layCorners_82 {g : gT} {h : mh_T} {P : mh_T → Prop} (l1 : Int32) (q : ((mI h 45 (Int32.toNatClampNeg 85)) ≤ l1 → P h) ∧ (¬ (mI h 45 (Int32.toNatClampNeg 85)) ≤ l1 → ∀ x2 : Int32, x2 = (l1 + 1) → ME g uX11_layCorners 97 [.ref 11, .int l1, .int x2, .retAddr 0, .retAddr 0] [] h (qV P))) : ME g uX11_layCorners 82 [.ref 11, .int l1, .retAddr 0, .retAddr 0, .retAddr 0] [] h (qV P) := by
  refine m_iload_n dX11_layCorners_82 rfl ?_
  refine m_aload_n dX11_layCorners_83 rfl ?_
  refine gf_X11_20 rfl dX11_layCorners_84 ?_
  refine m_bipush (v := 85) dX11_layCorners_87 (by decide) ?_
  refine m_iaload dX11_layCorners_89 rfl (by decide) (by unfold vp_in; decide) ?_
  refine m_icmp_ge 269 dX11_layCorners_90 (by decide) (fun c1 => ?_) (fun c1 => ?_)
  · replace q := q.1 c1
    exact m_vret dX11_layCorners_269 rfl q
  · replace q := q.2 c1
    refine m_iload_n dX11_layCorners_93 rfl ?_
    refine m_iconst (v := 1) dX11_layCorners_94 (by decide) ?_
    refine m_iadd dX11_layCorners_95 ?_
    obtain ⟨x2, ex2⟩ : ∃ z, z = (l1 + 1) := ⟨_, rfl⟩
    rw [← ex2]
    replace q := q x2 ex2
    refine m_istore_n (lv' := [.ref 11, .int l1, .int x2, .retAddr 0, .retAddr 0]) dX11_layCorners_96 (Nat.le_of_ble_eq_true rfl) rfl rfl ?_
    exact q
set_option maxRecDepth 100000 in
theorem r_X11_layCorners_97 {g : gT} {h : mh_T} {P : mh_T → Prop} (l1 : Int32) (l2 : Int32) (q : ((mI h 45 (Int32.toNatClampNeg 85)) ≤ l2 → ME g uX11_layCorners 82 [.ref 11, .int (l1 + 1), .retAddr 0, .retAddr 0, .retAddr 0] [] h (qV P)) ∧ (¬ (mI h 45 (Int32.toNatClampNeg 85)) ≤ l2 → (vp_in l1 18) ∧ (MCi g yX11_has uX11_has [.int (mI h 57 l1.toNatClampNeg), .int l2] h (fun r4 h3 => (¬ r4 = 0 → ∀ x6 : Int32, x6 = (l2 + 1) → ME g uX11_layCorners 128 [.ref 11, .int l1, .int l2, .int x6, .retAddr 0] [] h3 (qV P)) ∧ (r4 = 0 → ME g uX11_layCorners 97 [.ref 11, .int l1, .int (l2 + 1), .retAddr 0, .retAddr 0] [] h3 (qV P)))))) : ME g uX11_layCorners 97 [.ref 11, .int l1, .int l2, .retAddr 0, .retAddr 0] [] h (qV P) := by
  refine m_iload_n dX11_layCorners_97 rfl ?_
  refine m_aload_n dX11_layCorners_98 rfl ?_
  refine gf_X11_20 rfl dX11_layCorners_99 ?_
  refine m_bipush (v := 85) dX11_layCorners_102 (by decide) ?_
  refine m_iaload dX11_layCorners_104 rfl (by decide) (by unfold vp_in; decide) ?_
  refine m_icmp_ge 263 dX11_layCorners_105 (by decide) (fun c1 => ?_) (fun c1 => ?_)
  · replace q := q.1 c1
    refine m_iinc (v := (l1 + 1)) (lv' := [.ref 11, .int (l1 + 1), .int l2, .retAddr 0, .retAddr 0]) dX11_layCorners_263 (Nat.le_of_ble_eq_true rfl) rfl (congrArg (fun z => l1 + z) (by decide : Int32.ofInt 1 = 1)) rfl rfl ?_
    refine m_goto 82 dX11_layCorners_266 (by decide) ?_
    refine m_dropK (lv' := [.ref 11, .int (l1 + 1), .retAddr 0, .retAddr 0, .retAddr 0]) [2] rfl ?_
    exact q
  · replace q := q.2 c1
    refine m_aload_n dX11_layCorners_108 rfl ?_
    refine gf_X11_57 rfl dX11_layCorners_109 ?_
    refine m_iload_n dX11_layCorners_112 rfl ?_
    obtain ⟨b2, q⟩ := q
    refine m_iaload dX11_layCorners_113 rfl (by decide) b2 ?_
    refine m_iload_n dX11_layCorners_114 rfl ?_
    refine cl_X11_162 rfl (by decide) dX11_layCorners_115 (Nat.le_of_ble_eq_true rfl) (MCi_go q (fun r4 h3 q => ?_))
    refine m_if_ne 124 dX11_layCorners_118 (by decide) (fun c5 => ?_) (fun c5 => ?_)
    · replace q := q.1 c5
      refine m_iload_n dX11_layCorners_124 rfl ?_
      refine m_iconst (v := 1) dX11_layCorners_125 (by decide) ?_
      refine m_iadd dX11_layCorners_126 ?_
      obtain ⟨x6, ex6⟩ : ∃ z, z = (l2 + 1) := ⟨_, rfl⟩
      rw [← ex6]
      replace q := q x6 ex6
      refine m_istore_n (lv' := [.ref 11, .int l1, .int l2, .int x6, .retAddr 0]) dX11_layCorners_127 (Nat.le_of_ble_eq_true rfl) rfl rfl ?_
      exact q
    · replace q := q.2 c5
      refine m_goto 257 dX11_layCorners_121 (by decide) ?_
      refine m_iinc (v := (l2 + 1)) (lv' := [.ref 11, .int l1, .int (l2 + 1), .retAddr 0, .retAddr 0]) dX11_layCorners_257 (Nat.le_of_ble_eq_true rfl) rfl (congrArg (fun z => l2 + z) (by decide : Int32.ofInt 1 = 1)) rfl rfl ?_
      refine m_goto 97 dX11_layCorners_260 (by decide) ?_
      exact q
set_option maxRecDepth 100000 in
theorem r_X11_layCorners_128 {g : gT} {h : mh_T} {P : mh_T → Prop} (l1 : Int32) (l2 : Int32) (l3 : Int32) (q : ((mI h 45 (Int32.toNatClampNeg 85)) ≤ l3 → ME g uX11_layCorners 97 [.ref 11, .int l1, .int (l2 + 1), .retAddr 0, .retAddr 0] [] h (qV P)) ∧ (¬ (mI h 45 (Int32.toNatClampNeg 85)) ≤ l3 → (vp_in l1 18) ∧ ((vp_in l2 18) ∧ (MCi g yX11_has uX11_has [.int ((mI h 57 l1.toNatClampNeg) &&& (mI h 57 l2.toNatClampNeg)), .int l3] h (fun r5 h4 => (¬ r5 = 0 → ∀ x7 : Int32, x7 = (l3 + 1) → ME g uX11_layCorners 167 [.ref 11, .int l1, .int l2, .int l3, .int x7] [] h4 (qV P)) ∧ (r5 = 0 → ME g uX11_layCorners 128 [.ref 11, .int l1, .int l2, .int (l3 + 1), .retAddr 0] [] h4 (qV P))))))) : ME g uX11_layCorners 128 [.ref 11, .int l1, .int l2, .int l3, .retAddr 0] [] h (qV P) := by
  refine m_iload_n dX11_layCorners_128 rfl ?_
  refine m_aload_n dX11_layCorners_129 rfl ?_
  refine gf_X11_20 rfl dX11_layCorners_130 ?_
  refine m_bipush (v := 85) dX11_layCorners_133 (by decide) ?_
  refine m_iaload dX11_layCorners_135 rfl (by decide) (by unfold vp_in; decide) ?_
  refine m_icmp_ge 257 dX11_layCorners_136 (by decide) (fun c1 => ?_) (fun c1 => ?_)
  · replace q := q.1 c1
    refine m_iinc (v := (l2 + 1)) (lv' := [.ref 11, .int l1, .int (l2 + 1), .int l3, .retAddr 0]) dX11_layCorners_257 (Nat.le_of_ble_eq_true rfl) rfl (congrArg (fun z => l2 + z) (by decide : Int32.ofInt 1 = 1)) rfl rfl ?_
    refine m_goto 97 dX11_layCorners_260 (by decide) ?_
    refine m_dropK (lv' := [.ref 11, .int l1, .int (l2 + 1), .retAddr 0, .retAddr 0]) [3] rfl ?_
    exact q
  · replace q := q.2 c1
    refine m_aload_n dX11_layCorners_139 rfl ?_
    refine gf_X11_57 rfl dX11_layCorners_140 ?_
    refine m_iload_n dX11_layCorners_143 rfl ?_
    obtain ⟨b2, q⟩ := q
    refine m_iaload dX11_layCorners_144 rfl (by decide) b2 ?_
    refine m_aload_n dX11_layCorners_145 rfl ?_
    refine gf_X11_57 rfl dX11_layCorners_146 ?_
    refine m_iload_n dX11_layCorners_149 rfl ?_
    obtain ⟨b3, q⟩ := q
    refine m_iaload dX11_layCorners_150 rfl (by decide) b3 ?_
    refine m_iand dX11_layCorners_151 ?_
    refine m_iload_n dX11_layCorners_152 rfl ?_
    refine cl_X11_162 rfl (by decide) dX11_layCorners_153 (Nat.le_of_ble_eq_true rfl) (MCi_go q (fun r5 h4 q => ?_))
    refine m_if_ne 162 dX11_layCorners_156 (by decide) (fun c6 => ?_) (fun c6 => ?_)
    · replace q := q.1 c6
      refine m_iload_n dX11_layCorners_162 rfl ?_
      refine m_iconst (v := 1) dX11_layCorners_163 (by decide) ?_
      refine m_iadd dX11_layCorners_164 ?_
      obtain ⟨x7, ex7⟩ : ∃ z, z = (l3 + 1) := ⟨_, rfl⟩
      rw [← ex7]
      replace q := q x7 ex7
      refine m_istore (lv' := [.ref 11, .int l1, .int l2, .int l3, .int x7]) dX11_layCorners_165 (Nat.le_of_ble_eq_true rfl) rfl rfl ?_
      exact q
    · replace q := q.2 c6
      refine m_goto 251 dX11_layCorners_159 (by decide) ?_
      refine m_iinc (v := (l3 + 1)) (lv' := [.ref 11, .int l1, .int l2, .int (l3 + 1), .retAddr 0]) dX11_layCorners_251 (Nat.le_of_ble_eq_true rfl) rfl (congrArg (fun z => l3 + z) (by decide : Int32.ofInt 1 = 1)) rfl rfl ?_
      refine m_goto 128 dX11_layCorners_254 (by decide) ?_
      exact q
set_option maxRecDepth 100000 in
theorem r_X11_layCorners_167 {g : gT} {h : mh_T} {P : mh_T → Prop} (l1 : Int32) (l2 : Int32) (l3 : Int32) (l4 : Int32) (q : ((mI h 45 (Int32.toNatClampNeg 85)) ≤ l4 → ME g uX11_layCorners 128 [.ref 11, .int l1, .int l2, .int (l3 + 1), .retAddr 0] [] h (qV P)) ∧ (¬ (mI h 45 (Int32.toNatClampNeg 85)) ≤ l4 → (vp_in l1 18) ∧ ((vp_in l2 18) ∧ ((vp_in l3 18) ∧ (MCi g yX11_has uX11_has [.int (((mI h 57 l1.toNatClampNeg) &&& (mI h 57 l2.toNatClampNeg)) &&& (mI h 57 l3.toNatClampNeg)), .int l4] h (fun r6 h5 => (¬ r6 = 0 → (vp_in (mI h5 11 34) 3060) ∧ (ME g uX11_layCorners 167 [.ref 11, .int l1, .int l2, .int l3, .int (l4 + 1)] [] (wI (wI h5 56 (mI h5 11 34).toNatClampNeg ((((1 <<< (l1 &&& 31)) ||| (1 <<< (l2 &&& 31))) ||| (1 <<< (l3 &&& 31))) ||| (1 <<< (l4 &&& 31)))) 11 34 ((mI (wI h5 56 (mI h5 11 34).toNatClampNeg ((((1 <<< (l1 &&& 31)) ||| (1 <<< (l2 &&& 31))) ||| (1 <<< (l3 &&& 31))) ||| (1 <<< (l4 &&& 31)))) 11 34) + 1)) (qV P))) ∧ (r6 = 0 → ME g uX11_layCorners 167 [.ref 11, .int l1, .int l2, .int l3, .int (l4 + 1)] [] h5 (qV P)))))))) : ME g uX11_layCorners 167 [.ref 11, .int l1, .int l2, .int l3, .int l4] [] h (qV P) := by
  refine m_iload dX11_layCorners_167 rfl ?_
  refine m_aload_n dX11_layCorners_169 rfl ?_
  refine gf_X11_20 rfl dX11_layCorners_170 ?_
  refine m_bipush (v := 85) dX11_layCorners_173 (by decide) ?_
  refine m_iaload dX11_layCorners_175 rfl (by decide) (by unfold vp_in; decide) ?_
  refine m_icmp_ge 251 dX11_layCorners_176 (by decide) (fun c1 => ?_) (fun c1 => ?_)
  · replace q := q.1 c1
    refine m_iinc (v := (l3 + 1)) (lv' := [.ref 11, .int l1, .int l2, .int (l3 + 1), .int l4]) dX11_layCorners_251 (Nat.le_of_ble_eq_true rfl) rfl (congrArg (fun z => l3 + z) (by decide : Int32.ofInt 1 = 1)) rfl rfl ?_
    refine m_goto 128 dX11_layCorners_254 (by decide) ?_
    refine m_dropK (lv' := [.ref 11, .int l1, .int l2, .int (l3 + 1), .retAddr 0]) [4] rfl ?_
    exact q
  · replace q := q.2 c1
    refine m_aload_n dX11_layCorners_179 rfl ?_
    refine gf_X11_57 rfl dX11_layCorners_180 ?_
    refine m_iload_n dX11_layCorners_183 rfl ?_
    obtain ⟨b2, q⟩ := q
    refine m_iaload dX11_layCorners_184 rfl (by decide) b2 ?_
    refine m_aload_n dX11_layCorners_185 rfl ?_
    refine gf_X11_57 rfl dX11_layCorners_186 ?_
    refine m_iload_n dX11_layCorners_189 rfl ?_
    obtain ⟨b3, q⟩ := q
    refine m_iaload dX11_layCorners_190 rfl (by decide) b3 ?_
    refine m_iand dX11_layCorners_191 ?_
    refine m_aload_n dX11_layCorners_192 rfl ?_
    refine gf_X11_57 rfl dX11_layCorners_193 ?_
    refine m_iload_n dX11_layCorners_196 rfl ?_
    obtain ⟨b4, q⟩ := q
    refine m_iaload dX11_layCorners_197 rfl (by decide) b4 ?_
    refine m_iand dX11_layCorners_198 ?_
    refine m_iload dX11_layCorners_199 rfl ?_
    refine cl_X11_162 rfl (by decide) dX11_layCorners_201 (Nat.le_of_ble_eq_true rfl) (MCi_go q (fun r6 h5 q => ?_))
    refine m_if_ne 210 dX11_layCorners_204 (by decide) (fun c7 => ?_) (fun c7 => ?_)
    · replace q := q.1 c7
      refine m_aload_n dX11_layCorners_210 rfl ?_
      refine gf_X11_54 rfl dX11_layCorners_211 ?_
      refine m_aload_n dX11_layCorners_214 rfl ?_
      refine gf_X11_363 rfl dX11_layCorners_215 ?_
      refine m_iconst (v := 1) dX11_layCorners_218 (by decide) ?_
      refine m_iload_n dX11_layCorners_219 rfl ?_
      refine m_ishl dX11_layCorners_220 ?_
      refine m_iconst (v := 1) dX11_layCorners_221 (by decide) ?_
      refine m_iload_n dX11_layCorners_222 rfl ?_
      refine m_ishl dX11_layCorners_223 ?_
      refine m_ior dX11_layCorners_224 ?_
      refine m_iconst (v := 1) dX11_layCorners_225 (by decide) ?_
      refine m_iload_n dX11_layCorners_226 rfl ?_
      refine m_ishl dX11_layCorners_227 ?_
      refine m_ior dX11_layCorners_228 ?_
      refine m_iconst (v := 1) dX11_layCorners_229 (by decide) ?_
      refine m_iload dX11_layCorners_230 rfl ?_
      refine m_ishl dX11_layCorners_232 ?_
      refine m_ior dX11_layCorners_233 ?_
      obtain ⟨b8, q⟩ := q
      refine m_iastore dX11_layCorners_234 rfl (by decide) b8 ?_
      refine m_aload_n dX11_layCorners_235 rfl ?_
      refine m_dup dX11_layCorners_236 rfl ?_
      refine gf_X11_363 rfl dX11_layCorners_237 ?_
      refine m_iconst (v := 1) dX11_layCorners_240 (by decide) ?_
      refine m_iadd dX11_layCorners_241 ?_
      refine pf_X11_363 rfl dX11_layCorners_242 ?_
      refine m_iinc (v := (l4 + 1)) (lv' := [.ref 11, .int l1, .int l2, .int l3, .int (l4 + 1)]) dX11_layCorners_245 (Nat.le_of_ble_eq_true rfl) rfl (congrArg (fun z => l4 + z) (by decide : Int32.ofInt 1 = 1)) rfl rfl ?_
      refine m_goto 167 dX11_layCorners_248 (by decide) ?_
      exact q
    · replace q := q.2 c7
      refine m_goto 245 dX11_layCorners_207 (by decide) ?_
      refine m_iinc (v := (l4 + 1)) (lv' := [.ref 11, .int l1, .int l2, .int l3, .int (l4 + 1)]) dX11_layCorners_245 (Nat.le_of_ble_eq_true rfl) rfl (congrArg (fun z => l4 + z) (by decide : Int32.ofInt 1 = 1)) rfl rfl ?_
      refine m_goto 167 dX11_layCorners_248 (by decide) ?_
      exact q
