set_option maxRecDepth 100000 in
theorem e_X5_open {g : gT} {h : mh_T} {P : mh_T → Prop}  (q : ∀ x1 : Int32, x1 = ((1 <<< ((mI (wI (wI (wI (wI (wI h 7 0 (mI h 2 2)) 7 1 (mI (wI h 7 0 (mI h 2 2)) 2 4)) 7 2 0) 7 3 0) 7 4 0) 7 1) &&& 31)) - 1) → ME g uX5_open 42 [.ref 7, .ref 2, .int x1, .int 0, .retAddr 0] [] (wI (wI (wI (wI (wI h 7 0 (mI h 2 2)) 7 1 (mI (wI h 7 0 (mI h 2 2)) 2 4)) 7 2 0) 7 3 0) 7 4 0) (qV P)) : MCv g yX5_open uX5_open [.ref 7, .ref 2] h P := by
  refine m_enter (by decide) rfl (Nat.le_of_ble_eq_true rfl) (lv := [.ref 7, .ref 2, .retAddr 0, .retAddr 0, .retAddr 0]) rfl ?_
  refine m_aload_n dX5_open_0 rfl ?_
  refine m_aload_n dX5_open_1 rfl ?_
  refine gf_X5_19 rfl dX5_open_2 ?_
  refine pf_X5_24 rfl dX5_open_5 ?_
  refine m_aload_n dX5_open_8 rfl ?_
  refine m_aload_n dX5_open_9 rfl ?_
  refine gf_X5_25 rfl dX5_open_10 ?_
  refine pf_X5_28 rfl dX5_open_13 ?_
  refine m_aload_n dX5_open_16 rfl ?_
  refine m_iconst (v := 0) dX5_open_17 (by decide) ?_
  refine pf_X5_9 rfl dX5_open_18 ?_
  refine m_aload_n dX5_open_21 rfl ?_
  refine m_iconst (v := 0) dX5_open_22 (by decide) ?_
  refine pf_X5_29 rfl dX5_open_23 ?_
  refine m_aload_n dX5_open_26 rfl ?_
  refine m_iconst (v := 0) dX5_open_27 (by decide) ?_
  refine pf_X5_32 rfl dX5_open_28 ?_
  refine m_iconst (v := 1) dX5_open_31 (by decide) ?_
  refine m_aload_n dX5_open_32 rfl ?_
  refine gf_X5_28 rfl dX5_open_33 ?_
  refine m_ishl dX5_open_36 ?_
  refine m_iconst (v := 1) dX5_open_37 (by decide) ?_
  refine m_isub dX5_open_38 ?_
  obtain ⟨x1, ex1⟩ : ∃ z, z = ((1 <<< ((mI (wI (wI (wI (wI (wI h 7 0 (mI h 2 2)) 7 1 (mI (wI h 7 0 (mI h 2 2)) 2 4)) 7 2 0) 7 3 0) 7 4 0) 7 1) &&& 31)) - 1) := ⟨_, rfl⟩
  rw [← ex1]
  replace q := q x1 ex1
  refine m_istore_n (lv' := [.ref 7, .ref 2, .int x1, .retAddr 0, .retAddr 0]) dX5_open_39 (Nat.le_of_ble_eq_true rfl) rfl rfl ?_
  refine m_iconst (v := 0) dX5_open_40 (by decide) ?_
  refine m_istore_n (lv' := [.ref 7, .ref 2, .int x1, .int 0, .retAddr 0]) dX5_open_41 (Nat.le_of_ble_eq_true rfl) rfl rfl ?_
  exact q
set_option maxRecDepth 100000 in
theorem r_X5_open_42 {g : gT} {h : mh_T} {P : mh_T → Prop} (l2 : Int32) (l3 : Int32) (q : (l2 < l3 → ME g uX5_open 62 [.ref 7, .ref 2, .int l2, .int 0, .retAddr 0] [] h (qV P)) ∧ (¬ l2 < l3 → (vp_in l3 256) ∧ (ME g uX5_open 42 [.ref 7, .ref 2, .int l2, .int (l3 + 1), .retAddr 0] [] (wI h 31 l3.toNatClampNeg 0) (qV P)))) : ME g uX5_open 42 [.ref 7, .ref 2, .int l2, .int l3, .retAddr 0] [] h (qV P) := by
  refine m_iload_n dX5_open_42 rfl ?_
  refine m_iload_n dX5_open_43 rfl ?_
  refine m_icmp_gt 60 dX5_open_44 (by decide) (fun c1 => ?_) (fun c1 => ?_)
  · replace q := q.1 c1
    refine m_iconst (v := 0) dX5_open_60 (by decide) ?_
    refine m_istore_n (lv' := [.ref 7, .ref 2, .int l2, .int 0, .retAddr 0]) dX5_open_61 (Nat.le_of_ble_eq_true rfl) rfl rfl ?_
    exact q
  · replace q := q.2 c1
    refine m_aload_n dX5_open_47 rfl ?_
    refine gf_X5_15 rfl dX5_open_48 ?_
    refine m_iload_n dX5_open_51 rfl ?_
    refine m_iconst (v := 0) dX5_open_52 (by decide) ?_
    obtain ⟨b2, q⟩ := q
    refine m_zastore dX5_open_53 rfl (by decide) b2 (by decide) ?_
    refine m_iinc (v := (l3 + 1)) (lv' := [.ref 7, .ref 2, .int l2, .int (l3 + 1), .retAddr 0]) dX5_open_54 (Nat.le_of_ble_eq_true rfl) rfl (congrArg (fun z => l3 + z) (by decide : Int32.ofInt 1 = 1)) rfl rfl ?_
    refine m_goto 42 dX5_open_57 (by decide) ?_
    exact q
set_option maxRecDepth 100000 in
theorem r_X5_open_62 {g : gT} {h : mh_T} {P : mh_T → Prop} (l2 : Int32) (l3 : Int32) (q : ((1 <<< ((mI h 7 0) &&& 31)) ≤ l3 → MCv g yX5_spread uX5_spread [.ref 7] h (fun h2 => P h2)) ∧ (¬ (1 <<< ((mI h 7 0) &&& 31)) ≤ l3 → MCi g yX5_soLines uX5_soLines [.ref 7, .ref 2, .int l3] h (fun r4 h3 => (vp_in r4 256) ∧ ((¬ r4 = l2 → ME g uX5_open 62 [.ref 7, .ref 2, .int l2, .int (l3 + 1), .retAddr 0] [] (wI h3 31 r4.toNatClampNeg 1) (qV P)) ∧ (r4 = l2 → ME g uX5_open 62 [.ref 7, .ref 2, .int l2, .int (l3 + 1), .retAddr 0] [] (wI (wI (wI (wI h3 31 r4.toNatClampNeg 1) 7 2 ((mI (wI h3 31 r4.toNatClampNeg 1) 7 2) + 1)) 7 3 ((mI (wI (wI h3 31 r4.toNatClampNeg 1) 7 2 ((mI (wI h3 31 r4.toNatClampNeg 1) 7 2) + 1)) 7 3) ||| l3)) 7 4 ((mI (wI (wI (wI h3 31 r4.toNatClampNeg 1) 7 2 ((mI (wI h3 31 r4.toNatClampNeg 1) 7 2) + 1)) 7 3 ((mI (wI (wI h3 31 r4.toNatClampNeg 1) 7 2 ((mI (wI h3 31 r4.toNatClampNeg 1) 7 2) + 1)) 7 3) ||| l3)) 7 4) ||| (l3 ^^^ (-1)))) (qV P)))))) : ME g uX5_open 62 [.ref 7, .ref 2, .int l2, .int l3, .retAddr 0] [] h (qV P) := by
  refine m_iload_n dX5_open_62 rfl ?_
  refine m_iconst (v := 1) dX5_open_63 (by decide) ?_
  refine m_aload_n dX5_open_64 rfl ?_
  refine gf_X5_24 rfl dX5_open_65 ?_
  refine m_ishl dX5_open_68 ?_
  refine m_icmp_ge 132 dX5_open_69 (by decide) (fun c1 => ?_) (fun c1 => ?_)
  · replace q := q.1 c1
    refine m_aload_n dX5_open_132 rfl ?_
    refine cl_X5_39 rfl (by decide) dX5_open_133 (Nat.le_of_ble_eq_true rfl) (MCv_go q (fun h2 q => ?_))
    exact m_vret dX5_open_136 rfl q
  · replace q := q.2 c1
    refine m_aload_n dX5_open_72 rfl ?_
    refine m_aload_n dX5_open_73 rfl ?_
    refine m_iload_n dX5_open_74 rfl ?_
    refine cl_X5_35 rfl (by decide) dX5_open_75 (Nat.le_of_ble_eq_true rfl) (MCi_go q (fun r4 h3 q => ?_))
    refine m_istore (lv' := [.ref 7, .ref 2, .int l2, .int l3, .int r4]) dX5_open_78 (Nat.le_of_ble_eq_true rfl) rfl rfl ?_
    refine m_aload_n dX5_open_80 rfl ?_
    refine gf_X5_15 rfl dX5_open_81 ?_
    refine m_iload dX5_open_84 rfl ?_
    refine m_iconst (v := 1) dX5_open_86 (by decide) ?_
    obtain ⟨b5, q⟩ := q
    refine m_zastore dX5_open_87 rfl (by decide) b5 (by decide) ?_
    refine m_iload dX5_open_88 rfl ?_
    refine m_iload_n dX5_open_90 rfl ?_
    refine m_icmp_ne 126 dX5_open_91 (by decide) (fun c6 => ?_) (fun c6 => ?_)
    · replace q := q.1 c6
      refine m_iinc (v := (l3 + 1)) (lv' := [.ref 7, .ref 2, .int l2, .int (l3 + 1), .int r4]) dX5_open_126 (Nat.le_of_ble_eq_true rfl) rfl (congrArg (fun z => l3 + z) (by decide : Int32.ofInt 1 = 1)) rfl rfl ?_
      refine m_goto 62 dX5_open_129 (by decide) ?_
      refine m_dropK (lv' := [.ref 7, .ref 2, .int l2, .int (l3 + 1), .retAddr 0]) [4] rfl ?_
      exact q
    · replace q := q.2 c6
      refine m_aload_n dX5_open_94 rfl ?_
      refine m_dup dX5_open_95 rfl ?_
      refine gf_X5_9 rfl dX5_open_96 ?_
      refine m_iconst (v := 1) dX5_open_99 (by decide) ?_
      refine m_iadd dX5_open_100 ?_
      refine pf_X5_9 rfl dX5_open_101 ?_
      refine m_aload_n dX5_open_104 rfl ?_
      refine m_dup dX5_open_105 rfl ?_
      refine gf_X5_29 rfl dX5_open_106 ?_
      refine m_iload_n dX5_open_109 rfl ?_
      refine m_ior dX5_open_110 ?_
      refine pf_X5_29 rfl dX5_open_111 ?_
      refine m_aload_n dX5_open_114 rfl ?_
      refine m_dup dX5_open_115 rfl ?_
      refine gf_X5_32 rfl dX5_open_116 ?_
      refine m_iload_n dX5_open_119 rfl ?_
      refine m_iconst (v := (-1)) dX5_open_120 (by decide) ?_
      refine m_ixor dX5_open_121 ?_
      refine m_ior dX5_open_122 ?_
      refine pf_X5_32 rfl dX5_open_123 ?_
      refine m_iinc (v := (l3 + 1)) (lv' := [.ref 7, .ref 2, .int l2, .int (l3 + 1), .int r4]) dX5_open_126 (Nat.le_of_ble_eq_true rfl) rfl (congrArg (fun z => l3 + z) (by decide : Int32.ofInt 1 = 1)) rfl rfl ?_
      refine m_goto 62 dX5_open_129 (by decide) ?_
      refine m_dropK (lv' := [.ref 7, .ref 2, .int l2, .int (l3 + 1), .retAddr 0]) [4] rfl ?_
      exact q
set_option maxRecDepth 100000 in
theorem e_X5_soLines {g : gT} {h : mh_T} {P : Int32 → mh_T → Prop} (l2 : Int32) (q : ME g uX5_soLines 5 [.ref 7, .ref 2, .int l2, .int 0, .int 0] [] h (qI P)) : MCi g yX5_soLines uX5_soLines [.ref 7, .ref 2, .int l2] h P := by
  refine m_enter (by decide) rfl (Nat.le_of_ble_eq_true rfl) (lv := [.ref 7, .ref 2, .int l2, .retAddr 0, .retAddr 0]) rfl ?_
  refine m_iconst (v := 0) dX5_soLines_0 (by decide) ?_
  refine m_istore_n (lv' := [.ref 7, .ref 2, .int l2, .int 0, .retAddr 0]) dX5_soLines_1 (Nat.le_of_ble_eq_true rfl) rfl rfl ?_
  refine m_iconst (v := 0) dX5_soLines_2 (by decide) ?_
  refine m_istore (lv' := [.ref 7, .ref 2, .int l2, .int 0, .int 0]) dX5_soLines_3 (Nat.le_of_ble_eq_true rfl) rfl rfl ?_
  exact q
set_option maxRecDepth 100000 in
theorem r_X5_soLines_5 {g : gT} {h : mh_T} {P : Int32 → mh_T → Prop} (l2 : Int32) (l3 : Int32) (l4 : Int32) (q : ((mI h 7 1) ≤ l4 → P l3 h) ∧ (¬ (mI h 7 1) ≤ l4 → (vp_in l4 8) ∧ (MCi g yJ6_bitCount_0f7a4 uJ6_bitCount_0f7a4 [.int (l2 &&& (mI h 18 l4.toNatClampNeg))] h (fun r4 h3 => (vp_in l4 8) ∧ ((¬ (r4 - r4 / 2 * 2) = (mI h3 19 l4.toNatClampNeg) → ME g uX5_soLines 5 [.ref 7, .ref 2, .int l2, .int l3, .int (l4 + 1)] [] h3 (qI P)) ∧ ((r4 - r4 / 2 * 2) = (mI h3 19 l4.toNatClampNeg) → ∀ x7 : Int32, x7 = (l3 ||| (1 <<< (l4 &&& 31))) → ME g uX5_soLines 5 [.ref 7, .ref 2, .int l2, .int x7, .int (l4 + 1)] [] h3 (qI P))))))) : ME g uX5_soLines 5 [.ref 7, .ref 2, .int l2, .int l3, .int l4] [] h (qI P) := by
  refine m_iload dX5_soLines_5 rfl ?_
  refine m_aload_n dX5_soLines_7 rfl ?_
  refine gf_X5_28 rfl dX5_soLines_8 ?_
  refine m_icmp_ge 51 dX5_soLines_11 (by decide) (fun c1 => ?_) (fun c1 => ?_)
  · replace q := q.1 c1
    refine m_iload_n dX5_soLines_51 rfl ?_
    exact m_iret dX5_soLines_52 rfl q
  · replace q := q.2 c1
    refine m_iload_n dX5_soLines_14 rfl ?_
    refine m_aload_n dX5_soLines_15 rfl ?_
    refine gf_X5_42 rfl dX5_soLines_16 ?_
    refine m_iload dX5_soLines_19 rfl ?_
    obtain ⟨b2, q⟩ := q
    refine m_iaload dX5_soLines_21 rfl (by decide) b2 ?_
    refine m_iand dX5_soLines_22 ?_
    refine cl_X5_46 rfl (by decide) dX5_soLines_23 (Nat.le_of_ble_eq_true rfl) (MCi_go q (fun r4 h3 q => ?_))
    refine m_iconst (v := 2) dX5_soLines_26 (by decide) ?_
    refine m_irem dX5_soLines_27 (by decide) ?_
    refine m_aload_n dX5_soLines_28 rfl ?_
    refine gf_X5_52 rfl dX5_soLines_29 ?_
    refine m_iload dX5_soLines_32 rfl ?_
    obtain ⟨b5, q⟩ := q
    refine m_iaload dX5_soLines_34 rfl (by decide) b5 ?_
    refine m_icmp_ne 45 dX5_soLines_35 (by decide) (fun c6 => ?_) (fun c6 => ?_)
    · replace q := q.1 c6
      refine m_iinc (v := (l4 + 1)) (lv' := [.ref 7, .ref 2, .int l2, .int l3, .int (l4 + 1)]) dX5_soLines_45 (Nat.le_of_ble_eq_true rfl) rfl (congrArg (fun z => l4 + z) (by decide : Int32.ofInt 1 = 1)) rfl rfl ?_
      refine m_goto 5 dX5_soLines_48 (by decide) ?_
      exact q
    · replace q := q.2 c6
      refine m_iload_n dX5_soLines_38 rfl ?_
      refine m_iconst (v := 1) dX5_soLines_39 (by decide) ?_
      refine m_iload dX5_soLines_40 rfl ?_
      refine m_ishl dX5_soLines_42 ?_
      refine m_ior dX5_soLines_43 ?_
      obtain ⟨x7, ex7⟩ : ∃ z, z = (l3 ||| (1 <<< (l4 &&& 31))) := ⟨_, rfl⟩
      rw [← ex7]
      replace q := q x7 ex7
      refine m_istore_n (lv' := [.ref 7, .ref 2, .int l2, .int x7, .int l4]) dX5_soLines_44 (Nat.le_of_ble_eq_true rfl) rfl rfl ?_
      refine m_iinc (v := (l4 + 1)) (lv' := [.ref 7, .ref 2, .int l2, .int x7, .int (l4 + 1)]) dX5_soLines_45 (Nat.le_of_ble_eq_true rfl) rfl (congrArg (fun z => l4 + z) (by decide : Int32.ofInt 1 = 1)) rfl rfl ?_
      refine m_goto 5 dX5_soLines_48 (by decide) ?_
      exact q
set_option maxRecDepth 100000 in
theorem e_X5_spread {g : gT} {h : mh_T} {P : mh_T → Prop}  (q : ∀ x1 : Int32, x1 = ((1 <<< ((mI h 7 1) &&& 31)) - 1) → ME g uX5_spread 9 [.ref 7, .int x1, .retAddr 0] [] h (qV P)) : MCv g yX5_spread uX5_spread [.ref 7] h P := by
  refine m_enter (by decide) rfl (Nat.le_of_ble_eq_true rfl) (lv := [.ref 7, .retAddr 0, .retAddr 0]) rfl ?_
  refine m_iconst (v := 1) dX5_spread_0 (by decide) ?_
  refine m_aload_n dX5_spread_1 rfl ?_
  refine gf_X5_28 rfl dX5_spread_2 ?_
  refine m_ishl dX5_spread_5 ?_
  refine m_iconst (v := 1) dX5_spread_6 (by decide) ?_
  refine m_isub dX5_spread_7 ?_
  obtain ⟨x1, ex1⟩ : ∃ z, z = ((1 <<< ((mI h 7 1) &&& 31)) - 1) := ⟨_, rfl⟩
  rw [← ex1]
  replace q := q x1 ex1
  refine m_istore_n (lv' := [.ref 7, .int x1, .retAddr 0]) dX5_spread_8 (Nat.le_of_ble_eq_true rfl) rfl rfl ?_
  exact q
set_option maxRecDepth 100000 in
theorem r_X5_spread_9 {g : gT} {h : mh_T} {P : mh_T → Prop} (l1 : Int32) (q : (l1 ≤ 0 → P h) ∧ (¬ l1 ≤ 0 → ME g uX5_spread 15 [.ref 7, .int l1, .int 0] [] h (qV P))) : ME g uX5_spread 9 [.ref 7, .int l1, .retAddr 0] [] h (qV P) := by
  refine m_iload_n dX5_spread_9 rfl ?_
  refine m_if_le 57 dX5_spread_10 (by decide) (fun c1 => ?_) (fun c1 => ?_)
  · replace q := q.1 c1
    exact m_vret dX5_spread_57 rfl q
  · replace q := q.2 c1
    refine m_iconst (v := 0) dX5_spread_13 (by decide) ?_
    refine m_istore_n (lv' := [.ref 7, .int l1, .int 0]) dX5_spread_14 (Nat.le_of_ble_eq_true rfl) rfl rfl ?_
    exact q
set_option maxRecDepth 100000 in
theorem r_X5_spread_15 {g : gT} {h : mh_T} {P : mh_T → Prop} (l1 : Int32) (l2 : Int32) (q : (vp_in l1 256) ∧ (((mI h 31 l1.toNatClampNeg) = 0 → ME g uX5_spread 9 [.ref 7, .int (l1 + (-1)), .retAddr 0] [] h (qV P)) ∧ (¬ (mI h 31 l1.toNatClampNeg) = 0 → ((mI h 7 1) ≤ l2 → ME g uX5_spread 9 [.ref 7, .int (l1 + (-1)), .retAddr 0] [] h (qV P)) ∧ (¬ (mI h 7 1) ≤ l2 → (vp_in (l1 &&& ((1 <<< (l2 &&& 31)) ^^^ (-1))) 256) ∧ (ME g uX5_spread 15 [.ref 7, .int l1, .int (l2 + 1)] [] (wI h 31 (l1 &&& ((1 <<< (l2 &&& 31)) ^^^ (-1))).toNatClampNeg 1) (qV P)))))) : ME g uX5_spread 15 [.ref 7, .int l1, .int l2] [] h (qV P) := by
  refine m_aload_n dX5_spread_15 rfl ?_
  refine gf_X5_15 rfl dX5_spread_16 ?_
  refine m_iload_n dX5_spread_19 rfl ?_
  obtain ⟨b1, q⟩ := q
  refine m_zaload dX5_spread_20 rfl (by decide) b1 ?_
  refine m_if_eq 51 dX5_spread_21 (by decide) (fun c2 => ?_) (fun c2 => ?_)
  · replace q := q.1 c2
    refine m_iinc (v := (l1 + (-1))) (lv' := [.ref 7, .int (l1 + (-1)), .int l2]) dX5_spread_51 (Nat.le_of_ble_eq_true rfl) rfl (congrArg (fun z => l1 + z) (by decide : Int32.ofInt (-1) = -1)) rfl rfl ?_
    refine m_goto 9 dX5_spread_54 (by decide) ?_
    refine m_dropK (lv' := [.ref 7, .int (l1 + (-1)), .retAddr 0]) [2] rfl ?_
    exact q
  · replace q := q.2 c2
    refine m_iload_n dX5_spread_24 rfl ?_
    refine m_aload_n dX5_spread_25 rfl ?_
    refine gf_X5_28 rfl dX5_spread_26 ?_
    refine m_icmp_ge 51 dX5_spread_29 (by decide) (fun c3 => ?_) (fun c3 => ?_)
    · replace q := q.1 c3
      refine m_iinc (v := (l1 + (-1))) (lv' := [.ref 7, .int (l1 + (-1)), .int l2]) dX5_spread_51 (Nat.le_of_ble_eq_true rfl) rfl (congrArg (fun z => l1 + z) (by decide : Int32.ofInt (-1) = -1)) rfl rfl ?_
      refine m_goto 9 dX5_spread_54 (by decide) ?_
      refine m_dropK (lv' := [.ref 7, .int (l1 + (-1)), .retAddr 0]) [2] rfl ?_
      exact q
    · replace q := q.2 c3
      refine m_aload_n dX5_spread_32 rfl ?_
      refine gf_X5_15 rfl dX5_spread_33 ?_
      refine m_iload_n dX5_spread_36 rfl ?_
      refine m_iconst (v := 1) dX5_spread_37 (by decide) ?_
      refine m_iload_n dX5_spread_38 rfl ?_
      refine m_ishl dX5_spread_39 ?_
      refine m_iconst (v := (-1)) dX5_spread_40 (by decide) ?_
      refine m_ixor dX5_spread_41 ?_
      refine m_iand dX5_spread_42 ?_
      refine m_iconst (v := 1) dX5_spread_43 (by decide) ?_
      obtain ⟨b4, q⟩ := q
      refine m_zastore dX5_spread_44 rfl (by decide) b4 (by decide) ?_
      refine m_iinc (v := (l2 + 1)) (lv' := [.ref 7, .int l1, .int (l2 + 1)]) dX5_spread_45 (Nat.le_of_ble_eq_true rfl) rfl (congrArg (fun z => l2 + z) (by decide : Int32.ofInt 1 = 1)) rfl rfl ?_
      refine m_goto 15 dX5_spread_48 (by decide) ?_
      exact q
set_option maxRecDepth 100000 in
theorem e_X5_holds {g : gT} {h : mh_T} {P : Int32 → mh_T → Prop} (l1 : Int32) (q : (l1 < 0 → P 0 h) ∧ (¬ l1 < 0 → ((1 <<< ((mI h 7 1) &&& 31)) ≤ l1 → P 0 h) ∧ (¬ (1 <<< ((mI h 7 1) &&& 31)) ≤ l1 → (vp_in l1 256) ∧ (((mI h 31 l1.toNatClampNeg) = 0 → P 0 h) ∧ (¬ (mI h 31 l1.toNatClampNeg) = 0 → P 1 h))))) : MCi g yX5_holds uX5_holds [.ref 7, .int l1] h P := by
  refine m_enter (by decide) rfl (Nat.le_of_ble_eq_true rfl) (lv := [.ref 7, .int l1]) rfl ?_
  refine m_iload_n dX5_holds_0 rfl ?_
  refine m_if_lt 27 dX5_holds_1 (by decide) (fun c1 => ?_) (fun c1 => ?_)
  · replace q := q.1 c1
    refine m_iconst (v := 0) dX5_holds_27 (by decide) ?_
    exact m_zret dX5_holds_28 rfl (by decide) q
  · replace q := q.2 c1
    refine m_iload_n dX5_holds_4 rfl ?_
    refine m_iconst (v := 1) dX5_holds_5 (by decide) ?_
    refine m_aload_n dX5_holds_6 rfl ?_
    refine gf_X5_28 rfl dX5_holds_7 ?_
    refine m_ishl dX5_holds_10 ?_
    refine m_icmp_ge 27 dX5_holds_11 (by decide) (fun c2 => ?_) (fun c2 => ?_)
    · replace q := q.1 c2
      refine m_iconst (v := 0) dX5_holds_27 (by decide) ?_
      exact m_zret dX5_holds_28 rfl (by decide) q
    · replace q := q.2 c2
      refine m_aload_n dX5_holds_14 rfl ?_
      refine gf_X5_15 rfl dX5_holds_15 ?_
      refine m_iload_n dX5_holds_18 rfl ?_
      obtain ⟨b3, q⟩ := q
      refine m_zaload dX5_holds_19 rfl (by decide) b3 ?_
      refine m_if_eq 27 dX5_holds_20 (by decide) (fun c4 => ?_) (fun c4 => ?_)
      · replace q := q.1 c4
        refine m_iconst (v := 0) dX5_holds_27 (by decide) ?_
        exact m_zret dX5_holds_28 rfl (by decide) q
      · replace q := q.2 c4
        refine m_iconst (v := 1) dX5_holds_23 (by decide) ?_
        refine m_goto 28 dX5_holds_24 (by decide) ?_
        exact m_zret dX5_holds_28 rfl (by decide) q
set_option maxRecDepth 100000 in
theorem e_X5_valueOf {g : gT} {h : mh_T} {P : Int32 → mh_T → Prop} (l1 : Int32) (q : ((((mI h 7 3) >>> (l1 &&& 31)) &&& 1) = 0 → ((((mI h 7 4) >>> (l1 &&& 31)) &&& 1) = 0 → P 0 h) ∧ (¬ (((mI h 7 4) >>> (l1 &&& 31)) &&& 1) = 0 → P 0 h)) ∧ (¬ (((mI h 7 3) >>> (l1 &&& 31)) &&& 1) = 0 → ((((mI h 7 4) >>> (l1 &&& 31)) &&& 1) = 0 → P 1 h) ∧ (¬ (((mI h 7 4) >>> (l1 &&& 31)) &&& 1) = 0 → P (-2) h))) : MCi g yX5_valueOf uX5_valueOf [.ref 7, .int l1] h P := by
  refine m_enter (by decide) rfl (Nat.le_of_ble_eq_true rfl) (lv := [.ref 7, .int l1, .retAddr 0, .retAddr 0]) rfl ?_
  refine m_aload_n dX5_valueOf_0 rfl ?_
  refine gf_X5_29 rfl dX5_valueOf_1 ?_
  refine m_iload_n dX5_valueOf_4 rfl ?_
  refine m_ishr dX5_valueOf_5 ?_
  refine m_iconst (v := 1) dX5_valueOf_6 (by decide) ?_
  refine m_iand dX5_valueOf_7 ?_
  refine m_if_eq 15 dX5_valueOf_8 (by decide) (fun c1 => ?_) (fun c1 => ?_)
  · replace q := q.1 c1
    refine m_iconst (v := 0) dX5_valueOf_15 (by decide) ?_
    refine m_istore_n (lv' := [.ref 7, .int l1, .int 0, .retAddr 0]) dX5_valueOf_16 (Nat.le_of_ble_eq_true rfl) rfl rfl ?_
    refine m_aload_n dX5_valueOf_17 rfl ?_
    refine gf_X5_32 rfl dX5_valueOf_18 ?_
    refine m_iload_n dX5_valueOf_21 rfl ?_
    refine m_ishr dX5_valueOf_22 ?_
    refine m_iconst (v := 1) dX5_valueOf_23 (by decide) ?_
    refine m_iand dX5_valueOf_24 ?_
    refine m_if_eq 32 dX5_valueOf_25 (by decide) (fun c2 => ?_) (fun c2 => ?_)
    · replace q := q.1 c2
      refine m_iconst (v := 0) dX5_valueOf_32 (by decide) ?_
      refine m_istore_n (lv' := [.ref 7, .int l1, .int 0, .int 0]) dX5_valueOf_33 (Nat.le_of_ble_eq_true rfl) rfl rfl ?_
      refine m_iload_n dX5_valueOf_34 rfl ?_
      refine m_if_eq 45 dX5_valueOf_35 (by decide) (fun c3 => ?_) (fun c3 => absurd c3 (by decide))
      refine m_iload_n dX5_valueOf_45 rfl ?_
      refine m_if_eq 53 dX5_valueOf_46 (by decide) (fun c4 => ?_) (fun c4 => absurd c4 (by decide))
      refine m_iconst (v := 0) dX5_valueOf_53 (by decide) ?_
      exact m_iret dX5_valueOf_54 rfl q
    · replace q := q.2 c2
      refine m_iconst (v := 1) dX5_valueOf_28 (by decide) ?_
      refine m_goto 33 dX5_valueOf_29 (by decide) ?_
      refine m_istore_n (lv' := [.ref 7, .int l1, .int 0, .int 1]) dX5_valueOf_33 (Nat.le_of_ble_eq_true rfl) rfl rfl ?_
      refine m_iload_n dX5_valueOf_34 rfl ?_
      refine m_if_eq 45 dX5_valueOf_35 (by decide) (fun c5 => ?_) (fun c5 => absurd c5 (by decide))
      refine m_iload_n dX5_valueOf_45 rfl ?_
      refine m_if_eq 53 dX5_valueOf_46 (by decide) (fun c6 => ?_) (fun c6 => absurd c6 (by decide))
      refine m_iconst (v := 0) dX5_valueOf_53 (by decide) ?_
      exact m_iret dX5_valueOf_54 rfl q
  · replace q := q.2 c1
    refine m_iconst (v := 1) dX5_valueOf_11 (by decide) ?_
    refine m_goto 16 dX5_valueOf_12 (by decide) ?_
    refine m_istore_n (lv' := [.ref 7, .int l1, .int 1, .retAddr 0]) dX5_valueOf_16 (Nat.le_of_ble_eq_true rfl) rfl rfl ?_
    refine m_aload_n dX5_valueOf_17 rfl ?_
    refine gf_X5_32 rfl dX5_valueOf_18 ?_
    refine m_iload_n dX5_valueOf_21 rfl ?_
    refine m_ishr dX5_valueOf_22 ?_
    refine m_iconst (v := 1) dX5_valueOf_23 (by decide) ?_
    refine m_iand dX5_valueOf_24 ?_
    refine m_if_eq 32 dX5_valueOf_25 (by decide) (fun c7 => ?_) (fun c7 => ?_)
    · replace q := q.1 c7
      refine m_iconst (v := 0) dX5_valueOf_32 (by decide) ?_
      refine m_istore_n (lv' := [.ref 7, .int l1, .int 1, .int 0]) dX5_valueOf_33 (Nat.le_of_ble_eq_true rfl) rfl rfl ?_
      refine m_iload_n dX5_valueOf_34 rfl ?_
      refine m_if_eq 45 dX5_valueOf_35 (by decide) (fun c8 => absurd c8 (by decide)) (fun c8 => ?_)
      refine m_iload_n dX5_valueOf_38 rfl ?_
      refine m_if_eq 45 dX5_valueOf_39 (by decide) (fun c9 => ?_) (fun c9 => absurd c9 (by decide))
      refine m_iload_n dX5_valueOf_45 rfl ?_
      refine m_if_eq 53 dX5_valueOf_46 (by decide) (fun c10 => absurd c10 (by decide)) (fun c10 => ?_)
      refine m_iconst (v := 1) dX5_valueOf_49 (by decide) ?_
      refine m_goto 54 dX5_valueOf_50 (by decide) ?_
      exact m_iret dX5_valueOf_54 rfl q
    · replace q := q.2 c7
      refine m_iconst (v := 1) dX5_valueOf_28 (by decide) ?_
      refine m_goto 33 dX5_valueOf_29 (by decide) ?_
      refine m_istore_n (lv' := [.ref 7, .int l1, .int 1, .int 1]) dX5_valueOf_33 (Nat.le_of_ble_eq_true rfl) rfl rfl ?_
      refine m_iload_n dX5_valueOf_34 rfl ?_
      refine m_if_eq 45 dX5_valueOf_35 (by decide) (fun c11 => absurd c11 (by decide)) (fun c11 => ?_)
      refine m_iload_n dX5_valueOf_38 rfl ?_
      refine m_if_eq 45 dX5_valueOf_39 (by decide) (fun c12 => absurd c12 (by decide)) (fun c12 => ?_)
      refine m_bipush (v := (-2)) dX5_valueOf_42 (by decide) ?_
      exact m_iret dX5_valueOf_44 rfl q
set_option maxRecDepth 100000 in
theorem e_X5_leastBroken {g : gT} {h : mh_T} {P : Int32 → mh_T → Prop}  (q : ME g uX5_leastBroken 5 [.ref 7, .int (-2), .int 0] [] h (qI P)) : MCi g yX5_leastBroken uX5_leastBroken [.ref 7] h P := by
  refine m_enter (by decide) rfl (Nat.le_of_ble_eq_true rfl) (lv := [.ref 7, .retAddr 0, .retAddr 0]) rfl ?_
  refine m_bipush (v := (-2)) dX5_leastBroken_0 (by decide) ?_
  refine m_istore_n (lv' := [.ref 7, .int (-2), .retAddr 0]) dX5_leastBroken_2 (Nat.le_of_ble_eq_true rfl) rfl rfl ?_
  refine m_iconst (v := 0) dX5_leastBroken_3 (by decide) ?_
  refine m_istore_n (lv' := [.ref 7, .int (-2), .int 0]) dX5_leastBroken_4 (Nat.le_of_ble_eq_true rfl) rfl rfl ?_
  exact q
set_option maxRecDepth 100000 in
theorem r_X5_leastBroken_5 {g : gT} {h : mh_T} {P : Int32 → mh_T → Prop} (l1 : Int32) (l2 : Int32) (q : ((1 <<< ((mI h 7 1) &&& 31)) ≤ l2 → P l1 h) ∧ (¬ (1 <<< ((mI h 7 1) &&& 31)) ≤ l2 → (vp_in l2 256) ∧ ((¬ (mI h 31 l2.toNatClampNeg) = 0 → ME g uX5_leastBroken 5 [.ref 7, .int l1, .int (l2 + 1)] [] h (qI P)) ∧ ((mI h 31 l2.toNatClampNeg) = 0 → (l1 < 0 → ME g uX5_leastBroken 5 [.ref 7, .int l2, .int (l2 + 1)] [] h (qI P)) ∧ (¬ l1 < 0 → MCi g yJ6_bitCount_0f7a4 uJ6_bitCount_0f7a4 [.int l2] h (fun r6 h5 => MCi g yJ6_bitCount_0f7a4 uJ6_bitCount_0f7a4 [.int l1] h5 (fun r8 h7 => (r8 ≤ r6 → ME g uX5_leastBroken 5 [.ref 7, .int l1, .int (l2 + 1)] [] h7 (qI P)) ∧ (¬ r8 ≤ r6 → ME g uX5_leastBroken 5 [.ref 7, .int l2, .int (l2 + 1)] [] h7 (qI P))))))))) : ME g uX5_leastBroken 5 [.ref 7, .int l1, .int l2] [] h (qI P) := by
  refine m_iload_n dX5_leastBroken_5 rfl ?_
  refine m_iconst (v := 1) dX5_leastBroken_6 (by decide) ?_
  refine m_aload_n dX5_leastBroken_7 rfl ?_
  refine gf_X5_28 rfl dX5_leastBroken_8 ?_
  refine m_ishl dX5_leastBroken_11 ?_
  refine m_icmp_ge 47 dX5_leastBroken_12 (by decide) (fun c1 => ?_) (fun c1 => ?_)
  · replace q := q.1 c1
    refine m_iload_n dX5_leastBroken_47 rfl ?_
    exact m_iret dX5_leastBroken_48 rfl q
  · replace q := q.2 c1
    refine m_aload_n dX5_leastBroken_15 rfl ?_
    refine gf_X5_15 rfl dX5_leastBroken_16 ?_
    refine m_iload_n dX5_leastBroken_19 rfl ?_
    obtain ⟨b2, q⟩ := q
    refine m_zaload dX5_leastBroken_20 rfl (by decide) b2 ?_
    refine m_if_ne 41 dX5_leastBroken_21 (by decide) (fun c3 => ?_) (fun c3 => ?_)
    · replace q := q.1 c3
      refine m_iinc (v := (l2 + 1)) (lv' := [.ref 7, .int l1, .int (l2 + 1)]) dX5_leastBroken_41 (Nat.le_of_ble_eq_true rfl) rfl (congrArg (fun z => l2 + z) (by decide : Int32.ofInt 1 = 1)) rfl rfl ?_
      refine m_goto 5 dX5_leastBroken_44 (by decide) ?_
      exact q
    · replace q := q.2 c3
      refine m_iload_n dX5_leastBroken_24 rfl ?_
      refine m_if_lt 39 dX5_leastBroken_25 (by decide) (fun c4 => ?_) (fun c4 => ?_)
      · replace q := q.1 c4
        refine m_iload_n dX5_leastBroken_39 rfl ?_
        refine m_istore_n (lv' := [.ref 7, .int l2, .int l2]) dX5_leastBroken_40 (Nat.le_of_ble_eq_true rfl) rfl rfl ?_
        refine m_iinc (v := (l2 + 1)) (lv' := [.ref 7, .int l2, .int (l2 + 1)]) dX5_leastBroken_41 (Nat.le_of_ble_eq_true rfl) rfl (congrArg (fun z => l2 + z) (by decide : Int32.ofInt 1 = 1)) rfl rfl ?_
        refine m_goto 5 dX5_leastBroken_44 (by decide) ?_
        exact q
      · replace q := q.2 c4
        refine m_iload_n dX5_leastBroken_28 rfl ?_
        refine cl_X5_46 rfl (by decide) dX5_leastBroken_29 (Nat.le_of_ble_eq_true rfl) (MCi_go q (fun r6 h5 q => ?_))
        refine m_iload_n dX5_leastBroken_32 rfl ?_
        refine cl_X5_46 rfl (by decide) dX5_leastBroken_33 (Nat.le_of_ble_eq_true rfl) (MCi_go q (fun r8 h7 q => ?_))
        refine m_icmp_ge 41 dX5_leastBroken_36 (by decide) (fun c9 => ?_) (fun c9 => ?_)
        · replace q := q.1 c9
          refine m_iinc (v := (l2 + 1)) (lv' := [.ref 7, .int l1, .int (l2 + 1)]) dX5_leastBroken_41 (Nat.le_of_ble_eq_true rfl) rfl (congrArg (fun z => l2 + z) (by decide : Int32.ofInt 1 = 1)) rfl rfl ?_
          refine m_goto 5 dX5_leastBroken_44 (by decide) ?_
          exact q
        · replace q := q.2 c9
          refine m_iload_n dX5_leastBroken_39 rfl ?_
          refine m_istore_n (lv' := [.ref 7, .int l2, .int l2]) dX5_leastBroken_40 (Nat.le_of_ble_eq_true rfl) rfl rfl ?_
          refine m_iinc (v := (l2 + 1)) (lv' := [.ref 7, .int l2, .int (l2 + 1)]) dX5_leastBroken_41 (Nat.le_of_ble_eq_true rfl) rfl (congrArg (fun z => l2 + z) (by decide : Int32.ofInt 1 = 1)) rfl rfl ?_
          refine m_goto 5 dX5_leastBroken_44 (by decide) ?_
          exact q
set_option maxRecDepth 100000 in
theorem e_X5_mostHeld {g : gT} {h : mh_T} {P : Int32 → mh_T → Prop}  (q : ME g uX5_mostHeld 4 [.ref 7, .int 0, .int 0] [] h (qI P)) : MCi g yX5_mostHeld uX5_mostHeld [.ref 7] h P := by
  refine m_enter (by decide) rfl (Nat.le_of_ble_eq_true rfl) (lv := [.ref 7, .retAddr 0, .retAddr 0]) rfl ?_
  refine m_iconst (v := 0) dX5_mostHeld_0 (by decide) ?_
  refine m_istore_n (lv' := [.ref 7, .int 0, .retAddr 0]) dX5_mostHeld_1 (Nat.le_of_ble_eq_true rfl) rfl rfl ?_
  refine m_iconst (v := 0) dX5_mostHeld_2 (by decide) ?_
  refine m_istore_n (lv' := [.ref 7, .int 0, .int 0]) dX5_mostHeld_3 (Nat.le_of_ble_eq_true rfl) rfl rfl ?_
  exact q
set_option maxRecDepth 100000 in
theorem r_X5_mostHeld_4 {g : gT} {h : mh_T} {P : Int32 → mh_T → Prop} (l1 : Int32) (l2 : Int32) (q : ((1 <<< ((mI h 7 1) &&& 31)) ≤ l2 → P l1 h) ∧ (¬ (1 <<< ((mI h 7 1) &&& 31)) ≤ l2 → (vp_in l2 256) ∧ (((mI h 31 l2.toNatClampNeg) = 0 → ME g uX5_mostHeld 4 [.ref 7, .int l1, .int (l2 + 1)] [] h (qI P)) ∧ (¬ (mI h 31 l2.toNatClampNeg) = 0 → MCi g yJ6_bitCount_0f7a4 uJ6_bitCount_0f7a4 [.int l2] h (fun r5 h4 => ∀ x6 : Int32, x6 = (if l1 < r5 then r5 else l1) → ME g uX5_mostHeld 4 [.ref 7, .int x6, .int (l2 + 1)] [] h4 (qI P)))))) : ME g uX5_mostHeld 4 [.ref 7, .int l1, .int l2] [] h (qI P) := by
  refine m_iload_n dX5_mostHeld_4 rfl ?_
  refine m_iconst (v := 1) dX5_mostHeld_5 (by decide) ?_
  refine m_aload_n dX5_mostHeld_6 rfl ?_
  refine gf_X5_28 rfl dX5_mostHeld_7 ?_
  refine m_ishl dX5_mostHeld_10 ?_
  refine m_icmp_ge 38 dX5_mostHeld_11 (by decide) (fun c1 => ?_) (fun c1 => ?_)
  · replace q := q.1 c1
    refine m_iload_n dX5_mostHeld_38 rfl ?_
    exact m_iret dX5_mostHeld_39 rfl q
  · replace q := q.2 c1
    refine m_aload_n dX5_mostHeld_14 rfl ?_
    refine gf_X5_15 rfl dX5_mostHeld_15 ?_
    refine m_iload_n dX5_mostHeld_18 rfl ?_
    obtain ⟨b2, q⟩ := q
    refine m_zaload dX5_mostHeld_19 rfl (by decide) b2 ?_
    refine m_if_eq 32 dX5_mostHeld_20 (by decide) (fun c3 => ?_) (fun c3 => ?_)
    · replace q := q.1 c3
      refine m_iinc (v := (l2 + 1)) (lv' := [.ref 7, .int l1, .int (l2 + 1)]) dX5_mostHeld_32 (Nat.le_of_ble_eq_true rfl) rfl (congrArg (fun z => l2 + z) (by decide : Int32.ofInt 1 = 1)) rfl rfl ?_
      refine m_goto 4 dX5_mostHeld_35 (by decide) ?_
      exact q
    · replace q := q.2 c3
      refine m_iload_n dX5_mostHeld_23 rfl ?_
      refine m_iload_n dX5_mostHeld_24 rfl ?_
      refine cl_X5_46 rfl (by decide) dX5_mostHeld_25 (Nat.le_of_ble_eq_true rfl) (MCi_go q (fun r5 h4 q => ?_))
      refine m_mmax dX5_mostHeld_28 tw_157 tw_158 tw_128 tw_159 (by decide) (Nat.le_of_ble_eq_true rfl) ?_
      obtain ⟨x6, ex6⟩ : ∃ z, z = (if l1 < r5 then r5 else l1) := ⟨_, rfl⟩
      rw [← ex6]
      replace q := q x6 ex6
      refine m_istore_n (lv' := [.ref 7, .int x6, .int l2]) dX5_mostHeld_31 (Nat.le_of_ble_eq_true rfl) rfl rfl ?_
      refine m_iinc (v := (l2 + 1)) (lv' := [.ref 7, .int x6, .int (l2 + 1)]) dX5_mostHeld_32 (Nat.le_of_ble_eq_true rfl) rfl (congrArg (fun z => l2 + z) (by decide : Int32.ofInt 1 = 1)) rfl rfl ?_
      refine m_goto 4 dX5_mostHeld_35 (by decide) ?_
      exact q
