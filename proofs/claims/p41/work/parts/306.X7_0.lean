set_option maxRecDepth 100000 in
theorem e_X7_isRing {g : gT} {h : mh_T} {P : Int32 → mh_T → Prop} (l1 : Int32) (q : (l1 < 0 → P 0 h) ∧ (¬ l1 < 0 → ((1 <<< ((mI h 3 2) &&& 31)) ≤ l1 → P 0 h) ∧ (¬ (1 <<< ((mI h 3 2) &&& 31)) ≤ l1 → MCi g yJ6_bitCount_0f7a4 uJ6_bitCount_0f7a4 [.int l1] h (fun r4 h3 => (3 ≤ r4 → ME g uX7_isRing 37 [.ref 4, .int l1, .int 0, .int 0, .int 0, .int 0, .retAddr 0] [] h3 (qI P)) ∧ (¬ 3 ≤ r4 → P 0 h3))))) : MCi g yX7_isRing uX7_isRing [.ref 4, .int l1] h P := by
  refine m_enter (by decide) rfl (Nat.le_of_ble_eq_true rfl) (lv := [.ref 4, .int l1, .retAddr 0, .retAddr 0, .retAddr 0, .retAddr 0, .retAddr 0]) rfl ?_
  refine m_iload_n dX7_isRing_0 rfl ?_
  refine m_if_lt 25 dX7_isRing_1 (by decide) (fun c1 => ?_) (fun c1 => ?_)
  · replace q := q.1 c1
    refine m_iconst (v := 0) dX7_isRing_25 (by decide) ?_
    exact m_zret dX7_isRing_26 rfl (by decide) q
  · replace q := q.2 c1
    refine m_iload_n dX7_isRing_4 rfl ?_
    refine m_iconst (v := 1) dX7_isRing_5 (by decide) ?_
    refine m_aload_n dX7_isRing_6 rfl ?_
    refine gf_X7_9 rfl dX7_isRing_7 ?_
    refine gf_X7_15 rfl dX7_isRing_10 ?_
    refine m_ishl dX7_isRing_13 ?_
    refine m_icmp_ge 25 dX7_isRing_14 (by decide) (fun c2 => ?_) (fun c2 => ?_)
    · replace q := q.1 c2
      refine m_iconst (v := 0) dX7_isRing_25 (by decide) ?_
      exact m_zret dX7_isRing_26 rfl (by decide) q
    · replace q := q.2 c2
      refine m_iload_n dX7_isRing_17 rfl ?_
      refine cl_X7_21 rfl (by decide) dX7_isRing_18 (Nat.le_of_ble_eq_true rfl) (MCi_go q (fun r4 h3 q => ?_))
      refine m_iconst (v := 3) dX7_isRing_21 (by decide) ?_
      refine m_icmp_ge 27 dX7_isRing_22 (by decide) (fun c5 => ?_) (fun c5 => ?_)
      · replace q := q.1 c5
        refine m_iconst (v := 0) dX7_isRing_27 (by decide) ?_
        refine m_istore_n (lv' := [.ref 4, .int l1, .int 0, .retAddr 0, .retAddr 0, .retAddr 0, .retAddr 0]) dX7_isRing_28 (Nat.le_of_ble_eq_true rfl) rfl rfl ?_
        refine m_iconst (v := 0) dX7_isRing_29 (by decide) ?_
        refine m_istore_n (lv' := [.ref 4, .int l1, .int 0, .int 0, .retAddr 0, .retAddr 0, .retAddr 0]) dX7_isRing_30 (Nat.le_of_ble_eq_true rfl) rfl rfl ?_
        refine m_iconst (v := 0) dX7_isRing_31 (by decide) ?_
        refine m_istore (lv' := [.ref 4, .int l1, .int 0, .int 0, .int 0, .retAddr 0, .retAddr 0]) dX7_isRing_32 (Nat.le_of_ble_eq_true rfl) rfl rfl ?_
        refine m_iconst (v := 0) dX7_isRing_34 (by decide) ?_
        refine m_istore (lv' := [.ref 4, .int l1, .int 0, .int 0, .int 0, .int 0, .retAddr 0]) dX7_isRing_35 (Nat.le_of_ble_eq_true rfl) rfl rfl ?_
        exact q
      · replace q := q.2 c5
        refine m_iconst (v := 0) dX7_isRing_25 (by decide) ?_
        exact m_zret dX7_isRing_26 rfl (by decide) q
set_option maxRecDepth 100000 in
theorem r_X7_isRing_37 {g : gT} {h : mh_T} {P : Int32 → mh_T → Prop} (l1 : Int32) (l2 : Int32) (l3 : Int32) (l4 : Int32) (l5 : Int32) (q : ((mI h 3 2) ≤ l5 → (¬ l4 = 0 → P 0 h) ∧ (l4 = 0 → (¬ l2 = l3 → P 0 h) ∧ (l2 = l3 → MCi g yX7_hangsTogether uX7_hangsTogether [.ref 4, .int l1, .int l2] h (fun r5 h4 => (r5 = 0 → P 0 h4) ∧ (¬ r5 = 0 → P 1 h4))))) ∧ (¬ (mI h 3 2) ≤ l5 → (((l1 >>> (l5 &&& 31)) &&& 1) = 0 → ME g uX7_isRing 37 [.ref 4, .int l1, .int l2, .int l3, .int l4, .int (l5 + 1), .retAddr 0] [] h (qI P)) ∧ (¬ ((l1 >>> (l5 &&& 31)) &&& 1) = 0 → MCi g yX8_hasPair uX8_hasPair [.ref 3, .int l5] h (fun r9 h8 => (¬ r9 = 0 → MCi g yX7_looksOf uX7_looksOf [.ref 4, .int l5] h8 (fun r12 h11 => ∀ x13 : Int32, x13 = (l4 ||| (l3 &&& r12)) → ∀ x14 : Int32, x14 = (l3 ||| (l2 &&& r12)) → ∀ x15 : Int32, x15 = (l2 ||| r12) → ME g uX7_isRing 37 [.ref 4, .int l1, .int x15, .int x14, .int x13, .int (l5 + 1), .retAddr 0] [] h11 (qI P))) ∧ (r9 = 0 → P 0 h8))))) : ME g uX7_isRing 37 [.ref 4, .int l1, .int l2, .int l3, .int l4, .int l5, .retAddr 0] [] h (qI P) := by
  refine m_iload dX7_isRing_37 rfl ?_
  refine m_aload_n dX7_isRing_39 rfl ?_
  refine gf_X7_9 rfl dX7_isRing_40 ?_
  refine gf_X7_15 rfl dX7_isRing_43 ?_
  refine m_icmp_ge 107 dX7_isRing_46 (by decide) (fun c1 => ?_) (fun c1 => ?_)
  · replace q := q.1 c1
    refine m_iload dX7_isRing_107 rfl ?_
    refine m_if_ne 130 dX7_isRing_109 (by decide) (fun c2 => ?_) (fun c2 => ?_)
    · replace q := q.1 c2
      refine m_iconst (v := 0) dX7_isRing_130 (by decide) ?_
      exact m_zret dX7_isRing_131 rfl (by decide) q
    · replace q := q.2 c2
      refine m_iload_n dX7_isRing_112 rfl ?_
      refine m_iload_n dX7_isRing_113 rfl ?_
      refine m_icmp_ne 130 dX7_isRing_114 (by decide) (fun c3 => ?_) (fun c3 => ?_)
      · replace q := q.1 c3
        refine m_iconst (v := 0) dX7_isRing_130 (by decide) ?_
        exact m_zret dX7_isRing_131 rfl (by decide) q
      · replace q := q.2 c3
        refine m_aload_n dX7_isRing_117 rfl ?_
        refine m_iload_n dX7_isRing_118 rfl ?_
        refine m_iload_n dX7_isRing_119 rfl ?_
        refine cl_X7_34 rfl (by decide) dX7_isRing_120 (Nat.le_of_ble_eq_true rfl) (MCi_go q (fun r5 h4 q => ?_))
        refine m_if_eq 130 dX7_isRing_123 (by decide) (fun c6 => ?_) (fun c6 => ?_)
        · replace q := q.1 c6
          refine m_iconst (v := 0) dX7_isRing_130 (by decide) ?_
          exact m_zret dX7_isRing_131 rfl (by decide) q
        · replace q := q.2 c6
          refine m_iconst (v := 1) dX7_isRing_126 (by decide) ?_
          refine m_goto 131 dX7_isRing_127 (by decide) ?_
          exact m_zret dX7_isRing_131 rfl (by decide) q
  · replace q := q.2 c1
    refine m_iload_n dX7_isRing_49 rfl ?_
    refine m_iload dX7_isRing_50 rfl ?_
    refine m_ishr dX7_isRing_52 ?_
    refine m_iconst (v := 1) dX7_isRing_53 (by decide) ?_
    refine m_iand dX7_isRing_54 ?_
    refine m_if_eq 101 dX7_isRing_55 (by decide) (fun c7 => ?_) (fun c7 => ?_)
    · replace q := q.1 c7
      refine m_iinc (v := (l5 + 1)) (lv' := [.ref 4, .int l1, .int l2, .int l3, .int l4, .int (l5 + 1), .retAddr 0]) dX7_isRing_101 (Nat.le_of_ble_eq_true rfl) rfl (congrArg (fun z => l5 + z) (by decide : Int32.ofInt 1 = 1)) rfl rfl ?_
      refine m_goto 37 dX7_isRing_104 (by decide) ?_
      exact q
    · replace q := q.2 c7
      refine m_aload_n dX7_isRing_58 rfl ?_
      refine gf_X7_9 rfl dX7_isRing_59 ?_
      refine m_iload dX7_isRing_62 rfl ?_
      refine cl_X7_27 rfl (by decide) dX7_isRing_64 (Nat.le_of_ble_eq_true rfl) (MCi_go q (fun r9 h8 q => ?_))
      refine m_if_ne 72 dX7_isRing_67 (by decide) (fun c10 => ?_) (fun c10 => ?_)
      · replace q := q.1 c10
        refine m_aload_n dX7_isRing_72 rfl ?_
        refine m_iload dX7_isRing_73 rfl ?_
        refine cl_X7_31 rfl (by decide) dX7_isRing_75 (Nat.le_of_ble_eq_true rfl) (MCi_go q (fun r12 h11 q => ?_))
        refine m_istore (lv' := [.ref 4, .int l1, .int l2, .int l3, .int l4, .int l5, .int r12]) dX7_isRing_78 (Nat.le_of_ble_eq_true rfl) rfl rfl ?_
        refine m_iload dX7_isRing_80 rfl ?_
        refine m_iload_n dX7_isRing_82 rfl ?_
        refine m_iload dX7_isRing_83 rfl ?_
        refine m_iand dX7_isRing_85 ?_
        refine m_ior dX7_isRing_86 ?_
        obtain ⟨x13, ex13⟩ : ∃ z, z = (l4 ||| (l3 &&& r12)) := ⟨_, rfl⟩
        rw [← ex13]
        replace q := q x13 ex13
        refine m_istore (lv' := [.ref 4, .int l1, .int l2, .int l3, .int x13, .int l5, .int r12]) dX7_isRing_87 (Nat.le_of_ble_eq_true rfl) rfl rfl ?_
        refine m_iload_n dX7_isRing_89 rfl ?_
        refine m_iload_n dX7_isRing_90 rfl ?_
        refine m_iload dX7_isRing_91 rfl ?_
        refine m_iand dX7_isRing_93 ?_
        refine m_ior dX7_isRing_94 ?_
        obtain ⟨x14, ex14⟩ : ∃ z, z = (l3 ||| (l2 &&& r12)) := ⟨_, rfl⟩
        rw [← ex14]
        replace q := q x14 ex14
        refine m_istore_n (lv' := [.ref 4, .int l1, .int l2, .int x14, .int x13, .int l5, .int r12]) dX7_isRing_95 (Nat.le_of_ble_eq_true rfl) rfl rfl ?_
        refine m_iload_n dX7_isRing_96 rfl ?_
        refine m_iload dX7_isRing_97 rfl ?_
        refine m_ior dX7_isRing_99 ?_
        obtain ⟨x15, ex15⟩ : ∃ z, z = (l2 ||| r12) := ⟨_, rfl⟩
        rw [← ex15]
        replace q := q x15 ex15
        refine m_istore_n (lv' := [.ref 4, .int l1, .int x15, .int x14, .int x13, .int l5, .int r12]) dX7_isRing_100 (Nat.le_of_ble_eq_true rfl) rfl rfl ?_
        refine m_iinc (v := (l5 + 1)) (lv' := [.ref 4, .int l1, .int x15, .int x14, .int x13, .int (l5 + 1), .int r12]) dX7_isRing_101 (Nat.le_of_ble_eq_true rfl) rfl (congrArg (fun z => l5 + z) (by decide : Int32.ofInt 1 = 1)) rfl rfl ?_
        refine m_goto 37 dX7_isRing_104 (by decide) ?_
        refine m_dropK (lv' := [.ref 4, .int l1, .int x15, .int x14, .int x13, .int (l5 + 1), .retAddr 0]) [6] rfl ?_
        exact q
      · replace q := q.2 c10
        refine m_iconst (v := 0) dX7_isRing_70 (by decide) ?_
        exact m_zret dX7_isRing_71 rfl (by decide) q
set_option maxRecDepth 100000 in
theorem e_X7_looksOf {g : gT} {h : mh_T} {P : Int32 → mh_T → Prop} (l1 : Int32) (q : (vp_in l1 8) ∧ ((vp_in l1 8) ∧ (P ((1 <<< ((mI h 24 l1.toNatClampNeg) &&& 31)) ||| (1 <<< ((mI h 25 l1.toNatClampNeg) &&& 31))) h))) : MCi g yX7_looksOf uX7_looksOf [.ref 4, .int l1] h P := by
  refine m_enter (by decide) rfl (Nat.le_of_ble_eq_true rfl) (lv := [.ref 4, .int l1]) rfl ?_
  refine m_iconst (v := 1) dX7_looksOf_0 (by decide) ?_
  refine m_aload_n dX7_looksOf_1 rfl ?_
  refine gf_X7_9 rfl dX7_looksOf_2 ?_
  refine gf_X7_38 rfl dX7_looksOf_5 ?_
  refine m_iload_n dX7_looksOf_8 rfl ?_
  obtain ⟨b1, q⟩ := q
  refine m_iaload dX7_looksOf_9 rfl (by decide) b1 ?_
  refine m_ishl dX7_looksOf_10 ?_
  refine m_iconst (v := 1) dX7_looksOf_11 (by decide) ?_
  refine m_aload_n dX7_looksOf_12 rfl ?_
  refine gf_X7_9 rfl dX7_looksOf_13 ?_
  refine gf_X7_42 rfl dX7_looksOf_16 ?_
  refine m_iload_n dX7_looksOf_19 rfl ?_
  obtain ⟨b2, q⟩ := q
  refine m_iaload dX7_looksOf_20 rfl (by decide) b2 ?_
  refine m_ishl dX7_looksOf_21 ?_
  refine m_ior dX7_looksOf_22 ?_
  exact m_iret dX7_looksOf_23 rfl q
set_option maxRecDepth 100000 in
theorem e_X7_hangsTogether {g : gT} {h : mh_T} {P : Int32 → mh_T → Prop} (l1 : Int32) (l2 : Int32) (q : ∀ x1 : Int32, x1 = (l2 &&& (-l2)) → ME g uX7_hangsTogether 8 [.ref 4, .int l1, .int l2, .int x1, .int 0, .retAddr 0] [] h (qI P)) : MCi g yX7_hangsTogether uX7_hangsTogether [.ref 4, .int l1, .int l2] h P := by
  refine m_enter (by decide) rfl (Nat.le_of_ble_eq_true rfl) (lv := [.ref 4, .int l1, .int l2, .retAddr 0, .retAddr 0, .retAddr 0]) rfl ?_
  refine m_iload_n dX7_hangsTogether_0 rfl ?_
  refine m_iload_n dX7_hangsTogether_1 rfl ?_
  refine m_ineg dX7_hangsTogether_2 ?_
  refine m_iand dX7_hangsTogether_3 ?_
  obtain ⟨x1, ex1⟩ : ∃ z, z = (l2 &&& (-l2)) := ⟨_, rfl⟩
  rw [← ex1]
  replace q := q x1 ex1
  refine m_istore_n (lv' := [.ref 4, .int l1, .int l2, .int x1, .retAddr 0, .retAddr 0]) dX7_hangsTogether_4 (Nat.le_of_ble_eq_true rfl) rfl rfl ?_
  refine m_iconst (v := 0) dX7_hangsTogether_5 (by decide) ?_
  refine m_istore (lv' := [.ref 4, .int l1, .int l2, .int x1, .int 0, .retAddr 0]) dX7_hangsTogether_6 (Nat.le_of_ble_eq_true rfl) rfl rfl ?_
  exact q
set_option maxRecDepth 100000 in
theorem r_X7_hangsTogether_8 {g : gT} {h : mh_T} {P : Int32 → mh_T → Prop} (l1 : Int32) (l2 : Int32) (l3 : Int32) (l4 : Int32) (q : (8 ≤ l4 → (¬ l3 = l2 → P 0 h) ∧ (l3 = l2 → P 1 h)) ∧ (¬ 8 ≤ l4 → ME g uX7_hangsTogether 18 [.ref 4, .int l1, .int l2, .int l3, .int l4, .int 0] [] h (qI P))) : ME g uX7_hangsTogether 8 [.ref 4, .int l1, .int l2, .int l3, .int l4, .retAddr 0] [] h (qI P) := by
  refine m_iload dX7_hangsTogether_8 rfl ?_
  refine m_bipush (v := 8) dX7_hangsTogether_10 (by decide) ?_
  refine m_icmp_ge 71 dX7_hangsTogether_12 (by decide) (fun c1 => ?_) (fun c1 => ?_)
  · replace q := q.1 c1
    refine m_iload_n dX7_hangsTogether_71 rfl ?_
    refine m_iload_n dX7_hangsTogether_72 rfl ?_
    refine m_icmp_ne 80 dX7_hangsTogether_73 (by decide) (fun c2 => ?_) (fun c2 => ?_)
    · replace q := q.1 c2
      refine m_iconst (v := 0) dX7_hangsTogether_80 (by decide) ?_
      exact m_zret dX7_hangsTogether_81 rfl (by decide) q
    · replace q := q.2 c2
      refine m_iconst (v := 1) dX7_hangsTogether_76 (by decide) ?_
      refine m_goto 81 dX7_hangsTogether_77 (by decide) ?_
      exact m_zret dX7_hangsTogether_81 rfl (by decide) q
  · replace q := q.2 c1
    refine m_iconst (v := 0) dX7_hangsTogether_15 (by decide) ?_
    refine m_istore (lv' := [.ref 4, .int l1, .int l2, .int l3, .int l4, .int 0]) dX7_hangsTogether_16 (Nat.le_of_ble_eq_true rfl) rfl rfl ?_
    exact q
set_option maxRecDepth 100000 in
theorem r_X7_hangsTogether_18 {g : gT} {h : mh_T} {P : Int32 → mh_T → Prop} (l1 : Int32) (l2 : Int32) (l3 : Int32) (l4 : Int32) (l5 : Int32) (q : ((mI h 3 2) ≤ l5 → ME g uX7_hangsTogether 8 [.ref 4, .int l1, .int l2, .int l3, .int (l4 + 1), .retAddr 0] [] h (qI P)) ∧ (¬ (mI h 3 2) ≤ l5 → (((l1 >>> (l5 &&& 31)) &&& 1) = 0 → ME g uX7_hangsTogether 18 [.ref 4, .int l1, .int l2, .int l3, .int l4, .int (l5 + 1)] [] h (qI P)) ∧ (¬ ((l1 >>> (l5 &&& 31)) &&& 1) = 0 → MCi g yX7_looksOf uX7_looksOf [.ref 4, .int l5] h (fun r4 h3 => ((r4 &&& l3) = 0 → ME g uX7_hangsTogether 18 [.ref 4, .int l1, .int l2, .int l3, .int l4, .int (l5 + 1)] [] h3 (qI P)) ∧ (¬ (r4 &&& l3) = 0 → MCi g yX7_looksOf uX7_looksOf [.ref 4, .int l5] h3 (fun r7 h6 => ∀ x8 : Int32, x8 = (l3 ||| r7) → ME g uX7_hangsTogether 18 [.ref 4, .int l1, .int l2, .int x8, .int l4, .int (l5 + 1)] [] h6 (qI P))))))) : ME g uX7_hangsTogether 18 [.ref 4, .int l1, .int l2, .int l3, .int l4, .int l5] [] h (qI P) := by
  refine m_iload dX7_hangsTogether_18 rfl ?_
  refine m_aload_n dX7_hangsTogether_20 rfl ?_
  refine gf_X7_9 rfl dX7_hangsTogether_21 ?_
  refine gf_X7_15 rfl dX7_hangsTogether_24 ?_
  refine m_icmp_ge 65 dX7_hangsTogether_27 (by decide) (fun c1 => ?_) (fun c1 => ?_)
  · replace q := q.1 c1
    refine m_iinc (v := (l4 + 1)) (lv' := [.ref 4, .int l1, .int l2, .int l3, .int (l4 + 1), .int l5]) dX7_hangsTogether_65 (Nat.le_of_ble_eq_true rfl) rfl (congrArg (fun z => l4 + z) (by decide : Int32.ofInt 1 = 1)) rfl rfl ?_
    refine m_goto 8 dX7_hangsTogether_68 (by decide) ?_
    refine m_dropK (lv' := [.ref 4, .int l1, .int l2, .int l3, .int (l4 + 1), .retAddr 0]) [5] rfl ?_
    exact q
  · replace q := q.2 c1
    refine m_iload_n dX7_hangsTogether_30 rfl ?_
    refine m_iload dX7_hangsTogether_31 rfl ?_
    refine m_ishr dX7_hangsTogether_33 ?_
    refine m_iconst (v := 1) dX7_hangsTogether_34 (by decide) ?_
    refine m_iand dX7_hangsTogether_35 ?_
    refine m_if_eq 59 dX7_hangsTogether_36 (by decide) (fun c2 => ?_) (fun c2 => ?_)
    · replace q := q.1 c2
      refine m_iinc (v := (l5 + 1)) (lv' := [.ref 4, .int l1, .int l2, .int l3, .int l4, .int (l5 + 1)]) dX7_hangsTogether_59 (Nat.le_of_ble_eq_true rfl) rfl (congrArg (fun z => l5 + z) (by decide : Int32.ofInt 1 = 1)) rfl rfl ?_
      refine m_goto 18 dX7_hangsTogether_62 (by decide) ?_
      exact q
    · replace q := q.2 c2
      refine m_aload_n dX7_hangsTogether_39 rfl ?_
      refine m_iload dX7_hangsTogether_40 rfl ?_
      refine cl_X7_31 rfl (by decide) dX7_hangsTogether_42 (Nat.le_of_ble_eq_true rfl) (MCi_go q (fun r4 h3 q => ?_))
      refine m_iload_n dX7_hangsTogether_45 rfl ?_
      refine m_iand dX7_hangsTogether_46 ?_
      refine m_if_eq 59 dX7_hangsTogether_47 (by decide) (fun c5 => ?_) (fun c5 => ?_)
      · replace q := q.1 c5
        refine m_iinc (v := (l5 + 1)) (lv' := [.ref 4, .int l1, .int l2, .int l3, .int l4, .int (l5 + 1)]) dX7_hangsTogether_59 (Nat.le_of_ble_eq_true rfl) rfl (congrArg (fun z => l5 + z) (by decide : Int32.ofInt 1 = 1)) rfl rfl ?_
        refine m_goto 18 dX7_hangsTogether_62 (by decide) ?_
        exact q
      · replace q := q.2 c5
        refine m_iload_n dX7_hangsTogether_50 rfl ?_
        refine m_aload_n dX7_hangsTogether_51 rfl ?_
        refine m_iload dX7_hangsTogether_52 rfl ?_
        refine cl_X7_31 rfl (by decide) dX7_hangsTogether_54 (Nat.le_of_ble_eq_true rfl) (MCi_go q (fun r7 h6 q => ?_))
        refine m_ior dX7_hangsTogether_57 ?_
        obtain ⟨x8, ex8⟩ : ∃ z, z = (l3 ||| r7) := ⟨_, rfl⟩
        rw [← ex8]
        replace q := q x8 ex8
        refine m_istore_n (lv' := [.ref 4, .int l1, .int l2, .int x8, .int l4, .int l5]) dX7_hangsTogether_58 (Nat.le_of_ble_eq_true rfl) rfl rfl ?_
        refine m_iinc (v := (l5 + 1)) (lv' := [.ref 4, .int l1, .int l2, .int x8, .int l4, .int (l5 + 1)]) dX7_hangsTogether_59 (Nat.le_of_ble_eq_true rfl) rfl (congrArg (fun z => l5 + z) (by decide : Int32.ofInt 1 = 1)) rfl rfl ?_
        refine m_goto 18 dX7_hangsTogether_62 (by decide) ?_
        exact q
set_option maxRecDepth 100000 in
theorem e_X7_number {g : gT} {h : mh_T} {P : Int32 → mh_T → Prop}  (q : ME g uX7_number 4 [.ref 4, .int 0, .int 0] [] h (qI P)) : MCi g yX7_number uX7_number [.ref 4] h P := by
  refine m_enter (by decide) rfl (Nat.le_of_ble_eq_true rfl) (lv := [.ref 4, .retAddr 0, .retAddr 0]) rfl ?_
  refine m_iconst (v := 0) dX7_number_0 (by decide) ?_
  refine m_istore_n (lv' := [.ref 4, .int 0, .retAddr 0]) dX7_number_1 (Nat.le_of_ble_eq_true rfl) rfl rfl ?_
  refine m_iconst (v := 0) dX7_number_2 (by decide) ?_
  refine m_istore_n (lv' := [.ref 4, .int 0, .int 0]) dX7_number_3 (Nat.le_of_ble_eq_true rfl) rfl rfl ?_
  exact q
set_option maxRecDepth 100000 in
theorem r_X7_number_4 {g : gT} {h : mh_T} {P : Int32 → mh_T → Prop} (l1 : Int32) (l2 : Int32) (q : ((1 <<< ((mI h 3 2) &&& 31)) ≤ l2 → P l1 h) ∧ (¬ (1 <<< ((mI h 3 2) &&& 31)) ≤ l2 → MCi g yX7_isRing uX7_isRing [.ref 4, .int l2] h (fun r3 h2 => (r3 = 0 → ME g uX7_number 4 [.ref 4, .int l1, .int (l2 + 1)] [] h2 (qI P)) ∧ (¬ r3 = 0 → ME g uX7_number 4 [.ref 4, .int (l1 + 1), .int (l2 + 1)] [] h2 (qI P))))) : ME g uX7_number 4 [.ref 4, .int l1, .int l2] [] h (qI P) := by
  refine m_iload_n dX7_number_4 rfl ?_
  refine m_iconst (v := 1) dX7_number_5 (by decide) ?_
  refine m_aload_n dX7_number_6 rfl ?_
  refine gf_X7_9 rfl dX7_number_7 ?_
  refine gf_X7_15 rfl dX7_number_10 ?_
  refine m_ishl dX7_number_13 ?_
  refine m_icmp_ge 34 dX7_number_14 (by decide) (fun c1 => ?_) (fun c1 => ?_)
  · replace q := q.1 c1
    refine m_iload_n dX7_number_34 rfl ?_
    exact m_iret dX7_number_35 rfl q
  · replace q := q.2 c1
    refine m_aload_n dX7_number_17 rfl ?_
    refine m_iload_n dX7_number_18 rfl ?_
    refine cl_X7_45 rfl (by decide) dX7_number_19 (Nat.le_of_ble_eq_true rfl) (MCi_go q (fun r3 h2 q => ?_))
    refine m_if_eq 28 dX7_number_22 (by decide) (fun c4 => ?_) (fun c4 => ?_)
    · replace q := q.1 c4
      refine m_iinc (v := (l2 + 1)) (lv' := [.ref 4, .int l1, .int (l2 + 1)]) dX7_number_28 (Nat.le_of_ble_eq_true rfl) rfl (congrArg (fun z => l2 + z) (by decide : Int32.ofInt 1 = 1)) rfl rfl ?_
      refine m_goto 4 dX7_number_31 (by decide) ?_
      exact q
    · replace q := q.2 c4
      refine m_iinc (v := (l1 + 1)) (lv' := [.ref 4, .int (l1 + 1), .int l2]) dX7_number_25 (Nat.le_of_ble_eq_true rfl) rfl (congrArg (fun z => l1 + z) (by decide : Int32.ofInt 1 = 1)) rfl rfl ?_
      refine m_iinc (v := (l2 + 1)) (lv' := [.ref 4, .int (l1 + 1), .int (l2 + 1)]) dX7_number_28 (Nat.le_of_ble_eq_true rfl) rfl (congrArg (fun z => l2 + z) (by decide : Int32.ofInt 1 = 1)) rfl rfl ?_
      refine m_goto 4 dX7_number_31 (by decide) ?_
      exact q
set_option maxRecDepth 100000 in
theorem e_X7_ringAt {g : gT} {h : mh_T} {P : Int32 → mh_T → Prop} (l1 : Int32) (q : ME g uX7_ringAt 4 [.ref 4, .int l1, .int 0, .int 0] [] h (qI P)) : MCi g yX7_ringAt uX7_ringAt [.ref 4, .int l1] h P := by
  refine m_enter (by decide) rfl (Nat.le_of_ble_eq_true rfl) (lv := [.ref 4, .int l1, .retAddr 0, .retAddr 0]) rfl ?_
  refine m_iconst (v := 0) dX7_ringAt_0 (by decide) ?_
  refine m_istore_n (lv' := [.ref 4, .int l1, .int 0, .retAddr 0]) dX7_ringAt_1 (Nat.le_of_ble_eq_true rfl) rfl rfl ?_
  refine m_iconst (v := 0) dX7_ringAt_2 (by decide) ?_
  refine m_istore_n (lv' := [.ref 4, .int l1, .int 0, .int 0]) dX7_ringAt_3 (Nat.le_of_ble_eq_true rfl) rfl rfl ?_
  exact q
set_option maxRecDepth 100000 in
theorem r_X7_ringAt_4 {g : gT} {h : mh_T} {P : Int32 → mh_T → Prop} (l1 : Int32) (l2 : Int32) (l3 : Int32) (q : ((1 <<< ((mI h 3 2) &&& 31)) ≤ l3 → P (-1) h) ∧ (¬ (1 <<< ((mI h 3 2) &&& 31)) ≤ l3 → MCi g yX7_isRing uX7_isRing [.ref 4, .int l3] h (fun r3 h2 => (r3 = 0 → ME g uX7_ringAt 4 [.ref 4, .int l1, .int l2, .int (l3 + 1)] [] h2 (qI P)) ∧ (¬ r3 = 0 → (¬ l2 = l1 → ME g uX7_ringAt 4 [.ref 4, .int l1, .int (l2 + 1), .int (l3 + 1)] [] h2 (qI P)) ∧ (l2 = l1 → P l3 h2))))) : ME g uX7_ringAt 4 [.ref 4, .int l1, .int l2, .int l3] [] h (qI P) := by
  refine m_iload_n dX7_ringAt_4 rfl ?_
  refine m_iconst (v := 1) dX7_ringAt_5 (by decide) ?_
  refine m_aload_n dX7_ringAt_6 rfl ?_
  refine gf_X7_9 rfl dX7_ringAt_7 ?_
  refine gf_X7_15 rfl dX7_ringAt_10 ?_
  refine m_ishl dX7_ringAt_13 ?_
  refine m_icmp_ge 41 dX7_ringAt_14 (by decide) (fun c1 => ?_) (fun c1 => ?_)
  · replace q := q.1 c1
    refine m_iconst (v := (-1)) dX7_ringAt_41 (by decide) ?_
    exact m_iret dX7_ringAt_42 rfl q
  · replace q := q.2 c1
    refine m_aload_n dX7_ringAt_17 rfl ?_
    refine m_iload_n dX7_ringAt_18 rfl ?_
    refine cl_X7_45 rfl (by decide) dX7_ringAt_19 (Nat.le_of_ble_eq_true rfl) (MCi_go q (fun r3 h2 q => ?_))
    refine m_if_eq 35 dX7_ringAt_22 (by decide) (fun c4 => ?_) (fun c4 => ?_)
    · replace q := q.1 c4
      refine m_iinc (v := (l3 + 1)) (lv' := [.ref 4, .int l1, .int l2, .int (l3 + 1)]) dX7_ringAt_35 (Nat.le_of_ble_eq_true rfl) rfl (congrArg (fun z => l3 + z) (by decide : Int32.ofInt 1 = 1)) rfl rfl ?_
      refine m_goto 4 dX7_ringAt_38 (by decide) ?_
      exact q
    · replace q := q.2 c4
      refine m_iload_n dX7_ringAt_25 rfl ?_
      refine m_iload_n dX7_ringAt_26 rfl ?_
      refine m_icmp_ne 32 dX7_ringAt_27 (by decide) (fun c5 => ?_) (fun c5 => ?_)
      · replace q := q.1 c5
        refine m_iinc (v := (l2 + 1)) (lv' := [.ref 4, .int l1, .int (l2 + 1), .int l3]) dX7_ringAt_32 (Nat.le_of_ble_eq_true rfl) rfl (congrArg (fun z => l2 + z) (by decide : Int32.ofInt 1 = 1)) rfl rfl ?_
        refine m_iinc (v := (l3 + 1)) (lv' := [.ref 4, .int l1, .int (l2 + 1), .int (l3 + 1)]) dX7_ringAt_35 (Nat.le_of_ble_eq_true rfl) rfl (congrArg (fun z => l3 + z) (by decide : Int32.ofInt 1 = 1)) rfl rfl ?_
        refine m_goto 4 dX7_ringAt_38 (by decide) ?_
        exact q
      · replace q := q.2 c5
        refine m_iload_n dX7_ringAt_30 rfl ?_
        exact m_iret dX7_ringAt_31 rfl q
set_option maxRecDepth 100000 in
theorem e_X7_surplus {g : gT} {h : mh_T} {P : Int32 → mh_T → Prop} (l1 : Int32) (q : ME g uX7_surplus 11 [.ref 4, .int l1, .int 0, .int 60, .int 0, .int 0, .retAddr 0] [] h (qI P)) : MCi g yX7_surplus uX7_surplus [.ref 4, .int l1] h P := by
  refine m_enter (by decide) rfl (Nat.le_of_ble_eq_true rfl) (lv := [.ref 4, .int l1, .retAddr 0, .retAddr 0, .retAddr 0, .retAddr 0, .retAddr 0]) rfl ?_
  refine m_iconst (v := 0) dX7_surplus_0 (by decide) ?_
  refine m_istore_n (lv' := [.ref 4, .int l1, .int 0, .retAddr 0, .retAddr 0, .retAddr 0, .retAddr 0]) dX7_surplus_1 (Nat.le_of_ble_eq_true rfl) rfl rfl ?_
  refine m_bipush (v := 60) dX7_surplus_2 (by decide) ?_
  refine m_istore_n (lv' := [.ref 4, .int l1, .int 0, .int 60, .retAddr 0, .retAddr 0, .retAddr 0]) dX7_surplus_4 (Nat.le_of_ble_eq_true rfl) rfl rfl ?_
  refine m_iconst (v := 0) dX7_surplus_5 (by decide) ?_
  refine m_istore (lv' := [.ref 4, .int l1, .int 0, .int 60, .int 0, .retAddr 0, .retAddr 0]) dX7_surplus_6 (Nat.le_of_ble_eq_true rfl) rfl rfl ?_
  refine m_iconst (v := 0) dX7_surplus_8 (by decide) ?_
  refine m_istore (lv' := [.ref 4, .int l1, .int 0, .int 60, .int 0, .int 0, .retAddr 0]) dX7_surplus_9 (Nat.le_of_ble_eq_true rfl) rfl rfl ?_
  exact q
set_option maxRecDepth 100000 in
theorem r_X7_surplus_11 {g : gT} {h : mh_T} {P : Int32 → mh_T → Prop} (l1 : Int32) (l2 : Int32) (l3 : Int32) (l4 : Int32) (l5 : Int32) (q : ((mI h 3 2) ≤ l5 → (¬ (l4 - l4 / 2 * 2) = 1 → ∀ x3 : Int32, x3 = (l2 - (2 * l3)) → MCi g yJ6_bitCount_0f7a4 uJ6_bitCount_0f7a4 [.int l1] h (fun r5 h4 => P (x3 - ((mI h 3 0) * (r5 - 2))) h4)) ∧ ((l4 - l4 / 2 * 2) = 1 → MCi g yJ6_bitCount_0f7a4 uJ6_bitCount_0f7a4 [.int l1] h (fun r7 h6 => P (l2 - ((mI h 3 0) * (r7 - 2))) h6))) ∧ (¬ (mI h 3 2) ≤ l5 → (((l1 >>> (l5 &&& 31)) &&& 1) = 0 → ME g uX7_surplus 11 [.ref 4, .int l1, .int l2, .int l3, .int l4, .int (l5 + 1), .retAddr 0] [] h (qI P)) ∧ (¬ ((l1 >>> (l5 &&& 31)) &&& 1) = 0 → MCi g yX8_alike uX8_alike [.ref 3, .int l5] h (fun r10 h9 => ∀ x11 : Int32, x11 = (l2 + (if 0 ≤ r10 then r10 else 0 - r10)) → ∀ x12 : Int32, x12 = (if (if 0 ≤ r10 then r10 else 0 - r10) < l3 then (if 0 ≤ r10 then r10 else 0 - r10) else l3) → (0 ≤ r10 → ∀ x14 : Int32, x14 = (l4 + 0) → ME g uX7_surplus 11 [.ref 4, .int l1, .int x11, .int x12, .int x14, .int (l5 + 1), .retAddr 0] [] h9 (qI P)) ∧ (¬ 0 ≤ r10 → ∀ x15 : Int32, x15 = (l4 + 1) → ME g uX7_surplus 11 [.ref 4, .int l1, .int x11, .int x12, .int x15, .int (l5 + 1), .retAddr 0] [] h9 (qI P)))))) : ME g uX7_surplus 11 [.ref 4, .int l1, .int l2, .int l3, .int l4, .int l5, .retAddr 0] [] h (qI P) := by
  refine m_iload dX7_surplus_11 rfl ?_
  refine m_aload_n dX7_surplus_13 rfl ?_
  refine gf_X7_9 rfl dX7_surplus_14 ?_
  refine gf_X7_15 rfl dX7_surplus_17 ?_
  refine m_icmp_ge 82 dX7_surplus_20 (by decide) (fun c1 => ?_) (fun c1 => ?_)
  · replace q := q.1 c1
    refine m_iload dX7_surplus_82 rfl ?_
    refine m_iconst (v := 2) dX7_surplus_84 (by decide) ?_
    refine m_irem dX7_surplus_85 (by decide) ?_
    refine m_iconst (v := 1) dX7_surplus_86 (by decide) ?_
    refine m_icmp_ne 94 dX7_surplus_87 (by decide) (fun c2 => ?_) (fun c2 => ?_)
    · replace q := q.1 c2
      refine m_iload_n dX7_surplus_94 rfl ?_
      refine m_iconst (v := 2) dX7_surplus_95 (by decide) ?_
      refine m_iload_n dX7_surplus_96 rfl ?_
      refine m_imul dX7_surplus_97 ?_
      refine m_isub dX7_surplus_98 ?_
      obtain ⟨x3, ex3⟩ : ∃ z, z = (l2 - (2 * l3)) := ⟨_, rfl⟩
      rw [← ex3]
      replace q := q x3 ex3
      refine m_istore (lv' := [.ref 4, .int l1, .int l2, .int l3, .int l4, .int x3, .retAddr 0]) dX7_surplus_99 (Nat.le_of_ble_eq_true rfl) rfl rfl ?_
      refine m_iload dX7_surplus_101 rfl ?_
      refine m_aload_n dX7_surplus_103 rfl ?_
      refine gf_X7_9 rfl dX7_surplus_104 ?_
      refine gf_X7_60 rfl dX7_surplus_107 ?_
      refine m_iload_n dX7_surplus_110 rfl ?_
      refine cl_X7_21 rfl (by decide) dX7_surplus_111 (Nat.le_of_ble_eq_true rfl) (MCi_go q (fun r5 h4 q => ?_))
      refine m_iconst (v := 2) dX7_surplus_114 (by decide) ?_
      refine m_isub dX7_surplus_115 ?_
      refine m_imul dX7_surplus_116 ?_
      refine m_isub dX7_surplus_117 ?_
      exact m_iret dX7_surplus_118 rfl q
    · replace q := q.2 c2
      refine m_iload_n dX7_surplus_90 rfl ?_
      refine m_goto 99 dX7_surplus_91 (by decide) ?_
      refine m_istore (lv' := [.ref 4, .int l1, .int l2, .int l3, .int l4, .int l2, .retAddr 0]) dX7_surplus_99 (Nat.le_of_ble_eq_true rfl) rfl rfl ?_
      refine m_iload dX7_surplus_101 rfl ?_
      refine m_aload_n dX7_surplus_103 rfl ?_
      refine gf_X7_9 rfl dX7_surplus_104 ?_
      refine gf_X7_60 rfl dX7_surplus_107 ?_
      refine m_iload_n dX7_surplus_110 rfl ?_
      refine cl_X7_21 rfl (by decide) dX7_surplus_111 (Nat.le_of_ble_eq_true rfl) (MCi_go q (fun r7 h6 q => ?_))
      refine m_iconst (v := 2) dX7_surplus_114 (by decide) ?_
      refine m_isub dX7_surplus_115 ?_
      refine m_imul dX7_surplus_116 ?_
      refine m_isub dX7_surplus_117 ?_
      exact m_iret dX7_surplus_118 rfl q
  · replace q := q.2 c1
    refine m_iload_n dX7_surplus_23 rfl ?_
    refine m_iload dX7_surplus_24 rfl ?_
    refine m_ishr dX7_surplus_26 ?_
    refine m_iconst (v := 1) dX7_surplus_27 (by decide) ?_
    refine m_iand dX7_surplus_28 ?_
    refine m_if_eq 76 dX7_surplus_29 (by decide) (fun c8 => ?_) (fun c8 => ?_)
    · replace q := q.1 c8
      refine m_iinc (v := (l5 + 1)) (lv' := [.ref 4, .int l1, .int l2, .int l3, .int l4, .int (l5 + 1), .retAddr 0]) dX7_surplus_76 (Nat.le_of_ble_eq_true rfl) rfl (congrArg (fun z => l5 + z) (by decide : Int32.ofInt 1 = 1)) rfl rfl ?_
      refine m_goto 11 dX7_surplus_79 (by decide) ?_
      exact q
    · replace q := q.2 c8
      refine m_aload_n dX7_surplus_32 rfl ?_
      refine gf_X7_9 rfl dX7_surplus_33 ?_
      refine m_iload dX7_surplus_36 rfl ?_
      refine cl_X7_48 rfl (by decide) dX7_surplus_38 (Nat.le_of_ble_eq_true rfl) (MCi_go q (fun r10 h9 q => ?_))
      refine m_istore (lv' := [.ref 4, .int l1, .int l2, .int l3, .int l4, .int l5, .int r10]) dX7_surplus_41 (Nat.le_of_ble_eq_true rfl) rfl rfl ?_
      refine m_iload_n dX7_surplus_43 rfl ?_
      refine m_iload dX7_surplus_44 rfl ?_
      refine m_mabs dX7_surplus_46 tw_126 tw_127 tw_128 tw_129 (by decide) (Nat.le_of_ble_eq_true rfl) ?_
      refine m_iadd dX7_surplus_49 ?_
      obtain ⟨x11, ex11⟩ : ∃ z, z = (l2 + (if 0 ≤ r10 then r10 else 0 - r10)) := ⟨_, rfl⟩
      rw [← ex11]
      replace q := q x11 ex11
      refine m_istore_n (lv' := [.ref 4, .int l1, .int x11, .int l3, .int l4, .int l5, .int r10]) dX7_surplus_50 (Nat.le_of_ble_eq_true rfl) rfl rfl ?_
      refine m_iload_n dX7_surplus_51 rfl ?_
      refine m_iload dX7_surplus_52 rfl ?_
      refine m_mabs dX7_surplus_54 tw_126 tw_127 tw_128 tw_129 (by decide) (Nat.le_of_ble_eq_true rfl) ?_
      refine m_mmin dX7_surplus_57 tw_130 tw_131 tw_128 tw_132 (by decide) (Nat.le_of_ble_eq_true rfl) ?_
      obtain ⟨x12, ex12⟩ : ∃ z, z = (if (if 0 ≤ r10 then r10 else 0 - r10) < l3 then (if 0 ≤ r10 then r10 else 0 - r10) else l3) := ⟨_, rfl⟩
      rw [← ex12]
      replace q := q x12 ex12
      refine m_istore_n (lv' := [.ref 4, .int l1, .int x11, .int x12, .int l4, .int l5, .int r10]) dX7_surplus_60 (Nat.le_of_ble_eq_true rfl) rfl rfl ?_
      refine m_iload dX7_surplus_61 rfl ?_
      refine m_iload dX7_surplus_63 rfl ?_
      refine m_if_ge 72 dX7_surplus_65 (by decide) (fun c13 => ?_) (fun c13 => ?_)
      · replace q := q.1 c13
        refine m_iconst (v := 0) dX7_surplus_72 (by decide) ?_
        refine m_iadd dX7_surplus_73 ?_
        obtain ⟨x14, ex14⟩ : ∃ z, z = (l4 + 0) := ⟨_, rfl⟩
        rw [← ex14]
        replace q := q x14 ex14
        refine m_istore (lv' := [.ref 4, .int l1, .int x11, .int x12, .int x14, .int l5, .int r10]) dX7_surplus_74 (Nat.le_of_ble_eq_true rfl) rfl rfl ?_
        refine m_iinc (v := (l5 + 1)) (lv' := [.ref 4, .int l1, .int x11, .int x12, .int x14, .int (l5 + 1), .int r10]) dX7_surplus_76 (Nat.le_of_ble_eq_true rfl) rfl (congrArg (fun z => l5 + z) (by decide : Int32.ofInt 1 = 1)) rfl rfl ?_
        refine m_goto 11 dX7_surplus_79 (by decide) ?_
        refine m_dropK (lv' := [.ref 4, .int l1, .int x11, .int x12, .int x14, .int (l5 + 1), .retAddr 0]) [6] rfl ?_
        exact q
      · replace q := q.2 c13
        refine m_iconst (v := 1) dX7_surplus_68 (by decide) ?_
        refine m_goto 73 dX7_surplus_69 (by decide) ?_
        refine m_iadd dX7_surplus_73 ?_
        obtain ⟨x15, ex15⟩ : ∃ z, z = (l4 + 1) := ⟨_, rfl⟩
        rw [← ex15]
        replace q := q x15 ex15
        refine m_istore (lv' := [.ref 4, .int l1, .int x11, .int x12, .int x15, .int l5, .int r10]) dX7_surplus_74 (Nat.le_of_ble_eq_true rfl) rfl rfl ?_
        refine m_iinc (v := (l5 + 1)) (lv' := [.ref 4, .int l1, .int x11, .int x12, .int x15, .int (l5 + 1), .int r10]) dX7_surplus_76 (Nat.le_of_ble_eq_true rfl) rfl (congrArg (fun z => l5 + z) (by decide : Int32.ofInt 1 = 1)) rfl rfl ?_
        refine m_goto 11 dX7_surplus_79 (by decide) ?_
        refine m_dropK (lv' := [.ref 4, .int l1, .int x11, .int x12, .int x15, .int (l5 + 1), .retAddr 0]) [6] rfl ?_
        exact q
set_option maxRecDepth 100000 in
theorem e_X7_greatest {g : gT} {h : mh_T} {P : Int32 → mh_T → Prop}  (q : ME g uX7_greatest 5 [.ref 4, .int (-2), .int 0] [] h (qI P)) : MCi g yX7_greatest uX7_greatest [.ref 4] h P := by
  refine m_enter (by decide) rfl (Nat.le_of_ble_eq_true rfl) (lv := [.ref 4, .retAddr 0, .retAddr 0]) rfl ?_
  refine m_bipush (v := (-2)) dX7_greatest_0 (by decide) ?_
  refine m_istore_n (lv' := [.ref 4, .int (-2), .retAddr 0]) dX7_greatest_2 (Nat.le_of_ble_eq_true rfl) rfl rfl ?_
  refine m_iconst (v := 0) dX7_greatest_3 (by decide) ?_
  refine m_istore_n (lv' := [.ref 4, .int (-2), .int 0]) dX7_greatest_4 (Nat.le_of_ble_eq_true rfl) rfl rfl ?_
  exact q
set_option maxRecDepth 100000 in
theorem r_X7_greatest_5 {g : gT} {h : mh_T} {P : Int32 → mh_T → Prop} (l1 : Int32) (l2 : Int32) (q : ((1 <<< ((mI h 3 2) &&& 31)) ≤ l2 → P l1 h) ∧ (¬ (1 <<< ((mI h 3 2) &&& 31)) ≤ l2 → MCi g yX7_isRing uX7_isRing [.ref 4, .int l2] h (fun r3 h2 => (r3 = 0 → ME g uX7_greatest 5 [.ref 4, .int l1, .int (l2 + 1)] [] h2 (qI P)) ∧ (¬ r3 = 0 → (l1 < 0 → ME g uX7_greatest 5 [.ref 4, .int l2, .int (l2 + 1)] [] h2 (qI P)) ∧ (¬ l1 < 0 → MCi g yX7_surplus uX7_surplus [.ref 4, .int l2] h2 (fun r7 h6 => MCi g yX7_surplus uX7_surplus [.ref 4, .int l1] h6 (fun r9 h8 => (r7 ≤ r9 → ME g uX7_greatest 5 [.ref 4, .int l1, .int (l2 + 1)] [] h8 (qI P)) ∧ (¬ r7 ≤ r9 → ME g uX7_greatest 5 [.ref 4, .int l2, .int (l2 + 1)] [] h8 (qI P))))))))) : ME g uX7_greatest 5 [.ref 4, .int l1, .int l2] [] h (qI P) := by
  refine m_iload_n dX7_greatest_5 rfl ?_
  refine m_iconst (v := 1) dX7_greatest_6 (by decide) ?_
  refine m_aload_n dX7_greatest_7 rfl ?_
  refine gf_X7_9 rfl dX7_greatest_8 ?_
  refine gf_X7_15 rfl dX7_greatest_11 ?_
  refine m_ishl dX7_greatest_14 ?_
  refine m_icmp_ge 51 dX7_greatest_15 (by decide) (fun c1 => ?_) (fun c1 => ?_)
  · replace q := q.1 c1
    refine m_iload_n dX7_greatest_51 rfl ?_
    exact m_iret dX7_greatest_52 rfl q
  · replace q := q.2 c1
    refine m_aload_n dX7_greatest_18 rfl ?_
    refine m_iload_n dX7_greatest_19 rfl ?_
    refine cl_X7_45 rfl (by decide) dX7_greatest_20 (Nat.le_of_ble_eq_true rfl) (MCi_go q (fun r3 h2 q => ?_))
    refine m_if_eq 45 dX7_greatest_23 (by decide) (fun c4 => ?_) (fun c4 => ?_)
    · replace q := q.1 c4
      refine m_iinc (v := (l2 + 1)) (lv' := [.ref 4, .int l1, .int (l2 + 1)]) dX7_greatest_45 (Nat.le_of_ble_eq_true rfl) rfl (congrArg (fun z => l2 + z) (by decide : Int32.ofInt 1 = 1)) rfl rfl ?_
      refine m_goto 5 dX7_greatest_48 (by decide) ?_
      exact q
    · replace q := q.2 c4
      refine m_iload_n dX7_greatest_26 rfl ?_
      refine m_if_lt 43 dX7_greatest_27 (by decide) (fun c5 => ?_) (fun c5 => ?_)
      · replace q := q.1 c5
        refine m_iload_n dX7_greatest_43 rfl ?_
        refine m_istore_n (lv' := [.ref 4, .int l2, .int l2]) dX7_greatest_44 (Nat.le_of_ble_eq_true rfl) rfl rfl ?_
        refine m_iinc (v := (l2 + 1)) (lv' := [.ref 4, .int l2, .int (l2 + 1)]) dX7_greatest_45 (Nat.le_of_ble_eq_true rfl) rfl (congrArg (fun z => l2 + z) (by decide : Int32.ofInt 1 = 1)) rfl rfl ?_
        refine m_goto 5 dX7_greatest_48 (by decide) ?_
        exact q
      · replace q := q.2 c5
        refine m_aload_n dX7_greatest_30 rfl ?_
        refine m_iload_n dX7_greatest_31 rfl ?_
        refine cl_X7_63 rfl (by decide) dX7_greatest_32 (Nat.le_of_ble_eq_true rfl) (MCi_go q (fun r7 h6 q => ?_))
        refine m_aload_n dX7_greatest_35 rfl ?_
        refine m_iload_n dX7_greatest_36 rfl ?_
        refine cl_X7_63 rfl (by decide) dX7_greatest_37 (Nat.le_of_ble_eq_true rfl) (MCi_go q (fun r9 h8 q => ?_))
        refine m_icmp_le 45 dX7_greatest_40 (by decide) (fun c10 => ?_) (fun c10 => ?_)
        · replace q := q.1 c10
          refine m_iinc (v := (l2 + 1)) (lv' := [.ref 4, .int l1, .int (l2 + 1)]) dX7_greatest_45 (Nat.le_of_ble_eq_true rfl) rfl (congrArg (fun z => l2 + z) (by decide : Int32.ofInt 1 = 1)) rfl rfl ?_
          refine m_goto 5 dX7_greatest_48 (by decide) ?_
          exact q
        · replace q := q.2 c10
          refine m_iload_n dX7_greatest_43 rfl ?_
          refine m_istore_n (lv' := [.ref 4, .int l2, .int l2]) dX7_greatest_44 (Nat.le_of_ble_eq_true rfl) rfl rfl ?_
          refine m_iinc (v := (l2 + 1)) (lv' := [.ref 4, .int l2, .int (l2 + 1)]) dX7_greatest_45 (Nat.le_of_ble_eq_true rfl) rfl (congrArg (fun z => l2 + z) (by decide : Int32.ofInt 1 = 1)) rfl rfl ?_
          refine m_goto 5 dX7_greatest_48 (by decide) ?_
          exact q
