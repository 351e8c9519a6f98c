set_option maxRecDepth 100000 in
theorem e_X11_good {g : gT} {h : mh_T} {P : mh_T → Prop}  (q : P (wI (wI h 11 0 0) 11 11 0)) : MCv g yX11_good uX11_good [.ref 11] h P := by
  refine m_enter (by decide) rfl (Nat.le_of_ble_eq_true rfl) (lv := [.ref 11]) rfl ?_
  refine m_aload_n dX11_good_0 rfl ?_
  refine m_iconst (v := 0) dX11_good_1 (by decide) ?_
  refine pf_X11_69 rfl dX11_good_2 ?_
  refine m_aload_n dX11_good_5 rfl ?_
  refine m_iconst (v := 0) dX11_good_6 (by decide) ?_
  refine pf_X11_72 rfl dX11_good_7 ?_
  exact m_vret dX11_good_10 rfl q
set_option maxRecDepth 100000 in
theorem e_X11_no {g : gT} {h : mh_T} {P : Int32 → mh_T → Prop} (l1 : Int32) (q : P (-1) (wI h 11 11 l1)) : MCi g yX11_no uX11_no [.ref 11, .int l1] h P := by
  refine m_enter (by decide) rfl (Nat.le_of_ble_eq_true rfl) (lv := [.ref 11, .int l1]) rfl ?_
  refine m_aload_n dX11_no_0 rfl ?_
  refine m_iload_n dX11_no_1 rfl ?_
  refine pf_X11_72 rfl dX11_no_2 ?_
  refine m_iconst (v := (-1)) dX11_no_5 (by decide) ?_
  exact m_iret dX11_no_6 rfl q
set_option maxRecDepth 100000 in
theorem e_X11_less {g : gT} {h : mh_T} {P : Int32 → mh_T → Prop} (l1 : Int32) (l2 : Int32) (q : P l2 (wI h 11 11 l1)) : MCi g yX11_less uX11_less [.ref 11, .int l1, .int l2] h P := by
  refine m_enter (by decide) rfl (Nat.le_of_ble_eq_true rfl) (lv := [.ref 11, .int l1, .int l2]) rfl ?_
  refine m_aload_n dX11_less_0 rfl ?_
  refine m_iload_n dX11_less_1 rfl ?_
  refine pf_X11_72 rfl dX11_less_2 ?_
  refine m_iload_n dX11_less_5 rfl ?_
  exact m_iret dX11_less_6 rfl q
set_option maxRecDepth 100000 in
theorem e_X11_isNot {g : gT} {h : mh_T} {P : Int32 → mh_T → Prop} (l1 : Int32) (q : P 0 (wI h 11 11 l1)) : MCi g yX11_isNot uX11_isNot [.ref 11, .int l1] h P := by
  refine m_enter (by decide) rfl (Nat.le_of_ble_eq_true rfl) (lv := [.ref 11, .int l1]) rfl ?_
  refine m_aload_n dX11_isNot_0 rfl ?_
  refine m_iload_n dX11_isNot_1 rfl ?_
  refine pf_X11_72 rfl dX11_isNot_2 ?_
  refine m_iconst (v := 0) dX11_isNot_5 (by decide) ?_
  exact m_zret dX11_isNot_6 rfl (by decide) q
set_option maxRecDepth 100000 in
theorem e_X11_within {g : gT} {h : mh_T} {P : Int32 → mh_T → Prop} (l0 : Int32) (l1 : Int32) (l2 : Int32) (q : (l0 < l1 → P 0 h) ∧ (¬ l0 < l1 → (l2 < l0 → P 0 h) ∧ (¬ l2 < l0 → P 1 h))) : MCi g yX11_within uX11_within [.int l0, .int l1, .int l2] h P := by
  refine m_enter (by decide) rfl (Nat.le_of_ble_eq_true rfl) (lv := [.int l0, .int l1, .int l2]) rfl ?_
  refine m_iload_n dX11_within_0 rfl ?_
  refine m_iload_n dX11_within_1 rfl ?_
  refine m_icmp_lt 14 dX11_within_2 (by decide) (fun c1 => ?_) (fun c1 => ?_)
  · replace q := q.1 c1
    refine m_iconst (v := 0) dX11_within_14 (by decide) ?_
    exact m_zret dX11_within_15 rfl (by decide) q
  · replace q := q.2 c1
    refine m_iload_n dX11_within_5 rfl ?_
    refine m_iload_n dX11_within_6 rfl ?_
    refine m_icmp_gt 14 dX11_within_7 (by decide) (fun c2 => ?_) (fun c2 => ?_)
    · replace q := q.1 c2
      refine m_iconst (v := 0) dX11_within_14 (by decide) ?_
      exact m_zret dX11_within_15 rfl (by decide) q
    · replace q := q.2 c2
      refine m_iconst (v := 1) dX11_within_10 (by decide) ?_
      refine m_goto 15 dX11_within_11 (by decide) ?_
      exact m_zret dX11_within_15 rfl (by decide) q
set_option maxRecDepth 100000 in
theorem e_X11_has {g : gT} {h : mh_T} {P : Int32 → mh_T → Prop} (l0 : Int32) (l1 : Int32) (q : (¬ ((l0 >>> (l1 &&& 31)) &&& 1) = 1 → P 0 h) ∧ (((l0 >>> (l1 &&& 31)) &&& 1) = 1 → P 1 h)) : MCi g yX11_has uX11_has [.int l0, .int l1] h P := by
  refine m_enter (by decide) rfl (Nat.le_of_ble_eq_true rfl) (lv := [.int l0, .int l1]) rfl ?_
  refine m_iload_n dX11_has_0 rfl ?_
  refine m_iload_n dX11_has_1 rfl ?_
  refine m_ishr dX11_has_2 ?_
  refine m_iconst (v := 1) dX11_has_3 (by decide) ?_
  refine m_iand dX11_has_4 ?_
  refine m_iconst (v := 1) dX11_has_5 (by decide) ?_
  refine m_icmp_ne 13 dX11_has_6 (by decide) (fun c1 => ?_) (fun c1 => ?_)
  · replace q := q.1 c1
    refine m_iconst (v := 0) dX11_has_13 (by decide) ?_
    exact m_zret dX11_has_14 rfl (by decide) q
  · replace q := q.2 c1
    refine m_iconst (v := 1) dX11_has_9 (by decide) ?_
    refine m_goto 14 dX11_has_10 (by decide) ?_
    exact m_zret dX11_has_14 rfl (by decide) q
set_option maxRecDepth 100000 in
theorem e_X11_bits {g : gT} {h : mh_T} {P : Int32 → mh_T → Prop} (l0 : Int32) (q : ME g uX11_bits 4 [.int l0, .int 0, .int 0] [] h (qI P)) : MCi g yX11_bits uX11_bits [.int l0] h P := by
  refine m_enter (by decide) rfl (Nat.le_of_ble_eq_true rfl) (lv := [.int l0, .retAddr 0, .retAddr 0]) rfl ?_
  refine m_iconst (v := 0) dX11_bits_0 (by decide) ?_
  refine m_istore_n (lv' := [.int l0, .int 0, .retAddr 0]) dX11_bits_1 (Nat.le_of_ble_eq_true rfl) rfl rfl ?_
  refine m_iconst (v := 0) dX11_bits_2 (by decide) ?_
  refine m_istore_n (lv' := [.int l0, .int 0, .int 0]) dX11_bits_3 (Nat.le_of_ble_eq_true rfl) rfl rfl ?_
  exact q
set_option maxRecDepth 100000 in
theorem r_X11_bits_4 {g : gT} {h : mh_T} {P : Int32 → mh_T → Prop} (l0 : Int32) (l1 : Int32) (l2 : Int32) (q : (20 ≤ l2 → P l1 h) ∧ (¬ 20 ≤ l2 → ∀ x2 : Int32, x2 = (l1 + ((l0 >>> (l2 &&& 31)) &&& 1)) → ME g uX11_bits 4 [.int l0, .int x2, .int (l2 + 1)] [] h (qI P))) : ME g uX11_bits 4 [.int l0, .int l1, .int l2] [] h (qI P) := by
  refine m_iload_n dX11_bits_4 rfl ?_
  refine m_bipush (v := 20) dX11_bits_5 (by decide) ?_
  refine m_icmp_ge 24 dX11_bits_7 (by decide) (fun c1 => ?_) (fun c1 => ?_)
  · replace q := q.1 c1
    refine m_iload_n dX11_bits_24 rfl ?_
    exact m_iret dX11_bits_25 rfl q
  · replace q := q.2 c1
    refine m_iload_n dX11_bits_10 rfl ?_
    refine m_iload_n dX11_bits_11 rfl ?_
    refine m_iload_n dX11_bits_12 rfl ?_
    refine m_ishr dX11_bits_13 ?_
    refine m_iconst (v := 1) dX11_bits_14 (by decide) ?_
    refine m_iand dX11_bits_15 ?_
    refine m_iadd dX11_bits_16 ?_
    obtain ⟨x2, ex2⟩ : ∃ z, z = (l1 + ((l0 >>> (l2 &&& 31)) &&& 1)) := ⟨_, rfl⟩
    rw [← ex2]
    replace q := q x2 ex2
    refine m_istore_n (lv' := [.int l0, .int x2, .int l2]) dX11_bits_17 (Nat.le_of_ble_eq_true rfl) rfl rfl ?_
    refine m_iinc (v := (l2 + 1)) (lv' := [.int l0, .int x2, .int (l2 + 1)]) dX11_bits_18 (Nat.le_of_ble_eq_true rfl) rfl (congrArg (fun z => l2 + z) (by decide : Int32.ofInt 1 = 1)) rfl rfl ?_
    refine m_goto 4 dX11_bits_21 (by decide) ?_
    exact q
set_option maxRecDepth 100000 in
theorem e_X11_feed {g : gT} {h : mh_T} {P : Int32 → mh_T → Prop} (l1 : Int32) (l2 : Int32) (l3 : Int32) (l4 : Int32) (l5 : Int32) (q : (((mI (wI h 11 0 0) 11 2) + 20) ≤ 900 → ME g uX11_feed 23 [.ref 11, .int l1, .int l2, .int l3, .int l4, .int l5, .int 0, .retAddr 0] [] (wI h 11 0 0) (qI P)) ∧ (¬ ((mI (wI h 11 0 0) 11 2) + 20) ≤ 900 → P (-1) (wI h 11 0 0))) : MCi g yX11_feed uX11_feed [.ref 11, .int l1, .int l2, .int l3, .int l4, .int l5] h P := by
  refine m_enter (by decide) rfl (Nat.le_of_ble_eq_true rfl) (lv := [.ref 11, .int l1, .int l2, .int l3, .int l4, .int l5, .retAddr 0, .retAddr 0]) rfl ?_
  refine m_aload_n dX11_feed_0 rfl ?_
  refine m_iconst (v := 0) dX11_feed_1 (by decide) ?_
  refine pf_X11_69 rfl dX11_feed_2 ?_
  refine m_aload_n dX11_feed_5 rfl ?_
  refine gf_X11_75 rfl dX11_feed_6 ?_
  refine m_bipush (v := 20) dX11_feed_9 (by decide) ?_
  refine m_iadd dX11_feed_11 ?_
  refine m_sipush (v := 900) dX11_feed_12 (by decide) ?_
  refine m_icmp_le 20 dX11_feed_15 (by decide) (fun c1 => ?_) (fun c1 => ?_)
  · replace q := q.1 c1
    refine m_iconst (v := 0) dX11_feed_20 (by decide) ?_
    refine m_istore (lv' := [.ref 11, .int l1, .int l2, .int l3, .int l4, .int l5, .int 0, .retAddr 0]) dX11_feed_21 (Nat.le_of_ble_eq_true rfl) rfl rfl ?_
    exact q
  · replace q := q.2 c1
    refine m_iconst (v := (-1)) dX11_feed_18 (by decide) ?_
    exact m_iret dX11_feed_19 rfl q
set_option maxRecDepth 100000 in
theorem r_X11_feed_23 {g : gT} {h : mh_T} {P : Int32 → mh_T → Prop} (l1 : Int32) (l2 : Int32) (l3 : Int32) (l4 : Int32) (l5 : Int32) (l6 : Int32) (q : (20 ≤ l6 → P (mI h 11 2) h) ∧ (¬ 20 ≤ l6 → (4 ≤ l6 → (8 ≤ l6 → (12 ≤ l6 → (16 ≤ l6 → (vp_in (mI h 11 2) 900) ∧ (ME g uX11_feed 23 [.ref 11, .int l1, .int l2, .int l3, .int l4, .int l5, .int (l6 + 1), .retAddr 0] [] (wI (wI h 43 (mI h 11 2).toNatClampNeg ((l5 >>> ((24 - (8 * (l6 - l6 / 4 * 4))) &&& 31)) &&& 255)) 11 2 ((mI (wI h 43 (mI h 11 2).toNatClampNeg ((l5 >>> ((24 - (8 * (l6 - l6 / 4 * 4))) &&& 31)) &&& 255)) 11 2) + 1)) (qI P))) ∧ (¬ 16 ≤ l6 → (vp_in (mI h 11 2) 900) ∧ (ME g uX11_feed 23 [.ref 11, .int l1, .int l2, .int l3, .int l4, .int l5, .int (l6 + 1), .retAddr 0] [] (wI (wI h 43 (mI h 11 2).toNatClampNeg ((l4 >>> ((24 - (8 * (l6 - l6 / 4 * 4))) &&& 31)) &&& 255)) 11 2 ((mI (wI h 43 (mI h 11 2).toNatClampNeg ((l4 >>> ((24 - (8 * (l6 - l6 / 4 * 4))) &&& 31)) &&& 255)) 11 2) + 1)) (qI P)))) ∧ (¬ 12 ≤ l6 → (vp_in (mI h 11 2) 900) ∧ (ME g uX11_feed 23 [.ref 11, .int l1, .int l2, .int l3, .int l4, .int l5, .int (l6 + 1), .retAddr 0] [] (wI (wI h 43 (mI h 11 2).toNatClampNeg ((l3 >>> ((24 - (8 * (l6 - l6 / 4 * 4))) &&& 31)) &&& 255)) 11 2 ((mI (wI h 43 (mI h 11 2).toNatClampNeg ((l3 >>> ((24 - (8 * (l6 - l6 / 4 * 4))) &&& 31)) &&& 255)) 11 2) + 1)) (qI P)))) ∧ (¬ 8 ≤ l6 → (vp_in (mI h 11 2) 900) ∧ (ME g uX11_feed 23 [.ref 11, .int l1, .int l2, .int l3, .int l4, .int l5, .int (l6 + 1), .retAddr 0] [] (wI (wI h 43 (mI h 11 2).toNatClampNeg ((l2 >>> ((24 - (8 * (l6 - l6 / 4 * 4))) &&& 31)) &&& 255)) 11 2 ((mI (wI h 43 (mI h 11 2).toNatClampNeg ((l2 >>> ((24 - (8 * (l6 - l6 / 4 * 4))) &&& 31)) &&& 255)) 11 2) + 1)) (qI P)))) ∧ (¬ 4 ≤ l6 → (vp_in (mI h 11 2) 900) ∧ (ME g uX11_feed 23 [.ref 11, .int l1, .int l2, .int l3, .int l4, .int l5, .int (l6 + 1), .retAddr 0] [] (wI (wI h 43 (mI h 11 2).toNatClampNeg ((l1 >>> ((24 - (8 * (l6 - l6 / 4 * 4))) &&& 31)) &&& 255)) 11 2 ((mI (wI h 43 (mI h 11 2).toNatClampNeg ((l1 >>> ((24 - (8 * (l6 - l6 / 4 * 4))) &&& 31)) &&& 255)) 11 2) + 1)) (qI P))))) : ME g uX11_feed 23 [.ref 11, .int l1, .int l2, .int l3, .int l4, .int l5, .int l6, .retAddr 0] [] h (qI P) := by
  refine m_iload dX11_feed_23 rfl ?_
  refine m_bipush (v := 20) dX11_feed_25 (by decide) ?_
  refine m_icmp_ge 120 dX11_feed_27 (by decide) (fun c1 => ?_) (fun c1 => ?_)
  · replace q := q.1 c1
    refine m_aload_n dX11_feed_120 rfl ?_
    refine gf_X11_75 rfl dX11_feed_121 ?_
    exact m_iret dX11_feed_124 rfl q
  · replace q := q.2 c1
    refine m_iload dX11_feed_30 rfl ?_
    refine m_iconst (v := 4) dX11_feed_32 (by decide) ?_
    refine m_icmp_ge 40 dX11_feed_33 (by decide) (fun c2 => ?_) (fun c2 => ?_)
    · replace q := q.1 c2
      refine m_iload dX11_feed_40 rfl ?_
      refine m_bipush (v := 8) dX11_feed_42 (by decide) ?_
      refine m_icmp_ge 51 dX11_feed_44 (by decide) (fun c3 => ?_) (fun c3 => ?_)
      · replace q := q.1 c3
        refine m_iload dX11_feed_51 rfl ?_
        refine m_bipush (v := 12) dX11_feed_53 (by decide) ?_
        refine m_icmp_ge 62 dX11_feed_55 (by decide) (fun c4 => ?_) (fun c4 => ?_)
        · replace q := q.1 c4
          refine m_iload dX11_feed_62 rfl ?_
          refine m_bipush (v := 16) dX11_feed_64 (by decide) ?_
          refine m_icmp_ge 74 dX11_feed_66 (by decide) (fun c5 => ?_) (fun c5 => ?_)
          · replace q := q.1 c5
            refine m_iload dX11_feed_74 rfl ?_
            refine m_istore (lv' := [.ref 11, .int l1, .int l2, .int l3, .int l4, .int l5, .int l6, .int l5]) dX11_feed_76 (Nat.le_of_ble_eq_true rfl) rfl rfl ?_
            refine m_aload_n dX11_feed_78 rfl ?_
            refine gf_X11_7 rfl dX11_feed_79 ?_
            refine m_aload_n dX11_feed_82 rfl ?_
            refine gf_X11_75 rfl dX11_feed_83 ?_
            refine m_iload dX11_feed_86 rfl ?_
            refine m_bipush (v := 24) dX11_feed_88 (by decide) ?_
            refine m_bipush (v := 8) dX11_feed_90 (by decide) ?_
            refine m_iload dX11_feed_92 rfl ?_
            refine m_iconst (v := 4) dX11_feed_94 (by decide) ?_
            refine m_irem dX11_feed_95 (by decide) ?_
            refine m_imul dX11_feed_96 ?_
            refine m_isub dX11_feed_97 ?_
            refine m_ishr dX11_feed_98 ?_
            refine m_sipush (v := 255) dX11_feed_99 (by decide) ?_
            refine m_iand dX11_feed_102 ?_
            obtain ⟨b6, q⟩ := q
            refine m_iastore dX11_feed_103 rfl (by decide) b6 ?_
            refine m_aload_n dX11_feed_104 rfl ?_
            refine m_dup dX11_feed_105 rfl ?_
            refine gf_X11_75 rfl dX11_feed_106 ?_
            refine m_iconst (v := 1) dX11_feed_109 (by decide) ?_
            refine m_iadd dX11_feed_110 ?_
            refine pf_X11_75 rfl dX11_feed_111 ?_
            refine m_iinc (v := (l6 + 1)) (lv' := [.ref 11, .int l1, .int l2, .int l3, .int l4, .int l5, .int (l6 + 1), .int l5]) dX11_feed_114 (Nat.le_of_ble_eq_true rfl) rfl (congrArg (fun z => l6 + z) (by decide : Int32.ofInt 1 = 1)) rfl rfl ?_
            refine m_goto 23 dX11_feed_117 (by decide) ?_
            refine m_dropK (lv' := [.ref 11, .int l1, .int l2, .int l3, .int l4, .int l5, .int (l6 + 1), .retAddr 0]) [7] rfl ?_
            exact q
          · replace q := q.2 c5
            refine m_iload dX11_feed_69 rfl ?_
            refine m_goto 76 dX11_feed_71 (by decide) ?_
            refine m_istore (lv' := [.ref 11, .int l1, .int l2, .int l3, .int l4, .int l5, .int l6, .int l4]) dX11_feed_76 (Nat.le_of_ble_eq_true rfl) rfl rfl ?_
            refine m_aload_n dX11_feed_78 rfl ?_
            refine gf_X11_7 rfl dX11_feed_79 ?_
            refine m_aload_n dX11_feed_82 rfl ?_
            refine gf_X11_75 rfl dX11_feed_83 ?_
            refine m_iload dX11_feed_86 rfl ?_
            refine m_bipush (v := 24) dX11_feed_88 (by decide) ?_
            refine m_bipush (v := 8) dX11_feed_90 (by decide) ?_
            refine m_iload dX11_feed_92 rfl ?_
            refine m_iconst (v := 4) dX11_feed_94 (by decide) ?_
            refine m_irem dX11_feed_95 (by decide) ?_
            refine m_imul dX11_feed_96 ?_
            refine m_isub dX11_feed_97 ?_
            refine m_ishr dX11_feed_98 ?_
            refine m_sipush (v := 255) dX11_feed_99 (by decide) ?_
            refine m_iand dX11_feed_102 ?_
            obtain ⟨b7, q⟩ := q
            refine m_iastore dX11_feed_103 rfl (by decide) b7 ?_
            refine m_aload_n dX11_feed_104 rfl ?_
            refine m_dup dX11_feed_105 rfl ?_
            refine gf_X11_75 rfl dX11_feed_106 ?_
            refine m_iconst (v := 1) dX11_feed_109 (by decide) ?_
            refine m_iadd dX11_feed_110 ?_
            refine pf_X11_75 rfl dX11_feed_111 ?_
            refine m_iinc (v := (l6 + 1)) (lv' := [.ref 11, .int l1, .int l2, .int l3, .int l4, .int l5, .int (l6 + 1), .int l4]) dX11_feed_114 (Nat.le_of_ble_eq_true rfl) rfl (congrArg (fun z => l6 + z) (by decide : Int32.ofInt 1 = 1)) rfl rfl ?_
            refine m_goto 23 dX11_feed_117 (by decide) ?_
            refine m_dropK (lv' := [.ref 11, .int l1, .int l2, .int l3, .int l4, .int l5, .int (l6 + 1), .retAddr 0]) [7] rfl ?_
            exact q
        · replace q := q.2 c4
          refine m_iload_n dX11_feed_58 rfl ?_
          refine m_goto 76 dX11_feed_59 (by decide) ?_
          refine m_istore (lv' := [.ref 11, .int l1, .int l2, .int l3, .int l4, .int l5, .int l6, .int l3]) dX11_feed_76 (Nat.le_of_ble_eq_true rfl) rfl rfl ?_
          refine m_aload_n dX11_feed_78 rfl ?_
          refine gf_X11_7 rfl dX11_feed_79 ?_
          refine m_aload_n dX11_feed_82 rfl ?_
          refine gf_X11_75 rfl dX11_feed_83 ?_
          refine m_iload dX11_feed_86 rfl ?_
          refine m_bipush (v := 24) dX11_feed_88 (by decide) ?_
          refine m_bipush (v := 8) dX11_feed_90 (by decide) ?_
          refine m_iload dX11_feed_92 rfl ?_
          refine m_iconst (v := 4) dX11_feed_94 (by decide) ?_
          refine m_irem dX11_feed_95 (by decide) ?_
          refine m_imul dX11_feed_96 ?_
          refine m_isub dX11_feed_97 ?_
          refine m_ishr dX11_feed_98 ?_
          refine m_sipush (v := 255) dX11_feed_99 (by decide) ?_
          refine m_iand dX11_feed_102 ?_
          obtain ⟨b8, q⟩ := q
          refine m_iastore dX11_feed_103 rfl (by decide) b8 ?_
          refine m_aload_n dX11_feed_104 rfl ?_
          refine m_dup dX11_feed_105 rfl ?_
          refine gf_X11_75 rfl dX11_feed_106 ?_
          refine m_iconst (v := 1) dX11_feed_109 (by decide) ?_
          refine m_iadd dX11_feed_110 ?_
          refine pf_X11_75 rfl dX11_feed_111 ?_
          refine m_iinc (v := (l6 + 1)) (lv' := [.ref 11, .int l1, .int l2, .int l3, .int l4, .int l5, .int (l6 + 1), .int l3]) dX11_feed_114 (Nat.le_of_ble_eq_true rfl) rfl (congrArg (fun z => l6 + z) (by decide : Int32.ofInt 1 = 1)) rfl rfl ?_
          refine m_goto 23 dX11_feed_117 (by decide) ?_
          refine m_dropK (lv' := [.ref 11, .int l1, .int l2, .int l3, .int l4, .int l5, .int (l6 + 1), .retAddr 0]) [7] rfl ?_
          exact q
      · replace q := q.2 c3
        refine m_iload_n dX11_feed_47 rfl ?_
        refine m_goto 76 dX11_feed_48 (by decide) ?_
        refine m_istore (lv' := [.ref 11, .int l1, .int l2, .int l3, .int l4, .int l5, .int l6, .int l2]) dX11_feed_76 (Nat.le_of_ble_eq_true rfl) rfl rfl ?_
        refine m_aload_n dX11_feed_78 rfl ?_
        refine gf_X11_7 rfl dX11_feed_79 ?_
        refine m_aload_n dX11_feed_82 rfl ?_
        refine gf_X11_75 rfl dX11_feed_83 ?_
        refine m_iload dX11_feed_86 rfl ?_
        refine m_bipush (v := 24) dX11_feed_88 (by decide) ?_
        refine m_bipush (v := 8) dX11_feed_90 (by decide) ?_
        refine m_iload dX11_feed_92 rfl ?_
        refine m_iconst (v := 4) dX11_feed_94 (by decide) ?_
        refine m_irem dX11_feed_95 (by decide) ?_
        refine m_imul dX11_feed_96 ?_
        refine m_isub dX11_feed_97 ?_
        refine m_ishr dX11_feed_98 ?_
        refine m_sipush (v := 255) dX11_feed_99 (by decide) ?_
        refine m_iand dX11_feed_102 ?_
        obtain ⟨b9, q⟩ := q
        refine m_iastore dX11_feed_103 rfl (by decide) b9 ?_
        refine m_aload_n dX11_feed_104 rfl ?_
        refine m_dup dX11_feed_105 rfl ?_
        refine gf_X11_75 rfl dX11_feed_106 ?_
        refine m_iconst (v := 1) dX11_feed_109 (by decide) ?_
        refine m_iadd dX11_feed_110 ?_
        refine pf_X11_75 rfl dX11_feed_111 ?_
        refine m_iinc (v := (l6 + 1)) (lv' := [.ref 11, .int l1, .int l2, .int l3, .int l4, .int l5, .int (l6 + 1), .int l2]) dX11_feed_114 (Nat.le_of_ble_eq_true rfl) rfl (congrArg (fun z => l6 + z) (by decide : Int32.ofInt 1 = 1)) rfl rfl ?_
        refine m_goto 23 dX11_feed_117 (by decide) ?_
        refine m_dropK (lv' := [.ref 11, .int l1, .int l2, .int l3, .int l4, .int l5, .int (l6 + 1), .retAddr 0]) [7] rfl ?_
        exact q
    · replace q := q.2 c2
      refine m_iload_n dX11_feed_36 rfl ?_
      refine m_goto 76 dX11_feed_37 (by decide) ?_
      refine m_istore (lv' := [.ref 11, .int l1, .int l2, .int l3, .int l4, .int l5, .int l6, .int l1]) dX11_feed_76 (Nat.le_of_ble_eq_true rfl) rfl rfl ?_
      refine m_aload_n dX11_feed_78 rfl ?_
      refine gf_X11_7 rfl dX11_feed_79 ?_
      refine m_aload_n dX11_feed_82 rfl ?_
      refine gf_X11_75 rfl dX11_feed_83 ?_
      refine m_iload dX11_feed_86 rfl ?_
      refine m_bipush (v := 24) dX11_feed_88 (by decide) ?_
      refine m_bipush (v := 8) dX11_feed_90 (by decide) ?_
      refine m_iload dX11_feed_92 rfl ?_
      refine m_iconst (v := 4) dX11_feed_94 (by decide) ?_
      refine m_irem dX11_feed_95 (by decide) ?_
      refine m_imul dX11_feed_96 ?_
      refine m_isub dX11_feed_97 ?_
      refine m_ishr dX11_feed_98 ?_
      refine m_sipush (v := 255) dX11_feed_99 (by decide) ?_
      refine m_iand dX11_feed_102 ?_
      obtain ⟨b10, q⟩ := q
      refine m_iastore dX11_feed_103 rfl (by decide) b10 ?_
      refine m_aload_n dX11_feed_104 rfl ?_
      refine m_dup dX11_feed_105 rfl ?_
      refine gf_X11_75 rfl dX11_feed_106 ?_
      refine m_iconst (v := 1) dX11_feed_109 (by decide) ?_
      refine m_iadd dX11_feed_110 ?_
      refine pf_X11_75 rfl dX11_feed_111 ?_
      refine m_iinc (v := (l6 + 1)) (lv' := [.ref 11, .int l1, .int l2, .int l3, .int l4, .int l5, .int (l6 + 1), .int l1]) dX11_feed_114 (Nat.le_of_ble_eq_true rfl) rfl (congrArg (fun z => l6 + z) (by decide : Int32.ofInt 1 = 1)) rfl rfl ?_
      refine m_goto 23 dX11_feed_117 (by decide) ?_
      refine m_dropK (lv' := [.ref 11, .int l1, .int l2, .int l3, .int l4, .int l5, .int (l6 + 1), .retAddr 0]) [7] rfl ?_
      exact q
set_option maxRecDepth 100000 in
theorem e_X11_see {g : gT} {h : mh_T} {P : Int32 → mh_T → Prop} (l1 : Int32) (q : ((mI h 11 3) ≤ l1 → P (-1) h) ∧ (¬ (mI h 11 3) ≤ l1 → (vp_in l1 900) ∧ (P (mI h 43 l1.toNatClampNeg) h))) : MCi g yX11_see uX11_see [.ref 11, .int l1] h P := by
  refine m_enter (by decide) rfl (Nat.le_of_ble_eq_true rfl) (lv := [.ref 11, .int l1]) rfl ?_
  refine m_iload_n dX11_see_0 rfl ?_
  refine m_aload_n dX11_see_1 rfl ?_
  refine gf_X11_78 rfl dX11_see_2 ?_
  refine m_icmp_ge 17 dX11_see_5 (by decide) (fun c1 => ?_) (fun c1 => ?_)
  · replace q := q.1 c1
    refine m_iconst (v := (-1)) dX11_see_17 (by decide) ?_
    exact m_iret dX11_see_18 rfl q
  · replace q := q.2 c1
    refine m_aload_n dX11_see_8 rfl ?_
    refine gf_X11_7 rfl dX11_see_9 ?_
    refine m_iload_n dX11_see_12 rfl ?_
    obtain ⟨b2, q⟩ := q
    refine m_iaload dX11_see_13 rfl (by decide) b2 ?_
    refine m_goto 18 dX11_see_14 (by decide) ?_
    exact m_iret dX11_see_18 rfl q
set_option maxRecDepth 100000 in
theorem e_X11_isSmall {g : gT} {h : mh_T} {P : Int32 → mh_T → Prop} (l0 : Int32) (q : (l0 < 97 → P 0 h) ∧ (¬ l0 < 97 → (122 < l0 → P 0 h) ∧ (¬ 122 < l0 → P 1 h))) : MCi g yX11_isSmall uX11_isSmall [.int l0] h P := by
  refine m_enter (by decide) rfl (Nat.le_of_ble_eq_true rfl) (lv := [.int l0]) rfl ?_
  refine m_iload_n dX11_isSmall_0 rfl ?_
  refine m_bipush (v := 97) dX11_isSmall_1 (by decide) ?_
  refine m_icmp_lt 16 dX11_isSmall_3 (by decide) (fun c1 => ?_) (fun c1 => ?_)
  · replace q := q.1 c1
    refine m_iconst (v := 0) dX11_isSmall_16 (by decide) ?_
    exact m_zret dX11_isSmall_17 rfl (by decide) q
  · replace q := q.2 c1
    refine m_iload_n dX11_isSmall_6 rfl ?_
    refine m_bipush (v := 122) dX11_isSmall_7 (by decide) ?_
    refine m_icmp_gt 16 dX11_isSmall_9 (by decide) (fun c2 => ?_) (fun c2 => ?_)
    · replace q := q.1 c2
      refine m_iconst (v := 0) dX11_isSmall_16 (by decide) ?_
      exact m_zret dX11_isSmall_17 rfl (by decide) q
    · replace q := q.2 c2
      refine m_iconst (v := 1) dX11_isSmall_12 (by decide) ?_
      refine m_goto 17 dX11_isSmall_13 (by decide) ?_
      exact m_zret dX11_isSmall_17 rfl (by decide) q
set_option maxRecDepth 100000 in
theorem e_X11_isDigit {g : gT} {h : mh_T} {P : Int32 → mh_T → Prop} (l0 : Int32) (q : (l0 < 48 → P 0 h) ∧ (¬ l0 < 48 → (57 < l0 → P 0 h) ∧ (¬ 57 < l0 → P 1 h))) : MCi g yX11_isDigit uX11_isDigit [.int l0] h P := by
  refine m_enter (by decide) rfl (Nat.le_of_ble_eq_true rfl) (lv := [.int l0]) rfl ?_
  refine m_iload_n dX11_isDigit_0 rfl ?_
  refine m_bipush (v := 48) dX11_isDigit_1 (by decide) ?_
  refine m_icmp_lt 16 dX11_isDigit_3 (by decide) (fun c1 => ?_) (fun c1 => ?_)
  · replace q := q.1 c1
    refine m_iconst (v := 0) dX11_isDigit_16 (by decide) ?_
    exact m_zret dX11_isDigit_17 rfl (by decide) q
  · replace q := q.2 c1
    refine m_iload_n dX11_isDigit_6 rfl ?_
    refine m_bipush (v := 57) dX11_isDigit_7 (by decide) ?_
    refine m_icmp_gt 16 dX11_isDigit_9 (by decide) (fun c2 => ?_) (fun c2 => ?_)
    · replace q := q.1 c2
      refine m_iconst (v := 0) dX11_isDigit_16 (by decide) ?_
      exact m_zret dX11_isDigit_17 rfl (by decide) q
    · replace q := q.2 c2
      refine m_iconst (v := 1) dX11_isDigit_12 (by decide) ?_
      refine m_goto 17 dX11_isDigit_13 (by decide) ?_
      exact m_zret dX11_isDigit_17 rfl (by decide) q
set_option maxRecDepth 100000 in
theorem e_X11_next {g : gT} {h : mh_T} {P : mh_T → Prop}  (q : ∀ x1 : Int32, x1 = (mI h 11 5) → ME g uX11_next 5 [.ref 11, .int x1, .retAddr 0, .retAddr 0] [] h (qV P)) : MCv g yX11_next uX11_next [.ref 11] h P := by
  refine m_enter (by decide) rfl (Nat.le_of_ble_eq_true rfl) (lv := [.ref 11, .retAddr 0, .retAddr 0, .retAddr 0]) rfl ?_
  refine m_aload_n dX11_next_0 rfl ?_
  refine gf_X11_81 rfl dX11_next_1 ?_
  obtain ⟨x1, ex1⟩ : ∃ z, z = (mI h 11 5) := ⟨_, rfl⟩
  rw [← ex1]
  replace q := q x1 ex1
  refine m_istore_n (lv' := [.ref 11, .int x1, .retAddr 0, .retAddr 0]) dX11_next_4 (Nat.le_of_ble_eq_true rfl) rfl rfl ?_
  exact q
set_option maxRecDepth 100000 in
theorem r_X11_next_5 {g : gT} {h : mh_T} {P : mh_T → Prop} (l1 : Int32) (q : MCi g yX11_see uX11_see [.ref 11, .int l1] h (fun r2 h1 => (¬ r2 = 32 → MCi g yX11_see uX11_see [.ref 11, .int l1] (wI h1 11 4 l1) (fun r5 h4 => (¬ r5 = (-1) → MCi g yX11_isSmall uX11_isSmall [.int r5] (wI (wI h4 11 8 0) 11 7 0) (fun r8 h7 => (r8 = 0 → MCi g yX11_isDigit uX11_isDigit [.int r5] h7 (fun r11 h10 => (r11 = 0 → (r5 = 59 → P (wI (wI h10 11 5 (l1 + 1)) 11 6 r5)) ∧ (¬ r5 = 59 → (r5 = 44 → P (wI (wI h10 11 5 (l1 + 1)) 11 6 r5)) ∧ (¬ r5 = 44 → (¬ r5 = 45 → P (wI (wI h10 11 5 (l1 + 1)) 11 6 1)) ∧ (r5 = 45 → P (wI (wI h10 11 5 (l1 + 1)) 11 6 r5))))) ∧ (¬ r11 = 0 → ME g uX11_next 152 [.ref 11, .int l1, .int r5, .int 0] [] h10 (qV P)))) ∧ (¬ r8 = 0 → ME g uX11_next 67 [.ref 11, .int l1, .int r5, .retAddr 0] [] h7 (qV P)))) ∧ (r5 = (-1) → P (wI (wI (wI (wI h4 11 8 0) 11 7 0) 11 6 0) 11 5 l1)))) ∧ (r2 = 32 → ME g uX11_next 5 [.ref 11, .int (l1 + 1), .retAddr 0, .retAddr 0] [] h1 (qV P)))) : ME g uX11_next 5 [.ref 11, .int l1, .retAddr 0, .retAddr 0] [] h (qV P) := by
  refine m_aload_n dX11_next_5 rfl ?_
  refine m_iload_n dX11_next_6 rfl ?_
  refine cl_X11_84 rfl (by decide) dX11_next_7 (Nat.le_of_ble_eq_true rfl) (MCi_go q (fun r2 h1 q => ?_))
  refine m_bipush (v := 32) dX11_next_10 (by decide) ?_
  refine m_icmp_ne 21 dX11_next_12 (by decide) (fun c3 => ?_) (fun c3 => ?_)
  · replace q := q.1 c3
    refine m_aload_n dX11_next_21 rfl ?_
    refine m_iload_n dX11_next_22 rfl ?_
    refine pf_X11_88 rfl dX11_next_23 ?_
    refine m_aload_n dX11_next_26 rfl ?_
    refine m_iload_n dX11_next_27 rfl ?_
    refine cl_X11_84 rfl (by decide) dX11_next_28 (Nat.le_of_ble_eq_true rfl) (MCi_go q (fun r5 h4 q => ?_))
    refine m_istore_n (lv' := [.ref 11, .int l1, .int r5, .retAddr 0]) dX11_next_31 (Nat.le_of_ble_eq_true rfl) rfl rfl ?_
    refine m_aload_n dX11_next_32 rfl ?_
    refine m_iconst (v := 0) dX11_next_33 (by decide) ?_
    refine pf_X11_91 rfl dX11_next_34 ?_
    refine m_aload_n dX11_next_37 rfl ?_
    refine m_iconst (v := 0) dX11_next_38 (by decide) ?_
    refine pf_X11_94 rfl dX11_next_39 ?_
    refine m_iload_n dX11_next_42 rfl ?_
    refine m_iconst (v := (-1)) dX11_next_43 (by decide) ?_
    refine m_icmp_ne 60 dX11_next_44 (by decide) (fun c6 => ?_) (fun c6 => ?_)
    · replace q := q.1 c6
      refine m_iload_n dX11_next_60 rfl ?_
      refine cl_X11_100 rfl (by decide) dX11_next_61 (Nat.le_of_ble_eq_true rfl) (MCi_go q (fun r8 h7 q => ?_))
      refine m_if_eq 143 dX11_next_64 (by decide) (fun c9 => ?_) (fun c9 => ?_)
      · replace q := q.1 c9
        refine m_iload_n dX11_next_143 rfl ?_
        refine cl_X11_104 rfl (by decide) dX11_next_144 (Nat.le_of_ble_eq_true rfl) (MCi_go q (fun r11 h10 q => ?_))
        refine m_if_eq 219 dX11_next_147 (by decide) (fun c12 => ?_) (fun c12 => ?_)
        · replace q := q.1 c12
          refine m_aload_n dX11_next_219 rfl ?_
          refine m_iload_n dX11_next_220 rfl ?_
          refine m_iconst (v := 1) dX11_next_221 (by decide) ?_
          refine m_iadd dX11_next_222 ?_
          refine pf_X11_81 rfl dX11_next_223 ?_
          refine m_aload_n dX11_next_226 rfl ?_
          refine m_iload_n dX11_next_227 rfl ?_
          refine m_bipush (v := 59) dX11_next_228 (by decide) ?_
          refine m_icmp_eq 245 dX11_next_230 (by decide) (fun c13 => ?_) (fun c13 => ?_)
          · replace q := q.1 c13
            refine m_iload_n dX11_next_245 rfl ?_
            refine m_goto 250 dX11_next_246 (by decide) ?_
            refine pf_X11_97 rfl dX11_next_250 ?_
            exact m_vret dX11_next_253 rfl q
          · replace q := q.2 c13
            refine m_iload_n dX11_next_233 rfl ?_
            refine m_bipush (v := 44) dX11_next_234 (by decide) ?_
            refine m_icmp_eq 245 dX11_next_236 (by decide) (fun c14 => ?_) (fun c14 => ?_)
            · replace q := q.1 c14
              refine m_iload_n dX11_next_245 rfl ?_
              refine m_goto 250 dX11_next_246 (by decide) ?_
              refine pf_X11_97 rfl dX11_next_250 ?_
              exact m_vret dX11_next_253 rfl q
            · replace q := q.2 c14
              refine m_iload_n dX11_next_239 rfl ?_
              refine m_bipush (v := 45) dX11_next_240 (by decide) ?_
              refine m_icmp_ne 249 dX11_next_242 (by decide) (fun c15 => ?_) (fun c15 => ?_)
              · replace q := q.1 c15
                refine m_iconst (v := 1) dX11_next_249 (by decide) ?_
                refine pf_X11_97 rfl dX11_next_250 ?_
                exact m_vret dX11_next_253 rfl q
              · replace q := q.2 c15
                refine m_iload_n dX11_next_245 rfl ?_
                refine m_goto 250 dX11_next_246 (by decide) ?_
                refine pf_X11_97 rfl dX11_next_250 ?_
                exact m_vret dX11_next_253 rfl q
        · replace q := q.2 c12
          refine m_iconst (v := 0) dX11_next_150 (by decide) ?_
          refine m_istore_n (lv' := [.ref 11, .int l1, .int r5, .int 0]) dX11_next_151 (Nat.le_of_ble_eq_true rfl) rfl rfl ?_
          exact q
      · replace q := q.2 c9
        exact q
    · replace q := q.2 c6
      refine m_aload_n dX11_next_47 rfl ?_
      refine m_iconst (v := 0) dX11_next_48 (by decide) ?_
      refine pf_X11_97 rfl dX11_next_49 ?_
      refine m_aload_n dX11_next_52 rfl ?_
      refine m_iload_n dX11_next_53 rfl ?_
      refine pf_X11_81 rfl dX11_next_54 ?_
      refine m_goto 253 dX11_next_57 (by decide) ?_
      exact m_vret dX11_next_253 rfl q
  · replace q := q.2 c3
    refine m_iinc (v := (l1 + 1)) (lv' := [.ref 11, .int (l1 + 1), .retAddr 0, .retAddr 0]) dX11_next_15 (Nat.le_of_ble_eq_true rfl) rfl (congrArg (fun z => l1 + z) (by decide : Int32.ofInt 1 = 1)) rfl rfl ?_
    refine m_goto 5 dX11_next_18 (by decide) ?_
    exact q
set_option maxRecDepth 100000 in
theorem r_X11_next_67 {g : gT} {h : mh_T} {P : mh_T → Prop} (l1 : Int32) (l2 : Int32) (q : MCi g yX11_see uX11_see [.ref 11, .int l1] h (fun r2 h1 => MCi g yX11_isSmall uX11_isSmall [.int r2] h1 (fun r4 h3 => (r4 = 0 → ((mI (wI h3 11 5 l1) 11 8) ≤ 8 → P (wI (wI h3 11 5 l1) 11 6 2)) ∧ (¬ (mI (wI h3 11 5 l1) 11 8) ≤ 8 → P (wI (wI h3 11 5 l1) 11 6 1))) ∧ (¬ r4 = 0 → (8 ≤ (mI h3 11 8) → ME g uX11_next 67 [.ref 11, .int (l1 + 1), .int l2, .retAddr 0] [] (wI h3 11 8 ((mI h3 11 8) + 1)) (qV P)) ∧ (¬ 8 ≤ (mI h3 11 8) → MCi g yX11_see uX11_see [.ref 11, .int l1] h3 (fun r9 h8 => (vp_in (mI h3 11 8) 8) ∧ (ME g uX11_next 67 [.ref 11, .int (l1 + 1), .int l2, .retAddr 0] [] (wI (wI h8 44 (mI h3 11 8).toNatClampNeg r9) 11 8 ((mI (wI h8 44 (mI h3 11 8).toNatClampNeg r9) 11 8) + 1)) (qV P)))))))) : ME g uX11_next 67 [.ref 11, .int l1, .int l2, .retAddr 0] [] h (qV P) := by
  refine m_aload_n dX11_next_67 rfl ?_
  refine m_iload_n dX11_next_68 rfl ?_
  refine cl_X11_84 rfl (by decide) dX11_next_69 (Nat.le_of_ble_eq_true rfl) (MCi_go q (fun r2 h1 q => ?_))
  refine cl_X11_100 rfl (by decide) dX11_next_72 (Nat.le_of_ble_eq_true rfl) (MCi_go q (fun r4 h3 q => ?_))
  refine m_if_eq 117 dX11_next_75 (by decide) (fun c5 => ?_) (fun c5 => ?_)
  · replace q := q.1 c5
    refine m_aload_n dX11_next_117 rfl ?_
    refine m_iload_n dX11_next_118 rfl ?_
    refine pf_X11_81 rfl dX11_next_119 ?_
    refine m_aload_n dX11_next_122 rfl ?_
    refine m_aload_n dX11_next_123 rfl ?_
    refine gf_X11_91 rfl dX11_next_124 ?_
    refine m_bipush (v := 8) dX11_next_127 (by decide) ?_
    refine m_icmp_le 136 dX11_next_129 (by decide) (fun c6 => ?_) (fun c6 => ?_)
    · replace q := q.1 c6
      refine m_iconst (v := 2) dX11_next_136 (by decide) ?_
      refine pf_X11_97 rfl dX11_next_137 ?_
      refine m_goto 253 dX11_next_140 (by decide) ?_
      exact m_vret dX11_next_253 rfl q
    · replace q := q.2 c6
      refine m_iconst (v := 1) dX11_next_132 (by decide) ?_
      refine m_goto 137 dX11_next_133 (by decide) ?_
      refine pf_X11_97 rfl dX11_next_137 ?_
      refine m_goto 253 dX11_next_140 (by decide) ?_
      exact m_vret dX11_next_253 rfl q
  · replace q := q.2 c5
    refine m_aload_n dX11_next_78 rfl ?_
    refine gf_X11_91 rfl dX11_next_79 ?_
    refine m_bipush (v := 8) dX11_next_82 (by decide) ?_
    refine m_icmp_ge 101 dX11_next_84 (by decide) (fun c7 => ?_) (fun c7 => ?_)
    · replace q := q.1 c7
      refine m_aload_n dX11_next_101 rfl ?_
      refine m_dup dX11_next_102 rfl ?_
      refine gf_X11_91 rfl dX11_next_103 ?_
      refine m_iconst (v := 1) dX11_next_106 (by decide) ?_
      refine m_iadd dX11_next_107 ?_
      refine pf_X11_91 rfl dX11_next_108 ?_
      refine m_iinc (v := (l1 + 1)) (lv' := [.ref 11, .int (l1 + 1), .int l2, .retAddr 0]) dX11_next_111 (Nat.le_of_ble_eq_true rfl) rfl (congrArg (fun z => l1 + z) (by decide : Int32.ofInt 1 = 1)) rfl rfl ?_
      refine m_goto 67 dX11_next_114 (by decide) ?_
      exact q
    · replace q := q.2 c7
      refine m_aload_n dX11_next_87 rfl ?_
      refine gf_X11_17 rfl dX11_next_88 ?_
      refine m_aload_n dX11_next_91 rfl ?_
      refine gf_X11_91 rfl dX11_next_92 ?_
      refine m_aload_n dX11_next_95 rfl ?_
      refine m_iload_n dX11_next_96 rfl ?_
      refine cl_X11_84 rfl (by decide) dX11_next_97 (Nat.le_of_ble_eq_true rfl) (MCi_go q (fun r9 h8 q => ?_))
      obtain ⟨b10, q⟩ := q
      refine m_iastore dX11_next_100 rfl (by decide) b10 ?_
      refine m_aload_n dX11_next_101 rfl ?_
      refine m_dup dX11_next_102 rfl ?_
      refine gf_X11_91 rfl dX11_next_103 ?_
      refine m_iconst (v := 1) dX11_next_106 (by decide) ?_
      refine m_iadd dX11_next_107 ?_
      refine pf_X11_91 rfl dX11_next_108 ?_
      refine m_iinc (v := (l1 + 1)) (lv' := [.ref 11, .int (l1 + 1), .int l2, .retAddr 0]) dX11_next_111 (Nat.le_of_ble_eq_true rfl) rfl (congrArg (fun z => l1 + z) (by decide : Int32.ofInt 1 = 1)) rfl rfl ?_
      refine m_goto 67 dX11_next_114 (by decide) ?_
      exact q
set_option maxRecDepth 100000 in
theorem r_X11_next_152 {g : gT} {h : mh_T} {P : mh_T → Prop} (l1 : Int32) (l2 : Int32) (l3 : Int32) (q : MCi g yX11_see uX11_see [.ref 11, .int l1] h (fun r2 h1 => MCi g yX11_isDigit uX11_isDigit [.int r2] h1 (fun r4 h3 => (r4 = 0 → (l3 ≤ 3 → P (wI (wI h3 11 5 l1) 11 6 3)) ∧ (¬ l3 ≤ 3 → P (wI (wI h3 11 5 l1) 11 6 1))) ∧ (¬ r4 = 0 → (3 ≤ l3 → ME g uX11_next 152 [.ref 11, .int (l1 + 1), .int l2, .int (l3 + 1)] [] h3 (qV P)) ∧ (¬ 3 ≤ l3 → MCi g yX11_see uX11_see [.ref 11, .int l1] h3 (fun r9 h8 => ME g uX11_next 152 [.ref 11, .int (l1 + 1), .int l2, .int (l3 + 1)] [] (wI h8 11 7 (((10 * (mI h3 11 7)) + r9) - 48)) (qV P))))))) : ME g uX11_next 152 [.ref 11, .int l1, .int l2, .int l3] [] h (qV P) := by
  refine m_aload_n dX11_next_152 rfl ?_
  refine m_iload_n dX11_next_153 rfl ?_
  refine cl_X11_84 rfl (by decide) dX11_next_154 (Nat.le_of_ble_eq_true rfl) (MCi_go q (fun r2 h1 q => ?_))
  refine cl_X11_104 rfl (by decide) dX11_next_157 (Nat.le_of_ble_eq_true rfl) (MCi_go q (fun r4 h3 q => ?_))
  refine m_if_eq 197 dX11_next_160 (by decide) (fun c5 => ?_) (fun c5 => ?_)
  · replace q := q.1 c5
    refine m_aload_n dX11_next_197 rfl ?_
    refine m_iload_n dX11_next_198 rfl ?_
    refine pf_X11_81 rfl dX11_next_199 ?_
    refine m_aload_n dX11_next_202 rfl ?_
    refine m_iload_n dX11_next_203 rfl ?_
    refine m_iconst (v := 3) dX11_next_204 (by decide) ?_
    refine m_icmp_le 212 dX11_next_205 (by decide) (fun c6 => ?_) (fun c6 => ?_)
    · replace q := q.1 c6
      refine m_iconst (v := 3) dX11_next_212 (by decide) ?_
      refine pf_X11_97 rfl dX11_next_213 ?_
      refine m_goto 253 dX11_next_216 (by decide) ?_
      exact m_vret dX11_next_253 rfl q
    · replace q := q.2 c6
      refine m_iconst (v := 1) dX11_next_208 (by decide) ?_
      refine m_goto 213 dX11_next_209 (by decide) ?_
      refine pf_X11_97 rfl dX11_next_213 ?_
      refine m_goto 253 dX11_next_216 (by decide) ?_
      exact m_vret dX11_next_253 rfl q
  · replace q := q.2 c5
    refine m_iload_n dX11_next_163 rfl ?_
    refine m_iconst (v := 3) dX11_next_164 (by decide) ?_
    refine m_icmp_ge 188 dX11_next_165 (by decide) (fun c7 => ?_) (fun c7 => ?_)
    · replace q := q.1 c7
      refine m_iinc (v := (l3 + 1)) (lv' := [.ref 11, .int l1, .int l2, .int (l3 + 1)]) dX11_next_188 (Nat.le_of_ble_eq_true rfl) rfl (congrArg (fun z => l3 + z) (by decide : Int32.ofInt 1 = 1)) rfl rfl ?_
      refine m_iinc (v := (l1 + 1)) (lv' := [.ref 11, .int (l1 + 1), .int l2, .int (l3 + 1)]) dX11_next_191 (Nat.le_of_ble_eq_true rfl) rfl (congrArg (fun z => l1 + z) (by decide : Int32.ofInt 1 = 1)) rfl rfl ?_
      refine m_goto 152 dX11_next_194 (by decide) ?_
      exact q
    · replace q := q.2 c7
      refine m_aload_n dX11_next_168 rfl ?_
      refine m_bipush (v := 10) dX11_next_169 (by decide) ?_
      refine m_aload_n dX11_next_171 rfl ?_
      refine gf_X11_94 rfl dX11_next_172 ?_
      refine m_imul dX11_next_175 ?_
      refine m_aload_n dX11_next_176 rfl ?_
      refine m_iload_n dX11_next_177 rfl ?_
      refine cl_X11_84 rfl (by decide) dX11_next_178 (Nat.le_of_ble_eq_true rfl) (MCi_go q (fun r9 h8 q => ?_))
      refine m_iadd dX11_next_181 ?_
      refine m_bipush (v := 48) dX11_next_182 (by decide) ?_
      refine m_isub dX11_next_184 ?_
      refine pf_X11_94 rfl dX11_next_185 ?_
      refine m_iinc (v := (l3 + 1)) (lv' := [.ref 11, .int l1, .int l2, .int (l3 + 1)]) dX11_next_188 (Nat.le_of_ble_eq_true rfl) rfl (congrArg (fun z => l3 + z) (by decide : Int32.ofInt 1 = 1)) rfl rfl ?_
      refine m_iinc (v := (l1 + 1)) (lv' := [.ref 11, .int (l1 + 1), .int l2, .int (l3 + 1)]) dX11_next_191 (Nat.le_of_ble_eq_true rfl) rfl (congrArg (fun z => l1 + z) (by decide : Int32.ofInt 1 = 1)) rfl rfl ?_
      refine m_goto 152 dX11_next_194 (by decide) ?_
      exact q
set_option maxRecDepth 100000 in
theorem e_X11_wrong {g : gT} {h : mh_T} {P : mh_T → Prop} (l1 : Int32) (l2 : Int32) (q : ((mI h 11 13) = 0 → P (wI (wI (wI h 11 13 1) 11 9 l1) 11 10 l2)) ∧ (¬ (mI h 11 13) = 0 → P h)) : MCv g yX11_wrong uX11_wrong [.ref 11, .int l1, .int l2] h P := by
  refine m_enter (by decide) rfl (Nat.le_of_ble_eq_true rfl) (lv := [.ref 11, .int l1, .int l2]) rfl ?_
  refine m_aload_n dX11_wrong_0 rfl ?_
  refine gf_X11_107 rfl dX11_wrong_1 ?_
  refine m_if_eq 8 dX11_wrong_4 (by decide) (fun c1 => ?_) (fun c1 => ?_)
  · replace q := q.1 c1
    refine m_aload_n dX11_wrong_8 rfl ?_
    refine m_iconst (v := 1) dX11_wrong_9 (by decide) ?_
    refine pf_X11_107 rfl dX11_wrong_10 (by decide) ?_
    refine m_aload_n dX11_wrong_13 rfl ?_
    refine m_iload_n dX11_wrong_14 rfl ?_
    refine pf_X11_111 rfl dX11_wrong_15 ?_
    refine m_aload_n dX11_wrong_18 rfl ?_
    refine m_iload_n dX11_wrong_19 rfl ?_
    refine pf_X11_13 rfl dX11_wrong_20 ?_
    exact m_vret dX11_wrong_23 rfl q
  · replace q := q.2 c1
    exact m_vret dX11_wrong_7 rfl q
set_option maxRecDepth 100000 in
theorem e_X11_isWord {g : gT} {h : mh_T} {P : Int32 → mh_T → Prop} (l1 : Nat) (sl1 : l1 < nJS) (q : (¬ (mI h 11 13) = 0 → P 0 h) ∧ ((mI h 11 13) = 0 → (¬ (mI h 11 6) = 2 → P 0 h) ∧ ((mI h 11 6) = 2 → MCi g yJ0_length_8abf5 uJ0_length_8abf5 [.ref (1000 + l1)] h (fun r4 h3 => ((mI h 11 8) = r4 → ME g uX11_isWord 32 [.ref 11, .ref (1000 + l1), .int 1, .int 0] [] h3 (qI P)) ∧ (¬ (mI h 11 8) = r4 → P 0 h3))))) : MCi g yX11_isWord uX11_isWord [.ref 11, .ref (1000 + l1)] h P := by
  refine m_enter (by decide) rfl (Nat.le_of_ble_eq_true rfl) (lv := [.ref 11, .ref (1000 + l1), .retAddr 0, .retAddr 0]) rfl ?_
  refine m_aload_n dX11_isWord_0 rfl ?_
  refine gf_X11_107 rfl dX11_isWord_1 ?_
  refine m_if_ne 26 dX11_isWord_4 (by decide) (fun c1 => ?_) (fun c1 => ?_)
  · replace q := q.1 c1
    refine m_iconst (v := 0) dX11_isWord_26 (by decide) ?_
    exact m_zret dX11_isWord_27 rfl (by decide) q
  · replace q := q.2 c1
    refine m_aload_n dX11_isWord_7 rfl ?_
    refine gf_X11_97 rfl dX11_isWord_8 ?_
    refine m_iconst (v := 2) dX11_isWord_11 (by decide) ?_
    refine m_icmp_ne 26 dX11_isWord_12 (by decide) (fun c2 => ?_) (fun c2 => ?_)
    · replace q := q.1 c2
      refine m_iconst (v := 0) dX11_isWord_26 (by decide) ?_
      exact m_zret dX11_isWord_27 rfl (by decide) q
    · replace q := q.2 c2
      refine m_aload_n dX11_isWord_15 rfl ?_
      refine gf_X11_91 rfl dX11_isWord_16 ?_
      refine m_aload_n dX11_isWord_19 rfl ?_
      refine cl_X11_114 rfl (by decide) sl1 dX11_isWord_20 (Nat.le_of_ble_eq_true rfl) (MCi_go q (fun r4 h3 q => ?_))
      refine m_icmp_eq 28 dX11_isWord_23 (by decide) (fun c5 => ?_) (fun c5 => ?_)
      · replace q := q.1 c5
        refine m_iconst (v := 1) dX11_isWord_28 (by decide) ?_
        refine m_istore_n (lv' := [.ref 11, .ref (1000 + l1), .int 1, .retAddr 0]) dX11_isWord_29 (Nat.le_of_ble_eq_true rfl) rfl rfl ?_
        refine m_iconst (v := 0) dX11_isWord_30 (by decide) ?_
        refine m_istore_n (lv' := [.ref 11, .ref (1000 + l1), .int 1, .int 0]) dX11_isWord_31 (Nat.le_of_ble_eq_true rfl) rfl rfl ?_
        exact q
      · replace q := q.2 c5
        refine m_iconst (v := 0) dX11_isWord_26 (by decide) ?_
        exact m_zret dX11_isWord_27 rfl (by decide) q
set_option maxRecDepth 100000 in
theorem r_X11_isWord_32 {g : gT} {h : mh_T} {P : Int32 → mh_T → Prop} (l1 : Nat) (l2 : Int32) (l3 : Int32) (sl1 : l1 < nJS) (q : ((mI h 11 8) ≤ l3 → (l2 = 0 ∨ l2 = 1) ∧ P l2 h) ∧ (¬ (mI h 11 8) ≤ l3 → (l2 = 0 → ME g uX11_isWord 32 [.ref 11, .ref (1000 + l1), .int 0, .int (l3 + 1)] [] h (qI P)) ∧ (¬ l2 = 0 → (vp_in l3 8) ∧ (MCi g yJ0_charAt_5068e uJ0_charAt_5068e [.ref (1000 + l1), .int l3] h (fun r5 h4 => (¬ (mI h 44 l3.toNatClampNeg) = r5 → ME g uX11_isWord 32 [.ref 11, .ref (1000 + l1), .int 0, .int (l3 + 1)] [] h4 (qI P)) ∧ ((mI h 44 l3.toNatClampNeg) = r5 → ME g uX11_isWord 32 [.ref 11, .ref (1000 + l1), .int 1, .int (l3 + 1)] [] h4 (qI P))))))) : ME g uX11_isWord 32 [.ref 11, .ref (1000 + l1), .int l2, .int l3] [] h (qI P) := by
  refine m_iload_n dX11_isWord_32 rfl ?_
  refine m_aload_n dX11_isWord_33 rfl ?_
  refine gf_X11_91 rfl dX11_isWord_34 ?_
  refine m_icmp_ge 70 dX11_isWord_37 (by decide) (fun c1 => ?_) (fun c1 => ?_)
  · replace q := q.1 c1
    refine m_iload_n dX11_isWord_70 rfl ?_
    exact m_zret dX11_isWord_71 rfl q.1 q.2
  · replace q := q.2 c1
    refine m_iload_n dX11_isWord_40 rfl ?_
    refine m_if_eq 62 dX11_isWord_41 (by decide) (fun c2 => ?_) (fun c2 => ?_)
    · replace q := q.1 c2
      refine m_iconst (v := 0) dX11_isWord_62 (by decide) ?_
      refine m_istore_n (lv' := [.ref 11, .ref (1000 + l1), .int 0, .int l3]) dX11_isWord_63 (Nat.le_of_ble_eq_true rfl) rfl rfl ?_
      refine m_iinc (v := (l3 + 1)) (lv' := [.ref 11, .ref (1000 + l1), .int 0, .int (l3 + 1)]) dX11_isWord_64 (Nat.le_of_ble_eq_true rfl) rfl (congrArg (fun z => l3 + z) (by decide : Int32.ofInt 1 = 1)) rfl rfl ?_
      refine m_goto 32 dX11_isWord_67 (by decide) ?_
      exact q
    · replace q := q.2 c2
      refine m_aload_n dX11_isWord_44 rfl ?_
      refine gf_X11_17 rfl dX11_isWord_45 ?_
      refine m_iload_n dX11_isWord_48 rfl ?_
      obtain ⟨b3, q⟩ := q
      refine m_iaload dX11_isWord_49 rfl (by decide) b3 ?_
      refine m_aload_n dX11_isWord_50 rfl ?_
      refine m_iload_n dX11_isWord_51 rfl ?_
      refine cl_X11_120 rfl (by decide) sl1 dX11_isWord_52 (Nat.le_of_ble_eq_true rfl) (MCi_go q (fun r5 h4 q => ?_))
      refine m_icmp_ne 62 dX11_isWord_55 (by decide) (fun c6 => ?_) (fun c6 => ?_)
      · replace q := q.1 c6
        refine m_iconst (v := 0) dX11_isWord_62 (by decide) ?_
        refine m_istore_n (lv' := [.ref 11, .ref (1000 + l1), .int 0, .int l3]) dX11_isWord_63 (Nat.le_of_ble_eq_true rfl) rfl rfl ?_
        refine m_iinc (v := (l3 + 1)) (lv' := [.ref 11, .ref (1000 + l1), .int 0, .int (l3 + 1)]) dX11_isWord_64 (Nat.le_of_ble_eq_true rfl) rfl (congrArg (fun z => l3 + z) (by decide : Int32.ofInt 1 = 1)) rfl rfl ?_
        refine m_goto 32 dX11_isWord_67 (by decide) ?_
        exact q
      · replace q := q.2 c6
        refine m_iconst (v := 1) dX11_isWord_58 (by decide) ?_
        refine m_goto 63 dX11_isWord_59 (by decide) ?_
        refine m_istore_n (lv' := [.ref 11, .ref (1000 + l1), .int 1, .int l3]) dX11_isWord_63 (Nat.le_of_ble_eq_true rfl) rfl rfl ?_
        refine m_iinc (v := (l3 + 1)) (lv' := [.ref 11, .ref (1000 + l1), .int 1, .int (l3 + 1)]) dX11_isWord_64 (Nat.le_of_ble_eq_true rfl) rfl (congrArg (fun z => l3 + z) (by decide : Int32.ofInt 1 = 1)) rfl rfl ?_
        refine m_goto 32 dX11_isWord_67 (by decide) ?_
        exact q
set_option maxRecDepth 100000 in
theorem e_X11_takes {g : gT} {h : mh_T} {P : Int32 → mh_T → Prop} (l1 : Nat) (sl1 : l1 < nJS) (q : MCi g yX11_isWord uX11_isWord [.ref 11, .ref (1000 + l1)] h (fun r2 h1 => (¬ r2 = 0 → MCv g yX11_next uX11_next [.ref 11] h1 (fun h4 => P 1 h4)) ∧ (r2 = 0 → P 0 h1))) : MCi g yX11_takes uX11_takes [.ref 11, .ref (1000 + l1)] h P := by
  refine m_enter (by decide) rfl (Nat.le_of_ble_eq_true rfl) (lv := [.ref 11, .ref (1000 + l1)]) rfl ?_
  refine m_aload_n dX11_takes_0 rfl ?_
  refine m_aload_n dX11_takes_1 rfl ?_
  refine cl_X11_124 rfl (by decide) dX11_takes_2 (Nat.le_of_ble_eq_true rfl) (MCi_go q (fun r2 h1 q => ?_))
  refine m_if_ne 10 dX11_takes_5 (by decide) (fun c3 => ?_) (fun c3 => ?_)
  · replace q := q.1 c3
    refine m_aload_n dX11_takes_10 rfl ?_
    refine cl_X11_128 rfl (by decide) dX11_takes_11 (Nat.le_of_ble_eq_true rfl) (MCv_go q (fun h4 q => ?_))
    refine m_iconst (v := 1) dX11_takes_14 (by decide) ?_
    exact m_zret dX11_takes_15 rfl (by decide) q
  · replace q := q.2 c3
    refine m_iconst (v := 0) dX11_takes_8 (by decide) ?_
    exact m_zret dX11_takes_9 rfl (by decide) q
set_option maxRecDepth 100000 in
theorem e_X11_pass {g : gT} {h : mh_T} {P : mh_T → Prop} (l1 : Nat) (sl1 : l1 < nJS) (q : (¬ (mI h 11 13) = 0 → P h) ∧ ((mI h 11 13) = 0 → MCi g yX11_takes uX11_takes [.ref 11, .ref (1000 + l1)] h (fun r3 h2 => (¬ r3 = 0 → P h2) ∧ (r3 = 0 → MCv g yX11_wrong uX11_wrong [.ref 11, .int 1, .int (mI h2 11 4)] h2 (fun h5 => P h5))))) : MCv g yX11_pass uX11_pass [.ref 11, .ref (1000 + l1)] h P := by
  refine m_enter (by decide) rfl (Nat.le_of_ble_eq_true rfl) (lv := [.ref 11, .ref (1000 + l1)]) rfl ?_
  refine m_aload_n dX11_pass_0 rfl ?_
  refine gf_X11_107 rfl dX11_pass_1 ?_
  refine m_if_ne 24 dX11_pass_4 (by decide) (fun c1 => ?_) (fun c1 => ?_)
  · replace q := q.1 c1
    exact m_vret dX11_pass_24 rfl q
  · replace q := q.2 c1
    refine m_aload_n dX11_pass_7 rfl ?_
    refine m_aload_n dX11_pass_8 rfl ?_
    refine cl_X11_131 rfl (by decide) dX11_pass_9 (Nat.le_of_ble_eq_true rfl) (MCi_go q (fun r3 h2 q => ?_))
    refine m_if_ne 24 dX11_pass_12 (by decide) (fun c4 => ?_) (fun c4 => ?_)
    · replace q := q.1 c4
      exact m_vret dX11_pass_24 rfl q
    · replace q := q.2 c4
      refine m_aload_n dX11_pass_15 rfl ?_
      refine m_iconst (v := 1) dX11_pass_16 (by decide) ?_
      refine m_aload_n dX11_pass_17 rfl ?_
      refine gf_X11_88 rfl dX11_pass_18 ?_
      refine cl_X11_134 rfl (by decide) dX11_pass_21 (Nat.le_of_ble_eq_true rfl) (MCv_go q (fun h5 q => ?_))
      exact m_vret dX11_pass_24 rfl q
set_option maxRecDepth 100000 in
theorem e_X11_mustName {g : gT} {h : mh_T} {P : mh_T → Prop}  (q : MCi g yX11_isWord uX11_isWord [.ref 11, .ref (1000 + 0)] h (fun r2 h1 => (¬ r2 = 0 → (¬ (mI h1 11 6) = 2 → MCv g yX11_wrong uX11_wrong [.ref 11, .int 1, .int (mI h1 11 4)] h1 (fun h5 => P h5)) ∧ ((mI h1 11 6) = 2 → MCv g yX11_wrong uX11_wrong [.ref 11, .int 1, .int (mI h1 11 4)] h1 (fun h7 => P h7))) ∧ (r2 = 0 → MCi g yX11_isWord uX11_isWord [.ref 11, .ref (1000 + 1)] h1 (fun r9 h8 => (¬ r9 = 0 → (¬ (mI h8 11 6) = 2 → MCv g yX11_wrong uX11_wrong [.ref 11, .int 1, .int (mI h8 11 4)] h8 (fun h12 => P h12)) ∧ ((mI h8 11 6) = 2 → MCv g yX11_wrong uX11_wrong [.ref 11, .int 1, .int (mI h8 11 4)] h8 (fun h14 => P h14))) ∧ (r9 = 0 → MCi g yX11_isWord uX11_isWord [.ref 11, .ref (1000 + 2)] h8 (fun r16 h15 => (¬ r16 = 0 → (¬ (mI h15 11 6) = 2 → MCv g yX11_wrong uX11_wrong [.ref 11, .int 1, .int (mI h15 11 4)] h15 (fun h19 => P h19)) ∧ ((mI h15 11 6) = 2 → MCv g yX11_wrong uX11_wrong [.ref 11, .int 1, .int (mI h15 11 4)] h15 (fun h21 => P h21))) ∧ (r16 = 0 → MCi g yX11_isWord uX11_isWord [.ref 11, .ref (1000 + 3)] h15 (fun r23 h22 => (¬ r23 = 0 → (¬ (mI h22 11 6) = 2 → MCv g yX11_wrong uX11_wrong [.ref 11, .int 1, .int (mI h22 11 4)] h22 (fun h26 => P h26)) ∧ ((mI h22 11 6) = 2 → MCv g yX11_wrong uX11_wrong [.ref 11, .int 1, .int (mI h22 11 4)] h22 (fun h28 => P h28))) ∧ (r23 = 0 → MCi g yX11_isWord uX11_isWord [.ref 11, .ref (1000 + 4)] h22 (fun r30 h29 => (¬ r30 = 0 → (¬ (mI h29 11 6) = 2 → MCv g yX11_wrong uX11_wrong [.ref 11, .int 1, .int (mI h29 11 4)] h29 (fun h33 => P h33)) ∧ ((mI h29 11 6) = 2 → MCv g yX11_wrong uX11_wrong [.ref 11, .int 1, .int (mI h29 11 4)] h29 (fun h35 => P h35))) ∧ (r30 = 0 → MCi g yX11_isWord uX11_isWord [.ref 11, .ref (1000 + 5)] h29 (fun r37 h36 => (¬ r37 = 0 → (¬ (mI h36 11 6) = 2 → MCv g yX11_wrong uX11_wrong [.ref 11, .int 1, .int (mI h36 11 4)] h36 (fun h40 => P h40)) ∧ ((mI h36 11 6) = 2 → MCv g yX11_wrong uX11_wrong [.ref 11, .int 1, .int (mI h36 11 4)] h36 (fun h42 => P h42))) ∧ (r37 = 0 → MCi g yX11_isWord uX11_isWord [.ref 11, .ref (1000 + 6)] h36 (fun r44 h43 => (r44 = 0 → (¬ (mI h43 11 6) = 2 → MCv g yX11_wrong uX11_wrong [.ref 11, .int 1, .int (mI h43 11 4)] h43 (fun h47 => P h47)) ∧ ((mI h43 11 6) = 2 → P h43)) ∧ (¬ r44 = 0 → (¬ (mI h43 11 6) = 2 → MCv g yX11_wrong uX11_wrong [.ref 11, .int 1, .int (mI h43 11 4)] h43 (fun h50 => P h50)) ∧ ((mI h43 11 6) = 2 → MCv g yX11_wrong uX11_wrong [.ref 11, .int 1, .int (mI h43 11 4)] h43 (fun h52 => P h52))))))))))))))))) : MCv g yX11_mustName uX11_mustName [.ref 11] h P := by
  refine m_enter (by decide) rfl (Nat.le_of_ble_eq_true rfl) (lv := [.ref 11, .retAddr 0]) rfl ?_
  refine m_aload_n dX11_mustName_0 rfl ?_
  refine m_ldcS (i := 0) (tx := "law") dX11_mustName_1 (List.mem_of_getElem? (i := 12) rfl) (by decide) ?_
  refine cl_X11_124 rfl (by decide) dX11_mustName_3 (Nat.le_of_ble_eq_true rfl) (MCi_go q (fun r2 h1 q => ?_))
  refine m_if_ne 63 dX11_mustName_6 (by decide) (fun c3 => ?_) (fun c3 => ?_)
  · replace q := q.1 c3
    refine m_iconst (v := 1) dX11_mustName_63 (by decide) ?_
    refine m_goto 68 dX11_mustName_64 (by decide) ?_
    refine m_istore_n (lv' := [.ref 11, .int 1]) dX11_mustName_68 (Nat.le_of_ble_eq_true rfl) rfl rfl ?_
    refine m_aload_n dX11_mustName_69 rfl ?_
    refine gf_X11_97 rfl dX11_mustName_70 ?_
    refine m_iconst (v := 2) dX11_mustName_73 (by decide) ?_
    refine m_icmp_ne 81 dX11_mustName_74 (by decide) (fun c4 => ?_) (fun c4 => ?_)
    · replace q := q.1 c4
      refine m_aload_n dX11_mustName_81 rfl ?_
      refine m_iconst (v := 1) dX11_mustName_82 (by decide) ?_
      refine m_aload_n dX11_mustName_83 rfl ?_
      refine gf_X11_88 rfl dX11_mustName_84 ?_
      refine cl_X11_134 rfl (by decide) dX11_mustName_87 (Nat.le_of_ble_eq_true rfl) (MCv_go q (fun h5 q => ?_))
      exact m_vret dX11_mustName_90 rfl q
    · replace q := q.2 c4
      refine m_iload_n dX11_mustName_77 rfl ?_
      refine m_if_eq 90 dX11_mustName_78 (by decide) (fun c6 => absurd c6 (by decide)) (fun c6 => ?_)
      refine m_aload_n dX11_mustName_81 rfl ?_
      refine m_iconst (v := 1) dX11_mustName_82 (by decide) ?_
      refine m_aload_n dX11_mustName_83 rfl ?_
      refine gf_X11_88 rfl dX11_mustName_84 ?_
      refine cl_X11_134 rfl (by decide) dX11_mustName_87 (Nat.le_of_ble_eq_true rfl) (MCv_go q (fun h7 q => ?_))
      exact m_vret dX11_mustName_90 rfl q
  · replace q := q.2 c3
    refine m_aload_n dX11_mustName_9 rfl ?_
    refine m_ldcS (i := 1) (tx := "look") dX11_mustName_10 (List.mem_of_getElem? (i := 13) rfl) (by decide) ?_
    refine cl_X11_124 rfl (by decide) dX11_mustName_12 (Nat.le_of_ble_eq_true rfl) (MCi_go q (fun r9 h8 q => ?_))
    refine m_if_ne 63 dX11_mustName_15 (by decide) (fun c10 => ?_) (fun c10 => ?_)
    · replace q := q.1 c10
      refine m_iconst (v := 1) dX11_mustName_63 (by decide) ?_
      refine m_goto 68 dX11_mustName_64 (by decide) ?_
      refine m_istore_n (lv' := [.ref 11, .int 1]) dX11_mustName_68 (Nat.le_of_ble_eq_true rfl) rfl rfl ?_
      refine m_aload_n dX11_mustName_69 rfl ?_
      refine gf_X11_97 rfl dX11_mustName_70 ?_
      refine m_iconst (v := 2) dX11_mustName_73 (by decide) ?_
      refine m_icmp_ne 81 dX11_mustName_74 (by decide) (fun c11 => ?_) (fun c11 => ?_)
      · replace q := q.1 c11
        refine m_aload_n dX11_mustName_81 rfl ?_
        refine m_iconst (v := 1) dX11_mustName_82 (by decide) ?_
        refine m_aload_n dX11_mustName_83 rfl ?_
        refine gf_X11_88 rfl dX11_mustName_84 ?_
        refine cl_X11_134 rfl (by decide) dX11_mustName_87 (Nat.le_of_ble_eq_true rfl) (MCv_go q (fun h12 q => ?_))
        exact m_vret dX11_mustName_90 rfl q
      · replace q := q.2 c11
        refine m_iload_n dX11_mustName_77 rfl ?_
        refine m_if_eq 90 dX11_mustName_78 (by decide) (fun c13 => absurd c13 (by decide)) (fun c13 => ?_)
        refine m_aload_n dX11_mustName_81 rfl ?_
        refine m_iconst (v := 1) dX11_mustName_82 (by decide) ?_
        refine m_aload_n dX11_mustName_83 rfl ?_
        refine gf_X11_88 rfl dX11_mustName_84 ?_
        refine cl_X11_134 rfl (by decide) dX11_mustName_87 (Nat.le_of_ble_eq_true rfl) (MCv_go q (fun h14 q => ?_))
        exact m_vret dX11_mustName_90 rfl q
    · replace q := q.2 c10
      refine m_aload_n dX11_mustName_18 rfl ?_
      refine m_ldcS (i := 2) (tx := "point") dX11_mustName_19 (List.mem_of_getElem? (i := 14) rfl) (by decide) ?_
      refine cl_X11_124 rfl (by decide) dX11_mustName_21 (Nat.le_of_ble_eq_true rfl) (MCi_go q (fun r16 h15 q => ?_))
      refine m_if_ne 63 dX11_mustName_24 (by decide) (fun c17 => ?_) (fun c17 => ?_)
      · replace q := q.1 c17
        refine m_iconst (v := 1) dX11_mustName_63 (by decide) ?_
        refine m_goto 68 dX11_mustName_64 (by decide) ?_
        refine m_istore_n (lv' := [.ref 11, .int 1]) dX11_mustName_68 (Nat.le_of_ble_eq_true rfl) rfl rfl ?_
        refine m_aload_n dX11_mustName_69 rfl ?_
        refine gf_X11_97 rfl dX11_mustName_70 ?_
        refine m_iconst (v := 2) dX11_mustName_73 (by decide) ?_
        refine m_icmp_ne 81 dX11_mustName_74 (by decide) (fun c18 => ?_) (fun c18 => ?_)
        · replace q := q.1 c18
          refine m_aload_n dX11_mustName_81 rfl ?_
          refine m_iconst (v := 1) dX11_mustName_82 (by decide) ?_
          refine m_aload_n dX11_mustName_83 rfl ?_
          refine gf_X11_88 rfl dX11_mustName_84 ?_
          refine cl_X11_134 rfl (by decide) dX11_mustName_87 (Nat.le_of_ble_eq_true rfl) (MCv_go q (fun h19 q => ?_))
          exact m_vret dX11_mustName_90 rfl q
        · replace q := q.2 c18
          refine m_iload_n dX11_mustName_77 rfl ?_
          refine m_if_eq 90 dX11_mustName_78 (by decide) (fun c20 => absurd c20 (by decide)) (fun c20 => ?_)
          refine m_aload_n dX11_mustName_81 rfl ?_
          refine m_iconst (v := 1) dX11_mustName_82 (by decide) ?_
          refine m_aload_n dX11_mustName_83 rfl ?_
          refine gf_X11_88 rfl dX11_mustName_84 ?_
          refine cl_X11_134 rfl (by decide) dX11_mustName_87 (Nat.le_of_ble_eq_true rfl) (MCv_go q (fun h21 q => ?_))
          exact m_vret dX11_mustName_90 rfl q
      · replace q := q.2 c17
        refine m_aload_n dX11_mustName_27 rfl ?_
        refine m_ldcS (i := 3) (tx := "set") dX11_mustName_28 (List.mem_of_getElem? (i := 15) rfl) (by decide) ?_
        refine cl_X11_124 rfl (by decide) dX11_mustName_30 (Nat.le_of_ble_eq_true rfl) (MCi_go q (fun r23 h22 q => ?_))
        refine m_if_ne 63 dX11_mustName_33 (by decide) (fun c24 => ?_) (fun c24 => ?_)
        · replace q := q.1 c24
          refine m_iconst (v := 1) dX11_mustName_63 (by decide) ?_
          refine m_goto 68 dX11_mustName_64 (by decide) ?_
          refine m_istore_n (lv' := [.ref 11, .int 1]) dX11_mustName_68 (Nat.le_of_ble_eq_true rfl) rfl rfl ?_
          refine m_aload_n dX11_mustName_69 rfl ?_
          refine gf_X11_97 rfl dX11_mustName_70 ?_
          refine m_iconst (v := 2) dX11_mustName_73 (by decide) ?_
          refine m_icmp_ne 81 dX11_mustName_74 (by decide) (fun c25 => ?_) (fun c25 => ?_)
          · replace q := q.1 c25
            refine m_aload_n dX11_mustName_81 rfl ?_
            refine m_iconst (v := 1) dX11_mustName_82 (by decide) ?_
            refine m_aload_n dX11_mustName_83 rfl ?_
            refine gf_X11_88 rfl dX11_mustName_84 ?_
            refine cl_X11_134 rfl (by decide) dX11_mustName_87 (Nat.le_of_ble_eq_true rfl) (MCv_go q (fun h26 q => ?_))
            exact m_vret dX11_mustName_90 rfl q
          · replace q := q.2 c25
            refine m_iload_n dX11_mustName_77 rfl ?_
            refine m_if_eq 90 dX11_mustName_78 (by decide) (fun c27 => absurd c27 (by decide)) (fun c27 => ?_)
            refine m_aload_n dX11_mustName_81 rfl ?_
            refine m_iconst (v := 1) dX11_mustName_82 (by decide) ?_
            refine m_aload_n dX11_mustName_83 rfl ?_
            refine gf_X11_88 rfl dX11_mustName_84 ?_
            refine cl_X11_134 rfl (by decide) dX11_mustName_87 (Nat.le_of_ble_eq_true rfl) (MCv_go q (fun h28 q => ?_))
            exact m_vret dX11_mustName_90 rfl q
        · replace q := q.2 c24
          refine m_aload_n dX11_mustName_36 rfl ?_
          refine m_ldcS (i := 4) (tx := "line") dX11_mustName_37 (List.mem_of_getElem? (i := 16) rfl) (by decide) ?_
          refine cl_X11_124 rfl (by decide) dX11_mustName_39 (Nat.le_of_ble_eq_true rfl) (MCi_go q (fun r30 h29 q => ?_))
          refine m_if_ne 63 dX11_mustName_42 (by decide) (fun c31 => ?_) (fun c31 => ?_)
          · replace q := q.1 c31
            refine m_iconst (v := 1) dX11_mustName_63 (by decide) ?_
            refine m_goto 68 dX11_mustName_64 (by decide) ?_
            refine m_istore_n (lv' := [.ref 11, .int 1]) dX11_mustName_68 (Nat.le_of_ble_eq_true rfl) rfl rfl ?_
            refine m_aload_n dX11_mustName_69 rfl ?_
            refine gf_X11_97 rfl dX11_mustName_70 ?_
            refine m_iconst (v := 2) dX11_mustName_73 (by decide) ?_
            refine m_icmp_ne 81 dX11_mustName_74 (by decide) (fun c32 => ?_) (fun c32 => ?_)
            · replace q := q.1 c32
              refine m_aload_n dX11_mustName_81 rfl ?_
              refine m_iconst (v := 1) dX11_mustName_82 (by decide) ?_
              refine m_aload_n dX11_mustName_83 rfl ?_
              refine gf_X11_88 rfl dX11_mustName_84 ?_
              refine cl_X11_134 rfl (by decide) dX11_mustName_87 (Nat.le_of_ble_eq_true rfl) (MCv_go q (fun h33 q => ?_))
              exact m_vret dX11_mustName_90 rfl q
            · replace q := q.2 c32
              refine m_iload_n dX11_mustName_77 rfl ?_
              refine m_if_eq 90 dX11_mustName_78 (by decide) (fun c34 => absurd c34 (by decide)) (fun c34 => ?_)
              refine m_aload_n dX11_mustName_81 rfl ?_
              refine m_iconst (v := 1) dX11_mustName_82 (by decide) ?_
              refine m_aload_n dX11_mustName_83 rfl ?_
              refine gf_X11_88 rfl dX11_mustName_84 ?_
              refine cl_X11_134 rfl (by decide) dX11_mustName_87 (Nat.le_of_ble_eq_true rfl) (MCv_go q (fun h35 q => ?_))
              exact m_vret dX11_mustName_90 rfl q
          · replace q := q.2 c31
            refine m_aload_n dX11_mustName_45 rfl ?_
            refine m_ldcS (i := 5) (tx := "ray") dX11_mustName_46 (List.mem_of_getElem? (i := 17) rfl) (by decide) ?_
            refine cl_X11_124 rfl (by decide) dX11_mustName_48 (Nat.le_of_ble_eq_true rfl) (MCi_go q (fun r37 h36 q => ?_))
            refine m_if_ne 63 dX11_mustName_51 (by decide) (fun c38 => ?_) (fun c38 => ?_)
            · replace q := q.1 c38
              refine m_iconst (v := 1) dX11_mustName_63 (by decide) ?_
              refine m_goto 68 dX11_mustName_64 (by decide) ?_
              refine m_istore_n (lv' := [.ref 11, .int 1]) dX11_mustName_68 (Nat.le_of_ble_eq_true rfl) rfl rfl ?_
              refine m_aload_n dX11_mustName_69 rfl ?_
              refine gf_X11_97 rfl dX11_mustName_70 ?_
              refine m_iconst (v := 2) dX11_mustName_73 (by decide) ?_
              refine m_icmp_ne 81 dX11_mustName_74 (by decide) (fun c39 => ?_) (fun c39 => ?_)
              · replace q := q.1 c39
                refine m_aload_n dX11_mustName_81 rfl ?_
                refine m_iconst (v := 1) dX11_mustName_82 (by decide) ?_
                refine m_aload_n dX11_mustName_83 rfl ?_
                refine gf_X11_88 rfl dX11_mustName_84 ?_
                refine cl_X11_134 rfl (by decide) dX11_mustName_87 (Nat.le_of_ble_eq_true rfl) (MCv_go q (fun h40 q => ?_))
                exact m_vret dX11_mustName_90 rfl q
              · replace q := q.2 c39
                refine m_iload_n dX11_mustName_77 rfl ?_
                refine m_if_eq 90 dX11_mustName_78 (by decide) (fun c41 => absurd c41 (by decide)) (fun c41 => ?_)
                refine m_aload_n dX11_mustName_81 rfl ?_
                refine m_iconst (v := 1) dX11_mustName_82 (by decide) ?_
                refine m_aload_n dX11_mustName_83 rfl ?_
                refine gf_X11_88 rfl dX11_mustName_84 ?_
                refine cl_X11_134 rfl (by decide) dX11_mustName_87 (Nat.le_of_ble_eq_true rfl) (MCv_go q (fun h42 q => ?_))
                exact m_vret dX11_mustName_90 rfl q
            · replace q := q.2 c38
              refine m_aload_n dX11_mustName_54 rfl ?_
              refine m_ldcS (i := 6) (tx := "run") dX11_mustName_55 (List.mem_of_getElem? (i := 18) rfl) (by decide) ?_
              refine cl_X11_124 rfl (by decide) dX11_mustName_57 (Nat.le_of_ble_eq_true rfl) (MCi_go q (fun r44 h43 q => ?_))
              refine m_if_eq 67 dX11_mustName_60 (by decide) (fun c45 => ?_) (fun c45 => ?_)
              · replace q := q.1 c45
                refine m_iconst (v := 0) dX11_mustName_67 (by decide) ?_
                refine m_istore_n (lv' := [.ref 11, .int 0]) dX11_mustName_68 (Nat.le_of_ble_eq_true rfl) rfl rfl ?_
                refine m_aload_n dX11_mustName_69 rfl ?_
                refine gf_X11_97 rfl dX11_mustName_70 ?_
                refine m_iconst (v := 2) dX11_mustName_73 (by decide) ?_
                refine m_icmp_ne 81 dX11_mustName_74 (by decide) (fun c46 => ?_) (fun c46 => ?_)
                · replace q := q.1 c46
                  refine m_aload_n dX11_mustName_81 rfl ?_
                  refine m_iconst (v := 1) dX11_mustName_82 (by decide) ?_
                  refine m_aload_n dX11_mustName_83 rfl ?_
                  refine gf_X11_88 rfl dX11_mustName_84 ?_
                  refine cl_X11_134 rfl (by decide) dX11_mustName_87 (Nat.le_of_ble_eq_true rfl) (MCv_go q (fun h47 q => ?_))
                  exact m_vret dX11_mustName_90 rfl q
                · replace q := q.2 c46
                  refine m_iload_n dX11_mustName_77 rfl ?_
                  refine m_if_eq 90 dX11_mustName_78 (by decide) (fun c48 => ?_) (fun c48 => absurd c48 (by decide))
                  exact m_vret dX11_mustName_90 rfl q
              · replace q := q.2 c45
                refine m_iconst (v := 1) dX11_mustName_63 (by decide) ?_
                refine m_goto 68 dX11_mustName_64 (by decide) ?_
                refine m_istore_n (lv' := [.ref 11, .int 1]) dX11_mustName_68 (Nat.le_of_ble_eq_true rfl) rfl rfl ?_
                refine m_aload_n dX11_mustName_69 rfl ?_
                refine gf_X11_97 rfl dX11_mustName_70 ?_
                refine m_iconst (v := 2) dX11_mustName_73 (by decide) ?_
                refine m_icmp_ne 81 dX11_mustName_74 (by decide) (fun c49 => ?_) (fun c49 => ?_)
                · replace q := q.1 c49
                  refine m_aload_n dX11_mustName_81 rfl ?_
                  refine m_iconst (v := 1) dX11_mustName_82 (by decide) ?_
                  refine m_aload_n dX11_mustName_83 rfl ?_
                  refine gf_X11_88 rfl dX11_mustName_84 ?_
                  refine cl_X11_134 rfl (by decide) dX11_mustName_87 (Nat.le_of_ble_eq_true rfl) (MCv_go q (fun h50 q => ?_))
                  exact m_vret dX11_mustName_90 rfl q
                · replace q := q.2 c49
                  refine m_iload_n dX11_mustName_77 rfl ?_
                  refine m_if_eq 90 dX11_mustName_78 (by decide) (fun c51 => absurd c51 (by decide)) (fun c51 => ?_)
                  refine m_aload_n dX11_mustName_81 rfl ?_
                  refine m_iconst (v := 1) dX11_mustName_82 (by decide) ?_
                  refine m_aload_n dX11_mustName_83 rfl ?_
                  refine gf_X11_88 rfl dX11_mustName_84 ?_
                  refine cl_X11_134 rfl (by decide) dX11_mustName_87 (Nat.le_of_ble_eq_true rfl) (MCv_go q (fun h52 q => ?_))
                  exact m_vret dX11_mustName_90 rfl q
set_option maxRecDepth 100000 in
theorem e_X11_find {g : gT} {h : mh_T} {P : Int32 → mh_T → Prop}  (q : ME g uX11_find 2 [.ref 11, .int 0, .retAddr 0, .retAddr 0] [] h (qI P)) : MCi g yX11_find uX11_find [.ref 11] h P := by
  refine m_enter (by decide) rfl (Nat.le_of_ble_eq_true rfl) (lv := [.ref 11, .retAddr 0, .retAddr 0, .retAddr 0]) rfl ?_
  refine m_iconst (v := 0) dX11_find_0 (by decide) ?_
  refine m_istore_n (lv' := [.ref 11, .int 0, .retAddr 0, .retAddr 0]) dX11_find_1 (Nat.le_of_ble_eq_true rfl) rfl rfl ?_
  exact q
set_option maxRecDepth 100000 in
theorem r_X11_find_2 {g : gT} {h : mh_T} {P : Int32 → mh_T → Prop} (l1 : Int32) (q : (15 ≤ l1 → P (-1) h) ∧ (¬ 15 ≤ l1 → (vp_in (211 + l1) 346) ∧ (((mI h 46 (211 + l1).toNatClampNeg) ≤ 0 → ME g uX11_find 46 [.ref 11, .int l1, .int 0, .int 0] [] h (qI P)) ∧ (¬ (mI h 46 (211 + l1).toNatClampNeg) ≤ 0 → (vp_in (211 + l1) 346) ∧ ((¬ (mI h 46 (211 + l1).toNatClampNeg) = (mI h 11 8) → ME g uX11_find 46 [.ref 11, .int l1, .int 0, .int 0] [] h (qI P)) ∧ ((mI h 46 (211 + l1).toNatClampNeg) = (mI h 11 8) → ME g uX11_find 46 [.ref 11, .int l1, .int 1, .int 0] [] h (qI P))))))) : ME g uX11_find 2 [.ref 11, .int l1, .retAddr 0, .retAddr 0] [] h (qI P) := by
  refine m_iload_n dX11_find_2 rfl ?_
  refine m_bipush (v := 15) dX11_find_3 (by decide) ?_
  refine m_icmp_ge 106 dX11_find_5 (by decide) (fun c1 => ?_) (fun c1 => ?_)
  · replace q := q.1 c1
    refine m_iconst (v := (-1)) dX11_find_106 (by decide) ?_
    exact m_iret dX11_find_107 rfl q
  · replace q := q.2 c1
    refine m_aload_n dX11_find_8 rfl ?_
    refine gf_X11_23 rfl dX11_find_9 ?_
    refine m_sipush (v := 211) dX11_find_12 (by decide) ?_
    refine m_iload_n dX11_find_15 rfl ?_
    refine m_iadd dX11_find_16 ?_
    obtain ⟨b2, q⟩ := q
    refine m_iaload dX11_find_17 rfl (by decide) b2 ?_
    refine m_if_le 42 dX11_find_18 (by decide) (fun c3 => ?_) (fun c3 => ?_)
    · replace q := q.1 c3
      refine m_iconst (v := 0) dX11_find_42 (by decide) ?_
      refine m_istore_n (lv' := [.ref 11, .int l1, .int 0, .retAddr 0]) dX11_find_43 (Nat.le_of_ble_eq_true rfl) rfl rfl ?_
      refine m_iconst (v := 0) dX11_find_44 (by decide) ?_
      refine m_istore_n (lv' := [.ref 11, .int l1, .int 0, .int 0]) dX11_find_45 (Nat.le_of_ble_eq_true rfl) rfl rfl ?_
      exact q
    · replace q := q.2 c3
      refine m_aload_n dX11_find_21 rfl ?_
      refine gf_X11_23 rfl dX11_find_22 ?_
      refine m_sipush (v := 211) dX11_find_25 (by decide) ?_
      refine m_iload_n dX11_find_28 rfl ?_
      refine m_iadd dX11_find_29 ?_
      obtain ⟨b4, q⟩ := q
      refine m_iaload dX11_find_30 rfl (by decide) b4 ?_
      refine m_aload_n dX11_find_31 rfl ?_
      refine gf_X11_91 rfl dX11_find_32 ?_
      refine m_icmp_ne 42 dX11_find_35 (by decide) (fun c5 => ?_) (fun c5 => ?_)
      · replace q := q.1 c5
        refine m_iconst (v := 0) dX11_find_42 (by decide) ?_
        refine m_istore_n (lv' := [.ref 11, .int l1, .int 0, .retAddr 0]) dX11_find_43 (Nat.le_of_ble_eq_true rfl) rfl rfl ?_
        refine m_iconst (v := 0) dX11_find_44 (by decide) ?_
        refine m_istore_n (lv' := [.ref 11, .int l1, .int 0, .int 0]) dX11_find_45 (Nat.le_of_ble_eq_true rfl) rfl rfl ?_
        exact q
      · replace q := q.2 c5
        refine m_iconst (v := 1) dX11_find_38 (by decide) ?_
        refine m_goto 43 dX11_find_39 (by decide) ?_
        refine m_istore_n (lv' := [.ref 11, .int l1, .int 1, .retAddr 0]) dX11_find_43 (Nat.le_of_ble_eq_true rfl) rfl rfl ?_
        refine m_iconst (v := 0) dX11_find_44 (by decide) ?_
        refine m_istore_n (lv' := [.ref 11, .int l1, .int 1, .int 0]) dX11_find_45 (Nat.le_of_ble_eq_true rfl) rfl rfl ?_
        exact q
set_option maxRecDepth 100000 in
theorem r_X11_find_46 {g : gT} {h : mh_T} {P : Int32 → mh_T → Prop} (l1 : Int32) (l2 : Int32) (l3 : Int32) (q : ((mI h 11 8) ≤ l3 → (l2 = 0 → ME g uX11_find 2 [.ref 11, .int (l1 + 1), .retAddr 0, .retAddr 0] [] h (qI P)) ∧ (¬ l2 = 0 → P l1 h)) ∧ (¬ (mI h 11 8) ≤ l3 → (l2 = 0 → (l2 = 0 → ME g uX11_find 2 [.ref 11, .int (l1 + 1), .retAddr 0, .retAddr 0] [] h (qI P)) ∧ (¬ l2 = 0 → P l1 h)) ∧ (¬ l2 = 0 → (vp_in ((226 + (8 * l1)) + l3) 346) ∧ ((vp_in l3 8) ∧ ((¬ (mI h 46 ((226 + (8 * l1)) + l3).toNatClampNeg) = (mI h 44 l3.toNatClampNeg) → ME g uX11_find 46 [.ref 11, .int l1, .int 0, .int (l3 + 1)] [] h (qI P)) ∧ ((mI h 46 ((226 + (8 * l1)) + l3).toNatClampNeg) = (mI h 44 l3.toNatClampNeg) → ME g uX11_find 46 [.ref 11, .int l1, .int 1, .int (l3 + 1)] [] h (qI P))))))) : ME g uX11_find 46 [.ref 11, .int l1, .int l2, .int l3] [] h (qI P) := by
  refine m_iload_n dX11_find_46 rfl ?_
  refine m_aload_n dX11_find_47 rfl ?_
  refine gf_X11_91 rfl dX11_find_48 ?_
  refine m_icmp_ge 94 dX11_find_51 (by decide) (fun c1 => ?_) (fun c1 => ?_)
  · replace q := q.1 c1
    refine m_iload_n dX11_find_94 rfl ?_
    refine m_if_eq 100 dX11_find_95 (by decide) (fun c2 => ?_) (fun c2 => ?_)
    · replace q := q.1 c2
      refine m_iinc (v := (l1 + 1)) (lv' := [.ref 11, .int (l1 + 1), .int l2, .int l3]) dX11_find_100 (Nat.le_of_ble_eq_true rfl) rfl (congrArg (fun z => l1 + z) (by decide : Int32.ofInt 1 = 1)) rfl rfl ?_
      refine m_goto 2 dX11_find_103 (by decide) ?_
      refine m_dropK (lv' := [.ref 11, .int (l1 + 1), .retAddr 0, .retAddr 0]) [2, 3] rfl ?_
      exact q
    · replace q := q.2 c2
      refine m_iload_n dX11_find_98 rfl ?_
      exact m_iret dX11_find_99 rfl q
  · replace q := q.2 c1
    refine m_iload_n dX11_find_54 rfl ?_
    refine m_if_eq 94 dX11_find_55 (by decide) (fun c3 => ?_) (fun c3 => ?_)
    · replace q := q.1 c3
      refine m_iload_n dX11_find_94 rfl ?_
      refine m_if_eq 100 dX11_find_95 (by decide) (fun c4 => ?_) (fun c4 => ?_)
      · replace q := q.1 c4
        refine m_iinc (v := (l1 + 1)) (lv' := [.ref 11, .int (l1 + 1), .int l2, .int l3]) dX11_find_100 (Nat.le_of_ble_eq_true rfl) rfl (congrArg (fun z => l1 + z) (by decide : Int32.ofInt 1 = 1)) rfl rfl ?_
        refine m_goto 2 dX11_find_103 (by decide) ?_
        refine m_dropK (lv' := [.ref 11, .int (l1 + 1), .retAddr 0, .retAddr 0]) [2, 3] rfl ?_
        exact q
      · replace q := q.2 c4
        refine m_iload_n dX11_find_98 rfl ?_
        exact m_iret dX11_find_99 rfl q
    · replace q := q.2 c3
      refine m_aload_n dX11_find_58 rfl ?_
      refine gf_X11_23 rfl dX11_find_59 ?_
      refine m_sipush (v := 226) dX11_find_62 (by decide) ?_
      refine m_bipush (v := 8) dX11_find_65 (by decide) ?_
      refine m_iload_n dX11_find_67 rfl ?_
      refine m_imul dX11_find_68 ?_
      refine m_iadd dX11_find_69 ?_
      refine m_iload_n dX11_find_70 rfl ?_
      refine m_iadd dX11_find_71 ?_
      obtain ⟨b5, q⟩ := q
      refine m_iaload dX11_find_72 rfl (by decide) b5 ?_
      refine m_aload_n dX11_find_73 rfl ?_
      refine gf_X11_17 rfl dX11_find_74 ?_
      refine m_iload_n dX11_find_77 rfl ?_
      obtain ⟨b6, q⟩ := q
      refine m_iaload dX11_find_78 rfl (by decide) b6 ?_
      refine m_icmp_ne 86 dX11_find_79 (by decide) (fun c7 => ?_) (fun c7 => ?_)
      · replace q := q.1 c7
        refine m_iconst (v := 0) dX11_find_86 (by decide) ?_
        refine m_istore_n (lv' := [.ref 11, .int l1, .int 0, .int l3]) dX11_find_87 (Nat.le_of_ble_eq_true rfl) rfl rfl ?_
        refine m_iinc (v := (l3 + 1)) (lv' := [.ref 11, .int l1, .int 0, .int (l3 + 1)]) dX11_find_88 (Nat.le_of_ble_eq_true rfl) rfl (congrArg (fun z => l3 + z) (by decide : Int32.ofInt 1 = 1)) rfl rfl ?_
        refine m_goto 46 dX11_find_91 (by decide) ?_
        exact q
      · replace q := q.2 c7
        refine m_iconst (v := 1) dX11_find_82 (by decide) ?_
        refine m_goto 87 dX11_find_83 (by decide) ?_
        refine m_istore_n (lv' := [.ref 11, .int l1, .int 1, .int l3]) dX11_find_87 (Nat.le_of_ble_eq_true rfl) rfl rfl ?_
        refine m_iinc (v := (l3 + 1)) (lv' := [.ref 11, .int l1, .int 1, .int (l3 + 1)]) dX11_find_88 (Nat.le_of_ble_eq_true rfl) rfl (congrArg (fun z => l3 + z) (by decide : Int32.ofInt 1 = 1)) rfl rfl ?_
        refine m_goto 46 dX11_find_91 (by decide) ?_
        exact q
set_option maxRecDepth 100000 in
theorem e_X11_newNames {g : gT} {h : mh_T} {P : mh_T → Prop} (l1 : Int32) (l2 : Int32) (l3 : Int32) (q : (¬ (mI h 11 13) = 0 → ME g uX11_newNames 14 [.ref 11, .int l1, .int l2, .int l3, .int 0, .retAddr 0, .retAddr 0] [] h (qV P)) ∧ ((mI h 11 13) = 0 → ME g uX11_newNames 14 [.ref 11, .int l1, .int l2, .int l3, .int 1, .retAddr 0, .retAddr 0] [] h (qV P))) : MCv g yX11_newNames uX11_newNames [.ref 11, .int l1, .int l2, .int l3] h P := by
  refine m_enter (by decide) rfl (Nat.le_of_ble_eq_true rfl) (lv := [.ref 11, .int l1, .int l2, .int l3, .retAddr 0, .retAddr 0, .retAddr 0]) rfl ?_
  refine m_aload_n dX11_newNames_0 rfl ?_
  refine gf_X11_107 rfl dX11_newNames_1 ?_
  refine m_if_ne 11 dX11_newNames_4 (by decide) (fun c1 => ?_) (fun c1 => ?_)
  · replace q := q.1 c1
    refine m_iconst (v := 0) dX11_newNames_11 (by decide) ?_
    refine m_istore (lv' := [.ref 11, .int l1, .int l2, .int l3, .int 0, .retAddr 0, .retAddr 0]) dX11_newNames_12 (Nat.le_of_ble_eq_true rfl) rfl rfl ?_
    exact q
  · replace q := q.2 c1
    refine m_iconst (v := 1) dX11_newNames_7 (by decide) ?_
    refine m_goto 12 dX11_newNames_8 (by decide) ?_
    refine m_istore (lv' := [.ref 11, .int l1, .int l2, .int l3, .int 1, .retAddr 0, .retAddr 0]) dX11_newNames_12 (Nat.le_of_ble_eq_true rfl) rfl rfl ?_
    exact q
set_option maxRecDepth 100000 in
theorem r_X11_newNames_14 {g : gT} {h : mh_T} {P : mh_T → Prop} (l1 : Int32) (l2 : Int32) (l3 : Int32) (l4 : Int32) (q : (l4 = 0 → P h) ∧ (¬ l4 = 0 → MCv g yX11_mustName uX11_mustName [.ref 11] h (fun h2 => (¬ (mI h2 11 13) = 0 → (¬ (mI h2 11 13) = 0 → ((mI h2 11 13) = 0 → (vp_in l1 346) ∧ (∀ x7 : Int32, x7 = (l2 + (mI h2 46 l1.toNatClampNeg)) → ME g uX11_newNames 93 [.ref 11, .int l1, .int l2, .int l3, .int l4, .int x7, .int 0] [] h2 (qV P))) ∧ (¬ (mI h2 11 13) = 0 → P h2)) ∧ ((mI h2 11 13) = 0 → (vp_in l1 346) ∧ ((¬ (mI h2 46 l1.toNatClampNeg) = l3 → ((mI h2 11 13) = 0 → (vp_in l1 346) ∧ (∀ x12 : Int32, x12 = (l2 + (mI h2 46 l1.toNatClampNeg)) → ME g uX11_newNames 93 [.ref 11, .int l1, .int l2, .int l3, .int l4, .int x12, .int 0] [] h2 (qV P))) ∧ (¬ (mI h2 11 13) = 0 → P h2)) ∧ ((mI h2 46 l1.toNatClampNeg) = l3 → MCv g yX11_wrong uX11_wrong [.ref 11, .int 5, .int (mI h2 11 4)] h2 (fun h13 => ((mI h13 11 13) = 0 → (vp_in l1 346) ∧ (∀ x16 : Int32, x16 = (l2 + (mI h13 46 l1.toNatClampNeg)) → ME g uX11_newNames 93 [.ref 11, .int l1, .int l2, .int l3, .int l4, .int x16, .int 0] [] h13 (qV P))) ∧ (¬ (mI h13 11 13) = 0 → P h13)))))) ∧ ((mI h2 11 13) = 0 → MCi g yX11_find uX11_find [.ref 11] h2 (fun r18 h17 => (r18 < 0 → (¬ (mI h17 11 13) = 0 → ((mI h17 11 13) = 0 → (vp_in l1 346) ∧ (∀ x23 : Int32, x23 = (l2 + (mI h17 46 l1.toNatClampNeg)) → ME g uX11_newNames 93 [.ref 11, .int l1, .int l2, .int l3, .int l4, .int x23, .int 0] [] h17 (qV P))) ∧ (¬ (mI h17 11 13) = 0 → P h17)) ∧ ((mI h17 11 13) = 0 → (vp_in l1 346) ∧ ((¬ (mI h17 46 l1.toNatClampNeg) = l3 → ((mI h17 11 13) = 0 → (vp_in l1 346) ∧ (∀ x28 : Int32, x28 = (l2 + (mI h17 46 l1.toNatClampNeg)) → ME g uX11_newNames 93 [.ref 11, .int l1, .int l2, .int l3, .int l4, .int x28, .int 0] [] h17 (qV P))) ∧ (¬ (mI h17 11 13) = 0 → P h17)) ∧ ((mI h17 46 l1.toNatClampNeg) = l3 → MCv g yX11_wrong uX11_wrong [.ref 11, .int 5, .int (mI h17 11 4)] h17 (fun h29 => ((mI h29 11 13) = 0 → (vp_in l1 346) ∧ (∀ x32 : Int32, x32 = (l2 + (mI h29 46 l1.toNatClampNeg)) → ME g uX11_newNames 93 [.ref 11, .int l1, .int l2, .int l3, .int l4, .int x32, .int 0] [] h29 (qV P))) ∧ (¬ (mI h29 11 13) = 0 → P h29)))))) ∧ (¬ r18 < 0 → MCv g yX11_wrong uX11_wrong [.ref 11, .int 3, .int (mI h17 11 4)] h17 (fun h33 => (¬ (mI h33 11 13) = 0 → ((mI h33 11 13) = 0 → (vp_in l1 346) ∧ (∀ x37 : Int32, x37 = (l2 + (mI h33 46 l1.toNatClampNeg)) → ME g uX11_newNames 93 [.ref 11, .int l1, .int l2, .int l3, .int l4, .int x37, .int 0] [] h33 (qV P))) ∧ (¬ (mI h33 11 13) = 0 → P h33)) ∧ ((mI h33 11 13) = 0 → (vp_in l1 346) ∧ ((¬ (mI h33 46 l1.toNatClampNeg) = l3 → ((mI h33 11 13) = 0 → (vp_in l1 346) ∧ (∀ x42 : Int32, x42 = (l2 + (mI h33 46 l1.toNatClampNeg)) → ME g uX11_newNames 93 [.ref 11, .int l1, .int l2, .int l3, .int l4, .int x42, .int 0] [] h33 (qV P))) ∧ (¬ (mI h33 11 13) = 0 → P h33)) ∧ ((mI h33 46 l1.toNatClampNeg) = l3 → MCv g yX11_wrong uX11_wrong [.ref 11, .int 5, .int (mI h33 11 4)] h33 (fun h43 => ((mI h43 11 13) = 0 → (vp_in l1 346) ∧ (∀ x46 : Int32, x46 = (l2 + (mI h43 46 l1.toNatClampNeg)) → ME g uX11_newNames 93 [.ref 11, .int l1, .int l2, .int l3, .int l4, .int x46, .int 0] [] h43 (qV P))) ∧ (¬ (mI h43 11 13) = 0 → P h43)))))))))))) : ME g uX11_newNames 14 [.ref 11, .int l1, .int l2, .int l3, .int l4, .retAddr 0, .retAddr 0] [] h (qV P) := by
  refine m_iload dX11_newNames_14 rfl ?_
  refine m_if_eq 170 dX11_newNames_16 (by decide) (fun c1 => ?_) (fun c1 => ?_)
  · replace q := q.1 c1
    exact m_vret dX11_newNames_170 rfl q
  · replace q := q.2 c1
    refine m_aload_n dX11_newNames_19 rfl ?_
    refine cl_X11_152 rfl (by decide) dX11_newNames_20 (Nat.le_of_ble_eq_true rfl) (MCv_go q (fun h2 q => ?_))
    refine m_aload_n dX11_newNames_23 rfl ?_
    refine gf_X11_107 rfl dX11_newNames_24 ?_
    refine m_if_ne 46 dX11_newNames_27 (by decide) (fun c3 => ?_) (fun c3 => ?_)
    · replace q := q.1 c3
      refine m_aload_n dX11_newNames_46 rfl ?_
      refine gf_X11_107 rfl dX11_newNames_47 ?_
      refine m_if_ne 72 dX11_newNames_50 (by decide) (fun c4 => ?_) (fun c4 => ?_)
      · replace q := q.1 c4
        refine m_aload_n dX11_newNames_72 rfl ?_
        refine gf_X11_107 rfl dX11_newNames_73 ?_
        refine m_if_eq 80 dX11_newNames_76 (by decide) (fun c5 => ?_) (fun c5 => ?_)
        · replace q := q.1 c5
          refine m_iload_n dX11_newNames_80 rfl ?_
          refine m_aload_n dX11_newNames_81 rfl ?_
          refine gf_X11_23 rfl dX11_newNames_82 ?_
          refine m_iload_n dX11_newNames_85 rfl ?_
          obtain ⟨b6, q⟩ := q
          refine m_iaload dX11_newNames_86 rfl (by decide) b6 ?_
          refine m_iadd dX11_newNames_87 ?_
          obtain ⟨x7, ex7⟩ : ∃ z, z = (l2 + (mI h2 46 l1.toNatClampNeg)) := ⟨_, rfl⟩
          rw [← ex7]
          replace q := q x7 ex7
          refine m_istore (lv' := [.ref 11, .int l1, .int l2, .int l3, .int l4, .int x7, .retAddr 0]) dX11_newNames_88 (Nat.le_of_ble_eq_true rfl) rfl rfl ?_
          refine m_iconst (v := 0) dX11_newNames_90 (by decide) ?_
          refine m_istore (lv' := [.ref 11, .int l1, .int l2, .int l3, .int l4, .int x7, .int 0]) dX11_newNames_91 (Nat.le_of_ble_eq_true rfl) rfl rfl ?_
          exact q
        · replace q := q.2 c5
          exact m_vret dX11_newNames_79 rfl q
      · replace q := q.2 c4
        refine m_aload_n dX11_newNames_53 rfl ?_
        refine gf_X11_23 rfl dX11_newNames_54 ?_
        refine m_iload_n dX11_newNames_57 rfl ?_
        obtain ⟨b8, q⟩ := q
        refine m_iaload dX11_newNames_58 rfl (by decide) b8 ?_
        refine m_iload_n dX11_newNames_59 rfl ?_
        refine m_icmp_ne 72 dX11_newNames_60 (by decide) (fun c9 => ?_) (fun c9 => ?_)
        · replace q := q.1 c9
          refine m_aload_n dX11_newNames_72 rfl ?_
          refine gf_X11_107 rfl dX11_newNames_73 ?_
          refine m_if_eq 80 dX11_newNames_76 (by decide) (fun c10 => ?_) (fun c10 => ?_)
          · replace q := q.1 c10
            refine m_iload_n dX11_newNames_80 rfl ?_
            refine m_aload_n dX11_newNames_81 rfl ?_
            refine gf_X11_23 rfl dX11_newNames_82 ?_
            refine m_iload_n dX11_newNames_85 rfl ?_
            obtain ⟨b11, q⟩ := q
            refine m_iaload dX11_newNames_86 rfl (by decide) b11 ?_
            refine m_iadd dX11_newNames_87 ?_
            obtain ⟨x12, ex12⟩ : ∃ z, z = (l2 + (mI h2 46 l1.toNatClampNeg)) := ⟨_, rfl⟩
            rw [← ex12]
            replace q := q x12 ex12
            refine m_istore (lv' := [.ref 11, .int l1, .int l2, .int l3, .int l4, .int x12, .retAddr 0]) dX11_newNames_88 (Nat.le_of_ble_eq_true rfl) rfl rfl ?_
            refine m_iconst (v := 0) dX11_newNames_90 (by decide) ?_
            refine m_istore (lv' := [.ref 11, .int l1, .int l2, .int l3, .int l4, .int x12, .int 0]) dX11_newNames_91 (Nat.le_of_ble_eq_true rfl) rfl rfl ?_
            exact q
          · replace q := q.2 c10
            exact m_vret dX11_newNames_79 rfl q
        · replace q := q.2 c9
          refine m_aload_n dX11_newNames_63 rfl ?_
          refine m_iconst (v := 5) dX11_newNames_64 (by decide) ?_
          refine m_aload_n dX11_newNames_65 rfl ?_
          refine gf_X11_88 rfl dX11_newNames_66 ?_
          refine cl_X11_134 rfl (by decide) dX11_newNames_69 (Nat.le_of_ble_eq_true rfl) (MCv_go q (fun h13 q => ?_))
          refine m_aload_n dX11_newNames_72 rfl ?_
          refine gf_X11_107 rfl dX11_newNames_73 ?_
          refine m_if_eq 80 dX11_newNames_76 (by decide) (fun c14 => ?_) (fun c14 => ?_)
          · replace q := q.1 c14
            refine m_iload_n dX11_newNames_80 rfl ?_
            refine m_aload_n dX11_newNames_81 rfl ?_
            refine gf_X11_23 rfl dX11_newNames_82 ?_
            refine m_iload_n dX11_newNames_85 rfl ?_
            obtain ⟨b15, q⟩ := q
            refine m_iaload dX11_newNames_86 rfl (by decide) b15 ?_
            refine m_iadd dX11_newNames_87 ?_
            obtain ⟨x16, ex16⟩ : ∃ z, z = (l2 + (mI h13 46 l1.toNatClampNeg)) := ⟨_, rfl⟩
            rw [← ex16]
            replace q := q x16 ex16
            refine m_istore (lv' := [.ref 11, .int l1, .int l2, .int l3, .int l4, .int x16, .retAddr 0]) dX11_newNames_88 (Nat.le_of_ble_eq_true rfl) rfl rfl ?_
            refine m_iconst (v := 0) dX11_newNames_90 (by decide) ?_
            refine m_istore (lv' := [.ref 11, .int l1, .int l2, .int l3, .int l4, .int x16, .int 0]) dX11_newNames_91 (Nat.le_of_ble_eq_true rfl) rfl rfl ?_
            exact q
          · replace q := q.2 c14
            exact m_vret dX11_newNames_79 rfl q
    · replace q := q.2 c3
      refine m_aload_n dX11_newNames_30 rfl ?_
      refine cl_X11_155 rfl (by decide) dX11_newNames_31 (Nat.le_of_ble_eq_true rfl) (MCi_go q (fun r18 h17 q => ?_))
      refine m_if_lt 46 dX11_newNames_34 (by decide) (fun c19 => ?_) (fun c19 => ?_)
      · replace q := q.1 c19
        refine m_aload_n dX11_newNames_46 rfl ?_
        refine gf_X11_107 rfl dX11_newNames_47 ?_
        refine m_if_ne 72 dX11_newNames_50 (by decide) (fun c20 => ?_) (fun c20 => ?_)
        · replace q := q.1 c20
          refine m_aload_n dX11_newNames_72 rfl ?_
          refine gf_X11_107 rfl dX11_newNames_73 ?_
          refine m_if_eq 80 dX11_newNames_76 (by decide) (fun c21 => ?_) (fun c21 => ?_)
          · replace q := q.1 c21
            refine m_iload_n dX11_newNames_80 rfl ?_
            refine m_aload_n dX11_newNames_81 rfl ?_
            refine gf_X11_23 rfl dX11_newNames_82 ?_
            refine m_iload_n dX11_newNames_85 rfl ?_
            obtain ⟨b22, q⟩ := q
            refine m_iaload dX11_newNames_86 rfl (by decide) b22 ?_
            refine m_iadd dX11_newNames_87 ?_
            obtain ⟨x23, ex23⟩ : ∃ z, z = (l2 + (mI h17 46 l1.toNatClampNeg)) := ⟨_, rfl⟩
            rw [← ex23]
            replace q := q x23 ex23
            refine m_istore (lv' := [.ref 11, .int l1, .int l2, .int l3, .int l4, .int x23, .retAddr 0]) dX11_newNames_88 (Nat.le_of_ble_eq_true rfl) rfl rfl ?_
            refine m_iconst (v := 0) dX11_newNames_90 (by decide) ?_
            refine m_istore (lv' := [.ref 11, .int l1, .int l2, .int l3, .int l4, .int x23, .int 0]) dX11_newNames_91 (Nat.le_of_ble_eq_true rfl) rfl rfl ?_
            exact q
          · replace q := q.2 c21
            exact m_vret dX11_newNames_79 rfl q
        · replace q := q.2 c20
          refine m_aload_n dX11_newNames_53 rfl ?_
          refine gf_X11_23 rfl dX11_newNames_54 ?_
          refine m_iload_n dX11_newNames_57 rfl ?_
          obtain ⟨b24, q⟩ := q
          refine m_iaload dX11_newNames_58 rfl (by decide) b24 ?_
          refine m_iload_n dX11_newNames_59 rfl ?_
          refine m_icmp_ne 72 dX11_newNames_60 (by decide) (fun c25 => ?_) (fun c25 => ?_)
          · replace q := q.1 c25
            refine m_aload_n dX11_newNames_72 rfl ?_
            refine gf_X11_107 rfl dX11_newNames_73 ?_
            refine m_if_eq 80 dX11_newNames_76 (by decide) (fun c26 => ?_) (fun c26 => ?_)
            · replace q := q.1 c26
              refine m_iload_n dX11_newNames_80 rfl ?_
              refine m_aload_n dX11_newNames_81 rfl ?_
              refine gf_X11_23 rfl dX11_newNames_82 ?_
              refine m_iload_n dX11_newNames_85 rfl ?_
              obtain ⟨b27, q⟩ := q
              refine m_iaload dX11_newNames_86 rfl (by decide) b27 ?_
              refine m_iadd dX11_newNames_87 ?_
              obtain ⟨x28, ex28⟩ : ∃ z, z = (l2 + (mI h17 46 l1.toNatClampNeg)) := ⟨_, rfl⟩
              rw [← ex28]
              replace q := q x28 ex28
              refine m_istore (lv' := [.ref 11, .int l1, .int l2, .int l3, .int l4, .int x28, .retAddr 0]) dX11_newNames_88 (Nat.le_of_ble_eq_true rfl) rfl rfl ?_
              refine m_iconst (v := 0) dX11_newNames_90 (by decide) ?_
              refine m_istore (lv' := [.ref 11, .int l1, .int l2, .int l3, .int l4, .int x28, .int 0]) dX11_newNames_91 (Nat.le_of_ble_eq_true rfl) rfl rfl ?_
              exact q
            · replace q := q.2 c26
              exact m_vret dX11_newNames_79 rfl q
          · replace q := q.2 c25
            refine m_aload_n dX11_newNames_63 rfl ?_
            refine m_iconst (v := 5) dX11_newNames_64 (by decide) ?_
            refine m_aload_n dX11_newNames_65 rfl ?_
            refine gf_X11_88 rfl dX11_newNames_66 ?_
            refine cl_X11_134 rfl (by decide) dX11_newNames_69 (Nat.le_of_ble_eq_true rfl) (MCv_go q (fun h29 q => ?_))
            refine m_aload_n dX11_newNames_72 rfl ?_
            refine gf_X11_107 rfl dX11_newNames_73 ?_
            refine m_if_eq 80 dX11_newNames_76 (by decide) (fun c30 => ?_) (fun c30 => ?_)
            · replace q := q.1 c30
              refine m_iload_n dX11_newNames_80 rfl ?_
              refine m_aload_n dX11_newNames_81 rfl ?_
              refine gf_X11_23 rfl dX11_newNames_82 ?_
              refine m_iload_n dX11_newNames_85 rfl ?_
              obtain ⟨b31, q⟩ := q
              refine m_iaload dX11_newNames_86 rfl (by decide) b31 ?_
              refine m_iadd dX11_newNames_87 ?_
              obtain ⟨x32, ex32⟩ : ∃ z, z = (l2 + (mI h29 46 l1.toNatClampNeg)) := ⟨_, rfl⟩
              rw [← ex32]
              replace q := q x32 ex32
              refine m_istore (lv' := [.ref 11, .int l1, .int l2, .int l3, .int l4, .int x32, .retAddr 0]) dX11_newNames_88 (Nat.le_of_ble_eq_true rfl) rfl rfl ?_
              refine m_iconst (v := 0) dX11_newNames_90 (by decide) ?_
              refine m_istore (lv' := [.ref 11, .int l1, .int l2, .int l3, .int l4, .int x32, .int 0]) dX11_newNames_91 (Nat.le_of_ble_eq_true rfl) rfl rfl ?_
              exact q
            · replace q := q.2 c30
              exact m_vret dX11_newNames_79 rfl q
      · replace q := q.2 c19
        refine m_aload_n dX11_newNames_37 rfl ?_
        refine m_iconst (v := 3) dX11_newNames_38 (by decide) ?_
        refine m_aload_n dX11_newNames_39 rfl ?_
        refine gf_X11_88 rfl dX11_newNames_40 ?_
        refine cl_X11_134 rfl (by decide) dX11_newNames_43 (Nat.le_of_ble_eq_true rfl) (MCv_go q (fun h33 q => ?_))
        refine m_aload_n dX11_newNames_46 rfl ?_
        refine gf_X11_107 rfl dX11_newNames_47 ?_
        refine m_if_ne 72 dX11_newNames_50 (by decide) (fun c34 => ?_) (fun c34 => ?_)
        · replace q := q.1 c34
          refine m_aload_n dX11_newNames_72 rfl ?_
          refine gf_X11_107 rfl dX11_newNames_73 ?_
          refine m_if_eq 80 dX11_newNames_76 (by decide) (fun c35 => ?_) (fun c35 => ?_)
          · replace q := q.1 c35
            refine m_iload_n dX11_newNames_80 rfl ?_
            refine m_aload_n dX11_newNames_81 rfl ?_
            refine gf_X11_23 rfl dX11_newNames_82 ?_
            refine m_iload_n dX11_newNames_85 rfl ?_
            obtain ⟨b36, q⟩ := q
            refine m_iaload dX11_newNames_86 rfl (by decide) b36 ?_
            refine m_iadd dX11_newNames_87 ?_
            obtain ⟨x37, ex37⟩ : ∃ z, z = (l2 + (mI h33 46 l1.toNatClampNeg)) := ⟨_, rfl⟩
            rw [← ex37]
            replace q := q x37 ex37
            refine m_istore (lv' := [.ref 11, .int l1, .int l2, .int l3, .int l4, .int x37, .retAddr 0]) dX11_newNames_88 (Nat.le_of_ble_eq_true rfl) rfl rfl ?_
            refine m_iconst (v := 0) dX11_newNames_90 (by decide) ?_
            refine m_istore (lv' := [.ref 11, .int l1, .int l2, .int l3, .int l4, .int x37, .int 0]) dX11_newNames_91 (Nat.le_of_ble_eq_true rfl) rfl rfl ?_
            exact q
          · replace q := q.2 c35
            exact m_vret dX11_newNames_79 rfl q
        · replace q := q.2 c34
          refine m_aload_n dX11_newNames_53 rfl ?_
          refine gf_X11_23 rfl dX11_newNames_54 ?_
          refine m_iload_n dX11_newNames_57 rfl ?_
          obtain ⟨b38, q⟩ := q
          refine m_iaload dX11_newNames_58 rfl (by decide) b38 ?_
          refine m_iload_n dX11_newNames_59 rfl ?_
          refine m_icmp_ne 72 dX11_newNames_60 (by decide) (fun c39 => ?_) (fun c39 => ?_)
          · replace q := q.1 c39
            refine m_aload_n dX11_newNames_72 rfl ?_
            refine gf_X11_107 rfl dX11_newNames_73 ?_
            refine m_if_eq 80 dX11_newNames_76 (by decide) (fun c40 => ?_) (fun c40 => ?_)
            · replace q := q.1 c40
              refine m_iload_n dX11_newNames_80 rfl ?_
              refine m_aload_n dX11_newNames_81 rfl ?_
              refine gf_X11_23 rfl dX11_newNames_82 ?_
              refine m_iload_n dX11_newNames_85 rfl ?_
              obtain ⟨b41, q⟩ := q
              refine m_iaload dX11_newNames_86 rfl (by decide) b41 ?_
              refine m_iadd dX11_newNames_87 ?_
              obtain ⟨x42, ex42⟩ : ∃ z, z = (l2 + (mI h33 46 l1.toNatClampNeg)) := ⟨_, rfl⟩
              rw [← ex42]
              replace q := q x42 ex42
              refine m_istore (lv' := [.ref 11, .int l1, .int l2, .int l3, .int l4, .int x42, .retAddr 0]) dX11_newNames_88 (Nat.le_of_ble_eq_true rfl) rfl rfl ?_
              refine m_iconst (v := 0) dX11_newNames_90 (by decide) ?_
              refine m_istore (lv' := [.ref 11, .int l1, .int l2, .int l3, .int l4, .int x42, .int 0]) dX11_newNames_91 (Nat.le_of_ble_eq_true rfl) rfl rfl ?_
              exact q
            · replace q := q.2 c40
              exact m_vret dX11_newNames_79 rfl q
          · replace q := q.2 c39
            refine m_aload_n dX11_newNames_63 rfl ?_
            refine m_iconst (v := 5) dX11_newNames_64 (by decide) ?_
            refine m_aload_n dX11_newNames_65 rfl ?_
            refine gf_X11_88 rfl dX11_newNames_66 ?_
            refine cl_X11_134 rfl (by decide) dX11_newNames_69 (Nat.le_of_ble_eq_true rfl) (MCv_go q (fun h43 q => ?_))
            refine m_aload_n dX11_newNames_72 rfl ?_
            refine gf_X11_107 rfl dX11_newNames_73 ?_
            refine m_if_eq 80 dX11_newNames_76 (by decide) (fun c44 => ?_) (fun c44 => ?_)
            · replace q := q.1 c44
              refine m_iload_n dX11_newNames_80 rfl ?_
              refine m_aload_n dX11_newNames_81 rfl ?_
              refine gf_X11_23 rfl dX11_newNames_82 ?_
              refine m_iload_n dX11_newNames_85 rfl ?_
              obtain ⟨b45, q⟩ := q
              refine m_iaload dX11_newNames_86 rfl (by decide) b45 ?_
              refine m_iadd dX11_newNames_87 ?_
              obtain ⟨x46, ex46⟩ : ∃ z, z = (l2 + (mI h43 46 l1.toNatClampNeg)) := ⟨_, rfl⟩
              rw [← ex46]
              replace q := q x46 ex46
              refine m_istore (lv' := [.ref 11, .int l1, .int l2, .int l3, .int l4, .int x46, .retAddr 0]) dX11_newNames_88 (Nat.le_of_ble_eq_true rfl) rfl rfl ?_
              refine m_iconst (v := 0) dX11_newNames_90 (by decide) ?_
              refine m_istore (lv' := [.ref 11, .int l1, .int l2, .int l3, .int l4, .int x46, .int 0]) dX11_newNames_91 (Nat.le_of_ble_eq_true rfl) rfl rfl ?_
              exact q
            · replace q := q.2 c44
              exact m_vret dX11_newNames_79 rfl q
set_option maxRecDepth 100000 in
theorem r_X11_newNames_93 {g : gT} {h : mh_T} {P : mh_T → Prop} (l1 : Int32) (l2 : Int32) (l3 : Int32) (l4 : Int32) (l5 : Int32) (l6 : Int32) (q : ((mI h 11 8) ≤ l6 → (vp_in (211 + l5) 346) ∧ ((vp_in l1 346) ∧ ((vp_in l1 346) ∧ (MCv g yX11_next uX11_next [.ref 11] (wI (wI h 46 (211 + l5).toNatClampNeg (mI h 11 8)) 46 l1.toNatClampNeg ((mI (wI h 46 (211 + l5).toNatClampNeg (mI h 11 8)) 46 l1.toNatClampNeg) + 1)) (fun h5 => MCi g yX11_comma uX11_comma [.ref 11] h5 (fun r7 h6 => ME g uX11_newNames 14 [.ref 11, .int l1, .int l2, .int l3, .int r7, .retAddr 0, .retAddr 0] [] h6 (qV P))))))) ∧ (¬ (mI h 11 8) ≤ l6 → (vp_in l6 8) ∧ ((vp_in ((226 + (8 * l5)) + l6) 346) ∧ (ME g uX11_newNames 93 [.ref 11, .int l1, .int l2, .int l3, .int l4, .int l5, .int (l6 + 1)] [] (wI h 46 ((226 + (8 * l5)) + l6).toNatClampNeg (mI h 44 l6.toNatClampNeg)) (qV P))))) : ME g uX11_newNames 93 [.ref 11, .int l1, .int l2, .int l3, .int l4, .int l5, .int l6] [] h (qV P) := by
  refine m_iload dX11_newNames_93 rfl ?_
  refine m_aload_n dX11_newNames_95 rfl ?_
  refine gf_X11_91 rfl dX11_newNames_96 ?_
  refine m_icmp_ge 132 dX11_newNames_99 (by decide) (fun c1 => ?_) (fun c1 => ?_)
  · replace q := q.1 c1
    refine m_aload_n dX11_newNames_132 rfl ?_
    refine gf_X11_23 rfl dX11_newNames_133 ?_
    refine m_sipush (v := 211) dX11_newNames_136 (by decide) ?_
    refine m_iload dX11_newNames_139 rfl ?_
    refine m_iadd dX11_newNames_141 ?_
    refine m_aload_n dX11_newNames_142 rfl ?_
    refine gf_X11_91 rfl dX11_newNames_143 ?_
    obtain ⟨b2, q⟩ := q
    refine m_iastore dX11_newNames_146 rfl (by decide) b2 ?_
    refine m_aload_n dX11_newNames_147 rfl ?_
    refine gf_X11_23 rfl dX11_newNames_148 ?_
    refine m_iload_n dX11_newNames_151 rfl ?_
    refine m_dup2 dX11_newNames_152 rfl rfl ?_
    obtain ⟨b3, q⟩ := q
    refine m_iaload dX11_newNames_153 rfl (by decide) b3 ?_
    refine m_iconst (v := 1) dX11_newNames_154 (by decide) ?_
    refine m_iadd dX11_newNames_155 ?_
    obtain ⟨b4, q⟩ := q
    refine m_iastore dX11_newNames_156 rfl (by decide) b4 ?_
    refine m_aload_n dX11_newNames_157 rfl ?_
    refine cl_X11_128 rfl (by decide) dX11_newNames_158 (Nat.le_of_ble_eq_true rfl) (MCv_go q (fun h5 q => ?_))
    refine m_aload_n dX11_newNames_161 rfl ?_
    refine cl_X11_158 rfl (by decide) dX11_newNames_162 (Nat.le_of_ble_eq_true rfl) (MCi_go q (fun r7 h6 q => ?_))
    refine m_istore (lv' := [.ref 11, .int l1, .int l2, .int l3, .int r7, .int l5, .int l6]) dX11_newNames_165 (Nat.le_of_ble_eq_true rfl) rfl rfl ?_
    refine m_goto 14 dX11_newNames_167 (by decide) ?_
    refine m_dropK (lv' := [.ref 11, .int l1, .int l2, .int l3, .int r7, .retAddr 0, .retAddr 0]) [5, 6] rfl ?_
    exact q
  · replace q := q.2 c1
    refine m_aload_n dX11_newNames_102 rfl ?_
    refine gf_X11_23 rfl dX11_newNames_103 ?_
    refine m_sipush (v := 226) dX11_newNames_106 (by decide) ?_
    refine m_bipush (v := 8) dX11_newNames_109 (by decide) ?_
    refine m_iload dX11_newNames_111 rfl ?_
    refine m_imul dX11_newNames_113 ?_
    refine m_iadd dX11_newNames_114 ?_
    refine m_iload dX11_newNames_115 rfl ?_
    refine m_iadd dX11_newNames_117 ?_
    refine m_aload_n dX11_newNames_118 rfl ?_
    refine gf_X11_17 rfl dX11_newNames_119 ?_
    refine m_iload dX11_newNames_122 rfl ?_
    obtain ⟨b8, q⟩ := q
    refine m_iaload dX11_newNames_124 rfl (by decide) b8 ?_
    obtain ⟨b9, q⟩ := q
    refine m_iastore dX11_newNames_125 rfl (by decide) b9 ?_
    refine m_iinc (v := (l6 + 1)) (lv' := [.ref 11, .int l1, .int l2, .int l3, .int l4, .int l5, .int (l6 + 1)]) dX11_newNames_126 (Nat.le_of_ble_eq_true rfl) rfl (congrArg (fun z => l6 + z) (by decide : Int32.ofInt 1 = 1)) rfl rfl ?_
    refine m_goto 93 dX11_newNames_129 (by decide) ?_
    exact q
set_option maxRecDepth 100000 in
theorem e_X11_named {g : gT} {h : mh_T} {P : Int32 → mh_T → Prop} (l1 : Int32) (l2 : Int32) (q : ((mI h 11 13) = 0 → MCv g yX11_mustName uX11_mustName [.ref 11] h (fun h2 => ((mI h2 11 13) = 0 → MCi g yX11_find uX11_find [.ref 11] h2 (fun r5 h4 => (r5 < 0 → MCv g yX11_wrong uX11_wrong [.ref 11, .int 2, .int (mI h4 11 4)] h4 (fun h7 => ((mI h7 11 13) = 0 → (l1 = 0 → ∀ x10 : Int32, x10 = (r5 - 6) → MCi g yX11_has uX11_has [.int l2, .int x10] h7 (fun r12 h11 => (r12 = 0 → P x10 h11) ∧ (¬ r12 = 0 → MCv g yX11_wrong uX11_wrong [.ref 11, .int 3, .int (mI h11 11 4)] h11 (fun h14 => P x10 h14)))) ∧ (¬ l1 = 0 → MCi g yX11_has uX11_has [.int l2, .int r5] h7 (fun r16 h15 => (r16 = 0 → P r5 h15) ∧ (¬ r16 = 0 → MCv g yX11_wrong uX11_wrong [.ref 11, .int 3, .int (mI h15 11 4)] h15 (fun h18 => P r5 h18))))) ∧ (¬ (mI h7 11 13) = 0 → P 0 h7))) ∧ (¬ r5 < 0 → (6 ≤ r5 → (l1 = 0 → ((mI h4 11 13) = 0 → (l1 = 0 → ∀ x23 : Int32, x23 = (r5 - 6) → MCi g yX11_has uX11_has [.int l2, .int x23] h4 (fun r25 h24 => (r25 = 0 → P x23 h24) ∧ (¬ r25 = 0 → MCv g yX11_wrong uX11_wrong [.ref 11, .int 3, .int (mI h24 11 4)] h24 (fun h27 => P x23 h27)))) ∧ (¬ l1 = 0 → MCi g yX11_has uX11_has [.int l2, .int r5] h4 (fun r29 h28 => (r29 = 0 → P r5 h28) ∧ (¬ r29 = 0 → MCv g yX11_wrong uX11_wrong [.ref 11, .int 3, .int (mI h28 11 4)] h28 (fun h31 => P r5 h31))))) ∧ (¬ (mI h4 11 13) = 0 → P 0 h4)) ∧ (¬ l1 = 0 → MCv g yX11_wrong uX11_wrong [.ref 11, .int 2, .int (mI h4 11 4)] h4 (fun h32 => ((mI h32 11 13) = 0 → (l1 = 0 → ∀ x35 : Int32, x35 = (r5 - 6) → MCi g yX11_has uX11_has [.int l2, .int x35] h32 (fun r37 h36 => (r37 = 0 → P x35 h36) ∧ (¬ r37 = 0 → MCv g yX11_wrong uX11_wrong [.ref 11, .int 3, .int (mI h36 11 4)] h36 (fun h39 => P x35 h39)))) ∧ (¬ l1 = 0 → MCi g yX11_has uX11_has [.int l2, .int r5] h32 (fun r41 h40 => (r41 = 0 → P r5 h40) ∧ (¬ r41 = 0 → MCv g yX11_wrong uX11_wrong [.ref 11, .int 3, .int (mI h40 11 4)] h40 (fun h43 => P r5 h43))))) ∧ (¬ (mI h32 11 13) = 0 → P 0 h32)))) ∧ (¬ 6 ≤ r5 → (l1 = 1 → ((mI h4 11 13) = 0 → (l1 = 0 → ∀ x47 : Int32, x47 = (r5 - 6) → MCi g yX11_has uX11_has [.int l2, .int x47] h4 (fun r49 h48 => (r49 = 0 → P x47 h48) ∧ (¬ r49 = 0 → MCv g yX11_wrong uX11_wrong [.ref 11, .int 3, .int (mI h48 11 4)] h48 (fun h51 => P x47 h51)))) ∧ (¬ l1 = 0 → MCi g yX11_has uX11_has [.int l2, .int r5] h4 (fun r53 h52 => (r53 = 0 → P r5 h52) ∧ (¬ r53 = 0 → MCv g yX11_wrong uX11_wrong [.ref 11, .int 3, .int (mI h52 11 4)] h52 (fun h55 => P r5 h55))))) ∧ (¬ (mI h4 11 13) = 0 → P 0 h4)) ∧ (¬ l1 = 1 → MCv g yX11_wrong uX11_wrong [.ref 11, .int 2, .int (mI h4 11 4)] h4 (fun h56 => ((mI h56 11 13) = 0 → (l1 = 0 → ∀ x59 : Int32, x59 = (r5 - 6) → MCi g yX11_has uX11_has [.int l2, .int x59] h56 (fun r61 h60 => (r61 = 0 → P x59 h60) ∧ (¬ r61 = 0 → MCv g yX11_wrong uX11_wrong [.ref 11, .int 3, .int (mI h60 11 4)] h60 (fun h63 => P x59 h63)))) ∧ (¬ l1 = 0 → MCi g yX11_has uX11_has [.int l2, .int r5] h56 (fun r65 h64 => (r65 = 0 → P r5 h64) ∧ (¬ r65 = 0 → MCv g yX11_wrong uX11_wrong [.ref 11, .int 3, .int (mI h64 11 4)] h64 (fun h67 => P r5 h67))))) ∧ (¬ (mI h56 11 13) = 0 → P 0 h56))))))) ∧ (¬ (mI h2 11 13) = 0 → P 0 h2))) ∧ (¬ (mI h 11 13) = 0 → P 0 h)) : MCi g yX11_named uX11_named [.ref 11, .int l1, .int l2] h P := by
  refine m_enter (by decide) rfl (Nat.le_of_ble_eq_true rfl) (lv := [.ref 11, .int l1, .int l2, .retAddr 0, .retAddr 0]) rfl ?_
  refine m_aload_n dX11_named_0 rfl ?_
  refine gf_X11_107 rfl dX11_named_1 ?_
  refine m_if_eq 9 dX11_named_4 (by decide) (fun c1 => ?_) (fun c1 => ?_)
  · replace q := q.1 c1
    refine m_aload_n dX11_named_9 rfl ?_
    refine cl_X11_152 rfl (by decide) dX11_named_10 (Nat.le_of_ble_eq_true rfl) (MCv_go q (fun h2 q => ?_))
    refine m_aload_n dX11_named_13 rfl ?_
    refine gf_X11_107 rfl dX11_named_14 ?_
    refine m_if_eq 22 dX11_named_17 (by decide) (fun c3 => ?_) (fun c3 => ?_)
    · replace q := q.1 c3
      refine m_aload_n dX11_named_22 rfl ?_
      refine cl_X11_155 rfl (by decide) dX11_named_23 (Nat.le_of_ble_eq_true rfl) (MCi_go q (fun r5 h4 q => ?_))
      refine m_istore_n (lv' := [.ref 11, .int l1, .int l2, .int r5, .retAddr 0]) dX11_named_26 (Nat.le_of_ble_eq_true rfl) rfl rfl ?_
      refine m_iload_n dX11_named_27 rfl ?_
      refine m_if_lt 46 dX11_named_28 (by decide) (fun c6 => ?_) (fun c6 => ?_)
      · replace q := q.1 c6
        refine m_aload_n dX11_named_46 rfl ?_
        refine m_iconst (v := 2) dX11_named_47 (by decide) ?_
        refine m_aload_n dX11_named_48 rfl ?_
        refine gf_X11_88 rfl dX11_named_49 ?_
        refine cl_X11_134 rfl (by decide) dX11_named_52 (Nat.le_of_ble_eq_true rfl) (MCv_go q (fun h7 q => ?_))
        refine m_aload_n dX11_named_55 rfl ?_
        refine gf_X11_107 rfl dX11_named_56 ?_
        refine m_if_eq 64 dX11_named_59 (by decide) (fun c8 => ?_) (fun c8 => ?_)
        · replace q := q.1 c8
          refine m_iload_n dX11_named_64 rfl ?_
          refine m_if_eq 72 dX11_named_65 (by decide) (fun c9 => ?_) (fun c9 => ?_)
          · replace q := q.1 c9
            refine m_iload_n dX11_named_72 rfl ?_
            refine m_bipush (v := 6) dX11_named_73 (by decide) ?_
            refine m_isub dX11_named_75 ?_
            obtain ⟨x10, ex10⟩ : ∃ z, z = (r5 - 6) := ⟨_, rfl⟩
            rw [← ex10]
            replace q := q x10 ex10
            refine m_istore (lv' := [.ref 11, .int l1, .int l2, .int r5, .int x10]) dX11_named_76 (Nat.le_of_ble_eq_true rfl) rfl rfl ?_
            refine m_iload_n dX11_named_78 rfl ?_
            refine m_iload dX11_named_79 rfl ?_
            refine cl_X11_162 rfl (by decide) dX11_named_81 (Nat.le_of_ble_eq_true rfl) (MCi_go q (fun r12 h11 q => ?_))
            refine m_if_eq 96 dX11_named_84 (by decide) (fun c13 => ?_) (fun c13 => ?_)
            · replace q := q.1 c13
              refine m_iload dX11_named_96 rfl ?_
              exact m_iret dX11_named_98 rfl q
            · replace q := q.2 c13
              refine m_aload_n dX11_named_87 rfl ?_
              refine m_iconst (v := 3) dX11_named_88 (by decide) ?_
              refine m_aload_n dX11_named_89 rfl ?_
              refine gf_X11_88 rfl dX11_named_90 ?_
              refine cl_X11_134 rfl (by decide) dX11_named_93 (Nat.le_of_ble_eq_true rfl) (MCv_go q (fun h14 q => ?_))
              refine m_iload dX11_named_96 rfl ?_
              exact m_iret dX11_named_98 rfl q
          · replace q := q.2 c9
            refine m_iload_n dX11_named_68 rfl ?_
            refine m_goto 76 dX11_named_69 (by decide) ?_
            refine m_istore (lv' := [.ref 11, .int l1, .int l2, .int r5, .int r5]) dX11_named_76 (Nat.le_of_ble_eq_true rfl) rfl rfl ?_
            refine m_iload_n dX11_named_78 rfl ?_
            refine m_iload dX11_named_79 rfl ?_
            refine cl_X11_162 rfl (by decide) dX11_named_81 (Nat.le_of_ble_eq_true rfl) (MCi_go q (fun r16 h15 q => ?_))
            refine m_if_eq 96 dX11_named_84 (by decide) (fun c17 => ?_) (fun c17 => ?_)
            · replace q := q.1 c17
              refine m_iload dX11_named_96 rfl ?_
              exact m_iret dX11_named_98 rfl q
            · replace q := q.2 c17
              refine m_aload_n dX11_named_87 rfl ?_
              refine m_iconst (v := 3) dX11_named_88 (by decide) ?_
              refine m_aload_n dX11_named_89 rfl ?_
              refine gf_X11_88 rfl dX11_named_90 ?_
              refine cl_X11_134 rfl (by decide) dX11_named_93 (Nat.le_of_ble_eq_true rfl) (MCv_go q (fun h18 q => ?_))
              refine m_iload dX11_named_96 rfl ?_
              exact m_iret dX11_named_98 rfl q
        · replace q := q.2 c8
          refine m_iconst (v := 0) dX11_named_62 (by decide) ?_
          exact m_iret dX11_named_63 rfl q
      · replace q := q.2 c6
        refine m_iload_n dX11_named_31 rfl ?_
        refine m_iload_n dX11_named_32 rfl ?_
        refine m_bipush (v := 6) dX11_named_33 (by decide) ?_
        refine m_icmp_ge 42 dX11_named_35 (by decide) (fun c19 => ?_) (fun c19 => ?_)
        · replace q := q.1 c19
          refine m_iconst (v := 0) dX11_named_42 (by decide) ?_
          refine m_icmp_eq 55 dX11_named_43 (by decide) (fun c20 => ?_) (fun c20 => ?_)
          · replace q := q.1 c20
            refine m_aload_n dX11_named_55 rfl ?_
            refine gf_X11_107 rfl dX11_named_56 ?_
            refine m_if_eq 64 dX11_named_59 (by decide) (fun c21 => ?_) (fun c21 => ?_)
            · replace q := q.1 c21
              refine m_iload_n dX11_named_64 rfl ?_
              refine m_if_eq 72 dX11_named_65 (by decide) (fun c22 => ?_) (fun c22 => ?_)
              · replace q := q.1 c22
                refine m_iload_n dX11_named_72 rfl ?_
                refine m_bipush (v := 6) dX11_named_73 (by decide) ?_
                refine m_isub dX11_named_75 ?_
                obtain ⟨x23, ex23⟩ : ∃ z, z = (r5 - 6) := ⟨_, rfl⟩
                rw [← ex23]
                replace q := q x23 ex23
                refine m_istore (lv' := [.ref 11, .int l1, .int l2, .int r5, .int x23]) dX11_named_76 (Nat.le_of_ble_eq_true rfl) rfl rfl ?_
                refine m_iload_n dX11_named_78 rfl ?_
                refine m_iload dX11_named_79 rfl ?_
                refine cl_X11_162 rfl (by decide) dX11_named_81 (Nat.le_of_ble_eq_true rfl) (MCi_go q (fun r25 h24 q => ?_))
                refine m_if_eq 96 dX11_named_84 (by decide) (fun c26 => ?_) (fun c26 => ?_)
                · replace q := q.1 c26
                  refine m_iload dX11_named_96 rfl ?_
                  exact m_iret dX11_named_98 rfl q
                · replace q := q.2 c26
                  refine m_aload_n dX11_named_87 rfl ?_
                  refine m_iconst (v := 3) dX11_named_88 (by decide) ?_
                  refine m_aload_n dX11_named_89 rfl ?_
                  refine gf_X11_88 rfl dX11_named_90 ?_
                  refine cl_X11_134 rfl (by decide) dX11_named_93 (Nat.le_of_ble_eq_true rfl) (MCv_go q (fun h27 q => ?_))
                  refine m_iload dX11_named_96 rfl ?_
                  exact m_iret dX11_named_98 rfl q
              · replace q := q.2 c22
                refine m_iload_n dX11_named_68 rfl ?_
                refine m_goto 76 dX11_named_69 (by decide) ?_
                refine m_istore (lv' := [.ref 11, .int l1, .int l2, .int r5, .int r5]) dX11_named_76 (Nat.le_of_ble_eq_true rfl) rfl rfl ?_
                refine m_iload_n dX11_named_78 rfl ?_
                refine m_iload dX11_named_79 rfl ?_
                refine cl_X11_162 rfl (by decide) dX11_named_81 (Nat.le_of_ble_eq_true rfl) (MCi_go q (fun r29 h28 q => ?_))
                refine m_if_eq 96 dX11_named_84 (by decide) (fun c30 => ?_) (fun c30 => ?_)
                · replace q := q.1 c30
                  refine m_iload dX11_named_96 rfl ?_
                  exact m_iret dX11_named_98 rfl q
                · replace q := q.2 c30
                  refine m_aload_n dX11_named_87 rfl ?_
                  refine m_iconst (v := 3) dX11_named_88 (by decide) ?_
                  refine m_aload_n dX11_named_89 rfl ?_
                  refine gf_X11_88 rfl dX11_named_90 ?_
                  refine cl_X11_134 rfl (by decide) dX11_named_93 (Nat.le_of_ble_eq_true rfl) (MCv_go q (fun h31 q => ?_))
                  refine m_iload dX11_named_96 rfl ?_
                  exact m_iret dX11_named_98 rfl q
            · replace q := q.2 c21
              refine m_iconst (v := 0) dX11_named_62 (by decide) ?_
              exact m_iret dX11_named_63 rfl q
          · replace q := q.2 c20
            refine m_aload_n dX11_named_46 rfl ?_
            refine m_iconst (v := 2) dX11_named_47 (by decide) ?_
            refine m_aload_n dX11_named_48 rfl ?_
            refine gf_X11_88 rfl dX11_named_49 ?_
            refine cl_X11_134 rfl (by decide) dX11_named_52 (Nat.le_of_ble_eq_true rfl) (MCv_go q (fun h32 q => ?_))
            refine m_aload_n dX11_named_55 rfl ?_
            refine gf_X11_107 rfl dX11_named_56 ?_
            refine m_if_eq 64 dX11_named_59 (by decide) (fun c33 => ?_) (fun c33 => ?_)
            · replace q := q.1 c33
              refine m_iload_n dX11_named_64 rfl ?_
              refine m_if_eq 72 dX11_named_65 (by decide) (fun c34 => ?_) (fun c34 => ?_)
              · replace q := q.1 c34
                refine m_iload_n dX11_named_72 rfl ?_
                refine m_bipush (v := 6) dX11_named_73 (by decide) ?_
                refine m_isub dX11_named_75 ?_
                obtain ⟨x35, ex35⟩ : ∃ z, z = (r5 - 6) := ⟨_, rfl⟩
                rw [← ex35]
                replace q := q x35 ex35
                refine m_istore (lv' := [.ref 11, .int l1, .int l2, .int r5, .int x35]) dX11_named_76 (Nat.le_of_ble_eq_true rfl) rfl rfl ?_
                refine m_iload_n dX11_named_78 rfl ?_
                refine m_iload dX11_named_79 rfl ?_
                refine cl_X11_162 rfl (by decide) dX11_named_81 (Nat.le_of_ble_eq_true rfl) (MCi_go q (fun r37 h36 q => ?_))
                refine m_if_eq 96 dX11_named_84 (by decide) (fun c38 => ?_) (fun c38 => ?_)
                · replace q := q.1 c38
                  refine m_iload dX11_named_96 rfl ?_
                  exact m_iret dX11_named_98 rfl q
                · replace q := q.2 c38
                  refine m_aload_n dX11_named_87 rfl ?_
                  refine m_iconst (v := 3) dX11_named_88 (by decide) ?_
                  refine m_aload_n dX11_named_89 rfl ?_
                  refine gf_X11_88 rfl dX11_named_90 ?_
                  refine cl_X11_134 rfl (by decide) dX11_named_93 (Nat.le_of_ble_eq_true rfl) (MCv_go q (fun h39 q => ?_))
                  refine m_iload dX11_named_96 rfl ?_
                  exact m_iret dX11_named_98 rfl q
              · replace q := q.2 c34
                refine m_iload_n dX11_named_68 rfl ?_
                refine m_goto 76 dX11_named_69 (by decide) ?_
                refine m_istore (lv' := [.ref 11, .int l1, .int l2, .int r5, .int r5]) dX11_named_76 (Nat.le_of_ble_eq_true rfl) rfl rfl ?_
                refine m_iload_n dX11_named_78 rfl ?_
                refine m_iload dX11_named_79 rfl ?_
                refine cl_X11_162 rfl (by decide) dX11_named_81 (Nat.le_of_ble_eq_true rfl) (MCi_go q (fun r41 h40 q => ?_))
                refine m_if_eq 96 dX11_named_84 (by decide) (fun c42 => ?_) (fun c42 => ?_)
                · replace q := q.1 c42
                  refine m_iload dX11_named_96 rfl ?_
                  exact m_iret dX11_named_98 rfl q
                · replace q := q.2 c42
                  refine m_aload_n dX11_named_87 rfl ?_
                  refine m_iconst (v := 3) dX11_named_88 (by decide) ?_
                  refine m_aload_n dX11_named_89 rfl ?_
                  refine gf_X11_88 rfl dX11_named_90 ?_
                  refine cl_X11_134 rfl (by decide) dX11_named_93 (Nat.le_of_ble_eq_true rfl) (MCv_go q (fun h43 q => ?_))
                  refine m_iload dX11_named_96 rfl ?_
                  exact m_iret dX11_named_98 rfl q
            · replace q := q.2 c33
              refine m_iconst (v := 0) dX11_named_62 (by decide) ?_
              exact m_iret dX11_named_63 rfl q
        · replace q := q.2 c19
          refine m_iconst (v := 1) dX11_named_38 (by decide) ?_
          refine m_goto 43 dX11_named_39 (by decide) ?_
          refine m_icmp_eq 55 dX11_named_43 (by decide) (fun c44 => ?_) (fun c44 => ?_)
          · replace q := q.1 c44
            refine m_aload_n dX11_named_55 rfl ?_
            refine gf_X11_107 rfl dX11_named_56 ?_
            refine m_if_eq 64 dX11_named_59 (by decide) (fun c45 => ?_) (fun c45 => ?_)
            · replace q := q.1 c45
              refine m_iload_n dX11_named_64 rfl ?_
              refine m_if_eq 72 dX11_named_65 (by decide) (fun c46 => ?_) (fun c46 => ?_)
              · replace q := q.1 c46
                refine m_iload_n dX11_named_72 rfl ?_
                refine m_bipush (v := 6) dX11_named_73 (by decide) ?_
                refine m_isub dX11_named_75 ?_
                obtain ⟨x47, ex47⟩ : ∃ z, z = (r5 - 6) := ⟨_, rfl⟩
                rw [← ex47]
                replace q := q x47 ex47
                refine m_istore (lv' := [.ref 11, .int l1, .int l2, .int r5, .int x47]) dX11_named_76 (Nat.le_of_ble_eq_true rfl) rfl rfl ?_
                refine m_iload_n dX11_named_78 rfl ?_
                refine m_iload dX11_named_79 rfl ?_
                refine cl_X11_162 rfl (by decide) dX11_named_81 (Nat.le_of_ble_eq_true rfl) (MCi_go q (fun r49 h48 q => ?_))
                refine m_if_eq 96 dX11_named_84 (by decide) (fun c50 => ?_) (fun c50 => ?_)
                · replace q := q.1 c50
                  refine m_iload dX11_named_96 rfl ?_
                  exact m_iret dX11_named_98 rfl q
                · replace q := q.2 c50
                  refine m_aload_n dX11_named_87 rfl ?_
                  refine m_iconst (v := 3) dX11_named_88 (by decide) ?_
                  refine m_aload_n dX11_named_89 rfl ?_
                  refine gf_X11_88 rfl dX11_named_90 ?_
                  refine cl_X11_134 rfl (by decide) dX11_named_93 (Nat.le_of_ble_eq_true rfl) (MCv_go q (fun h51 q => ?_))
                  refine m_iload dX11_named_96 rfl ?_
                  exact m_iret dX11_named_98 rfl q
              · replace q := q.2 c46
                refine m_iload_n dX11_named_68 rfl ?_
                refine m_goto 76 dX11_named_69 (by decide) ?_
                refine m_istore (lv' := [.ref 11, .int l1, .int l2, .int r5, .int r5]) dX11_named_76 (Nat.le_of_ble_eq_true rfl) rfl rfl ?_
                refine m_iload_n dX11_named_78 rfl ?_
                refine m_iload dX11_named_79 rfl ?_
                refine cl_X11_162 rfl (by decide) dX11_named_81 (Nat.le_of_ble_eq_true rfl) (MCi_go q (fun r53 h52 q => ?_))
                refine m_if_eq 96 dX11_named_84 (by decide) (fun c54 => ?_) (fun c54 => ?_)
                · replace q := q.1 c54
                  refine m_iload dX11_named_96 rfl ?_
                  exact m_iret dX11_named_98 rfl q
                · replace q := q.2 c54
                  refine m_aload_n dX11_named_87 rfl ?_
                  refine m_iconst (v := 3) dX11_named_88 (by decide) ?_
                  refine m_aload_n dX11_named_89 rfl ?_
                  refine gf_X11_88 rfl dX11_named_90 ?_
                  refine cl_X11_134 rfl (by decide) dX11_named_93 (Nat.le_of_ble_eq_true rfl) (MCv_go q (fun h55 q => ?_))
                  refine m_iload dX11_named_96 rfl ?_
                  exact m_iret dX11_named_98 rfl q
            · replace q := q.2 c45
              refine m_iconst (v := 0) dX11_named_62 (by decide) ?_
              exact m_iret dX11_named_63 rfl q
          · replace q := q.2 c44
            refine m_aload_n dX11_named_46 rfl ?_
            refine m_iconst (v := 2) dX11_named_47 (by decide) ?_
            refine m_aload_n dX11_named_48 rfl ?_
            refine gf_X11_88 rfl dX11_named_49 ?_
            refine cl_X11_134 rfl (by decide) dX11_named_52 (Nat.le_of_ble_eq_true rfl) (MCv_go q (fun h56 q => ?_))
            refine m_aload_n dX11_named_55 rfl ?_
            refine gf_X11_107 rfl dX11_named_56 ?_
            refine m_if_eq 64 dX11_named_59 (by decide) (fun c57 => ?_) (fun c57 => ?_)
            · replace q := q.1 c57
              refine m_iload_n dX11_named_64 rfl ?_
              refine m_if_eq 72 dX11_named_65 (by decide) (fun c58 => ?_) (fun c58 => ?_)
              · replace q := q.1 c58
                refine m_iload_n dX11_named_72 rfl ?_
                refine m_bipush (v := 6) dX11_named_73 (by decide) ?_
                refine m_isub dX11_named_75 ?_
                obtain ⟨x59, ex59⟩ : ∃ z, z = (r5 - 6) := ⟨_, rfl⟩
                rw [← ex59]
                replace q := q x59 ex59
                refine m_istore (lv' := [.ref 11, .int l1, .int l2, .int r5, .int x59]) dX11_named_76 (Nat.le_of_ble_eq_true rfl) rfl rfl ?_
                refine m_iload_n dX11_named_78 rfl ?_
                refine m_iload dX11_named_79 rfl ?_
                refine cl_X11_162 rfl (by decide) dX11_named_81 (Nat.le_of_ble_eq_true rfl) (MCi_go q (fun r61 h60 q => ?_))
                refine m_if_eq 96 dX11_named_84 (by decide) (fun c62 => ?_) (fun c62 => ?_)
                · replace q := q.1 c62
                  refine m_iload dX11_named_96 rfl ?_
                  exact m_iret dX11_named_98 rfl q
                · replace q := q.2 c62
                  refine m_aload_n dX11_named_87 rfl ?_
                  refine m_iconst (v := 3) dX11_named_88 (by decide) ?_
                  refine m_aload_n dX11_named_89 rfl ?_
                  refine gf_X11_88 rfl dX11_named_90 ?_
                  refine cl_X11_134 rfl (by decide) dX11_named_93 (Nat.le_of_ble_eq_true rfl) (MCv_go q (fun h63 q => ?_))
                  refine m_iload dX11_named_96 rfl ?_
                  exact m_iret dX11_named_98 rfl q
              · replace q := q.2 c58
                refine m_iload_n dX11_named_68 rfl ?_
                refine m_goto 76 dX11_named_69 (by decide) ?_
                refine m_istore (lv' := [.ref 11, .int l1, .int l2, .int r5, .int r5]) dX11_named_76 (Nat.le_of_ble_eq_true rfl) rfl rfl ?_
                refine m_iload_n dX11_named_78 rfl ?_
                refine m_iload dX11_named_79 rfl ?_
                refine cl_X11_162 rfl (by decide) dX11_named_81 (Nat.le_of_ble_eq_true rfl) (MCi_go q (fun r65 h64 q => ?_))
                refine m_if_eq 96 dX11_named_84 (by decide) (fun c66 => ?_) (fun c66 => ?_)
                · replace q := q.1 c66
                  refine m_iload dX11_named_96 rfl ?_
                  exact m_iret dX11_named_98 rfl q
                · replace q := q.2 c66
                  refine m_aload_n dX11_named_87 rfl ?_
                  refine m_iconst (v := 3) dX11_named_88 (by decide) ?_
                  refine m_aload_n dX11_named_89 rfl ?_
                  refine gf_X11_88 rfl dX11_named_90 ?_
                  refine cl_X11_134 rfl (by decide) dX11_named_93 (Nat.le_of_ble_eq_true rfl) (MCv_go q (fun h67 q => ?_))
                  refine m_iload dX11_named_96 rfl ?_
                  exact m_iret dX11_named_98 rfl q
            · replace q := q.2 c57
              refine m_iconst (v := 0) dX11_named_62 (by decide) ?_
              exact m_iret dX11_named_63 rfl q
    · replace q := q.2 c3
      refine m_iconst (v := 0) dX11_named_20 (by decide) ?_
      exact m_iret dX11_named_21 rfl q
  · replace q := q.2 c1
    refine m_iconst (v := 0) dX11_named_7 (by decide) ?_
    exact m_iret dX11_named_8 rfl q
set_option maxRecDepth 100000 in
theorem e_X11_passed {g : gT} {h : mh_T} {P : Int32 → mh_T → Prop} (l1 : Int32) (l2 : Int32) (q : MCi g yX11_named uX11_named [.ref 11, .int l1, .int l2] h (fun r2 h1 => (¬ (mI h1 11 13) = 0 → P r2 h1) ∧ ((mI h1 11 13) = 0 → MCv g yX11_next uX11_next [.ref 11] h1 (fun h4 => P r2 h4)))) : MCi g yX11_passed uX11_passed [.ref 11, .int l1, .int l2] h P := by
  refine m_enter (by decide) rfl (Nat.le_of_ble_eq_true rfl) (lv := [.ref 11, .int l1, .int l2, .retAddr 0]) rfl ?_
  refine m_aload_n dX11_passed_0 rfl ?_
  refine m_iload_n dX11_passed_1 rfl ?_
  refine m_iload_n dX11_passed_2 rfl ?_
  refine cl_X11_166 rfl (by decide) dX11_passed_3 (Nat.le_of_ble_eq_true rfl) (MCi_go q (fun r2 h1 q => ?_))
  refine m_istore_n (lv' := [.ref 11, .int l1, .int l2, .int r2]) dX11_passed_6 (Nat.le_of_ble_eq_true rfl) rfl rfl ?_
  refine m_aload_n dX11_passed_7 rfl ?_
  refine gf_X11_107 rfl dX11_passed_8 ?_
  refine m_if_ne 18 dX11_passed_11 (by decide) (fun c3 => ?_) (fun c3 => ?_)
  · replace q := q.1 c3
    refine m_iload_n dX11_passed_18 rfl ?_
    exact m_iret dX11_passed_19 rfl q
  · replace q := q.2 c3
    refine m_aload_n dX11_passed_14 rfl ?_
    refine cl_X11_128 rfl (by decide) dX11_passed_15 (Nat.le_of_ble_eq_true rfl) (MCv_go q (fun h4 q => ?_))
    refine m_iload_n dX11_passed_18 rfl ?_
    exact m_iret dX11_passed_19 rfl q
set_option maxRecDepth 100000 in
theorem e_X11_number {g : gT} {h : mh_T} {P : Int32 → mh_T → Prop} (l1 : Int32) (l2 : Int32) (q : ((mI h 11 13) = 0 → ((mI h 11 6) = 3 → ∀ x3 : Int32, x3 = (mI h 11 7) → MCi g yX11_within uX11_within [.int x3, .int l1, .int l2] h (fun r5 h4 => (¬ r5 = 0 → MCv g yX11_next uX11_next [.ref 11] h4 (fun h7 => P x3 h7)) ∧ (r5 = 0 → MCv g yX11_wrong uX11_wrong [.ref 11, .int 4, .int (mI h4 11 4)] h4 (fun h8 => P l1 h8)))) ∧ (¬ (mI h 11 6) = 3 → MCv g yX11_wrong uX11_wrong [.ref 11, .int 1, .int (mI h 11 4)] h (fun h9 => P l1 h9))) ∧ (¬ (mI h 11 13) = 0 → P l1 h)) : MCi g yX11_number uX11_number [.ref 11, .int l1, .int l2] h P := by
  refine m_enter (by decide) rfl (Nat.le_of_ble_eq_true rfl) (lv := [.ref 11, .int l1, .int l2, .retAddr 0]) rfl ?_
  refine m_aload_n dX11_number_0 rfl ?_
  refine gf_X11_107 rfl dX11_number_1 ?_
  refine m_if_eq 9 dX11_number_4 (by decide) (fun c1 => ?_) (fun c1 => ?_)
  · replace q := q.1 c1
    refine m_aload_n dX11_number_9 rfl ?_
    refine gf_X11_97 rfl dX11_number_10 ?_
    refine m_iconst (v := 3) dX11_number_13 (by decide) ?_
    refine m_icmp_eq 28 dX11_number_14 (by decide) (fun c2 => ?_) (fun c2 => ?_)
    · replace q := q.1 c2
      refine m_aload_n dX11_number_28 rfl ?_
      refine gf_X11_94 rfl dX11_number_29 ?_
      obtain ⟨x3, ex3⟩ : ∃ z, z = (mI h 11 7) := ⟨_, rfl⟩
      rw [← ex3]
      replace q := q x3 ex3
      refine m_istore_n (lv' := [.ref 11, .int l1, .int l2, .int x3]) dX11_number_32 (Nat.le_of_ble_eq_true rfl) rfl rfl ?_
      refine m_iload_n dX11_number_33 rfl ?_
      refine m_iload_n dX11_number_34 rfl ?_
      refine m_iload_n dX11_number_35 rfl ?_
      refine cl_X11_170 rfl (by decide) dX11_number_36 (Nat.le_of_ble_eq_true rfl) (MCi_go q (fun r5 h4 q => ?_))
      refine m_if_ne 53 dX11_number_39 (by decide) (fun c6 => ?_) (fun c6 => ?_)
      · replace q := q.1 c6
        refine m_aload_n dX11_number_53 rfl ?_
        refine cl_X11_128 rfl (by decide) dX11_number_54 (Nat.le_of_ble_eq_true rfl) (MCv_go q (fun h7 q => ?_))
        refine m_iload_n dX11_number_57 rfl ?_
        exact m_iret dX11_number_58 rfl q
      · replace q := q.2 c6
        refine m_aload_n dX11_number_42 rfl ?_
        refine m_iconst (v := 4) dX11_number_43 (by decide) ?_
        refine m_aload_n dX11_number_44 rfl ?_
        refine gf_X11_88 rfl dX11_number_45 ?_
        refine cl_X11_134 rfl (by decide) dX11_number_48 (Nat.le_of_ble_eq_true rfl) (MCv_go q (fun h8 q => ?_))
        refine m_iload_n dX11_number_51 rfl ?_
        exact m_iret dX11_number_52 rfl q
    · replace q := q.2 c2
      refine m_aload_n dX11_number_17 rfl ?_
      refine m_iconst (v := 1) dX11_number_18 (by decide) ?_
      refine m_aload_n dX11_number_19 rfl ?_
      refine gf_X11_88 rfl dX11_number_20 ?_
      refine cl_X11_134 rfl (by decide) dX11_number_23 (Nat.le_of_ble_eq_true rfl) (MCv_go q (fun h9 q => ?_))
      refine m_iload_n dX11_number_26 rfl ?_
      exact m_iret dX11_number_27 rfl q
  · replace q := q.2 c1
    refine m_iload_n dX11_number_7 rfl ?_
    exact m_iret dX11_number_8 rfl q
set_option maxRecDepth 100000 in
theorem e_X11_comma {g : gT} {h : mh_T} {P : Int32 → mh_T → Prop}  (q : (¬ (mI h 11 13) = 0 → P 0 h) ∧ ((mI h 11 13) = 0 → ((mI h 11 6) = 44 → MCv g yX11_next uX11_next [.ref 11] h (fun h3 => P 1 h3)) ∧ (¬ (mI h 11 6) = 44 → P 0 h))) : MCi g yX11_comma uX11_comma [.ref 11] h P := by
  refine m_enter (by decide) rfl (Nat.le_of_ble_eq_true rfl) (lv := [.ref 11]) rfl ?_
  refine m_aload_n dX11_comma_0 rfl ?_
  refine gf_X11_107 rfl dX11_comma_1 ?_
  refine m_if_ne 16 dX11_comma_4 (by decide) (fun c1 => ?_) (fun c1 => ?_)
  · replace q := q.1 c1
    refine m_iconst (v := 0) dX11_comma_16 (by decide) ?_
    exact m_zret dX11_comma_17 rfl (by decide) q
  · replace q := q.2 c1
    refine m_aload_n dX11_comma_7 rfl ?_
    refine gf_X11_97 rfl dX11_comma_8 ?_
    refine m_bipush (v := 44) dX11_comma_11 (by decide) ?_
    refine m_icmp_eq 18 dX11_comma_13 (by decide) (fun c2 => ?_) (fun c2 => ?_)
    · replace q := q.1 c2
      refine m_aload_n dX11_comma_18 rfl ?_
      refine cl_X11_128 rfl (by decide) dX11_comma_19 (Nat.le_of_ble_eq_true rfl) (MCv_go q (fun h3 q => ?_))
      refine m_iconst (v := 1) dX11_comma_22 (by decide) ?_
      exact m_zret dX11_comma_23 rfl (by decide) q
    · replace q := q.2 c2
      refine m_iconst (v := 0) dX11_comma_16 (by decide) ?_
      exact m_zret dX11_comma_17 rfl (by decide) q
set_option maxRecDepth 100000 in
theorem e_X11_mustComma {g : gT} {h : mh_T} {P : mh_T → Prop}  (q : (¬ (mI h 11 13) = 0 → P h) ∧ ((mI h 11 13) = 0 → MCi g yX11_comma uX11_comma [.ref 11] h (fun r3 h2 => (¬ r3 = 0 → P h2) ∧ (r3 = 0 → MCv g yX11_wrong uX11_wrong [.ref 11, .int 1, .int (mI h2 11 4)] h2 (fun h5 => P h5))))) : MCv g yX11_mustComma uX11_mustComma [.ref 11] h P := by
  refine m_enter (by decide) rfl (Nat.le_of_ble_eq_true rfl) (lv := [.ref 11]) rfl ?_
  refine m_aload_n dX11_mustComma_0 rfl ?_
  refine gf_X11_107 rfl dX11_mustComma_1 ?_
  refine m_if_ne 23 dX11_mustComma_4 (by decide) (fun c1 => ?_) (fun c1 => ?_)
  · replace q := q.1 c1
    exact m_vret dX11_mustComma_23 rfl q
  · replace q := q.2 c1
    refine m_aload_n dX11_mustComma_7 rfl ?_
    refine cl_X11_158 rfl (by decide) dX11_mustComma_8 (Nat.le_of_ble_eq_true rfl) (MCi_go q (fun r3 h2 q => ?_))
    refine m_if_ne 23 dX11_mustComma_11 (by decide) (fun c4 => ?_) (fun c4 => ?_)
    · replace q := q.1 c4
      exact m_vret dX11_mustComma_23 rfl q
    · replace q := q.2 c4
      refine m_aload_n dX11_mustComma_14 rfl ?_
      refine m_iconst (v := 1) dX11_mustComma_15 (by decide) ?_
      refine m_aload_n dX11_mustComma_16 rfl ?_
      refine gf_X11_88 rfl dX11_mustComma_17 ?_
      refine cl_X11_134 rfl (by decide) dX11_mustComma_20 (Nat.le_of_ble_eq_true rfl) (MCv_go q (fun h5 q => ?_))
      exact m_vret dX11_mustComma_23 rfl q
set_option maxRecDepth 100000 in
theorem e_X11_book {g : gT} {h : mh_T} {P : Int32 → mh_T → Prop} (l1 : Int32) (q : MCv g yX11_good uX11_good [.ref 11] h (fun h1 => MCi g yX11_within uX11_within [.int l1, .int 0, .int (mI h1 11 2)] h1 (fun r3 h2 => (¬ r3 = 0 → ME g uX11_book 39 [.ref 11, .int l1, .int 0] [] (wI (wI (wI h2 11 2 0) 11 9 0) 11 13 0) (qI P)) ∧ (r3 = 0 → MCi g yX11_no uX11_no [.ref 11, .int 2] h2 (fun r6 h5 => P r6 h5))))) : MCi g yX11_book uX11_book [.ref 11, .int l1] h P := by
  refine m_enter (by decide) rfl (Nat.le_of_ble_eq_true rfl) (lv := [.ref 11, .int l1, .retAddr 0]) rfl ?_
  refine m_aload_n dX11_book_0 rfl ?_
  refine cl_X11_174 rfl (by decide) dX11_book_1 (Nat.le_of_ble_eq_true rfl) (MCv_go q (fun h1 q => ?_))
  refine m_iload_n dX11_book_4 rfl ?_
  refine m_iconst (v := 0) dX11_book_5 (by decide) ?_
  refine m_aload_n dX11_book_6 rfl ?_
  refine gf_X11_75 rfl dX11_book_7 ?_
  refine cl_X11_170 rfl (by decide) dX11_book_10 (Nat.le_of_ble_eq_true rfl) (MCi_go q (fun r3 h2 q => ?_))
  refine m_if_ne 22 dX11_book_13 (by decide) (fun c4 => ?_) (fun c4 => ?_)
  · replace q := q.1 c4
    refine m_aload_n dX11_book_22 rfl ?_
    refine m_iconst (v := 0) dX11_book_23 (by decide) ?_
    refine pf_X11_75 rfl dX11_book_24 ?_
    refine m_aload_n dX11_book_27 rfl ?_
    refine m_iconst (v := 0) dX11_book_28 (by decide) ?_
    refine pf_X11_111 rfl dX11_book_29 ?_
    refine m_aload_n dX11_book_32 rfl ?_
    refine m_iconst (v := 0) dX11_book_33 (by decide) ?_
    refine pf_X11_107 rfl dX11_book_34 (by decide) ?_
    refine m_iconst (v := 0) dX11_book_37 (by decide) ?_
    refine m_istore_n (lv' := [.ref 11, .int l1, .int 0]) dX11_book_38 (Nat.le_of_ble_eq_true rfl) rfl rfl ?_
    exact q
  · replace q := q.2 c4
    refine m_aload_n dX11_book_16 rfl ?_
    refine m_iconst (v := 2) dX11_book_17 (by decide) ?_
    refine cl_X11_177 rfl (by decide) dX11_book_18 (Nat.le_of_ble_eq_true rfl) (MCi_go q (fun r6 h5 q => ?_))
    exact m_iret dX11_book_21 rfl q
set_option maxRecDepth 100000 in
theorem r_X11_book_39 {g : gT} {h : mh_T} {P : Int32 → mh_T → Prop} (l1 : Int32) (l2 : Int32) (q : (346 ≤ l2 → MCv g yX11_next uX11_next [.ref 11] (wI (wI h 11 3 l1) 11 5 0) (fun h2 => MCv g yX11_readLine uX11_readLine [.ref 11] h2 (fun h3 => ME g uX11_book 77 [.ref 11, .int l1, .int l2] [] h3 (qI P)))) ∧ (¬ 346 ≤ l2 → (vp_in l2 346) ∧ (ME g uX11_book 39 [.ref 11, .int l1, .int (l2 + 1)] [] (wI h 46 l2.toNatClampNeg 0) (qI P)))) : ME g uX11_book 39 [.ref 11, .int l1, .int l2] [] h (qI P) := by
  refine m_iload_n dX11_book_39 rfl ?_
  refine m_sipush (v := 346) dX11_book_40 (by decide) ?_
  refine m_icmp_ge 59 dX11_book_43 (by decide) (fun c1 => ?_) (fun c1 => ?_)
  · replace q := q.1 c1
    refine m_aload_n dX11_book_59 rfl ?_
    refine m_iload_n dX11_book_60 rfl ?_
    refine pf_X11_78 rfl dX11_book_61 ?_
    refine m_aload_n dX11_book_64 rfl ?_
    refine m_iconst (v := 0) dX11_book_65 (by decide) ?_
    refine pf_X11_81 rfl dX11_book_66 ?_
    refine m_aload_n dX11_book_69 rfl ?_
    refine cl_X11_128 rfl (by decide) dX11_book_70 (Nat.le_of_ble_eq_true rfl) (MCv_go q (fun h2 q => ?_))
    refine m_aload_n dX11_book_73 rfl ?_
    refine cl_X11_180 rfl (by decide) dX11_book_74 (Nat.le_of_ble_eq_true rfl) (MCv_go q (fun h3 q => ?_))
    exact q
  · replace q := q.2 c1
    refine m_aload_n dX11_book_46 rfl ?_
    refine gf_X11_23 rfl dX11_book_47 ?_
    refine m_iload_n dX11_book_50 rfl ?_
    refine m_iconst (v := 0) dX11_book_51 (by decide) ?_
    obtain ⟨b4, q⟩ := q
    refine m_iastore dX11_book_52 rfl (by decide) b4 ?_
    refine m_iinc (v := (l2 + 1)) (lv' := [.ref 11, .int l1, .int (l2 + 1)]) dX11_book_53 (Nat.le_of_ble_eq_true rfl) rfl (congrArg (fun z => l2 + z) (by decide : Int32.ofInt 1 = 1)) rfl rfl ?_
    refine m_goto 39 dX11_book_56 (by decide) ?_
    exact q
set_option maxRecDepth 100000 in
theorem r_X11_book_77 {g : gT} {h : mh_T} {P : Int32 → mh_T → Prop} (l1 : Int32) (l2 : Int32) (q : (¬ (mI h 11 13) = 0 → (¬ (mI h 11 13) = 0 → (¬ (mI h 11 13) = 0 → ((mI h 11 13) = 0 → ME g uX11_book 179 [.ref 11, .int l1, .int 0] [] h (qI P)) ∧ (¬ (mI h 11 13) = 0 → MCi g yX11_no uX11_no [.ref 11, .int 4] h (fun r6 h5 => P r6 h5))) ∧ ((mI h 11 13) = 0 → ((mI h 46 (Int32.toNatClampNeg 49)) = 0 → MCv g yX11_wrong uX11_wrong [.ref 11, .int 6, .int (mI h 11 4)] h (fun h8 => ((mI h8 11 13) = 0 → ME g uX11_book 179 [.ref 11, .int l1, .int 0] [] h8 (qI P)) ∧ (¬ (mI h8 11 13) = 0 → MCi g yX11_no uX11_no [.ref 11, .int 4] h8 (fun r11 h10 => P r11 h10)))) ∧ (¬ (mI h 46 (Int32.toNatClampNeg 49)) = 0 → (¬ (mI h 46 (Int32.toNatClampNeg 50)) = 0 → ((mI h 11 13) = 0 → ME g uX11_book 179 [.ref 11, .int l1, .int 0] [] h (qI P)) ∧ (¬ (mI h 11 13) = 0 → MCi g yX11_no uX11_no [.ref 11, .int 4] h (fun r15 h14 => P r15 h14))) ∧ ((mI h 46 (Int32.toNatClampNeg 50)) = 0 → MCv g yX11_wrong uX11_wrong [.ref 11, .int 6, .int (mI h 11 4)] h (fun h16 => ((mI h16 11 13) = 0 → ME g uX11_book 179 [.ref 11, .int l1, .int 0] [] h16 (qI P)) ∧ (¬ (mI h16 11 13) = 0 → MCi g yX11_no uX11_no [.ref 11, .int 4] h16 (fun r19 h18 => P r19 h18))))))) ∧ ((mI h 11 13) = 0 → ((mI h 11 6) = 0 → (¬ (mI h 11 13) = 0 → ((mI h 11 13) = 0 → ME g uX11_book 179 [.ref 11, .int l1, .int 0] [] h (qI P)) ∧ (¬ (mI h 11 13) = 0 → MCi g yX11_no uX11_no [.ref 11, .int 4] h (fun r24 h23 => P r24 h23))) ∧ ((mI h 11 13) = 0 → ((mI h 46 (Int32.toNatClampNeg 49)) = 0 → MCv g yX11_wrong uX11_wrong [.ref 11, .int 6, .int (mI h 11 4)] h (fun h26 => ((mI h26 11 13) = 0 → ME g uX11_book 179 [.ref 11, .int l1, .int 0] [] h26 (qI P)) ∧ (¬ (mI h26 11 13) = 0 → MCi g yX11_no uX11_no [.ref 11, .int 4] h26 (fun r29 h28 => P r29 h28)))) ∧ (¬ (mI h 46 (Int32.toNatClampNeg 49)) = 0 → (¬ (mI h 46 (Int32.toNatClampNeg 50)) = 0 → ((mI h 11 13) = 0 → ME g uX11_book 179 [.ref 11, .int l1, .int 0] [] h (qI P)) ∧ (¬ (mI h 11 13) = 0 → MCi g yX11_no uX11_no [.ref 11, .int 4] h (fun r33 h32 => P r33 h32))) ∧ ((mI h 46 (Int32.toNatClampNeg 50)) = 0 → MCv g yX11_wrong uX11_wrong [.ref 11, .int 6, .int (mI h 11 4)] h (fun h34 => ((mI h34 11 13) = 0 → ME g uX11_book 179 [.ref 11, .int l1, .int 0] [] h34 (qI P)) ∧ (¬ (mI h34 11 13) = 0 → MCi g yX11_no uX11_no [.ref 11, .int 4] h34 (fun r37 h36 => P r37 h36))))))) ∧ (¬ (mI h 11 6) = 0 → MCv g yX11_wrong uX11_wrong [.ref 11, .int 1, .int (mI h 11 4)] h (fun h38 => (¬ (mI h38 11 13) = 0 → ((mI h38 11 13) = 0 → ME g uX11_book 179 [.ref 11, .int l1, .int 0] [] h38 (qI P)) ∧ (¬ (mI h38 11 13) = 0 → MCi g yX11_no uX11_no [.ref 11, .int 4] h38 (fun r42 h41 => P r42 h41))) ∧ ((mI h38 11 13) = 0 → ((mI h38 46 (Int32.toNatClampNeg 49)) = 0 → MCv g yX11_wrong uX11_wrong [.ref 11, .int 6, .int (mI h38 11 4)] h38 (fun h44 => ((mI h44 11 13) = 0 → ME g uX11_book 179 [.ref 11, .int l1, .int 0] [] h44 (qI P)) ∧ (¬ (mI h44 11 13) = 0 → MCi g yX11_no uX11_no [.ref 11, .int 4] h44 (fun r47 h46 => P r47 h46)))) ∧ (¬ (mI h38 46 (Int32.toNatClampNeg 49)) = 0 → (¬ (mI h38 46 (Int32.toNatClampNeg 50)) = 0 → ((mI h38 11 13) = 0 → ME g uX11_book 179 [.ref 11, .int l1, .int 0] [] h38 (qI P)) ∧ (¬ (mI h38 11 13) = 0 → MCi g yX11_no uX11_no [.ref 11, .int 4] h38 (fun r51 h50 => P r51 h50))) ∧ ((mI h38 46 (Int32.toNatClampNeg 50)) = 0 → MCv g yX11_wrong uX11_wrong [.ref 11, .int 6, .int (mI h38 11 4)] h38 (fun h52 => ((mI h52 11 13) = 0 → ME g uX11_book 179 [.ref 11, .int l1, .int 0] [] h52 (qI P)) ∧ (¬ (mI h52 11 13) = 0 → MCi g yX11_no uX11_no [.ref 11, .int 4] h52 (fun r55 h54 => P r55 h54)))))))))) ∧ ((mI h 11 13) = 0 → (¬ (mI h 11 6) = 59 → (¬ (mI h 11 13) = 0 → (¬ (mI h 11 13) = 0 → ((mI h 11 13) = 0 → ME g uX11_book 179 [.ref 11, .int l1, .int 0] [] h (qI P)) ∧ (¬ (mI h 11 13) = 0 → MCi g yX11_no uX11_no [.ref 11, .int 4] h (fun r61 h60 => P r61 h60))) ∧ ((mI h 11 13) = 0 → ((mI h 46 (Int32.toNatClampNeg 49)) = 0 → MCv g yX11_wrong uX11_wrong [.ref 11, .int 6, .int (mI h 11 4)] h (fun h63 => ((mI h63 11 13) = 0 → ME g uX11_book 179 [.ref 11, .int l1, .int 0] [] h63 (qI P)) ∧ (¬ (mI h63 11 13) = 0 → MCi g yX11_no uX11_no [.ref 11, .int 4] h63 (fun r66 h65 => P r66 h65)))) ∧ (¬ (mI h 46 (Int32.toNatClampNeg 49)) = 0 → (¬ (mI h 46 (Int32.toNatClampNeg 50)) = 0 → ((mI h 11 13) = 0 → ME g uX11_book 179 [.ref 11, .int l1, .int 0] [] h (qI P)) ∧ (¬ (mI h 11 13) = 0 → MCi g yX11_no uX11_no [.ref 11, .int 4] h (fun r70 h69 => P r70 h69))) ∧ ((mI h 46 (Int32.toNatClampNeg 50)) = 0 → MCv g yX11_wrong uX11_wrong [.ref 11, .int 6, .int (mI h 11 4)] h (fun h71 => ((mI h71 11 13) = 0 → ME g uX11_book 179 [.ref 11, .int l1, .int 0] [] h71 (qI P)) ∧ (¬ (mI h71 11 13) = 0 → MCi g yX11_no uX11_no [.ref 11, .int 4] h71 (fun r74 h73 => P r74 h73))))))) ∧ ((mI h 11 13) = 0 → ((mI h 11 6) = 0 → (¬ (mI h 11 13) = 0 → ((mI h 11 13) = 0 → ME g uX11_book 179 [.ref 11, .int l1, .int 0] [] h (qI P)) ∧ (¬ (mI h 11 13) = 0 → MCi g yX11_no uX11_no [.ref 11, .int 4] h (fun r79 h78 => P r79 h78))) ∧ ((mI h 11 13) = 0 → ((mI h 46 (Int32.toNatClampNeg 49)) = 0 → MCv g yX11_wrong uX11_wrong [.ref 11, .int 6, .int (mI h 11 4)] h (fun h81 => ((mI h81 11 13) = 0 → ME g uX11_book 179 [.ref 11, .int l1, .int 0] [] h81 (qI P)) ∧ (¬ (mI h81 11 13) = 0 → MCi g yX11_no uX11_no [.ref 11, .int 4] h81 (fun r84 h83 => P r84 h83)))) ∧ (¬ (mI h 46 (Int32.toNatClampNeg 49)) = 0 → (¬ (mI h 46 (Int32.toNatClampNeg 50)) = 0 → ((mI h 11 13) = 0 → ME g uX11_book 179 [.ref 11, .int l1, .int 0] [] h (qI P)) ∧ (¬ (mI h 11 13) = 0 → MCi g yX11_no uX11_no [.ref 11, .int 4] h (fun r88 h87 => P r88 h87))) ∧ ((mI h 46 (Int32.toNatClampNeg 50)) = 0 → MCv g yX11_wrong uX11_wrong [.ref 11, .int 6, .int (mI h 11 4)] h (fun h89 => ((mI h89 11 13) = 0 → ME g uX11_book 179 [.ref 11, .int l1, .int 0] [] h89 (qI P)) ∧ (¬ (mI h89 11 13) = 0 → MCi g yX11_no uX11_no [.ref 11, .int 4] h89 (fun r92 h91 => P r92 h91))))))) ∧ (¬ (mI h 11 6) = 0 → MCv g yX11_wrong uX11_wrong [.ref 11, .int 1, .int (mI h 11 4)] h (fun h93 => (¬ (mI h93 11 13) = 0 → ((mI h93 11 13) = 0 → ME g uX11_book 179 [.ref 11, .int l1, .int 0] [] h93 (qI P)) ∧ (¬ (mI h93 11 13) = 0 → MCi g yX11_no uX11_no [.ref 11, .int 4] h93 (fun r97 h96 => P r97 h96))) ∧ ((mI h93 11 13) = 0 → ((mI h93 46 (Int32.toNatClampNeg 49)) = 0 → MCv g yX11_wrong uX11_wrong [.ref 11, .int 6, .int (mI h93 11 4)] h93 (fun h99 => ((mI h99 11 13) = 0 → ME g uX11_book 179 [.ref 11, .int l1, .int 0] [] h99 (qI P)) ∧ (¬ (mI h99 11 13) = 0 → MCi g yX11_no uX11_no [.ref 11, .int 4] h99 (fun r102 h101 => P r102 h101)))) ∧ (¬ (mI h93 46 (Int32.toNatClampNeg 49)) = 0 → (¬ (mI h93 46 (Int32.toNatClampNeg 50)) = 0 → ((mI h93 11 13) = 0 → ME g uX11_book 179 [.ref 11, .int l1, .int 0] [] h93 (qI P)) ∧ (¬ (mI h93 11 13) = 0 → MCi g yX11_no uX11_no [.ref 11, .int 4] h93 (fun r106 h105 => P r106 h105))) ∧ ((mI h93 46 (Int32.toNatClampNeg 50)) = 0 → MCv g yX11_wrong uX11_wrong [.ref 11, .int 6, .int (mI h93 11 4)] h93 (fun h107 => ((mI h107 11 13) = 0 → ME g uX11_book 179 [.ref 11, .int l1, .int 0] [] h107 (qI P)) ∧ (¬ (mI h107 11 13) = 0 → MCi g yX11_no uX11_no [.ref 11, .int 4] h107 (fun r110 h109 => P r110 h109)))))))))) ∧ ((mI h 11 6) = 59 → MCv g yX11_next uX11_next [.ref 11] h (fun h111 => MCv g yX11_readLine uX11_readLine [.ref 11] h111 (fun h112 => ME g uX11_book 77 [.ref 11, .int l1, .int l2] [] h112 (qI P)))))) : ME g uX11_book 77 [.ref 11, .int l1, .int l2] [] h (qI P) := by
  refine m_aload_n dX11_book_77 rfl ?_
  refine gf_X11_107 rfl dX11_book_78 ?_
  refine m_if_ne 104 dX11_book_81 (by decide) (fun c1 => ?_) (fun c1 => ?_)
  · replace q := q.1 c1
    refine m_aload_n dX11_book_104 rfl ?_
    refine gf_X11_107 rfl dX11_book_105 ?_
    refine m_if_ne 127 dX11_book_108 (by decide) (fun c2 => ?_) (fun c2 => ?_)
    · replace q := q.1 c2
      refine m_aload_n dX11_book_127 rfl ?_
      refine gf_X11_107 rfl dX11_book_128 ?_
      refine m_if_ne 164 dX11_book_131 (by decide) (fun c3 => ?_) (fun c3 => ?_)
      · replace q := q.1 c3
        refine m_aload_n dX11_book_164 rfl ?_
        refine gf_X11_107 rfl dX11_book_165 ?_
        refine m_if_eq 177 dX11_book_168 (by decide) (fun c4 => ?_) (fun c4 => ?_)
        · replace q := q.1 c4
          refine m_iconst (v := 0) dX11_book_177 (by decide) ?_
          refine m_istore_n (lv' := [.ref 11, .int l1, .int 0]) dX11_book_178 (Nat.le_of_ble_eq_true rfl) rfl rfl ?_
          exact q
        · replace q := q.2 c4
          refine m_aload_n dX11_book_171 rfl ?_
          refine m_iconst (v := 4) dX11_book_172 (by decide) ?_
          refine cl_X11_177 rfl (by decide) dX11_book_173 (Nat.le_of_ble_eq_true rfl) (MCi_go q (fun r6 h5 q => ?_))
          exact m_iret dX11_book_176 rfl q
      · replace q := q.2 c3
        refine m_aload_n dX11_book_134 rfl ?_
        refine gf_X11_23 rfl dX11_book_135 ?_
        refine m_bipush (v := 49) dX11_book_138 (by decide) ?_
        refine m_iaload dX11_book_140 rfl (by decide) (by unfold vp_in; decide) ?_
        refine m_if_eq 154 dX11_book_141 (by decide) (fun c7 => ?_) (fun c7 => ?_)
        · replace q := q.1 c7
          refine m_aload_n dX11_book_154 rfl ?_
          refine m_bipush (v := 6) dX11_book_155 (by decide) ?_
          refine m_aload_n dX11_book_157 rfl ?_
          refine gf_X11_88 rfl dX11_book_158 ?_
          refine cl_X11_134 rfl (by decide) dX11_book_161 (Nat.le_of_ble_eq_true rfl) (MCv_go q (fun h8 q => ?_))
          refine m_aload_n dX11_book_164 rfl ?_
          refine gf_X11_107 rfl dX11_book_165 ?_
          refine m_if_eq 177 dX11_book_168 (by decide) (fun c9 => ?_) (fun c9 => ?_)
          · replace q := q.1 c9
            refine m_iconst (v := 0) dX11_book_177 (by decide) ?_
            refine m_istore_n (lv' := [.ref 11, .int l1, .int 0]) dX11_book_178 (Nat.le_of_ble_eq_true rfl) rfl rfl ?_
            exact q
          · replace q := q.2 c9
            refine m_aload_n dX11_book_171 rfl ?_
            refine m_iconst (v := 4) dX11_book_172 (by decide) ?_
            refine cl_X11_177 rfl (by decide) dX11_book_173 (Nat.le_of_ble_eq_true rfl) (MCi_go q (fun r11 h10 q => ?_))
            exact m_iret dX11_book_176 rfl q
        · replace q := q.2 c7
          refine m_aload_n dX11_book_144 rfl ?_
          refine gf_X11_23 rfl dX11_book_145 ?_
          refine m_bipush (v := 50) dX11_book_148 (by decide) ?_
          refine m_iaload dX11_book_150 rfl (by decide) (by unfold vp_in; decide) ?_
          refine m_if_ne 164 dX11_book_151 (by decide) (fun c12 => ?_) (fun c12 => ?_)
          · replace q := q.1 c12
            refine m_aload_n dX11_book_164 rfl ?_
            refine gf_X11_107 rfl dX11_book_165 ?_
            refine m_if_eq 177 dX11_book_168 (by decide) (fun c13 => ?_) (fun c13 => ?_)
            · replace q := q.1 c13
              refine m_iconst (v := 0) dX11_book_177 (by decide) ?_
              refine m_istore_n (lv' := [.ref 11, .int l1, .int 0]) dX11_book_178 (Nat.le_of_ble_eq_true rfl) rfl rfl ?_
              exact q
            · replace q := q.2 c13
              refine m_aload_n dX11_book_171 rfl ?_
              refine m_iconst (v := 4) dX11_book_172 (by decide) ?_
              refine cl_X11_177 rfl (by decide) dX11_book_173 (Nat.le_of_ble_eq_true rfl) (MCi_go q (fun r15 h14 q => ?_))
              exact m_iret dX11_book_176 rfl q
          · replace q := q.2 c12
            refine m_aload_n dX11_book_154 rfl ?_
            refine m_bipush (v := 6) dX11_book_155 (by decide) ?_
            refine m_aload_n dX11_book_157 rfl ?_
            refine gf_X11_88 rfl dX11_book_158 ?_
            refine cl_X11_134 rfl (by decide) dX11_book_161 (Nat.le_of_ble_eq_true rfl) (MCv_go q (fun h16 q => ?_))
            refine m_aload_n dX11_book_164 rfl ?_
            refine gf_X11_107 rfl dX11_book_165 ?_
            refine m_if_eq 177 dX11_book_168 (by decide) (fun c17 => ?_) (fun c17 => ?_)
            · replace q := q.1 c17
              refine m_iconst (v := 0) dX11_book_177 (by decide) ?_
              refine m_istore_n (lv' := [.ref 11, .int l1, .int 0]) dX11_book_178 (Nat.le_of_ble_eq_true rfl) rfl rfl ?_
              exact q
            · replace q := q.2 c17
              refine m_aload_n dX11_book_171 rfl ?_
              refine m_iconst (v := 4) dX11_book_172 (by decide) ?_
              refine cl_X11_177 rfl (by decide) dX11_book_173 (Nat.le_of_ble_eq_true rfl) (MCi_go q (fun r19 h18 q => ?_))
              exact m_iret dX11_book_176 rfl q
    · replace q := q.2 c2
      refine m_aload_n dX11_book_111 rfl ?_
      refine gf_X11_97 rfl dX11_book_112 ?_
      refine m_if_eq 127 dX11_book_115 (by decide) (fun c20 => ?_) (fun c20 => ?_)
      · replace q := q.1 c20
        refine m_aload_n dX11_book_127 rfl ?_
        refine gf_X11_107 rfl dX11_book_128 ?_
        refine m_if_ne 164 dX11_book_131 (by decide) (fun c21 => ?_) (fun c21 => ?_)
        · replace q := q.1 c21
          refine m_aload_n dX11_book_164 rfl ?_
          refine gf_X11_107 rfl dX11_book_165 ?_
          refine m_if_eq 177 dX11_book_168 (by decide) (fun c22 => ?_) (fun c22 => ?_)
          · replace q := q.1 c22
            refine m_iconst (v := 0) dX11_book_177 (by decide) ?_
            refine m_istore_n (lv' := [.ref 11, .int l1, .int 0]) dX11_book_178 (Nat.le_of_ble_eq_true rfl) rfl rfl ?_
            exact q
          · replace q := q.2 c22
            refine m_aload_n dX11_book_171 rfl ?_
            refine m_iconst (v := 4) dX11_book_172 (by decide) ?_
            refine cl_X11_177 rfl (by decide) dX11_book_173 (Nat.le_of_ble_eq_true rfl) (MCi_go q (fun r24 h23 q => ?_))
            exact m_iret dX11_book_176 rfl q
        · replace q := q.2 c21
          refine m_aload_n dX11_book_134 rfl ?_
          refine gf_X11_23 rfl dX11_book_135 ?_
          refine m_bipush (v := 49) dX11_book_138 (by decide) ?_
          refine m_iaload dX11_book_140 rfl (by decide) (by unfold vp_in; decide) ?_
          refine m_if_eq 154 dX11_book_141 (by decide) (fun c25 => ?_) (fun c25 => ?_)
          · replace q := q.1 c25
            refine m_aload_n dX11_book_154 rfl ?_
            refine m_bipush (v := 6) dX11_book_155 (by decide) ?_
            refine m_aload_n dX11_book_157 rfl ?_
            refine gf_X11_88 rfl dX11_book_158 ?_
            refine cl_X11_134 rfl (by decide) dX11_book_161 (Nat.le_of_ble_eq_true rfl) (MCv_go q (fun h26 q => ?_))
            refine m_aload_n dX11_book_164 rfl ?_
            refine gf_X11_107 rfl dX11_book_165 ?_
            refine m_if_eq 177 dX11_book_168 (by decide) (fun c27 => ?_) (fun c27 => ?_)
            · replace q := q.1 c27
              refine m_iconst (v := 0) dX11_book_177 (by decide) ?_
              refine m_istore_n (lv' := [.ref 11, .int l1, .int 0]) dX11_book_178 (Nat.le_of_ble_eq_true rfl) rfl rfl ?_
              exact q
            · replace q := q.2 c27
              refine m_aload_n dX11_book_171 rfl ?_
              refine m_iconst (v := 4) dX11_book_172 (by decide) ?_
              refine cl_X11_177 rfl (by decide) dX11_book_173 (Nat.le_of_ble_eq_true rfl) (MCi_go q (fun r29 h28 q => ?_))
              exact m_iret dX11_book_176 rfl q
          · replace q := q.2 c25
            refine m_aload_n dX11_book_144 rfl ?_
            refine gf_X11_23 rfl dX11_book_145 ?_
            refine m_bipush (v := 50) dX11_book_148 (by decide) ?_
            refine m_iaload dX11_book_150 rfl (by decide) (by unfold vp_in; decide) ?_
            refine m_if_ne 164 dX11_book_151 (by decide) (fun c30 => ?_) (fun c30 => ?_)
            · replace q := q.1 c30
              refine m_aload_n dX11_book_164 rfl ?_
              refine gf_X11_107 rfl dX11_book_165 ?_
              refine m_if_eq 177 dX11_book_168 (by decide) (fun c31 => ?_) (fun c31 => ?_)
              · replace q := q.1 c31
                refine m_iconst (v := 0) dX11_book_177 (by decide) ?_
                refine m_istore_n (lv' := [.ref 11, .int l1, .int 0]) dX11_book_178 (Nat.le_of_ble_eq_true rfl) rfl rfl ?_
                exact q
              · replace q := q.2 c31
                refine m_aload_n dX11_book_171 rfl ?_
                refine m_iconst (v := 4) dX11_book_172 (by decide) ?_
                refine cl_X11_177 rfl (by decide) dX11_book_173 (Nat.le_of_ble_eq_true rfl) (MCi_go q (fun r33 h32 q => ?_))
                exact m_iret dX11_book_176 rfl q
            · replace q := q.2 c30
              refine m_aload_n dX11_book_154 rfl ?_
              refine m_bipush (v := 6) dX11_book_155 (by decide) ?_
              refine m_aload_n dX11_book_157 rfl ?_
              refine gf_X11_88 rfl dX11_book_158 ?_
              refine cl_X11_134 rfl (by decide) dX11_book_161 (Nat.le_of_ble_eq_true rfl) (MCv_go q (fun h34 q => ?_))
              refine m_aload_n dX11_book_164 rfl ?_
              refine gf_X11_107 rfl dX11_book_165 ?_
              refine m_if_eq 177 dX11_book_168 (by decide) (fun c35 => ?_) (fun c35 => ?_)
              · replace q := q.1 c35
                refine m_iconst (v := 0) dX11_book_177 (by decide) ?_
                refine m_istore_n (lv' := [.ref 11, .int l1, .int 0]) dX11_book_178 (Nat.le_of_ble_eq_true rfl) rfl rfl ?_
                exact q
              · replace q := q.2 c35
                refine m_aload_n dX11_book_171 rfl ?_
                refine m_iconst (v := 4) dX11_book_172 (by decide) ?_
                refine cl_X11_177 rfl (by decide) dX11_book_173 (Nat.le_of_ble_eq_true rfl) (MCi_go q (fun r37 h36 q => ?_))
                exact m_iret dX11_book_176 rfl q
      · replace q := q.2 c20
        refine m_aload_n dX11_book_118 rfl ?_
        refine m_iconst (v := 1) dX11_book_119 (by decide) ?_
        refine m_aload_n dX11_book_120 rfl ?_
        refine gf_X11_88 rfl dX11_book_121 ?_
        refine cl_X11_134 rfl (by decide) dX11_book_124 (Nat.le_of_ble_eq_true rfl) (MCv_go q (fun h38 q => ?_))
        refine m_aload_n dX11_book_127 rfl ?_
        refine gf_X11_107 rfl dX11_book_128 ?_
        refine m_if_ne 164 dX11_book_131 (by decide) (fun c39 => ?_) (fun c39 => ?_)
        · replace q := q.1 c39
          refine m_aload_n dX11_book_164 rfl ?_
          refine gf_X11_107 rfl dX11_book_165 ?_
          refine m_if_eq 177 dX11_book_168 (by decide) (fun c40 => ?_) (fun c40 => ?_)
          · replace q := q.1 c40
            refine m_iconst (v := 0) dX11_book_177 (by decide) ?_
            refine m_istore_n (lv' := [.ref 11, .int l1, .int 0]) dX11_book_178 (Nat.le_of_ble_eq_true rfl) rfl rfl ?_
            exact q
          · replace q := q.2 c40
            refine m_aload_n dX11_book_171 rfl ?_
            refine m_iconst (v := 4) dX11_book_172 (by decide) ?_
            refine cl_X11_177 rfl (by decide) dX11_book_173 (Nat.le_of_ble_eq_true rfl) (MCi_go q (fun r42 h41 q => ?_))
            exact m_iret dX11_book_176 rfl q
        · replace q := q.2 c39
          refine m_aload_n dX11_book_134 rfl ?_
          refine gf_X11_23 rfl dX11_book_135 ?_
          refine m_bipush (v := 49) dX11_book_138 (by decide) ?_
          refine m_iaload dX11_book_140 rfl (by decide) (by unfold vp_in; decide) ?_
          refine m_if_eq 154 dX11_book_141 (by decide) (fun c43 => ?_) (fun c43 => ?_)
          · replace q := q.1 c43
            refine m_aload_n dX11_book_154 rfl ?_
            refine m_bipush (v := 6) dX11_book_155 (by decide) ?_
            refine m_aload_n dX11_book_157 rfl ?_
            refine gf_X11_88 rfl dX11_book_158 ?_
            refine cl_X11_134 rfl (by decide) dX11_book_161 (Nat.le_of_ble_eq_true rfl) (MCv_go q (fun h44 q => ?_))
            refine m_aload_n dX11_book_164 rfl ?_
            refine gf_X11_107 rfl dX11_book_165 ?_
            refine m_if_eq 177 dX11_book_168 (by decide) (fun c45 => ?_) (fun c45 => ?_)
            · replace q := q.1 c45
              refine m_iconst (v := 0) dX11_book_177 (by decide) ?_
              refine m_istore_n (lv' := [.ref 11, .int l1, .int 0]) dX11_book_178 (Nat.le_of_ble_eq_true rfl) rfl rfl ?_
              exact q
            · replace q := q.2 c45
              refine m_aload_n dX11_book_171 rfl ?_
              refine m_iconst (v := 4) dX11_book_172 (by decide) ?_
              refine cl_X11_177 rfl (by decide) dX11_book_173 (Nat.le_of_ble_eq_true rfl) (MCi_go q (fun r47 h46 q => ?_))
              exact m_iret dX11_book_176 rfl q
          · replace q := q.2 c43
            refine m_aload_n dX11_book_144 rfl ?_
            refine gf_X11_23 rfl dX11_book_145 ?_
            refine m_bipush (v := 50) dX11_book_148 (by decide) ?_
            refine m_iaload dX11_book_150 rfl (by decide) (by unfold vp_in; decide) ?_
            refine m_if_ne 164 dX11_book_151 (by decide) (fun c48 => ?_) (fun c48 => ?_)
            · replace q := q.1 c48
              refine m_aload_n dX11_book_164 rfl ?_
              refine gf_X11_107 rfl dX11_book_165 ?_
              refine m_if_eq 177 dX11_book_168 (by decide) (fun c49 => ?_) (fun c49 => ?_)
              · replace q := q.1 c49
                refine m_iconst (v := 0) dX11_book_177 (by decide) ?_
                refine m_istore_n (lv' := [.ref 11, .int l1, .int 0]) dX11_book_178 (Nat.le_of_ble_eq_true rfl) rfl rfl ?_
                exact q
              · replace q := q.2 c49
                refine m_aload_n dX11_book_171 rfl ?_
                refine m_iconst (v := 4) dX11_book_172 (by decide) ?_
                refine cl_X11_177 rfl (by decide) dX11_book_173 (Nat.le_of_ble_eq_true rfl) (MCi_go q (fun r51 h50 q => ?_))
                exact m_iret dX11_book_176 rfl q
            · replace q := q.2 c48
              refine m_aload_n dX11_book_154 rfl ?_
              refine m_bipush (v := 6) dX11_book_155 (by decide) ?_
              refine m_aload_n dX11_book_157 rfl ?_
              refine gf_X11_88 rfl dX11_book_158 ?_
              refine cl_X11_134 rfl (by decide) dX11_book_161 (Nat.le_of_ble_eq_true rfl) (MCv_go q (fun h52 q => ?_))
              refine m_aload_n dX11_book_164 rfl ?_
              refine gf_X11_107 rfl dX11_book_165 ?_
              refine m_if_eq 177 dX11_book_168 (by decide) (fun c53 => ?_) (fun c53 => ?_)
              · replace q := q.1 c53
                refine m_iconst (v := 0) dX11_book_177 (by decide) ?_
                refine m_istore_n (lv' := [.ref 11, .int l1, .int 0]) dX11_book_178 (Nat.le_of_ble_eq_true rfl) rfl rfl ?_
                exact q
              · replace q := q.2 c53
                refine m_aload_n dX11_book_171 rfl ?_
                refine m_iconst (v := 4) dX11_book_172 (by decide) ?_
                refine cl_X11_177 rfl (by decide) dX11_book_173 (Nat.le_of_ble_eq_true rfl) (MCi_go q (fun r55 h54 q => ?_))
                exact m_iret dX11_book_176 rfl q
  · replace q := q.2 c1
    refine m_aload_n dX11_book_84 rfl ?_
    refine gf_X11_97 rfl dX11_book_85 ?_
    refine m_bipush (v := 59) dX11_book_88 (by decide) ?_
    refine m_icmp_ne 104 dX11_book_90 (by decide) (fun c56 => ?_) (fun c56 => ?_)
    · replace q := q.1 c56
      refine m_aload_n dX11_book_104 rfl ?_
      refine gf_X11_107 rfl dX11_book_105 ?_
      refine m_if_ne 127 dX11_book_108 (by decide) (fun c57 => ?_) (fun c57 => ?_)
      · replace q := q.1 c57
        refine m_aload_n dX11_book_127 rfl ?_
        refine gf_X11_107 rfl dX11_book_128 ?_
        refine m_if_ne 164 dX11_book_131 (by decide) (fun c58 => ?_) (fun c58 => ?_)
        · replace q := q.1 c58
          refine m_aload_n dX11_book_164 rfl ?_
          refine gf_X11_107 rfl dX11_book_165 ?_
          refine m_if_eq 177 dX11_book_168 (by decide) (fun c59 => ?_) (fun c59 => ?_)
          · replace q := q.1 c59
            refine m_iconst (v := 0) dX11_book_177 (by decide) ?_
            refine m_istore_n (lv' := [.ref 11, .int l1, .int 0]) dX11_book_178 (Nat.le_of_ble_eq_true rfl) rfl rfl ?_
            exact q
          · replace q := q.2 c59
            refine m_aload_n dX11_book_171 rfl ?_
            refine m_iconst (v := 4) dX11_book_172 (by decide) ?_
            refine cl_X11_177 rfl (by decide) dX11_book_173 (Nat.le_of_ble_eq_true rfl) (MCi_go q (fun r61 h60 q => ?_))
            exact m_iret dX11_book_176 rfl q
        · replace q := q.2 c58
          refine m_aload_n dX11_book_134 rfl ?_
          refine gf_X11_23 rfl dX11_book_135 ?_
          refine m_bipush (v := 49) dX11_book_138 (by decide) ?_
          refine m_iaload dX11_book_140 rfl (by decide) (by unfold vp_in; decide) ?_
          refine m_if_eq 154 dX11_book_141 (by decide) (fun c62 => ?_) (fun c62 => ?_)
          · replace q := q.1 c62
            refine m_aload_n dX11_book_154 rfl ?_
            refine m_bipush (v := 6) dX11_book_155 (by decide) ?_
            refine m_aload_n dX11_book_157 rfl ?_
            refine gf_X11_88 rfl dX11_book_158 ?_
            refine cl_X11_134 rfl (by decide) dX11_book_161 (Nat.le_of_ble_eq_true rfl) (MCv_go q (fun h63 q => ?_))
            refine m_aload_n dX11_book_164 rfl ?_
            refine gf_X11_107 rfl dX11_book_165 ?_
            refine m_if_eq 177 dX11_book_168 (by decide) (fun c64 => ?_) (fun c64 => ?_)
            · replace q := q.1 c64
              refine m_iconst (v := 0) dX11_book_177 (by decide) ?_
              refine m_istore_n (lv' := [.ref 11, .int l1, .int 0]) dX11_book_178 (Nat.le_of_ble_eq_true rfl) rfl rfl ?_
              exact q
            · replace q := q.2 c64
              refine m_aload_n dX11_book_171 rfl ?_
              refine m_iconst (v := 4) dX11_book_172 (by decide) ?_
              refine cl_X11_177 rfl (by decide) dX11_book_173 (Nat.le_of_ble_eq_true rfl) (MCi_go q (fun r66 h65 q => ?_))
              exact m_iret dX11_book_176 rfl q
          · replace q := q.2 c62
            refine m_aload_n dX11_book_144 rfl ?_
            refine gf_X11_23 rfl dX11_book_145 ?_
            refine m_bipush (v := 50) dX11_book_148 (by decide) ?_
            refine m_iaload dX11_book_150 rfl (by decide) (by unfold vp_in; decide) ?_
            refine m_if_ne 164 dX11_book_151 (by decide) (fun c67 => ?_) (fun c67 => ?_)
            · replace q := q.1 c67
              refine m_aload_n dX11_book_164 rfl ?_
              refine gf_X11_107 rfl dX11_book_165 ?_
              refine m_if_eq 177 dX11_book_168 (by decide) (fun c68 => ?_) (fun c68 => ?_)
              · replace q := q.1 c68
                refine m_iconst (v := 0) dX11_book_177 (by decide) ?_
                refine m_istore_n (lv' := [.ref 11, .int l1, .int 0]) dX11_book_178 (Nat.le_of_ble_eq_true rfl) rfl rfl ?_
                exact q
              · replace q := q.2 c68
                refine m_aload_n dX11_book_171 rfl ?_
                refine m_iconst (v := 4) dX11_book_172 (by decide) ?_
                refine cl_X11_177 rfl (by decide) dX11_book_173 (Nat.le_of_ble_eq_true rfl) (MCi_go q (fun r70 h69 q => ?_))
                exact m_iret dX11_book_176 rfl q
            · replace q := q.2 c67
              refine m_aload_n dX11_book_154 rfl ?_
              refine m_bipush (v := 6) dX11_book_155 (by decide) ?_
              refine m_aload_n dX11_book_157 rfl ?_
              refine gf_X11_88 rfl dX11_book_158 ?_
              refine cl_X11_134 rfl (by decide) dX11_book_161 (Nat.le_of_ble_eq_true rfl) (MCv_go q (fun h71 q => ?_))
              refine m_aload_n dX11_book_164 rfl ?_
              refine gf_X11_107 rfl dX11_book_165 ?_
              refine m_if_eq 177 dX11_book_168 (by decide) (fun c72 => ?_) (fun c72 => ?_)
              · replace q := q.1 c72
                refine m_iconst (v := 0) dX11_book_177 (by decide) ?_
                refine m_istore_n (lv' := [.ref 11, .int l1, .int 0]) dX11_book_178 (Nat.le_of_ble_eq_true rfl) rfl rfl ?_
                exact q
              · replace q := q.2 c72
                refine m_aload_n dX11_book_171 rfl ?_
                refine m_iconst (v := 4) dX11_book_172 (by decide) ?_
                refine cl_X11_177 rfl (by decide) dX11_book_173 (Nat.le_of_ble_eq_true rfl) (MCi_go q (fun r74 h73 q => ?_))
                exact m_iret dX11_book_176 rfl q
      · replace q := q.2 c57
        refine m_aload_n dX11_book_111 rfl ?_
        refine gf_X11_97 rfl dX11_book_112 ?_
        refine m_if_eq 127 dX11_book_115 (by decide) (fun c75 => ?_) (fun c75 => ?_)
        · replace q := q.1 c75
          refine m_aload_n dX11_book_127 rfl ?_
          refine gf_X11_107 rfl dX11_book_128 ?_
          refine m_if_ne 164 dX11_book_131 (by decide) (fun c76 => ?_) (fun c76 => ?_)
          · replace q := q.1 c76
            refine m_aload_n dX11_book_164 rfl ?_
            refine gf_X11_107 rfl dX11_book_165 ?_
            refine m_if_eq 177 dX11_book_168 (by decide) (fun c77 => ?_) (fun c77 => ?_)
            · replace q := q.1 c77
              refine m_iconst (v := 0) dX11_book_177 (by decide) ?_
              refine m_istore_n (lv' := [.ref 11, .int l1, .int 0]) dX11_book_178 (Nat.le_of_ble_eq_true rfl) rfl rfl ?_
              exact q
            · replace q := q.2 c77
              refine m_aload_n dX11_book_171 rfl ?_
              refine m_iconst (v := 4) dX11_book_172 (by decide) ?_
              refine cl_X11_177 rfl (by decide) dX11_book_173 (Nat.le_of_ble_eq_true rfl) (MCi_go q (fun r79 h78 q => ?_))
              exact m_iret dX11_book_176 rfl q
          · replace q := q.2 c76
            refine m_aload_n dX11_book_134 rfl ?_
            refine gf_X11_23 rfl dX11_book_135 ?_
            refine m_bipush (v := 49) dX11_book_138 (by decide) ?_
            refine m_iaload dX11_book_140 rfl (by decide) (by unfold vp_in; decide) ?_
            refine m_if_eq 154 dX11_book_141 (by decide) (fun c80 => ?_) (fun c80 => ?_)
            · replace q := q.1 c80
              refine m_aload_n dX11_book_154 rfl ?_
              refine m_bipush (v := 6) dX11_book_155 (by decide) ?_
              refine m_aload_n dX11_book_157 rfl ?_
              refine gf_X11_88 rfl dX11_book_158 ?_
              refine cl_X11_134 rfl (by decide) dX11_book_161 (Nat.le_of_ble_eq_true rfl) (MCv_go q (fun h81 q => ?_))
              refine m_aload_n dX11_book_164 rfl ?_
              refine gf_X11_107 rfl dX11_book_165 ?_
              refine m_if_eq 177 dX11_book_168 (by decide) (fun c82 => ?_) (fun c82 => ?_)
              · replace q := q.1 c82
                refine m_iconst (v := 0) dX11_book_177 (by decide) ?_
                refine m_istore_n (lv' := [.ref 11, .int l1, .int 0]) dX11_book_178 (Nat.le_of_ble_eq_true rfl) rfl rfl ?_
                exact q
              · replace q := q.2 c82
                refine m_aload_n dX11_book_171 rfl ?_
                refine m_iconst (v := 4) dX11_book_172 (by decide) ?_
                refine cl_X11_177 rfl (by decide) dX11_book_173 (Nat.le_of_ble_eq_true rfl) (MCi_go q (fun r84 h83 q => ?_))
                exact m_iret dX11_book_176 rfl q
            · replace q := q.2 c80
              refine m_aload_n dX11_book_144 rfl ?_
              refine gf_X11_23 rfl dX11_book_145 ?_
              refine m_bipush (v := 50) dX11_book_148 (by decide) ?_
              refine m_iaload dX11_book_150 rfl (by decide) (by unfold vp_in; decide) ?_
              refine m_if_ne 164 dX11_book_151 (by decide) (fun c85 => ?_) (fun c85 => ?_)
              · replace q := q.1 c85
                refine m_aload_n dX11_book_164 rfl ?_
                refine gf_X11_107 rfl dX11_book_165 ?_
                refine m_if_eq 177 dX11_book_168 (by decide) (fun c86 => ?_) (fun c86 => ?_)
                · replace q := q.1 c86
                  refine m_iconst (v := 0) dX11_book_177 (by decide) ?_
                  refine m_istore_n (lv' := [.ref 11, .int l1, .int 0]) dX11_book_178 (Nat.le_of_ble_eq_true rfl) rfl rfl ?_
                  exact q
                · replace q := q.2 c86
                  refine m_aload_n dX11_book_171 rfl ?_
                  refine m_iconst (v := 4) dX11_book_172 (by decide) ?_
                  refine cl_X11_177 rfl (by decide) dX11_book_173 (Nat.le_of_ble_eq_true rfl) (MCi_go q (fun r88 h87 q => ?_))
                  exact m_iret dX11_book_176 rfl q
              · replace q := q.2 c85
                refine m_aload_n dX11_book_154 rfl ?_
                refine m_bipush (v := 6) dX11_book_155 (by decide) ?_
                refine m_aload_n dX11_book_157 rfl ?_
                refine gf_X11_88 rfl dX11_book_158 ?_
                refine cl_X11_134 rfl (by decide) dX11_book_161 (Nat.le_of_ble_eq_true rfl) (MCv_go q (fun h89 q => ?_))
                refine m_aload_n dX11_book_164 rfl ?_
                refine gf_X11_107 rfl dX11_book_165 ?_
                refine m_if_eq 177 dX11_book_168 (by decide) (fun c90 => ?_) (fun c90 => ?_)
                · replace q := q.1 c90
                  refine m_iconst (v := 0) dX11_book_177 (by decide) ?_
                  refine m_istore_n (lv' := [.ref 11, .int l1, .int 0]) dX11_book_178 (Nat.le_of_ble_eq_true rfl) rfl rfl ?_
                  exact q
                · replace q := q.2 c90
                  refine m_aload_n dX11_book_171 rfl ?_
                  refine m_iconst (v := 4) dX11_book_172 (by decide) ?_
                  refine cl_X11_177 rfl (by decide) dX11_book_173 (Nat.le_of_ble_eq_true rfl) (MCi_go q (fun r92 h91 q => ?_))
                  exact m_iret dX11_book_176 rfl q
        · replace q := q.2 c75
          refine m_aload_n dX11_book_118 rfl ?_
          refine m_iconst (v := 1) dX11_book_119 (by decide) ?_
          refine m_aload_n dX11_book_120 rfl ?_
          refine gf_X11_88 rfl dX11_book_121 ?_
          refine cl_X11_134 rfl (by decide) dX11_book_124 (Nat.le_of_ble_eq_true rfl) (MCv_go q (fun h93 q => ?_))
          refine m_aload_n dX11_book_127 rfl ?_
          refine gf_X11_107 rfl dX11_book_128 ?_
          refine m_if_ne 164 dX11_book_131 (by decide) (fun c94 => ?_) (fun c94 => ?_)
          · replace q := q.1 c94
            refine m_aload_n dX11_book_164 rfl ?_
            refine gf_X11_107 rfl dX11_book_165 ?_
            refine m_if_eq 177 dX11_book_168 (by decide) (fun c95 => ?_) (fun c95 => ?_)
            · replace q := q.1 c95
              refine m_iconst (v := 0) dX11_book_177 (by decide) ?_
              refine m_istore_n (lv' := [.ref 11, .int l1, .int 0]) dX11_book_178 (Nat.le_of_ble_eq_true rfl) rfl rfl ?_
              exact q
            · replace q := q.2 c95
              refine m_aload_n dX11_book_171 rfl ?_
              refine m_iconst (v := 4) dX11_book_172 (by decide) ?_
              refine cl_X11_177 rfl (by decide) dX11_book_173 (Nat.le_of_ble_eq_true rfl) (MCi_go q (fun r97 h96 q => ?_))
              exact m_iret dX11_book_176 rfl q
          · replace q := q.2 c94
            refine m_aload_n dX11_book_134 rfl ?_
            refine gf_X11_23 rfl dX11_book_135 ?_
            refine m_bipush (v := 49) dX11_book_138 (by decide) ?_
            refine m_iaload dX11_book_140 rfl (by decide) (by unfold vp_in; decide) ?_
            refine m_if_eq 154 dX11_book_141 (by decide) (fun c98 => ?_) (fun c98 => ?_)
            · replace q := q.1 c98
              refine m_aload_n dX11_book_154 rfl ?_
              refine m_bipush (v := 6) dX11_book_155 (by decide) ?_
              refine m_aload_n dX11_book_157 rfl ?_
              refine gf_X11_88 rfl dX11_book_158 ?_
              refine cl_X11_134 rfl (by decide) dX11_book_161 (Nat.le_of_ble_eq_true rfl) (MCv_go q (fun h99 q => ?_))
              refine m_aload_n dX11_book_164 rfl ?_
              refine gf_X11_107 rfl dX11_book_165 ?_
              refine m_if_eq 177 dX11_book_168 (by decide) (fun c100 => ?_) (fun c100 => ?_)
              · replace q := q.1 c100
                refine m_iconst (v := 0) dX11_book_177 (by decide) ?_
                refine m_istore_n (lv' := [.ref 11, .int l1, .int 0]) dX11_book_178 (Nat.le_of_ble_eq_true rfl) rfl rfl ?_
                exact q
              · replace q := q.2 c100
                refine m_aload_n dX11_book_171 rfl ?_
                refine m_iconst (v := 4) dX11_book_172 (by decide) ?_
                refine cl_X11_177 rfl (by decide) dX11_book_173 (Nat.le_of_ble_eq_true rfl) (MCi_go q (fun r102 h101 q => ?_))
                exact m_iret dX11_book_176 rfl q
            · replace q := q.2 c98
              refine m_aload_n dX11_book_144 rfl ?_
              refine gf_X11_23 rfl dX11_book_145 ?_
              refine m_bipush (v := 50) dX11_book_148 (by decide) ?_
              refine m_iaload dX11_book_150 rfl (by decide) (by unfold vp_in; decide) ?_
              refine m_if_ne 164 dX11_book_151 (by decide) (fun c103 => ?_) (fun c103 => ?_)
              · replace q := q.1 c103
                refine m_aload_n dX11_book_164 rfl ?_
                refine gf_X11_107 rfl dX11_book_165 ?_
                refine m_if_eq 177 dX11_book_168 (by decide) (fun c104 => ?_) (fun c104 => ?_)
                · replace q := q.1 c104
                  refine m_iconst (v := 0) dX11_book_177 (by decide) ?_
                  refine m_istore_n (lv' := [.ref 11, .int l1, .int 0]) dX11_book_178 (Nat.le_of_ble_eq_true rfl) rfl rfl ?_
                  exact q
                · replace q := q.2 c104
                  refine m_aload_n dX11_book_171 rfl ?_
                  refine m_iconst (v := 4) dX11_book_172 (by decide) ?_
                  refine cl_X11_177 rfl (by decide) dX11_book_173 (Nat.le_of_ble_eq_true rfl) (MCi_go q (fun r106 h105 q => ?_))
                  exact m_iret dX11_book_176 rfl q
              · replace q := q.2 c103
                refine m_aload_n dX11_book_154 rfl ?_
                refine m_bipush (v := 6) dX11_book_155 (by decide) ?_
                refine m_aload_n dX11_book_157 rfl ?_
                refine gf_X11_88 rfl dX11_book_158 ?_
                refine cl_X11_134 rfl (by decide) dX11_book_161 (Nat.le_of_ble_eq_true rfl) (MCv_go q (fun h107 q => ?_))
                refine m_aload_n dX11_book_164 rfl ?_
                refine gf_X11_107 rfl dX11_book_165 ?_
                refine m_if_eq 177 dX11_book_168 (by decide) (fun c108 => ?_) (fun c108 => ?_)
                · replace q := q.1 c108
                  refine m_iconst (v := 0) dX11_book_177 (by decide) ?_
                  refine m_istore_n (lv' := [.ref 11, .int l1, .int 0]) dX11_book_178 (Nat.le_of_ble_eq_true rfl) rfl rfl ?_
                  exact q
                · replace q := q.2 c108
                  refine m_aload_n dX11_book_171 rfl ?_
                  refine m_iconst (v := 4) dX11_book_172 (by decide) ?_
                  refine cl_X11_177 rfl (by decide) dX11_book_173 (Nat.le_of_ble_eq_true rfl) (MCi_go q (fun r110 h109 q => ?_))
                  exact m_iret dX11_book_176 rfl q
    · replace q := q.2 c56
      refine m_aload_n dX11_book_93 rfl ?_
      refine cl_X11_128 rfl (by decide) dX11_book_94 (Nat.le_of_ble_eq_true rfl) (MCv_go q (fun h111 q => ?_))
      refine m_aload_n dX11_book_97 rfl ?_
      refine cl_X11_180 rfl (by decide) dX11_book_98 (Nat.le_of_ble_eq_true rfl) (MCv_go q (fun h112 q => ?_))
      refine m_goto 77 dX11_book_101 (by decide) ?_
      exact q
set_option maxRecDepth 100000 in
theorem r_X11_book_179 {g : gT} {h : mh_T} {P : Int32 → mh_T → Prop} (l1 : Int32) (l2 : Int32) (q : (346 ≤ l2 → MCv g yX11_noCoins uX11_noCoins [.ref 11] (wI h 11 14 1) (fun h2 => P (mI (wI (wI (wI h2 11 24 0) 11 25 0) 11 26 0) 45 (Int32.toNatClampNeg 50)) (wI (wI (wI h2 11 24 0) 11 25 0) 11 26 0))) ∧ (¬ 346 ≤ l2 → (vp_in l2 346) ∧ ((vp_in l2 346) ∧ (ME g uX11_book 179 [.ref 11, .int l1, .int (l2 + 1)] [] (wI h 45 l2.toNatClampNeg (mI h 46 l2.toNatClampNeg)) (qI P))))) : ME g uX11_book 179 [.ref 11, .int l1, .int l2] [] h (qI P) := by
  refine m_iload_n dX11_book_179 rfl ?_
  refine m_sipush (v := 346) dX11_book_180 (by decide) ?_
  refine m_icmp_ge 204 dX11_book_183 (by decide) (fun c1 => ?_) (fun c1 => ?_)
  · replace q := q.1 c1
    refine m_aload_n dX11_book_204 rfl ?_
    refine m_iconst (v := 1) dX11_book_205 (by decide) ?_
    refine pf_X11_183 rfl dX11_book_206 (by decide) ?_
    refine m_aload_n dX11_book_209 rfl ?_
    refine cl_X11_186 rfl (by decide) dX11_book_210 (Nat.le_of_ble_eq_true rfl) (MCv_go q (fun h2 q => ?_))
    refine m_aload_n dX11_book_213 rfl ?_
    refine m_iconst (v := 0) dX11_book_214 (by decide) ?_
    refine pf_X11_189 rfl dX11_book_215 ?_
    refine m_aload_n dX11_book_218 rfl ?_
    refine m_iconst (v := 0) dX11_book_219 (by decide) ?_
    refine pf_X11_192 rfl dX11_book_220 ?_
    refine m_aload_n dX11_book_223 rfl ?_
    refine m_iconst (v := 0) dX11_book_224 (by decide) ?_
    refine pf_X11_195 rfl dX11_book_225 ?_
    refine m_aload_n dX11_book_228 rfl ?_
    refine gf_X11_20 rfl dX11_book_229 ?_
    refine m_bipush (v := 50) dX11_book_232 (by decide) ?_
    refine m_iaload dX11_book_234 rfl (by decide) (by unfold vp_in; decide) ?_
    exact m_iret dX11_book_235 rfl q
  · replace q := q.2 c1
    refine m_aload_n dX11_book_186 rfl ?_
    refine gf_X11_20 rfl dX11_book_187 ?_
    refine m_iload_n dX11_book_190 rfl ?_
    refine m_aload_n dX11_book_191 rfl ?_
    refine gf_X11_23 rfl dX11_book_192 ?_
    refine m_iload_n dX11_book_195 rfl ?_
    obtain ⟨b3, q⟩ := q
    refine m_iaload dX11_book_196 rfl (by decide) b3 ?_
    obtain ⟨b4, q⟩ := q
    refine m_iastore dX11_book_197 rfl (by decide) b4 ?_
    refine m_iinc (v := (l2 + 1)) (lv' := [.ref 11, .int l1, .int (l2 + 1)]) dX11_book_198 (Nat.le_of_ble_eq_true rfl) rfl (congrArg (fun z => l2 + z) (by decide : Int32.ofInt 1 = 1)) rfl rfl ?_
    refine m_goto 179 dX11_book_201 (by decide) ?_
    exact q
