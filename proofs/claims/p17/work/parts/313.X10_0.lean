set_option maxRecDepth 100000 in
theorem e_X10_feed {g : gT} {h : mh_T} {P : Int32 → mh_T → Prop} (l1 : Int32) (l2 : Int32) (l3 : Int32) (l4 : Int32) (l5 : Int32) (q : (((mI h 0 10) + 20) ≤ 900 → MCv g yX10_put uX10_put [.ref 0, .int l1] h (fun h2 => MCv g yX10_put uX10_put [.ref 0, .int l2] h2 (fun h3 => MCv g yX10_put uX10_put [.ref 0, .int l3] h3 (fun h4 => MCv g yX10_put uX10_put [.ref 0, .int l4] h4 (fun h5 => MCv g yX10_put uX10_put [.ref 0, .int l5] h5 (fun h6 => P (mI h6 0 10) h6)))))) ∧ (¬ ((mI h 0 10) + 20) ≤ 900 → P (-1) h)) : MCi g yX10_feed uX10_feed [.ref 0, .int l1, .int l2, .int l3, .int l4, .int l5] h P := by
  refine m_enter (by decide) rfl (Nat.le_of_ble_eq_true rfl) (lv := [.ref 0, .int l1, .int l2, .int l3, .int l4, .int l5]) rfl ?_
  refine m_aload_n dX10_feed_0 rfl ?_
  refine gf_X10_82 rfl dX10_feed_1 ?_
  refine m_bipush (v := 20) dX10_feed_4 (by decide) ?_
  refine m_iadd dX10_feed_6 ?_
  refine m_sipush (v := 900) dX10_feed_7 (by decide) ?_
  refine m_icmp_le 15 dX10_feed_10 (by decide) (fun c1 => ?_) (fun c1 => ?_)
  · replace q := q.1 c1
    refine m_aload_n dX10_feed_15 rfl ?_
    refine m_iload_n dX10_feed_16 rfl ?_
    refine cl_X10_86 rfl (by decide) dX10_feed_17 (Nat.le_of_ble_eq_true rfl) (MCv_go q (fun h2 q => ?_))
    refine m_aload_n dX10_feed_20 rfl ?_
    refine m_iload_n dX10_feed_21 rfl ?_
    refine cl_X10_86 rfl (by decide) dX10_feed_22 (Nat.le_of_ble_eq_true rfl) (MCv_go q (fun h3 q => ?_))
    refine m_aload_n dX10_feed_25 rfl ?_
    refine m_iload_n dX10_feed_26 rfl ?_
    refine cl_X10_86 rfl (by decide) dX10_feed_27 (Nat.le_of_ble_eq_true rfl) (MCv_go q (fun h4 q => ?_))
    refine m_aload_n dX10_feed_30 rfl ?_
    refine m_iload dX10_feed_31 rfl ?_
    refine cl_X10_86 rfl (by decide) dX10_feed_33 (Nat.le_of_ble_eq_true rfl) (MCv_go q (fun h5 q => ?_))
    refine m_aload_n dX10_feed_36 rfl ?_
    refine m_iload dX10_feed_37 rfl ?_
    refine cl_X10_86 rfl (by decide) dX10_feed_39 (Nat.le_of_ble_eq_true rfl) (MCv_go q (fun h6 q => ?_))
    refine m_aload_n dX10_feed_42 rfl ?_
    refine gf_X10_82 rfl dX10_feed_43 ?_
    exact m_iret dX10_feed_46 rfl q
  · replace q := q.2 c1
    refine m_iconst (v := (-1)) dX10_feed_13 (by decide) ?_
    exact m_iret dX10_feed_14 rfl q
set_option maxRecDepth 100000 in
theorem e_X10_book {g : gT} {h : mh_T} {P : Int32 → mh_T → Prop} (l1 : Int32) (q : (l1 < 0 → MCi g yX10_refused uX10_refused [.ref 0, .int 2] h (fun r3 h2 => P r3 h2)) ∧ (¬ l1 < 0 → (l1 ≤ (mI h 0 10) → MCv g yX6_read uX6_read [.ref 1, .int l1] (wI h 0 10 0) (fun h5 => ((mI (wI h5 0 12 (mI h5 1 1)) 0 12) = 0 → MCv g yX8_open uX8_open [.ref 3, .ref 2] (wI h5 0 12 (mI h5 1 1)) (fun h7 => MCv g yX5_open uX5_open [.ref 7, .ref 2] h7 (fun h8 => MCv g yX3_open uX3_open [.ref 8, .ref 2] h8 (fun h9 => MCv g yX9_open uX9_open [.ref 9, .ref 2] h9 (fun h10 => MCv g yX4_open uX4_open [.ref 10] h10 (fun h11 => MCi g yX10_told uX10_told [.ref 0, .int (mI h11 3 1)] h11 (fun r13 h12 => P r13 h12))))))) ∧ (¬ (mI (wI h5 0 12 (mI h5 1 1)) 0 12) = 0 → MCi g yX10_refused uX10_refused [.ref 0, .int 4] (wI (wI h5 0 12 (mI h5 1 1)) 0 13 (mI (wI h5 0 12 (mI h5 1 1)) 1 2)) (fun r15 h14 => P r15 h14)))) ∧ (¬ l1 ≤ (mI h 0 10) → MCi g yX10_refused uX10_refused [.ref 0, .int 2] h (fun r17 h16 => P r17 h16)))) : MCi g yX10_book uX10_book [.ref 0, .int l1] h P := by
  refine m_enter (by decide) rfl (Nat.le_of_ble_eq_true rfl) (lv := [.ref 0, .int l1]) rfl ?_
  refine m_iload_n dX10_book_0 rfl ?_
  refine m_if_lt 12 dX10_book_1 (by decide) (fun c1 => ?_) (fun c1 => ?_)
  · replace q := q.1 c1
    refine m_aload_n dX10_book_12 rfl ?_
    refine m_iconst (v := 2) dX10_book_13 (by decide) ?_
    refine cl_X10_90 rfl (by decide) dX10_book_14 (Nat.le_of_ble_eq_true rfl) (MCi_go q (fun r3 h2 q => ?_))
    exact m_iret dX10_book_17 rfl q
  · replace q := q.2 c1
    refine m_iload_n dX10_book_4 rfl ?_
    refine m_aload_n dX10_book_5 rfl ?_
    refine gf_X10_82 rfl dX10_book_6 ?_
    refine m_icmp_le 18 dX10_book_9 (by decide) (fun c4 => ?_) (fun c4 => ?_)
    · replace q := q.1 c4
      refine m_aload_n dX10_book_18 rfl ?_
      refine m_iconst (v := 0) dX10_book_19 (by decide) ?_
      refine pf_X10_82 rfl dX10_book_20 ?_
      refine m_aload_n dX10_book_23 rfl ?_
      refine gf_X10_18 rfl dX10_book_24 ?_
      refine m_iload_n dX10_book_27 rfl ?_
      refine cl_X10_94 rfl (by decide) dX10_book_28 (Nat.le_of_ble_eq_true rfl) (MCv_go q (fun h5 q => ?_))
      refine m_aload_n dX10_book_31 rfl ?_
      refine m_aload_n dX10_book_32 rfl ?_
      refine gf_X10_18 rfl dX10_book_33 ?_
      refine gf_X10_97 rfl dX10_book_36 ?_
      refine pf_X10_100 rfl dX10_book_39 ?_
      refine m_aload_n dX10_book_42 rfl ?_
      refine gf_X10_100 rfl dX10_book_43 ?_
      refine m_if_eq 66 dX10_book_46 (by decide) (fun c6 => ?_) (fun c6 => ?_)
      · replace q := q.1 c6
        refine m_aload_n dX10_book_66 rfl ?_
        refine gf_X10_25 rfl dX10_book_67 ?_
        refine m_aload_n dX10_book_70 rfl ?_
        refine gf_X10_18 rfl dX10_book_71 ?_
        refine gf_X10_109 rfl dX10_book_74 ?_
        refine cl_X10_113 rfl (by decide) dX10_book_77 (Nat.le_of_ble_eq_true rfl) (MCv_go q (fun h7 q => ?_))
        refine m_aload_n dX10_book_80 rfl ?_
        refine gf_X10_57 rfl dX10_book_81 ?_
        refine m_aload_n dX10_book_84 rfl ?_
        refine gf_X10_18 rfl dX10_book_85 ?_
        refine gf_X10_109 rfl dX10_book_88 ?_
        refine cl_X10_117 rfl (by decide) dX10_book_91 (Nat.le_of_ble_eq_true rfl) (MCv_go q (fun h8 q => ?_))
        refine m_aload_n dX10_book_94 rfl ?_
        refine gf_X10_64 rfl dX10_book_95 ?_
        refine m_aload_n dX10_book_98 rfl ?_
        refine gf_X10_18 rfl dX10_book_99 ?_
        refine gf_X10_109 rfl dX10_book_102 ?_
        refine cl_X10_118 rfl (by decide) dX10_book_105 (Nat.le_of_ble_eq_true rfl) (MCv_go q (fun h9 q => ?_))
        refine m_aload_n dX10_book_108 rfl ?_
        refine gf_X10_71 rfl dX10_book_109 ?_
        refine m_aload_n dX10_book_112 rfl ?_
        refine gf_X10_18 rfl dX10_book_113 ?_
        refine gf_X10_109 rfl dX10_book_116 ?_
        refine cl_X10_119 rfl (by decide) dX10_book_119 (Nat.le_of_ble_eq_true rfl) (MCv_go q (fun h10 q => ?_))
        refine m_aload_n dX10_book_122 rfl ?_
        refine gf_X10_78 rfl dX10_book_123 ?_
        refine cl_X10_120 rfl (by decide) dX10_book_126 (Nat.le_of_ble_eq_true rfl) (MCv_go q (fun h11 q => ?_))
        refine m_aload_n dX10_book_129 rfl ?_
        refine m_aload_n dX10_book_130 rfl ?_
        refine gf_X10_25 rfl dX10_book_131 ?_
        refine gf_X10_122 rfl dX10_book_134 ?_
        refine cl_X10_125 rfl (by decide) dX10_book_137 (Nat.le_of_ble_eq_true rfl) (MCi_go q (fun r13 h12 q => ?_))
        exact m_iret dX10_book_140 rfl q
      · replace q := q.2 c6
        refine m_aload_n dX10_book_49 rfl ?_
        refine m_aload_n dX10_book_50 rfl ?_
        refine gf_X10_18 rfl dX10_book_51 ?_
        refine gf_X10_103 rfl dX10_book_54 ?_
        refine pf_X10_106 rfl dX10_book_57 ?_
        refine m_aload_n dX10_book_60 rfl ?_
        refine m_iconst (v := 4) dX10_book_61 (by decide) ?_
        refine cl_X10_90 rfl (by decide) dX10_book_62 (Nat.le_of_ble_eq_true rfl) (MCi_go q (fun r15 h14 q => ?_))
        exact m_iret dX10_book_65 rfl q
    · replace q := q.2 c4
      refine m_aload_n dX10_book_12 rfl ?_
      refine m_iconst (v := 2) dX10_book_13 (by decide) ?_
      refine cl_X10_90 rfl (by decide) dX10_book_14 (Nat.le_of_ble_eq_true rfl) (MCi_go q (fun r17 h16 q => ?_))
      exact m_iret dX10_book_17 rfl q
set_option maxRecDepth 100000 in
theorem e_X10_fault {g : gT} {h : mh_T} {P : Int32 → mh_T → Prop}  (q : P (mI h 0 12) h) : MCi g yX10_fault uX10_fault [.ref 0] h P := by
  refine m_enter (by decide) rfl (Nat.le_of_ble_eq_true rfl) (lv := [.ref 0]) rfl ?_
  refine m_aload_n dX10_fault_0 rfl ?_
  refine gf_X10_100 rfl dX10_fault_1 ?_
  exact m_iret dX10_fault_4 rfl q
set_option maxRecDepth 100000 in
theorem e_X10_where {g : gT} {h : mh_T} {P : Int32 → mh_T → Prop}  (q : (¬ (mI h 0 11) = 4 → P (-1) h) ∧ ((mI h 0 11) = 4 → P (mI h 0 13) h)) : MCi g yX10_where uX10_where [.ref 0] h P := by
  refine m_enter (by decide) rfl (Nat.le_of_ble_eq_true rfl) (lv := [.ref 0]) rfl ?_
  refine m_aload_n dX10_where_0 rfl ?_
  refine gf_X10_128 rfl dX10_where_1 ?_
  refine m_iconst (v := 4) dX10_where_4 (by decide) ?_
  refine m_icmp_ne 15 dX10_where_5 (by decide) (fun c1 => ?_) (fun c1 => ?_)
  · replace q := q.1 c1
    refine m_iconst (v := (-1)) dX10_where_15 (by decide) ?_
    exact m_iret dX10_where_16 rfl q
  · replace q := q.2 c1
    refine m_aload_n dX10_where_8 rfl ?_
    refine gf_X10_106 rfl dX10_where_9 ?_
    refine m_goto 16 dX10_where_12 (by decide) ?_
    exact m_iret dX10_where_16 rfl q
set_option maxRecDepth 100000 in
theorem e_X10_share {g : gT} {h : mh_T} {P : Int32 → mh_T → Prop} (l1 : Int32) (q : MCi g yX10_noBook uX10_noBook [.ref 0] h (fun r2 h1 => (r2 = 0 → MCv g yX0_findShare uX0_findShare [.ref 6] h1 (fun h4 => MCi g yX2_part uX2_part [.ref 5, .int l1] h4 (fun r6 h5 => MCi g yX10_told uX10_told [.ref 0, .int r6] h5 (fun r8 h7 => P r8 h7)))) ∧ (¬ r2 = 0 → MCi g yX10_refused uX10_refused [.ref 0, .int 1] h1 (fun r10 h9 => P r10 h9)))) : MCi g yX10_share uX10_share [.ref 0, .int l1] h P := by
  refine m_enter (by decide) rfl (Nat.le_of_ble_eq_true rfl) (lv := [.ref 0, .int l1]) rfl ?_
  refine m_aload_n dX10_share_0 rfl ?_
  refine cl_X10_131 rfl (by decide) dX10_share_1 (Nat.le_of_ble_eq_true rfl) (MCi_go q (fun r2 h1 q => ?_))
  refine m_if_eq 13 dX10_share_4 (by decide) (fun c3 => ?_) (fun c3 => ?_)
  · replace q := q.1 c3
    refine m_aload_n dX10_share_13 rfl ?_
    refine gf_X10_50 rfl dX10_share_14 ?_
    refine cl_X10_135 rfl (by decide) dX10_share_17 (Nat.le_of_ble_eq_true rfl) (MCv_go q (fun h4 q => ?_))
    refine m_aload_n dX10_share_20 rfl ?_
    refine m_aload_n dX10_share_21 rfl ?_
    refine gf_X10_41 rfl dX10_share_22 ?_
    refine m_iload_n dX10_share_25 rfl ?_
    refine cl_X10_138 rfl (by decide) dX10_share_26 (Nat.le_of_ble_eq_true rfl) (MCi_go q (fun r6 h5 q => ?_))
    refine cl_X10_125 rfl (by decide) dX10_share_29 (Nat.le_of_ble_eq_true rfl) (MCi_go q (fun r8 h7 q => ?_))
    exact m_iret dX10_share_32 rfl q
  · replace q := q.2 c3
    refine m_aload_n dX10_share_7 rfl ?_
    refine m_iconst (v := 1) dX10_share_8 (by decide) ?_
    refine cl_X10_90 rfl (by decide) dX10_share_9 (Nat.le_of_ble_eq_true rfl) (MCi_go q (fun r10 h9 q => ?_))
    exact m_iret dX10_share_12 rfl q
set_option maxRecDepth 100000 in
theorem e_X10_together {g : gT} {h : mh_T} {P : Int32 → mh_T → Prop} (l1 : Int32) (l2 : Int32) (l3 : Int32) (l4 : Int32) (l5 : Int32) (l6 : Int32) (q : MCi g yX8_hasLook uX8_hasLook [.ref 3, .int l1] h (fun r2 h1 => (r2 = 0 → MCi g yX10_refused uX10_refused [.ref 0, .int 1] h1 (fun r5 h4 => P r5 h4)) ∧ (¬ r2 = 0 → MCi g yX8_hasLook uX8_hasLook [.ref 3, .int l3] h1 (fun r7 h6 => (r7 = 0 → MCi g yX10_refused uX10_refused [.ref 0, .int 1] h6 (fun r10 h9 => P r10 h9)) ∧ (¬ r7 = 0 → (l1 = l3 → MCi g yX10_refused uX10_refused [.ref 0, .int 1] h6 (fun r13 h12 => P r13 h12)) ∧ (¬ l1 = l3 → MCi g yX10_isBit uX10_isBit [.int l2] h6 (fun r15 h14 => (r15 = 0 → MCi g yX10_refused uX10_refused [.ref 0, .int 1] h14 (fun r18 h17 => P r18 h17)) ∧ (¬ r15 = 0 → MCi g yX10_isBit uX10_isBit [.int l4] h14 (fun r20 h19 => (¬ r20 = 0 → MCi g yX0_isMixed uX0_isMixed [.ref 6] h19 (fun r23 h22 => (¬ r23 = 0 → MCv g yX0_findTogether uX0_findTogether [.ref 6, .int ((1 <<< (l1 &&& 31)) ||| (1 <<< (l3 &&& 31))), .int ((l2 <<< (l1 &&& 31)) ||| (l4 <<< (l3 &&& 31))), .int l5] h22 (fun h25 => MCi g yX2_part uX2_part [.ref 5, .int l6] h25 (fun r27 h26 => MCi g yX10_told uX10_told [.ref 0, .int r27] h26 (fun r29 h28 => P r29 h28)))) ∧ (r23 = 0 → MCi g yX10_refused uX10_refused [.ref 0, .int 6] h22 (fun r31 h30 => P r31 h30)))) ∧ (r20 = 0 → MCi g yX10_refused uX10_refused [.ref 0, .int 1] h19 (fun r33 h32 => P r33 h32))))))))))) : MCi g yX10_together uX10_together [.ref 0, .int l1, .int l2, .int l3, .int l4, .int l5, .int l6] h P := by
  refine m_enter (by decide) rfl (Nat.le_of_ble_eq_true rfl) (lv := [.ref 0, .int l1, .int l2, .int l3, .int l4, .int l5, .int l6]) rfl ?_
  refine m_aload_n dX10_together_0 rfl ?_
  refine gf_X10_25 rfl dX10_together_1 ?_
  refine m_iload_n dX10_together_4 rfl ?_
  refine cl_X10_142 rfl (by decide) dX10_together_5 (Nat.le_of_ble_eq_true rfl) (MCi_go q (fun r2 h1 q => ?_))
  refine m_if_eq 42 dX10_together_8 (by decide) (fun c3 => ?_) (fun c3 => ?_)
  · replace q := q.1 c3
    refine m_aload_n dX10_together_42 rfl ?_
    refine m_iconst (v := 1) dX10_together_43 (by decide) ?_
    refine cl_X10_90 rfl (by decide) dX10_together_44 (Nat.le_of_ble_eq_true rfl) (MCi_go q (fun r5 h4 q => ?_))
    exact m_iret dX10_together_47 rfl q
  · replace q := q.2 c3
    refine m_aload_n dX10_together_11 rfl ?_
    refine gf_X10_25 rfl dX10_together_12 ?_
    refine m_iload_n dX10_together_15 rfl ?_
    refine cl_X10_142 rfl (by decide) dX10_together_16 (Nat.le_of_ble_eq_true rfl) (MCi_go q (fun r7 h6 q => ?_))
    refine m_if_eq 42 dX10_together_19 (by decide) (fun c8 => ?_) (fun c8 => ?_)
    · replace q := q.1 c8
      refine m_aload_n dX10_together_42 rfl ?_
      refine m_iconst (v := 1) dX10_together_43 (by decide) ?_
      refine cl_X10_90 rfl (by decide) dX10_together_44 (Nat.le_of_ble_eq_true rfl) (MCi_go q (fun r10 h9 q => ?_))
      exact m_iret dX10_together_47 rfl q
    · replace q := q.2 c8
      refine m_iload_n dX10_together_22 rfl ?_
      refine m_iload_n dX10_together_23 rfl ?_
      refine m_icmp_eq 42 dX10_together_24 (by decide) (fun c11 => ?_) (fun c11 => ?_)
      · replace q := q.1 c11
        refine m_aload_n dX10_together_42 rfl ?_
        refine m_iconst (v := 1) dX10_together_43 (by decide) ?_
        refine cl_X10_90 rfl (by decide) dX10_together_44 (Nat.le_of_ble_eq_true rfl) (MCi_go q (fun r13 h12 q => ?_))
        exact m_iret dX10_together_47 rfl q
      · replace q := q.2 c11
        refine m_iload_n dX10_together_27 rfl ?_
        refine cl_X10_146 rfl (by decide) dX10_together_28 (Nat.le_of_ble_eq_true rfl) (MCi_go q (fun r15 h14 q => ?_))
        refine m_if_eq 42 dX10_together_31 (by decide) (fun c16 => ?_) (fun c16 => ?_)
        · replace q := q.1 c16
          refine m_aload_n dX10_together_42 rfl ?_
          refine m_iconst (v := 1) dX10_together_43 (by decide) ?_
          refine cl_X10_90 rfl (by decide) dX10_together_44 (Nat.le_of_ble_eq_true rfl) (MCi_go q (fun r18 h17 q => ?_))
          exact m_iret dX10_together_47 rfl q
        · replace q := q.2 c16
          refine m_iload dX10_together_34 rfl ?_
          refine cl_X10_146 rfl (by decide) dX10_together_36 (Nat.le_of_ble_eq_true rfl) (MCi_go q (fun r20 h19 q => ?_))
          refine m_if_ne 48 dX10_together_39 (by decide) (fun c21 => ?_) (fun c21 => ?_)
          · replace q := q.1 c21
            refine m_aload_n dX10_together_48 rfl ?_
            refine gf_X10_50 rfl dX10_together_49 ?_
            refine cl_X10_149 rfl (by decide) dX10_together_52 (Nat.le_of_ble_eq_true rfl) (MCi_go q (fun r23 h22 q => ?_))
            refine m_if_ne 65 dX10_together_55 (by decide) (fun c24 => ?_) (fun c24 => ?_)
            · replace q := q.1 c24
              refine m_aload_n dX10_together_65 rfl ?_
              refine gf_X10_50 rfl dX10_together_66 ?_
              refine m_iconst (v := 1) dX10_together_69 (by decide) ?_
              refine m_iload_n dX10_together_70 rfl ?_
              refine m_ishl dX10_together_71 ?_
              refine m_iconst (v := 1) dX10_together_72 (by decide) ?_
              refine m_iload_n dX10_together_73 rfl ?_
              refine m_ishl dX10_together_74 ?_
              refine m_ior dX10_together_75 ?_
              refine m_iload_n dX10_together_76 rfl ?_
              refine m_iload_n dX10_together_77 rfl ?_
              refine m_ishl dX10_together_78 ?_
              refine m_iload dX10_together_79 rfl ?_
              refine m_iload_n dX10_together_81 rfl ?_
              refine m_ishl dX10_together_82 ?_
              refine m_ior dX10_together_83 ?_
              refine m_iload dX10_together_84 rfl ?_
              refine cl_X10_152 rfl (by decide) dX10_together_86 (Nat.le_of_ble_eq_true rfl) (MCv_go q (fun h25 q => ?_))
              refine m_aload_n dX10_together_89 rfl ?_
              refine m_aload_n dX10_together_90 rfl ?_
              refine gf_X10_41 rfl dX10_together_91 ?_
              refine m_iload dX10_together_94 rfl ?_
              refine cl_X10_138 rfl (by decide) dX10_together_96 (Nat.le_of_ble_eq_true rfl) (MCi_go q (fun r27 h26 q => ?_))
              refine cl_X10_125 rfl (by decide) dX10_together_99 (Nat.le_of_ble_eq_true rfl) (MCi_go q (fun r29 h28 q => ?_))
              exact m_iret dX10_together_102 rfl q
            · replace q := q.2 c24
              refine m_aload_n dX10_together_58 rfl ?_
              refine m_bipush (v := 6) dX10_together_59 (by decide) ?_
              refine cl_X10_90 rfl (by decide) dX10_together_61 (Nat.le_of_ble_eq_true rfl) (MCi_go q (fun r31 h30 q => ?_))
              exact m_iret dX10_together_64 rfl q
          · replace q := q.2 c21
            refine m_aload_n dX10_together_42 rfl ?_
            refine m_iconst (v := 1) dX10_together_43 (by decide) ?_
            refine cl_X10_90 rfl (by decide) dX10_together_44 (Nat.le_of_ble_eq_true rfl) (MCi_go q (fun r33 h32 q => ?_))
            exact m_iret dX10_together_47 rfl q
set_option maxRecDepth 100000 in
theorem e_X10_extend {g : gT} {h : mh_T} {P : Int32 → mh_T → Prop} (l1 : Int32) (l2 : Int32) (q : MCi g yX8_hasOutcome uX8_hasOutcome [.ref 3, .int l1, .int l2] h (fun r2 h1 => (¬ r2 = 0 → MCi g yX8_extending uX8_extending [.ref 3] h1 (fun r5 h4 => MCi g yX10_told uX10_told [.ref 0, .int (((r5.toUInt32 >>> (((4 * l1) + l2).toUInt32 &&& Int32.toUInt32 31)).toInt32) &&& 1)] h4 (fun r7 h6 => P r7 h6))) ∧ (r2 = 0 → MCi g yX10_refused uX10_refused [.ref 0, .int 1] h1 (fun r9 h8 => P r9 h8)))) : MCi g yX10_extend uX10_extend [.ref 0, .int l1, .int l2] h P := by
  refine m_enter (by decide) rfl (Nat.le_of_ble_eq_true rfl) (lv := [.ref 0, .int l1, .int l2]) rfl ?_
  refine m_aload_n dX10_extend_0 rfl ?_
  refine gf_X10_25 rfl dX10_extend_1 ?_
  refine m_iload_n dX10_extend_4 rfl ?_
  refine m_iload_n dX10_extend_5 rfl ?_
  refine cl_X10_156 rfl (by decide) dX10_extend_6 (Nat.le_of_ble_eq_true rfl) (MCi_go q (fun r2 h1 q => ?_))
  refine m_if_ne 18 dX10_extend_9 (by decide) (fun c3 => ?_) (fun c3 => ?_)
  · replace q := q.1 c3
    refine m_aload_n dX10_extend_18 rfl ?_
    refine m_aload_n dX10_extend_19 rfl ?_
    refine gf_X10_25 rfl dX10_extend_20 ?_
    refine cl_X10_160 rfl (by decide) dX10_extend_23 (Nat.le_of_ble_eq_true rfl) (MCi_go q (fun r5 h4 q => ?_))
    refine m_iconst (v := 4) dX10_extend_26 (by decide) ?_
    refine m_iload_n dX10_extend_27 rfl ?_
    refine m_imul dX10_extend_28 ?_
    refine m_iload_n dX10_extend_29 rfl ?_
    refine m_iadd dX10_extend_30 ?_
    refine m_iushr dX10_extend_31 ?_
    refine m_iconst (v := 1) dX10_extend_32 (by decide) ?_
    refine m_iand dX10_extend_33 ?_
    refine cl_X10_125 rfl (by decide) dX10_extend_34 (Nat.le_of_ble_eq_true rfl) (MCi_go q (fun r7 h6 q => ?_))
    exact m_iret dX10_extend_37 rfl q
  · replace q := q.2 c3
    refine m_aload_n dX10_extend_12 rfl ?_
    refine m_iconst (v := 1) dX10_extend_13 (by decide) ?_
    refine cl_X10_90 rfl (by decide) dX10_extend_14 (Nat.le_of_ble_eq_true rfl) (MCi_go q (fun r9 h8 q => ?_))
    exact m_iret dX10_extend_17 rfl q
set_option maxRecDepth 100000 in
theorem e_X10_level {g : gT} {h : mh_T} {P : Int32 → mh_T → Prop}  (q : MCi g yX10_noBook uX10_noBook [.ref 0] h (fun r2 h1 => (r2 = 0 → MCi g yX0_isMixed uX0_isMixed [.ref 6] h1 (fun r5 h4 => (r5 = 0 → MCi g yX8_possible uX8_possible [.ref 3] h4 (fun r8 h7 => MCi g yX8_extending uX8_extending [.ref 3] h7 (fun r10 h9 => ∀ x11 : Int32, x11 = (r8 &&& r10) → (¬ x11 = r8 → (x11 = 0 → MCi g yX10_told uX10_told [.ref 0, .int 3] h9 (fun r15 h14 => P r15 h14)) ∧ (¬ x11 = 0 → MCi g yX10_told uX10_told [.ref 0, .int 2] h9 (fun r17 h16 => P r17 h16))) ∧ (x11 = r8 → MCi g yX10_told uX10_told [.ref 0, .int 1] h9 (fun r19 h18 => P r19 h18))))) ∧ (¬ r5 = 0 → MCi g yX10_told uX10_told [.ref 0, .int 0] h4 (fun r21 h20 => P r21 h20)))) ∧ (¬ r2 = 0 → MCi g yX10_refused uX10_refused [.ref 0, .int 1] h1 (fun r23 h22 => P r23 h22)))) : MCi g yX10_level uX10_level [.ref 0] h P := by
  refine m_enter (by decide) rfl (Nat.le_of_ble_eq_true rfl) (lv := [.ref 0, .retAddr 0, .retAddr 0]) rfl ?_
  refine m_aload_n dX10_level_0 rfl ?_
  refine cl_X10_131 rfl (by decide) dX10_level_1 (Nat.le_of_ble_eq_true rfl) (MCi_go q (fun r2 h1 q => ?_))
  refine m_if_eq 13 dX10_level_4 (by decide) (fun c3 => ?_) (fun c3 => ?_)
  · replace q := q.1 c3
    refine m_aload_n dX10_level_13 rfl ?_
    refine gf_X10_50 rfl dX10_level_14 ?_
    refine cl_X10_149 rfl (by decide) dX10_level_17 (Nat.le_of_ble_eq_true rfl) (MCi_go q (fun r5 h4 q => ?_))
    refine m_if_eq 29 dX10_level_20 (by decide) (fun c6 => ?_) (fun c6 => ?_)
    · replace q := q.1 c6
      refine m_aload_n dX10_level_29 rfl ?_
      refine gf_X10_25 rfl dX10_level_30 ?_
      refine cl_X10_164 rfl (by decide) dX10_level_33 (Nat.le_of_ble_eq_true rfl) (MCi_go q (fun r8 h7 q => ?_))
      refine m_istore_n (lv' := [.ref 0, .int r8, .retAddr 0]) dX10_level_36 (Nat.le_of_ble_eq_true rfl) rfl rfl ?_
      refine m_iload_n dX10_level_37 rfl ?_
      refine m_aload_n dX10_level_38 rfl ?_
      refine gf_X10_25 rfl dX10_level_39 ?_
      refine cl_X10_160 rfl (by decide) dX10_level_42 (Nat.le_of_ble_eq_true rfl) (MCi_go q (fun r10 h9 q => ?_))
      refine m_iand dX10_level_45 ?_
      obtain ⟨x11, ex11⟩ : ∃ z, z = (r8 &&& r10) := ⟨_, rfl⟩
      rw [← ex11]
      replace q := q x11 ex11
      refine m_istore_n (lv' := [.ref 0, .int r8, .int x11]) dX10_level_46 (Nat.le_of_ble_eq_true rfl) rfl rfl ?_
      refine m_iload_n dX10_level_47 rfl ?_
      refine m_iload_n dX10_level_48 rfl ?_
      refine m_icmp_ne 58 dX10_level_49 (by decide) (fun c12 => ?_) (fun c12 => ?_)
      · replace q := q.1 c12
        refine m_aload_n dX10_level_58 rfl ?_
        refine m_iload_n dX10_level_59 rfl ?_
        refine m_if_eq 67 dX10_level_60 (by decide) (fun c13 => ?_) (fun c13 => ?_)
        · replace q := q.1 c13
          refine m_iconst (v := 3) dX10_level_67 (by decide) ?_
          refine cl_X10_125 rfl (by decide) dX10_level_68 (Nat.le_of_ble_eq_true rfl) (MCi_go q (fun r15 h14 q => ?_))
          exact m_iret dX10_level_71 rfl q
        · replace q := q.2 c13
          refine m_iconst (v := 2) dX10_level_63 (by decide) ?_
          refine m_goto 68 dX10_level_64 (by decide) ?_
          refine cl_X10_125 rfl (by decide) dX10_level_68 (Nat.le_of_ble_eq_true rfl) (MCi_go q (fun r17 h16 q => ?_))
          exact m_iret dX10_level_71 rfl q
      · replace q := q.2 c12
        refine m_aload_n dX10_level_52 rfl ?_
        refine m_iconst (v := 1) dX10_level_53 (by decide) ?_
        refine cl_X10_125 rfl (by decide) dX10_level_54 (Nat.le_of_ble_eq_true rfl) (MCi_go q (fun r19 h18 q => ?_))
        exact m_iret dX10_level_57 rfl q
    · replace q := q.2 c6
      refine m_aload_n dX10_level_23 rfl ?_
      refine m_iconst (v := 0) dX10_level_24 (by decide) ?_
      refine cl_X10_125 rfl (by decide) dX10_level_25 (Nat.le_of_ble_eq_true rfl) (MCi_go q (fun r21 h20 q => ?_))
      exact m_iret dX10_level_28 rfl q
  · replace q := q.2 c3
    refine m_aload_n dX10_level_7 rfl ?_
    refine m_iconst (v := 1) dX10_level_8 (by decide) ?_
    refine cl_X10_90 rfl (by decide) dX10_level_9 (Nat.le_of_ble_eq_true rfl) (MCi_go q (fun r23 h22 q => ?_))
    exact m_iret dX10_level_12 rfl q
set_option maxRecDepth 100000 in
theorem e_X10_hidden {g : gT} {h : mh_T} {P : Int32 → mh_T → Prop}  (q : MCi g yX10_noBook uX10_noBook [.ref 0] h (fun r2 h1 => (r2 = 0 → MCi g yX8_fitting uX8_fitting [.ref 3] h1 (fun r5 h4 => MCi g yX10_told uX10_told [.ref 0, .int r5] h4 (fun r7 h6 => P r7 h6))) ∧ (¬ r2 = 0 → MCi g yX10_refused uX10_refused [.ref 0, .int 1] h1 (fun r9 h8 => P r9 h8)))) : MCi g yX10_hidden uX10_hidden [.ref 0] h P := by
  refine m_enter (by decide) rfl (Nat.le_of_ble_eq_true rfl) (lv := [.ref 0]) rfl ?_
  refine m_aload_n dX10_hidden_0 rfl ?_
  refine cl_X10_131 rfl (by decide) dX10_hidden_1 (Nat.le_of_ble_eq_true rfl) (MCi_go q (fun r2 h1 q => ?_))
  refine m_if_eq 13 dX10_hidden_4 (by decide) (fun c3 => ?_) (fun c3 => ?_)
  · replace q := q.1 c3
    refine m_aload_n dX10_hidden_13 rfl ?_
    refine m_aload_n dX10_hidden_14 rfl ?_
    refine gf_X10_25 rfl dX10_hidden_15 ?_
    refine cl_X10_167 rfl (by decide) dX10_hidden_18 (Nat.le_of_ble_eq_true rfl) (MCi_go q (fun r5 h4 q => ?_))
    refine cl_X10_125 rfl (by decide) dX10_hidden_21 (Nat.le_of_ble_eq_true rfl) (MCi_go q (fun r7 h6 q => ?_))
    exact m_iret dX10_hidden_24 rfl q
  · replace q := q.2 c3
    refine m_aload_n dX10_hidden_7 rfl ?_
    refine m_iconst (v := 1) dX10_hidden_8 (by decide) ?_
    refine cl_X10_90 rfl (by decide) dX10_hidden_9 (Nat.le_of_ble_eq_true rfl) (MCi_go q (fun r9 h8 q => ?_))
    exact m_iret dX10_hidden_12 rfl q
set_option maxRecDepth 100000 in
theorem e_X10_answer {g : gT} {h : mh_T} {P : Int32 → mh_T → Prop} (l1 : Int32) (q : MCi g yX10_noBook uX10_noBook [.ref 0] h (fun r2 h1 => (r2 = 0 → MCi g yX8_fittingAt uX8_fittingAt [.ref 3, .int l1] h1 (fun r5 h4 => (0 ≤ r5 → MCi g yX10_told uX10_told [.ref 0, .int r5] h4 (fun r8 h7 => P r8 h7)) ∧ (¬ 0 ≤ r5 → MCi g yX10_refused uX10_refused [.ref 0, .int 1] h4 (fun r10 h9 => P r10 h9)))) ∧ (¬ r2 = 0 → MCi g yX10_refused uX10_refused [.ref 0, .int 1] h1 (fun r13 h12 => P r13 h12)))) : MCi g yX10_answer uX10_answer [.ref 0, .int l1] h P := by
  refine m_enter (by decide) rfl (Nat.le_of_ble_eq_true rfl) (lv := [.ref 0, .int l1, .retAddr 0]) rfl ?_
  refine m_aload_n dX10_answer_0 rfl ?_
  refine cl_X10_131 rfl (by decide) dX10_answer_1 (Nat.le_of_ble_eq_true rfl) (MCi_go q (fun r2 h1 q => ?_))
  refine m_if_eq 11 dX10_answer_4 (by decide) (fun c3 => ?_) (fun c3 => ?_)
  · replace q := q.1 c3
    refine m_aload_n dX10_answer_11 rfl ?_
    refine gf_X10_25 rfl dX10_answer_12 ?_
    refine m_iload_n dX10_answer_15 rfl ?_
    refine cl_X10_170 rfl (by decide) dX10_answer_16 (Nat.le_of_ble_eq_true rfl) (MCi_go q (fun r5 h4 q => ?_))
    refine m_istore_n (lv' := [.ref 0, .int l1, .int r5]) dX10_answer_19 (Nat.le_of_ble_eq_true rfl) rfl rfl ?_
    refine m_iload_n dX10_answer_20 rfl ?_
    refine m_if_ge 32 dX10_answer_21 (by decide) (fun c6 => ?_) (fun c6 => ?_)
    · replace q := q.1 c6
      refine m_aload_n dX10_answer_32 rfl ?_
      refine m_iload_n dX10_answer_33 rfl ?_
      refine cl_X10_125 rfl (by decide) dX10_answer_34 (Nat.le_of_ble_eq_true rfl) (MCi_go q (fun r8 h7 q => ?_))
      exact m_iret dX10_answer_37 rfl q
    · replace q := q.2 c6
      refine m_aload_n dX10_answer_24 rfl ?_
      refine m_iconst (v := 1) dX10_answer_25 (by decide) ?_
      refine cl_X10_90 rfl (by decide) dX10_answer_26 (Nat.le_of_ble_eq_true rfl) (MCi_go q (fun r10 h9 q => ?_))
      refine m_goto 37 dX10_answer_29 (by decide) ?_
      exact m_iret dX10_answer_37 rfl q
  · replace q := q.2 c3
    refine m_iconst (v := (-1)) dX10_answer_7 (by decide) ?_
    refine m_goto 19 dX10_answer_8 (by decide) ?_
    refine m_istore_n (lv' := [.ref 0, .int l1, .int (-1)]) dX10_answer_19 (Nat.le_of_ble_eq_true rfl) rfl rfl ?_
    refine m_iload_n dX10_answer_20 rfl ?_
    refine m_if_ge 32 dX10_answer_21 (by decide) (fun c11 => absurd c11 (by decide)) (fun c11 => ?_)
    refine m_aload_n dX10_answer_24 rfl ?_
    refine m_iconst (v := 1) dX10_answer_25 (by decide) ?_
    refine cl_X10_90 rfl (by decide) dX10_answer_26 (Nat.le_of_ble_eq_true rfl) (MCi_go q (fun r13 h12 q => ?_))
    refine m_goto 37 dX10_answer_29 (by decide) ?_
    exact m_iret dX10_answer_37 rfl q
set_option maxRecDepth 100000 in
theorem e_X10_disturbed {g : gT} {h : mh_T} {P : Int32 → mh_T → Prop}  (q : MCi g yX10_noBook uX10_noBook [.ref 0] h (fun r2 h1 => (r2 = 0 → MCi g yX8_firstDisturbed uX8_firstDisturbed [.ref 3] h1 (fun r5 h4 => MCi g yX10_told uX10_told [.ref 0, .int r5] h4 (fun r7 h6 => P r7 h6))) ∧ (¬ r2 = 0 → MCi g yX10_refused uX10_refused [.ref 0, .int 1] h1 (fun r9 h8 => P r9 h8)))) : MCi g yX10_disturbed uX10_disturbed [.ref 0] h P := by
  refine m_enter (by decide) rfl (Nat.le_of_ble_eq_true rfl) (lv := [.ref 0]) rfl ?_
  refine m_aload_n dX10_disturbed_0 rfl ?_
  refine cl_X10_131 rfl (by decide) dX10_disturbed_1 (Nat.le_of_ble_eq_true rfl) (MCi_go q (fun r2 h1 q => ?_))
  refine m_if_eq 13 dX10_disturbed_4 (by decide) (fun c3 => ?_) (fun c3 => ?_)
  · replace q := q.1 c3
    refine m_aload_n dX10_disturbed_13 rfl ?_
    refine m_aload_n dX10_disturbed_14 rfl ?_
    refine gf_X10_25 rfl dX10_disturbed_15 ?_
    refine cl_X10_173 rfl (by decide) dX10_disturbed_18 (Nat.le_of_ble_eq_true rfl) (MCi_go q (fun r5 h4 q => ?_))
    refine cl_X10_125 rfl (by decide) dX10_disturbed_21 (Nat.le_of_ble_eq_true rfl) (MCi_go q (fun r7 h6 q => ?_))
    exact m_iret dX10_disturbed_24 rfl q
  · replace q := q.2 c3
    refine m_aload_n dX10_disturbed_7 rfl ?_
    refine m_iconst (v := 1) dX10_disturbed_8 (by decide) ?_
    refine cl_X10_90 rfl (by decide) dX10_disturbed_9 (Nat.le_of_ble_eq_true rfl) (MCi_go q (fun r9 h8 q => ?_))
    exact m_iret dX10_disturbed_12 rfl q
set_option maxRecDepth 100000 in
theorem e_X10_same {g : gT} {h : mh_T} {P : Int32 → mh_T → Prop} (l1 : Int32) (q : MCi g yX8_hasPair uX8_hasPair [.ref 3, .int l1] h (fun r2 h1 => (¬ r2 = 0 → MCi g yX8_alike uX8_alike [.ref 3, .int l1] h1 (fun r5 h4 => MCi g yX10_told uX10_told [.ref 0, .int r5] h4 (fun r7 h6 => P r7 h6))) ∧ (r2 = 0 → P (-1000) (wI h1 0 11 1)))) : MCi g yX10_same uX10_same [.ref 0, .int l1] h P := by
  refine m_enter (by decide) rfl (Nat.le_of_ble_eq_true rfl) (lv := [.ref 0, .int l1]) rfl ?_
  refine m_aload_n dX10_same_0 rfl ?_
  refine gf_X10_25 rfl dX10_same_1 ?_
  refine m_iload_n dX10_same_4 rfl ?_
  refine cl_X10_176 rfl (by decide) dX10_same_5 (Nat.le_of_ble_eq_true rfl) (MCi_go q (fun r2 h1 q => ?_))
  refine m_if_ne 20 dX10_same_8 (by decide) (fun c3 => ?_) (fun c3 => ?_)
  · replace q := q.1 c3
    refine m_aload_n dX10_same_20 rfl ?_
    refine m_aload_n dX10_same_21 rfl ?_
    refine gf_X10_25 rfl dX10_same_22 ?_
    refine m_iload_n dX10_same_25 rfl ?_
    refine cl_X10_179 rfl (by decide) dX10_same_26 (Nat.le_of_ble_eq_true rfl) (MCi_go q (fun r5 h4 q => ?_))
    refine cl_X10_125 rfl (by decide) dX10_same_29 (Nat.le_of_ble_eq_true rfl) (MCi_go q (fun r7 h6 q => ?_))
    exact m_iret dX10_same_32 rfl q
  · replace q := q.2 c3
    refine m_aload_n dX10_same_11 rfl ?_
    refine m_iconst (v := 1) dX10_same_12 (by decide) ?_
    refine pf_X10_128 rfl dX10_same_13 ?_
    refine m_sipush (v := (-1000)) dX10_same_16 (by decide) ?_
    exact m_iret dX10_same_19 rfl q
set_option maxRecDepth 100000 in
theorem e_X10_cycles {g : gT} {h : mh_T} {P : Int32 → mh_T → Prop}  (q : MCi g yX10_noBook uX10_noBook [.ref 0] h (fun r2 h1 => (r2 = 0 → MCi g yX7_number uX7_number [.ref 4] h1 (fun r5 h4 => MCi g yX10_told uX10_told [.ref 0, .int r5] h4 (fun r7 h6 => P r7 h6))) ∧ (¬ r2 = 0 → MCi g yX10_refused uX10_refused [.ref 0, .int 1] h1 (fun r9 h8 => P r9 h8)))) : MCi g yX10_cycles uX10_cycles [.ref 0] h P := by
  refine m_enter (by decide) rfl (Nat.le_of_ble_eq_true rfl) (lv := [.ref 0]) rfl ?_
  refine m_aload_n dX10_cycles_0 rfl ?_
  refine cl_X10_131 rfl (by decide) dX10_cycles_1 (Nat.le_of_ble_eq_true rfl) (MCi_go q (fun r2 h1 q => ?_))
  refine m_if_eq 13 dX10_cycles_4 (by decide) (fun c3 => ?_) (fun c3 => ?_)
  · replace q := q.1 c3
    refine m_aload_n dX10_cycles_13 rfl ?_
    refine m_aload_n dX10_cycles_14 rfl ?_
    refine gf_X10_34 rfl dX10_cycles_15 ?_
    refine cl_X10_182 rfl (by decide) dX10_cycles_18 (Nat.le_of_ble_eq_true rfl) (MCi_go q (fun r5 h4 q => ?_))
    refine cl_X10_125 rfl (by decide) dX10_cycles_21 (Nat.le_of_ble_eq_true rfl) (MCi_go q (fun r7 h6 q => ?_))
    exact m_iret dX10_cycles_24 rfl q
  · replace q := q.2 c3
    refine m_aload_n dX10_cycles_7 rfl ?_
    refine m_iconst (v := 1) dX10_cycles_8 (by decide) ?_
    refine cl_X10_90 rfl (by decide) dX10_cycles_9 (Nat.le_of_ble_eq_true rfl) (MCi_go q (fun r9 h8 q => ?_))
    exact m_iret dX10_cycles_12 rfl q
set_option maxRecDepth 100000 in
theorem e_X10_cycle {g : gT} {h : mh_T} {P : Int32 → mh_T → Prop} (l1 : Int32) (q : MCi g yX10_noBook uX10_noBook [.ref 0] h (fun r2 h1 => (r2 = 0 → MCi g yX7_ringAt uX7_ringAt [.ref 4, .int l1] h1 (fun r5 h4 => (0 ≤ r5 → MCi g yX10_told uX10_told [.ref 0, .int r5] h4 (fun r8 h7 => P r8 h7)) ∧ (¬ 0 ≤ r5 → MCi g yX10_refused uX10_refused [.ref 0, .int 1] h4 (fun r10 h9 => P r10 h9)))) ∧ (¬ r2 = 0 → MCi g yX10_refused uX10_refused [.ref 0, .int 1] h1 (fun r13 h12 => P r13 h12)))) : MCi g yX10_cycle uX10_cycle [.ref 0, .int l1] h P := by
  refine m_enter (by decide) rfl (Nat.le_of_ble_eq_true rfl) (lv := [.ref 0, .int l1, .retAddr 0]) rfl ?_
  refine m_aload_n dX10_cycle_0 rfl ?_
  refine cl_X10_131 rfl (by decide) dX10_cycle_1 (Nat.le_of_ble_eq_true rfl) (MCi_go q (fun r2 h1 q => ?_))
  refine m_if_eq 11 dX10_cycle_4 (by decide) (fun c3 => ?_) (fun c3 => ?_)
  · replace q := q.1 c3
    refine m_aload_n dX10_cycle_11 rfl ?_
    refine gf_X10_34 rfl dX10_cycle_12 ?_
    refine m_iload_n dX10_cycle_15 rfl ?_
    refine cl_X10_185 rfl (by decide) dX10_cycle_16 (Nat.le_of_ble_eq_true rfl) (MCi_go q (fun r5 h4 q => ?_))
    refine m_istore_n (lv' := [.ref 0, .int l1, .int r5]) dX10_cycle_19 (Nat.le_of_ble_eq_true rfl) rfl rfl ?_
    refine m_iload_n dX10_cycle_20 rfl ?_
    refine m_if_ge 32 dX10_cycle_21 (by decide) (fun c6 => ?_) (fun c6 => ?_)
    · replace q := q.1 c6
      refine m_aload_n dX10_cycle_32 rfl ?_
      refine m_iload_n dX10_cycle_33 rfl ?_
      refine cl_X10_125 rfl (by decide) dX10_cycle_34 (Nat.le_of_ble_eq_true rfl) (MCi_go q (fun r8 h7 q => ?_))
      exact m_iret dX10_cycle_37 rfl q
    · replace q := q.2 c6
      refine m_aload_n dX10_cycle_24 rfl ?_
      refine m_iconst (v := 1) dX10_cycle_25 (by decide) ?_
      refine cl_X10_90 rfl (by decide) dX10_cycle_26 (Nat.le_of_ble_eq_true rfl) (MCi_go q (fun r10 h9 q => ?_))
      refine m_goto 37 dX10_cycle_29 (by decide) ?_
      exact m_iret dX10_cycle_37 rfl q
  · replace q := q.2 c3
    refine m_iconst (v := (-1)) dX10_cycle_7 (by decide) ?_
    refine m_goto 19 dX10_cycle_8 (by decide) ?_
    refine m_istore_n (lv' := [.ref 0, .int l1, .int (-1)]) dX10_cycle_19 (Nat.le_of_ble_eq_true rfl) rfl rfl ?_
    refine m_iload_n dX10_cycle_20 rfl ?_
    refine m_if_ge 32 dX10_cycle_21 (by decide) (fun c11 => absurd c11 (by decide)) (fun c11 => ?_)
    refine m_aload_n dX10_cycle_24 rfl ?_
    refine m_iconst (v := 1) dX10_cycle_25 (by decide) ?_
    refine cl_X10_90 rfl (by decide) dX10_cycle_26 (Nat.le_of_ble_eq_true rfl) (MCi_go q (fun r13 h12 q => ?_))
    refine m_goto 37 dX10_cycle_29 (by decide) ?_
    exact m_iret dX10_cycle_37 rfl q
set_option maxRecDepth 100000 in
theorem e_X10_excess {g : gT} {h : mh_T} {P : Int32 → mh_T → Prop} (l1 : Int32) (q : MCi g yX10_noBook uX10_noBook [.ref 0] h (fun r2 h1 => (r2 = 0 → MCi g yX7_isRing uX7_isRing [.ref 4, .int l1] h1 (fun r5 h4 => (¬ r5 = 0 → MCi g yX7_surplus uX7_surplus [.ref 4, .int l1] h4 (fun r8 h7 => MCi g yX10_told uX10_told [.ref 0, .int r8] h7 (fun r10 h9 => P r10 h9))) ∧ (r5 = 0 → P (-1000) (wI h4 0 11 5)))) ∧ (¬ r2 = 0 → P (-1000) (wI h1 0 11 1)))) : MCi g yX10_excess uX10_excess [.ref 0, .int l1] h P := by
  refine m_enter (by decide) rfl (Nat.le_of_ble_eq_true rfl) (lv := [.ref 0, .int l1]) rfl ?_
  refine m_aload_n dX10_excess_0 rfl ?_
  refine cl_X10_131 rfl (by decide) dX10_excess_1 (Nat.le_of_ble_eq_true rfl) (MCi_go q (fun r2 h1 q => ?_))
  refine m_if_eq 16 dX10_excess_4 (by decide) (fun c3 => ?_) (fun c3 => ?_)
  · replace q := q.1 c3
    refine m_aload_n dX10_excess_16 rfl ?_
    refine gf_X10_34 rfl dX10_excess_17 ?_
    refine m_iload_n dX10_excess_20 rfl ?_
    refine cl_X10_188 rfl (by decide) dX10_excess_21 (Nat.le_of_ble_eq_true rfl) (MCi_go q (fun r5 h4 q => ?_))
    refine m_if_ne 36 dX10_excess_24 (by decide) (fun c6 => ?_) (fun c6 => ?_)
    · replace q := q.1 c6
      refine m_aload_n dX10_excess_36 rfl ?_
      refine m_aload_n dX10_excess_37 rfl ?_
      refine gf_X10_34 rfl dX10_excess_38 ?_
      refine m_iload_n dX10_excess_41 rfl ?_
      refine cl_X10_191 rfl (by decide) dX10_excess_42 (Nat.le_of_ble_eq_true rfl) (MCi_go q (fun r8 h7 q => ?_))
      refine cl_X10_125 rfl (by decide) dX10_excess_45 (Nat.le_of_ble_eq_true rfl) (MCi_go q (fun r10 h9 q => ?_))
      exact m_iret dX10_excess_48 rfl q
    · replace q := q.2 c6
      refine m_aload_n dX10_excess_27 rfl ?_
      refine m_iconst (v := 5) dX10_excess_28 (by decide) ?_
      refine pf_X10_128 rfl dX10_excess_29 ?_
      refine m_sipush (v := (-1000)) dX10_excess_32 (by decide) ?_
      exact m_iret dX10_excess_35 rfl q
  · replace q := q.2 c3
    refine m_aload_n dX10_excess_7 rfl ?_
    refine m_iconst (v := 1) dX10_excess_8 (by decide) ?_
    refine pf_X10_128 rfl dX10_excess_9 ?_
    refine m_sipush (v := (-1000)) dX10_excess_12 (by decide) ?_
    exact m_iret dX10_excess_15 rfl q
set_option maxRecDepth 100000 in
theorem e_X10_widest {g : gT} {h : mh_T} {P : Int32 → mh_T → Prop}  (q : MCi g yX10_noBook uX10_noBook [.ref 0] h (fun r2 h1 => (r2 = 0 → MCi g yX7_greatest uX7_greatest [.ref 4] h1 (fun r5 h4 => MCi g yX10_told uX10_told [.ref 0, .int r5] h4 (fun r7 h6 => P r7 h6))) ∧ (¬ r2 = 0 → MCi g yX10_refused uX10_refused [.ref 0, .int 1] h1 (fun r9 h8 => P r9 h8)))) : MCi g yX10_widest uX10_widest [.ref 0] h P := by
  refine m_enter (by decide) rfl (Nat.le_of_ble_eq_true rfl) (lv := [.ref 0]) rfl ?_
  refine m_aload_n dX10_widest_0 rfl ?_
  refine cl_X10_131 rfl (by decide) dX10_widest_1 (Nat.le_of_ble_eq_true rfl) (MCi_go q (fun r2 h1 q => ?_))
  refine m_if_eq 13 dX10_widest_4 (by decide) (fun c3 => ?_) (fun c3 => ?_)
  · replace q := q.1 c3
    refine m_aload_n dX10_widest_13 rfl ?_
    refine m_aload_n dX10_widest_14 rfl ?_
    refine gf_X10_34 rfl dX10_widest_15 ?_
    refine cl_X10_194 rfl (by decide) dX10_widest_18 (Nat.le_of_ble_eq_true rfl) (MCi_go q (fun r5 h4 q => ?_))
    refine cl_X10_125 rfl (by decide) dX10_widest_21 (Nat.le_of_ble_eq_true rfl) (MCi_go q (fun r7 h6 q => ?_))
    exact m_iret dX10_widest_24 rfl q
  · replace q := q.2 c3
    refine m_aload_n dX10_widest_7 rfl ?_
    refine m_iconst (v := 1) dX10_widest_8 (by decide) ?_
    refine cl_X10_90 rfl (by decide) dX10_widest_9 (Nat.le_of_ble_eq_true rfl) (MCi_go q (fun r9 h8 q => ?_))
    exact m_iret dX10_widest_12 rfl q
set_option maxRecDepth 100000 in
theorem e_X10_stake {g : gT} {h : mh_T} {P : Int32 → mh_T → Prop} (l1 : Int32) (l2 : Int32) (l3 : Int32) (q : MCi g yX8_hasOutcome uX8_hasOutcome [.ref 3, .int l1, .int l2] h (fun r2 h1 => (¬ r2 = 0 → (l3 < 0 → MCi g yX10_denied uX10_denied [.ref 0, .int 2] h1 (fun r6 h5 => (r6 = 0 ∨ r6 = 1) ∧ P r6 h5)) ∧ (¬ l3 < 0 → (l3 ≤ 99 → (vp_in ((4 * l1) + l2) 32) ∧ (MCi g yX10_done uX10_done [.ref 0] (wI h1 27 ((4 * l1) + l2).toNatClampNeg l3) (fun r10 h9 => (r10 = 0 ∨ r10 = 1) ∧ P r10 h9))) ∧ (¬ l3 ≤ 99 → MCi g yX10_denied uX10_denied [.ref 0, .int 2] h1 (fun r12 h11 => (r12 = 0 ∨ r12 = 1) ∧ P r12 h11)))) ∧ (r2 = 0 → MCi g yX10_denied uX10_denied [.ref 0, .int 1] h1 (fun r14 h13 => (r14 = 0 ∨ r14 = 1) ∧ P r14 h13)))) : MCi g yX10_stake uX10_stake [.ref 0, .int l1, .int l2, .int l3] h P := by
  refine m_enter (by decide) rfl (Nat.le_of_ble_eq_true rfl) (lv := [.ref 0, .int l1, .int l2, .int l3]) rfl ?_
  refine m_aload_n dX10_stake_0 rfl ?_
  refine gf_X10_25 rfl dX10_stake_1 ?_
  refine m_iload_n dX10_stake_4 rfl ?_
  refine m_iload_n dX10_stake_5 rfl ?_
  refine cl_X10_156 rfl (by decide) dX10_stake_6 (Nat.le_of_ble_eq_true rfl) (MCi_go q (fun r2 h1 q => ?_))
  refine m_if_ne 18 dX10_stake_9 (by decide) (fun c3 => ?_) (fun c3 => ?_)
  · replace q := q.1 c3
    refine m_iload_n dX10_stake_18 rfl ?_
    refine m_if_lt 28 dX10_stake_19 (by decide) (fun c4 => ?_) (fun c4 => ?_)
    · replace q := q.1 c4
      refine m_aload_n dX10_stake_28 rfl ?_
      refine m_iconst (v := 2) dX10_stake_29 (by decide) ?_
      refine cl_X10_197 rfl (by decide) dX10_stake_30 (Nat.le_of_ble_eq_true rfl) (MCi_go q (fun r6 h5 q => ?_))
      exact m_zret dX10_stake_33 rfl q.1 q.2
    · replace q := q.2 c4
      refine m_iload_n dX10_stake_22 rfl ?_
      refine m_bipush (v := 99) dX10_stake_23 (by decide) ?_
      refine m_icmp_le 34 dX10_stake_25 (by decide) (fun c7 => ?_) (fun c7 => ?_)
      · replace q := q.1 c7
        refine m_aload_n dX10_stake_34 rfl ?_
        refine gf_X10_25 rfl dX10_stake_35 ?_
        refine gf_X10_200 rfl dX10_stake_38 ?_
        refine m_iconst (v := 4) dX10_stake_41 (by decide) ?_
        refine m_iload_n dX10_stake_42 rfl ?_
        refine m_imul dX10_stake_43 ?_
        refine m_iload_n dX10_stake_44 rfl ?_
        refine m_iadd dX10_stake_45 ?_
        refine m_iload_n dX10_stake_46 rfl ?_
        obtain ⟨b8, q⟩ := q
        refine m_iastore dX10_stake_47 rfl (by decide) b8 ?_
        refine m_aload_n dX10_stake_48 rfl ?_
        refine cl_X10_203 rfl (by decide) dX10_stake_49 (Nat.le_of_ble_eq_true rfl) (MCi_go q (fun r10 h9 q => ?_))
        exact m_zret dX10_stake_52 rfl q.1 q.2
      · replace q := q.2 c7
        refine m_aload_n dX10_stake_28 rfl ?_
        refine m_iconst (v := 2) dX10_stake_29 (by decide) ?_
        refine cl_X10_197 rfl (by decide) dX10_stake_30 (Nat.le_of_ble_eq_true rfl) (MCi_go q (fun r12 h11 q => ?_))
        exact m_zret dX10_stake_33 rfl q.1 q.2
  · replace q := q.2 c3
    refine m_aload_n dX10_stake_12 rfl ?_
    refine m_iconst (v := 1) dX10_stake_13 (by decide) ?_
    refine cl_X10_197 rfl (by decide) dX10_stake_14 (Nat.le_of_ble_eq_true rfl) (MCi_go q (fun r14 h13 q => ?_))
    exact m_zret dX10_stake_17 rfl q.1 q.2
set_option maxRecDepth 100000 in
theorem e_X10_wins {g : gT} {h : mh_T} {P : Int32 → mh_T → Prop}  (q : MCi g yX10_noBook uX10_noBook [.ref 0] h (fun r2 h1 => (r2 = 0 → MCi g yX8_winnings uX8_winnings [.ref 3] h1 (fun r5 h4 => MCi g yX10_told uX10_told [.ref 0, .int r5] h4 (fun r7 h6 => P r7 h6))) ∧ (¬ r2 = 0 → MCi g yX10_refused uX10_refused [.ref 0, .int 1] h1 (fun r9 h8 => P r9 h8)))) : MCi g yX10_wins uX10_wins [.ref 0] h P := by
  refine m_enter (by decide) rfl (Nat.le_of_ble_eq_true rfl) (lv := [.ref 0]) rfl ?_
  refine m_aload_n dX10_wins_0 rfl ?_
  refine cl_X10_131 rfl (by decide) dX10_wins_1 (Nat.le_of_ble_eq_true rfl) (MCi_go q (fun r2 h1 q => ?_))
  refine m_if_eq 13 dX10_wins_4 (by decide) (fun c3 => ?_) (fun c3 => ?_)
  · replace q := q.1 c3
    refine m_aload_n dX10_wins_13 rfl ?_
    refine m_aload_n dX10_wins_14 rfl ?_
    refine gf_X10_25 rfl dX10_wins_15 ?_
    refine cl_X10_206 rfl (by decide) dX10_wins_18 (Nat.le_of_ble_eq_true rfl) (MCi_go q (fun r5 h4 q => ?_))
    refine cl_X10_125 rfl (by decide) dX10_wins_21 (Nat.le_of_ble_eq_true rfl) (MCi_go q (fun r7 h6 q => ?_))
    exact m_iret dX10_wins_24 rfl q
  · replace q := q.2 c3
    refine m_aload_n dX10_wins_7 rfl ?_
    refine m_iconst (v := 1) dX10_wins_8 (by decide) ?_
    refine cl_X10_90 rfl (by decide) dX10_wins_9 (Nat.le_of_ble_eq_true rfl) (MCi_go q (fun r9 h8 q => ?_))
    exact m_iret dX10_wins_12 rfl q
set_option maxRecDepth 100000 in
theorem e_X10_worst {g : gT} {h : mh_T} {P : Int32 → mh_T → Prop}  (q : MCi g yX10_noBook uX10_noBook [.ref 0] h (fun r2 h1 => (r2 = 0 → MCi g yX8_leastPaid uX8_leastPaid [.ref 3] h1 (fun r5 h4 => MCi g yX8_pay uX8_pay [.ref 3, .int r5] h4 (fun r7 h6 => MCi g yX10_told uX10_told [.ref 0, .int r7] h6 (fun r9 h8 => P r9 h8)))) ∧ (¬ r2 = 0 → MCi g yX10_refused uX10_refused [.ref 0, .int 1] h1 (fun r11 h10 => P r11 h10)))) : MCi g yX10_worst uX10_worst [.ref 0] h P := by
  refine m_enter (by decide) rfl (Nat.le_of_ble_eq_true rfl) (lv := [.ref 0]) rfl ?_
  refine m_aload_n dX10_worst_0 rfl ?_
  refine cl_X10_131 rfl (by decide) dX10_worst_1 (Nat.le_of_ble_eq_true rfl) (MCi_go q (fun r2 h1 q => ?_))
  refine m_if_eq 13 dX10_worst_4 (by decide) (fun c3 => ?_) (fun c3 => ?_)
  · replace q := q.1 c3
    refine m_aload_n dX10_worst_13 rfl ?_
    refine m_aload_n dX10_worst_14 rfl ?_
    refine gf_X10_25 rfl dX10_worst_15 ?_
    refine m_aload_n dX10_worst_18 rfl ?_
    refine gf_X10_25 rfl dX10_worst_19 ?_
    refine cl_X10_209 rfl (by decide) dX10_worst_22 (Nat.le_of_ble_eq_true rfl) (MCi_go q (fun r5 h4 q => ?_))
    refine cl_X10_212 rfl (by decide) dX10_worst_25 (Nat.le_of_ble_eq_true rfl) (MCi_go q (fun r7 h6 q => ?_))
    refine cl_X10_125 rfl (by decide) dX10_worst_28 (Nat.le_of_ble_eq_true rfl) (MCi_go q (fun r9 h8 q => ?_))
    exact m_iret dX10_worst_31 rfl q
  · replace q := q.2 c3
    refine m_aload_n dX10_worst_7 rfl ?_
    refine m_iconst (v := 1) dX10_worst_8 (by decide) ?_
    refine cl_X10_90 rfl (by decide) dX10_worst_9 (Nat.le_of_ble_eq_true rfl) (MCi_go q (fun r11 h10 q => ?_))
    exact m_iret dX10_worst_12 rfl q
set_option maxRecDepth 100000 in
theorem e_X10_worstAt {g : gT} {h : mh_T} {P : Int32 → mh_T → Prop}  (q : MCi g yX10_noBook uX10_noBook [.ref 0] h (fun r2 h1 => (r2 = 0 → MCi g yX8_leastPaid uX8_leastPaid [.ref 3] h1 (fun r5 h4 => MCi g yX10_told uX10_told [.ref 0, .int r5] h4 (fun r7 h6 => P r7 h6))) ∧ (¬ r2 = 0 → MCi g yX10_refused uX10_refused [.ref 0, .int 1] h1 (fun r9 h8 => P r9 h8)))) : MCi g yX10_worstAt uX10_worstAt [.ref 0] h P := by
  refine m_enter (by decide) rfl (Nat.le_of_ble_eq_true rfl) (lv := [.ref 0]) rfl ?_
  refine m_aload_n dX10_worstAt_0 rfl ?_
  refine cl_X10_131 rfl (by decide) dX10_worstAt_1 (Nat.le_of_ble_eq_true rfl) (MCi_go q (fun r2 h1 q => ?_))
  refine m_if_eq 13 dX10_worstAt_4 (by decide) (fun c3 => ?_) (fun c3 => ?_)
  · replace q := q.1 c3
    refine m_aload_n dX10_worstAt_13 rfl ?_
    refine m_aload_n dX10_worstAt_14 rfl ?_
    refine gf_X10_25 rfl dX10_worstAt_15 ?_
    refine cl_X10_209 rfl (by decide) dX10_worstAt_18 (Nat.le_of_ble_eq_true rfl) (MCi_go q (fun r5 h4 q => ?_))
    refine cl_X10_125 rfl (by decide) dX10_worstAt_21 (Nat.le_of_ble_eq_true rfl) (MCi_go q (fun r7 h6 q => ?_))
    exact m_iret dX10_worstAt_24 rfl q
  · replace q := q.2 c3
    refine m_aload_n dX10_worstAt_7 rfl ?_
    refine m_iconst (v := 1) dX10_worstAt_8 (by decide) ?_
    refine cl_X10_90 rfl (by decide) dX10_worstAt_9 (Nat.le_of_ble_eq_true rfl) (MCi_go q (fun r9 h8 q => ?_))
    exact m_iret dX10_worstAt_12 rfl q
set_option maxRecDepth 100000 in
theorem e_X10_bars {g : gT} {h : mh_T} {P : Int32 → mh_T → Prop}  (q : MCi g yX10_noBook uX10_noBook [.ref 0] h (fun r2 h1 => (r2 = 0 → MCi g yX8_winnings uX8_winnings [.ref 3] h1 (fun r5 h4 => MCi g yX8_leastPaid uX8_leastPaid [.ref 3] h4 (fun r7 h6 => MCi g yX8_pay uX8_pay [.ref 3, .int r7] h6 (fun r9 h8 => ((r9 * (mI h8 3 0)) ≤ r5 → MCi g yX10_told uX10_told [.ref 0, .int 0] h8 (fun r12 h11 => P r12 h11)) ∧ (¬ (r9 * (mI h8 3 0)) ≤ r5 → MCi g yX10_told uX10_told [.ref 0, .int 1] h8 (fun r14 h13 => P r14 h13)))))) ∧ (¬ r2 = 0 → MCi g yX10_refused uX10_refused [.ref 0, .int 1] h1 (fun r16 h15 => P r16 h15)))) : MCi g yX10_bars uX10_bars [.ref 0] h P := by
  refine m_enter (by decide) rfl (Nat.le_of_ble_eq_true rfl) (lv := [.ref 0]) rfl ?_
  refine m_aload_n dX10_bars_0 rfl ?_
  refine cl_X10_131 rfl (by decide) dX10_bars_1 (Nat.le_of_ble_eq_true rfl) (MCi_go q (fun r2 h1 q => ?_))
  refine m_if_eq 13 dX10_bars_4 (by decide) (fun c3 => ?_) (fun c3 => ?_)
  · replace q := q.1 c3
    refine m_aload_n dX10_bars_13 rfl ?_
    refine m_aload_n dX10_bars_14 rfl ?_
    refine gf_X10_25 rfl dX10_bars_15 ?_
    refine cl_X10_206 rfl (by decide) dX10_bars_18 (Nat.le_of_ble_eq_true rfl) (MCi_go q (fun r5 h4 q => ?_))
    refine m_aload_n dX10_bars_21 rfl ?_
    refine gf_X10_25 rfl dX10_bars_22 ?_
    refine m_aload_n dX10_bars_25 rfl ?_
    refine gf_X10_25 rfl dX10_bars_26 ?_
    refine cl_X10_209 rfl (by decide) dX10_bars_29 (Nat.le_of_ble_eq_true rfl) (MCi_go q (fun r7 h6 q => ?_))
    refine cl_X10_212 rfl (by decide) dX10_bars_32 (Nat.le_of_ble_eq_true rfl) (MCi_go q (fun r9 h8 q => ?_))
    refine m_aload_n dX10_bars_35 rfl ?_
    refine gf_X10_25 rfl dX10_bars_36 ?_
    refine gf_X10_215 rfl dX10_bars_39 ?_
    refine m_imul dX10_bars_42 ?_
    refine m_icmp_ge 50 dX10_bars_43 (by decide) (fun c10 => ?_) (fun c10 => ?_)
    · replace q := q.1 c10
      refine m_iconst (v := 0) dX10_bars_50 (by decide) ?_
      refine cl_X10_125 rfl (by decide) dX10_bars_51 (Nat.le_of_ble_eq_true rfl) (MCi_go q (fun r12 h11 q => ?_))
      exact m_iret dX10_bars_54 rfl q
    · replace q := q.2 c10
      refine m_iconst (v := 1) dX10_bars_46 (by decide) ?_
      refine m_goto 51 dX10_bars_47 (by decide) ?_
      refine cl_X10_125 rfl (by decide) dX10_bars_51 (Nat.le_of_ble_eq_true rfl) (MCi_go q (fun r14 h13 q => ?_))
      exact m_iret dX10_bars_54 rfl q
  · replace q := q.2 c3
    refine m_aload_n dX10_bars_7 rfl ?_
    refine m_iconst (v := 1) dX10_bars_8 (by decide) ?_
    refine cl_X10_90 rfl (by decide) dX10_bars_9 (Nat.le_of_ble_eq_true rfl) (MCi_go q (fun r16 h15 q => ?_))
    exact m_iret dX10_bars_12 rfl q
set_option maxRecDepth 100000 in
theorem e_X10_fair {g : gT} {h : mh_T} {P : Int32 → mh_T → Prop} (l1 : Int32) (q : MCi g yX10_noBook uX10_noBook [.ref 0] h (fun r2 h1 => (r2 = 0 → MCi g yX8_winnings uX8_winnings [.ref 3] h1 (fun r5 h4 => MCi g yX8_leastPaid uX8_leastPaid [.ref 3] h4 (fun r7 h6 => MCi g yX8_pay uX8_pay [.ref 3, .int r7] h6 (fun r9 h8 => ∀ x10 : Int32, x10 = (r9 * (mI h8 3 0)) → (x10 = 0 → MCv g yX2_set uX2_set [.ref 5, .long 1, .long 1] h8 (fun h12 => MCi g yX2_part uX2_part [.ref 5, .int l1] h12 (fun r14 h13 => MCi g yX10_told uX10_told [.ref 0, .int r14] h13 (fun r16 h15 => P r16 h15)))) ∧ (¬ x10 = 0 → (r5 ≤ x10 → MCv g yX2_set uX2_set [.ref 5, .long (Int32.toInt64 r5), .long (Int32.toInt64 x10)] h8 (fun h18 => MCi g yX2_part uX2_part [.ref 5, .int l1] h18 (fun r20 h19 => MCi g yX10_told uX10_told [.ref 0, .int r20] h19 (fun r22 h21 => P r22 h21)))) ∧ (¬ r5 ≤ x10 → MCv g yX2_set uX2_set [.ref 5, .long 1, .long 1] h8 (fun h23 => MCi g yX2_part uX2_part [.ref 5, .int l1] h23 (fun r25 h24 => MCi g yX10_told uX10_told [.ref 0, .int r25] h24 (fun r27 h26 => P r27 h26))))))))) ∧ (¬ r2 = 0 → MCi g yX10_refused uX10_refused [.ref 0, .int 1] h1 (fun r29 h28 => P r29 h28)))) : MCi g yX10_fair uX10_fair [.ref 0, .int l1] h P := by
  refine m_enter (by decide) rfl (Nat.le_of_ble_eq_true rfl) (lv := [.ref 0, .int l1, .retAddr 0, .retAddr 0]) rfl ?_
  refine m_aload_n dX10_fair_0 rfl ?_
  refine cl_X10_131 rfl (by decide) dX10_fair_1 (Nat.le_of_ble_eq_true rfl) (MCi_go q (fun r2 h1 q => ?_))
  refine m_if_eq 13 dX10_fair_4 (by decide) (fun c3 => ?_) (fun c3 => ?_)
  · replace q := q.1 c3
    refine m_aload_n dX10_fair_13 rfl ?_
    refine gf_X10_25 rfl dX10_fair_14 ?_
    refine cl_X10_206 rfl (by decide) dX10_fair_17 (Nat.le_of_ble_eq_true rfl) (MCi_go q (fun r5 h4 q => ?_))
    refine m_istore_n (lv' := [.ref 0, .int l1, .int r5, .retAddr 0]) dX10_fair_20 (Nat.le_of_ble_eq_true rfl) rfl rfl ?_
    refine m_aload_n dX10_fair_21 rfl ?_
    refine gf_X10_25 rfl dX10_fair_22 ?_
    refine m_aload_n dX10_fair_25 rfl ?_
    refine gf_X10_25 rfl dX10_fair_26 ?_
    refine cl_X10_209 rfl (by decide) dX10_fair_29 (Nat.le_of_ble_eq_true rfl) (MCi_go q (fun r7 h6 q => ?_))
    refine cl_X10_212 rfl (by decide) dX10_fair_32 (Nat.le_of_ble_eq_true rfl) (MCi_go q (fun r9 h8 q => ?_))
    refine m_aload_n dX10_fair_35 rfl ?_
    refine gf_X10_25 rfl dX10_fair_36 ?_
    refine gf_X10_215 rfl dX10_fair_39 ?_
    refine m_imul dX10_fair_42 ?_
    obtain ⟨x10, ex10⟩ : ∃ z, z = (r9 * (mI h8 3 0)) := ⟨_, rfl⟩
    rw [← ex10]
    replace q := q x10 ex10
    refine m_istore_n (lv' := [.ref 0, .int l1, .int r5, .int x10]) dX10_fair_43 (Nat.le_of_ble_eq_true rfl) rfl rfl ?_
    refine m_iload_n dX10_fair_44 rfl ?_
    refine m_if_eq 53 dX10_fair_45 (by decide) (fun c11 => ?_) (fun c11 => ?_)
    · replace q := q.1 c11
      refine m_aload_n dX10_fair_53 rfl ?_
      refine gf_X10_41 rfl dX10_fair_54 ?_
      refine m_lconst (v := 1) dX10_fair_57 (by decide) ?_
      refine m_lconst (v := 1) dX10_fair_58 (by decide) ?_
      refine cl_X10_218 rfl (by decide) dX10_fair_59 (Nat.le_of_ble_eq_true rfl) (MCv_go q (fun h12 q => ?_))
      refine m_goto 76 dX10_fair_62 (by decide) ?_
      refine m_aload_n dX10_fair_76 rfl ?_
      refine m_aload_n dX10_fair_77 rfl ?_
      refine gf_X10_41 rfl dX10_fair_78 ?_
      refine m_iload_n dX10_fair_81 rfl ?_
      refine cl_X10_138 rfl (by decide) dX10_fair_82 (Nat.le_of_ble_eq_true rfl) (MCi_go q (fun r14 h13 q => ?_))
      refine cl_X10_125 rfl (by decide) dX10_fair_85 (Nat.le_of_ble_eq_true rfl) (MCi_go q (fun r16 h15 q => ?_))
      exact m_iret dX10_fair_88 rfl q
    · replace q := q.2 c11
      refine m_iload_n dX10_fair_48 rfl ?_
      refine m_iload_n dX10_fair_49 rfl ?_
      refine m_icmp_le 65 dX10_fair_50 (by decide) (fun c17 => ?_) (fun c17 => ?_)
      · replace q := q.1 c17
        refine m_aload_n dX10_fair_65 rfl ?_
        refine gf_X10_41 rfl dX10_fair_66 ?_
        refine m_iload_n dX10_fair_69 rfl ?_
        refine m_i2l dX10_fair_70 ?_
        refine m_iload_n dX10_fair_71 rfl ?_
        refine m_i2l dX10_fair_72 ?_
        refine cl_X10_218 rfl (by decide) dX10_fair_73 (Nat.le_of_ble_eq_true rfl) (MCv_go q (fun h18 q => ?_))
        refine m_aload_n dX10_fair_76 rfl ?_
        refine m_aload_n dX10_fair_77 rfl ?_
        refine gf_X10_41 rfl dX10_fair_78 ?_
        refine m_iload_n dX10_fair_81 rfl ?_
        refine cl_X10_138 rfl (by decide) dX10_fair_82 (Nat.le_of_ble_eq_true rfl) (MCi_go q (fun r20 h19 q => ?_))
        refine cl_X10_125 rfl (by decide) dX10_fair_85 (Nat.le_of_ble_eq_true rfl) (MCi_go q (fun r22 h21 q => ?_))
        exact m_iret dX10_fair_88 rfl q
      · replace q := q.2 c17
        refine m_aload_n dX10_fair_53 rfl ?_
        refine gf_X10_41 rfl dX10_fair_54 ?_
        refine m_lconst (v := 1) dX10_fair_57 (by decide) ?_
        refine m_lconst (v := 1) dX10_fair_58 (by decide) ?_
        refine cl_X10_218 rfl (by decide) dX10_fair_59 (Nat.le_of_ble_eq_true rfl) (MCv_go q (fun h23 q => ?_))
        refine m_goto 76 dX10_fair_62 (by decide) ?_
        refine m_aload_n dX10_fair_76 rfl ?_
        refine m_aload_n dX10_fair_77 rfl ?_
        refine gf_X10_41 rfl dX10_fair_78 ?_
        refine m_iload_n dX10_fair_81 rfl ?_
        refine cl_X10_138 rfl (by decide) dX10_fair_82 (Nat.le_of_ble_eq_true rfl) (MCi_go q (fun r25 h24 q => ?_))
        refine cl_X10_125 rfl (by decide) dX10_fair_85 (Nat.le_of_ble_eq_true rfl) (MCi_go q (fun r27 h26 q => ?_))
        exact m_iret dX10_fair_88 rfl q
  · replace q := q.2 c3
    refine m_aload_n dX10_fair_7 rfl ?_
    refine m_iconst (v := 1) dX10_fair_8 (by decide) ?_
    refine cl_X10_90 rfl (by decide) dX10_fair_9 (Nat.le_of_ble_eq_true rfl) (MCi_go q (fun r29 h28 q => ?_))
    exact m_iret dX10_fair_12 rfl q
set_option maxRecDepth 100000 in
theorem e_X10_ways {g : gT} {h : mh_T} {P : Int32 → mh_T → Prop}  (q : MCi g yX10_noBook uX10_noBook [.ref 0] h (fun r2 h1 => (r2 = 0 → MCi g yX10_told uX10_told [.ref 0, .int (mI h1 7 2)] h1 (fun r5 h4 => P r5 h4)) ∧ (¬ r2 = 0 → MCi g yX10_refused uX10_refused [.ref 0, .int 1] h1 (fun r7 h6 => P r7 h6)))) : MCi g yX10_ways uX10_ways [.ref 0] h P := by
  refine m_enter (by decide) rfl (Nat.le_of_ble_eq_true rfl) (lv := [.ref 0]) rfl ?_
  refine m_aload_n dX10_ways_0 rfl ?_
  refine cl_X10_131 rfl (by decide) dX10_ways_1 (Nat.le_of_ble_eq_true rfl) (MCi_go q (fun r2 h1 q => ?_))
  refine m_if_eq 13 dX10_ways_4 (by decide) (fun c3 => ?_) (fun c3 => ?_)
  · replace q := q.1 c3
    refine m_aload_n dX10_ways_13 rfl ?_
    refine m_aload_n dX10_ways_14 rfl ?_
    refine gf_X10_57 rfl dX10_ways_15 ?_
    refine gf_X10_222 rfl dX10_ways_18 ?_
    refine cl_X10_125 rfl (by decide) dX10_ways_21 (Nat.le_of_ble_eq_true rfl) (MCi_go q (fun r5 h4 q => ?_))
    exact m_iret dX10_ways_24 rfl q
  · replace q := q.2 c3
    refine m_aload_n dX10_ways_7 rfl ?_
    refine m_iconst (v := 1) dX10_ways_8 (by decide) ?_
    refine cl_X10_90 rfl (by decide) dX10_ways_9 (Nat.le_of_ble_eq_true rfl) (MCi_go q (fun r7 h6 q => ?_))
    exact m_iret dX10_ways_12 rfl q
set_option maxRecDepth 100000 in
theorem e_X10_forced {g : gT} {h : mh_T} {P : Int32 → mh_T → Prop} (l1 : Int32) (q : (l1 < 0 → MCi g yX10_refused uX10_refused [.ref 0, .int 1] h (fun r3 h2 => P r3 h2)) ∧ (¬ l1 < 0 → (l1 < (mI h 7 0) → (¬ (mI h 7 2) = 0 → MCi g yX5_valueOf uX5_valueOf [.ref 7, .int l1] h (fun r7 h6 => MCi g yX10_told uX10_told [.ref 0, .int r7] h6 (fun r9 h8 => P r9 h8))) ∧ ((mI h 7 2) = 0 → MCi g yX10_refused uX10_refused [.ref 0, .int 6] h (fun r11 h10 => P r11 h10))) ∧ (¬ l1 < (mI h 7 0) → MCi g yX10_refused uX10_refused [.ref 0, .int 1] h (fun r13 h12 => P r13 h12)))) : MCi g yX10_forced uX10_forced [.ref 0, .int l1] h P := by
  refine m_enter (by decide) rfl (Nat.le_of_ble_eq_true rfl) (lv := [.ref 0, .int l1]) rfl ?_
  refine m_iload_n dX10_forced_0 rfl ?_
  refine m_if_lt 15 dX10_forced_1 (by decide) (fun c1 => ?_) (fun c1 => ?_)
  · replace q := q.1 c1
    refine m_aload_n dX10_forced_15 rfl ?_
    refine m_iconst (v := 1) dX10_forced_16 (by decide) ?_
    refine cl_X10_90 rfl (by decide) dX10_forced_17 (Nat.le_of_ble_eq_true rfl) (MCi_go q (fun r3 h2 q => ?_))
    exact m_iret dX10_forced_20 rfl q
  · replace q := q.2 c1
    refine m_iload_n dX10_forced_4 rfl ?_
    refine m_aload_n dX10_forced_5 rfl ?_
    refine gf_X10_57 rfl dX10_forced_6 ?_
    refine gf_X10_225 rfl dX10_forced_9 ?_
    refine m_icmp_lt 21 dX10_forced_12 (by decide) (fun c4 => ?_) (fun c4 => ?_)
    · replace q := q.1 c4
      refine m_aload_n dX10_forced_21 rfl ?_
      refine gf_X10_57 rfl dX10_forced_22 ?_
      refine gf_X10_222 rfl dX10_forced_25 ?_
      refine m_if_ne 38 dX10_forced_28 (by decide) (fun c5 => ?_) (fun c5 => ?_)
      · replace q := q.1 c5
        refine m_aload_n dX10_forced_38 rfl ?_
        refine m_aload_n dX10_forced_39 rfl ?_
        refine gf_X10_57 rfl dX10_forced_40 ?_
        refine m_iload_n dX10_forced_43 rfl ?_
        refine cl_X10_228 rfl (by decide) dX10_forced_44 (Nat.le_of_ble_eq_true rfl) (MCi_go q (fun r7 h6 q => ?_))
        refine cl_X10_125 rfl (by decide) dX10_forced_47 (Nat.le_of_ble_eq_true rfl) (MCi_go q (fun r9 h8 q => ?_))
        exact m_iret dX10_forced_50 rfl q
      · replace q := q.2 c5
        refine m_aload_n dX10_forced_31 rfl ?_
        refine m_bipush (v := 6) dX10_forced_32 (by decide) ?_
        refine cl_X10_90 rfl (by decide) dX10_forced_34 (Nat.le_of_ble_eq_true rfl) (MCi_go q (fun r11 h10 q => ?_))
        exact m_iret dX10_forced_37 rfl q
    · replace q := q.2 c4
      refine m_aload_n dX10_forced_15 rfl ?_
      refine m_iconst (v := 1) dX10_forced_16 (by decide) ?_
      refine cl_X10_90 rfl (by decide) dX10_forced_17 (Nat.le_of_ble_eq_true rfl) (MCi_go q (fun r13 h12 q => ?_))
      exact m_iret dX10_forced_20 rfl q
set_option maxRecDepth 100000 in
theorem e_X10_core {g : gT} {h : mh_T} {P : Int32 → mh_T → Prop}  (q : MCi g yX10_noBook uX10_noBook [.ref 0] h (fun r2 h1 => (r2 = 0 → MCi g yX5_leastBroken uX5_leastBroken [.ref 7] h1 (fun r5 h4 => MCi g yX10_told uX10_told [.ref 0, .int r5] h4 (fun r7 h6 => P r7 h6))) ∧ (¬ r2 = 0 → MCi g yX10_refused uX10_refused [.ref 0, .int 1] h1 (fun r9 h8 => P r9 h8)))) : MCi g yX10_core uX10_core [.ref 0] h P := by
  refine m_enter (by decide) rfl (Nat.le_of_ble_eq_true rfl) (lv := [.ref 0]) rfl ?_
  refine m_aload_n dX10_core_0 rfl ?_
  refine cl_X10_131 rfl (by decide) dX10_core_1 (Nat.le_of_ble_eq_true rfl) (MCi_go q (fun r2 h1 q => ?_))
  refine m_if_eq 13 dX10_core_4 (by decide) (fun c3 => ?_) (fun c3 => ?_)
  · replace q := q.1 c3
    refine m_aload_n dX10_core_13 rfl ?_
    refine m_aload_n dX10_core_14 rfl ?_
    refine gf_X10_57 rfl dX10_core_15 ?_
    refine cl_X10_231 rfl (by decide) dX10_core_18 (Nat.le_of_ble_eq_true rfl) (MCi_go q (fun r5 h4 q => ?_))
    refine cl_X10_125 rfl (by decide) dX10_core_21 (Nat.le_of_ble_eq_true rfl) (MCi_go q (fun r7 h6 q => ?_))
    exact m_iret dX10_core_24 rfl q
  · replace q := q.2 c3
    refine m_aload_n dX10_core_7 rfl ?_
    refine m_iconst (v := 1) dX10_core_8 (by decide) ?_
    refine cl_X10_90 rfl (by decide) dX10_core_9 (Nat.le_of_ble_eq_true rfl) (MCi_go q (fun r9 h8 q => ?_))
    exact m_iret dX10_core_12 rfl q
set_option maxRecDepth 100000 in
theorem e_X10_can {g : gT} {h : mh_T} {P : Int32 → mh_T → Prop} (l1 : Int32) (q : MCi g yX10_noBook uX10_noBook [.ref 0] h (fun r2 h1 => (r2 = 0 → (l1 < 0 → MCi g yX10_refused uX10_refused [.ref 0, .int 2] h1 (fun r6 h5 => P r6 h5)) ∧ (¬ l1 < 0 → (l1 < (1 <<< ((mI h1 7 1) &&& 31)) → MCi g yX5_holds uX5_holds [.ref 7, .int l1] h1 (fun r9 h8 => (r9 = 0 → MCi g yX10_told uX10_told [.ref 0, .int 0] h8 (fun r12 h11 => P r12 h11)) ∧ (¬ r9 = 0 → MCi g yX10_told uX10_told [.ref 0, .int 1] h8 (fun r14 h13 => P r14 h13)))) ∧ (¬ l1 < (1 <<< ((mI h1 7 1) &&& 31)) → MCi g yX10_refused uX10_refused [.ref 0, .int 2] h1 (fun r16 h15 => P r16 h15)))) ∧ (¬ r2 = 0 → MCi g yX10_refused uX10_refused [.ref 0, .int 1] h1 (fun r18 h17 => P r18 h17)))) : MCi g yX10_can uX10_can [.ref 0, .int l1] h P := by
  refine m_enter (by decide) rfl (Nat.le_of_ble_eq_true rfl) (lv := [.ref 0, .int l1]) rfl ?_
  refine m_aload_n dX10_can_0 rfl ?_
  refine cl_X10_131 rfl (by decide) dX10_can_1 (Nat.le_of_ble_eq_true rfl) (MCi_go q (fun r2 h1 q => ?_))
  refine m_if_eq 13 dX10_can_4 (by decide) (fun c3 => ?_) (fun c3 => ?_)
  · replace q := q.1 c3
    refine m_iload_n dX10_can_13 rfl ?_
    refine m_if_lt 30 dX10_can_14 (by decide) (fun c4 => ?_) (fun c4 => ?_)
    · replace q := q.1 c4
      refine m_aload_n dX10_can_30 rfl ?_
      refine m_iconst (v := 2) dX10_can_31 (by decide) ?_
      refine cl_X10_90 rfl (by decide) dX10_can_32 (Nat.le_of_ble_eq_true rfl) (MCi_go q (fun r6 h5 q => ?_))
      exact m_iret dX10_can_35 rfl q
    · replace q := q.2 c4
      refine m_iload_n dX10_can_17 rfl ?_
      refine m_iconst (v := 1) dX10_can_18 (by decide) ?_
      refine m_aload_n dX10_can_19 rfl ?_
      refine gf_X10_57 rfl dX10_can_20 ?_
      refine gf_X10_234 rfl dX10_can_23 ?_
      refine m_ishl dX10_can_26 ?_
      refine m_icmp_lt 36 dX10_can_27 (by decide) (fun c7 => ?_) (fun c7 => ?_)
      · replace q := q.1 c7
        refine m_aload_n dX10_can_36 rfl ?_
        refine m_aload_n dX10_can_37 rfl ?_
        refine gf_X10_57 rfl dX10_can_38 ?_
        refine m_iload_n dX10_can_41 rfl ?_
        refine cl_X10_237 rfl (by decide) dX10_can_42 (Nat.le_of_ble_eq_true rfl) (MCi_go q (fun r9 h8 q => ?_))
        refine m_if_eq 52 dX10_can_45 (by decide) (fun c10 => ?_) (fun c10 => ?_)
        · replace q := q.1 c10
          refine m_iconst (v := 0) dX10_can_52 (by decide) ?_
          refine cl_X10_125 rfl (by decide) dX10_can_53 (Nat.le_of_ble_eq_true rfl) (MCi_go q (fun r12 h11 q => ?_))
          exact m_iret dX10_can_56 rfl q
        · replace q := q.2 c10
          refine m_iconst (v := 1) dX10_can_48 (by decide) ?_
          refine m_goto 53 dX10_can_49 (by decide) ?_
          refine cl_X10_125 rfl (by decide) dX10_can_53 (Nat.le_of_ble_eq_true rfl) (MCi_go q (fun r14 h13 q => ?_))
          exact m_iret dX10_can_56 rfl q
      · replace q := q.2 c7
        refine m_aload_n dX10_can_30 rfl ?_
        refine m_iconst (v := 2) dX10_can_31 (by decide) ?_
        refine cl_X10_90 rfl (by decide) dX10_can_32 (Nat.le_of_ble_eq_true rfl) (MCi_go q (fun r16 h15 q => ?_))
        exact m_iret dX10_can_35 rfl q
  · replace q := q.2 c3
    refine m_aload_n dX10_can_7 rfl ?_
    refine m_iconst (v := 1) dX10_can_8 (by decide) ?_
    refine cl_X10_90 rfl (by decide) dX10_can_9 (Nat.le_of_ble_eq_true rfl) (MCi_go q (fun r18 h17 q => ?_))
    exact m_iret dX10_can_12 rfl q
set_option maxRecDepth 100000 in
theorem e_X10_game {g : gT} {h : mh_T} {P : Int32 → mh_T → Prop}  (q : MCi g yX10_noBook uX10_noBook [.ref 0] h (fun r2 h1 => (r2 = 0 → MCi g yX5_mostHeld uX5_mostHeld [.ref 7] h1 (fun r5 h4 => MCi g yX10_told uX10_told [.ref 0, .int r5] h4 (fun r7 h6 => P r7 h6))) ∧ (¬ r2 = 0 → MCi g yX10_refused uX10_refused [.ref 0, .int 1] h1 (fun r9 h8 => P r9 h8)))) : MCi g yX10_game uX10_game [.ref 0] h P := by
  refine m_enter (by decide) rfl (Nat.le_of_ble_eq_true rfl) (lv := [.ref 0]) rfl ?_
  refine m_aload_n dX10_game_0 rfl ?_
  refine cl_X10_131 rfl (by decide) dX10_game_1 (Nat.le_of_ble_eq_true rfl) (MCi_go q (fun r2 h1 q => ?_))
  refine m_if_eq 13 dX10_game_4 (by decide) (fun c3 => ?_) (fun c3 => ?_)
  · replace q := q.1 c3
    refine m_aload_n dX10_game_13 rfl ?_
    refine m_aload_n dX10_game_14 rfl ?_
    refine gf_X10_57 rfl dX10_game_15 ?_
    refine cl_X10_240 rfl (by decide) dX10_game_18 (Nat.le_of_ble_eq_true rfl) (MCi_go q (fun r5 h4 q => ?_))
    refine cl_X10_125 rfl (by decide) dX10_game_21 (Nat.le_of_ble_eq_true rfl) (MCi_go q (fun r7 h6 q => ?_))
    exact m_iret dX10_game_24 rfl q
  · replace q := q.2 c3
    refine m_aload_n dX10_game_7 rfl ?_
    refine m_iconst (v := 1) dX10_game_8 (by decide) ?_
    refine cl_X10_90 rfl (by decide) dX10_game_9 (Nat.le_of_ble_eq_true rfl) (MCi_go q (fun r9 h8 q => ?_))
    exact m_iret dX10_game_12 rfl q
set_option maxRecDepth 100000 in
theorem e_X10_square {g : gT} {h : mh_T} {P : Int32 → mh_T → Prop} (l1 : Int32) (l2 : Int32) (q : MCi g yX3_hasRay uX3_hasRay [.ref 8, .int l1] h (fun r2 h1 => (r2 = 0 → MCi g yX10_refused uX10_refused [.ref 0, .int 1] h1 (fun r5 h4 => P r5 h4)) ∧ (¬ r2 = 0 → MCi g yX3_hasRay uX3_hasRay [.ref 8, .int l2] h1 (fun r7 h6 => (r7 = 0 → MCi g yX10_refused uX10_refused [.ref 0, .int 1] h6 (fun r10 h9 => P r10 h9)) ∧ (¬ r7 = 0 → (¬ l1 = l2 → (vp_in l1 18) ∧ (MCi g yX10_told uX10_told [.ref 0, .int (((mI h6 32 l1.toNatClampNeg) >>> (l2 &&& 31)) &&& 1)] h6 (fun r14 h13 => P r14 h13))) ∧ (l1 = l2 → MCi g yX10_refused uX10_refused [.ref 0, .int 1] h6 (fun r16 h15 => P r16 h15))))))) : MCi g yX10_square uX10_square [.ref 0, .int l1, .int l2] h P := by
  refine m_enter (by decide) rfl (Nat.le_of_ble_eq_true rfl) (lv := [.ref 0, .int l1, .int l2]) rfl ?_
  refine m_aload_n dX10_square_0 rfl ?_
  refine gf_X10_64 rfl dX10_square_1 ?_
  refine m_iload_n dX10_square_4 rfl ?_
  refine cl_X10_243 rfl (by decide) dX10_square_5 (Nat.le_of_ble_eq_true rfl) (MCi_go q (fun r2 h1 q => ?_))
  refine m_if_eq 27 dX10_square_8 (by decide) (fun c3 => ?_) (fun c3 => ?_)
  · replace q := q.1 c3
    refine m_aload_n dX10_square_27 rfl ?_
    refine m_iconst (v := 1) dX10_square_28 (by decide) ?_
    refine cl_X10_90 rfl (by decide) dX10_square_29 (Nat.le_of_ble_eq_true rfl) (MCi_go q (fun r5 h4 q => ?_))
    exact m_iret dX10_square_32 rfl q
  · replace q := q.2 c3
    refine m_aload_n dX10_square_11 rfl ?_
    refine gf_X10_64 rfl dX10_square_12 ?_
    refine m_iload_n dX10_square_15 rfl ?_
    refine cl_X10_243 rfl (by decide) dX10_square_16 (Nat.le_of_ble_eq_true rfl) (MCi_go q (fun r7 h6 q => ?_))
    refine m_if_eq 27 dX10_square_19 (by decide) (fun c8 => ?_) (fun c8 => ?_)
    · replace q := q.1 c8
      refine m_aload_n dX10_square_27 rfl ?_
      refine m_iconst (v := 1) dX10_square_28 (by decide) ?_
      refine cl_X10_90 rfl (by decide) dX10_square_29 (Nat.le_of_ble_eq_true rfl) (MCi_go q (fun r10 h9 q => ?_))
      exact m_iret dX10_square_32 rfl q
    · replace q := q.2 c8
      refine m_iload_n dX10_square_22 rfl ?_
      refine m_iload_n dX10_square_23 rfl ?_
      refine m_icmp_ne 33 dX10_square_24 (by decide) (fun c11 => ?_) (fun c11 => ?_)
      · replace q := q.1 c11
        refine m_aload_n dX10_square_33 rfl ?_
        refine m_aload_n dX10_square_34 rfl ?_
        refine gf_X10_64 rfl dX10_square_35 ?_
        refine gf_X10_246 rfl dX10_square_38 ?_
        refine m_iload_n dX10_square_41 rfl ?_
        obtain ⟨b12, q⟩ := q
        refine m_iaload dX10_square_42 rfl (by decide) b12 ?_
        refine m_iload_n dX10_square_43 rfl ?_
        refine m_ishr dX10_square_44 ?_
        refine m_iconst (v := 1) dX10_square_45 (by decide) ?_
        refine m_iand dX10_square_46 ?_
        refine cl_X10_125 rfl (by decide) dX10_square_47 (Nat.le_of_ble_eq_true rfl) (MCi_go q (fun r14 h13 q => ?_))
        exact m_iret dX10_square_50 rfl q
      · replace q := q.2 c11
        refine m_aload_n dX10_square_27 rfl ?_
        refine m_iconst (v := 1) dX10_square_28 (by decide) ?_
        refine cl_X10_90 rfl (by decide) dX10_square_29 (Nat.le_of_ble_eq_true rfl) (MCi_go q (fun r16 h15 q => ?_))
        exact m_iret dX10_square_32 rfl q
set_option maxRecDepth 100000 in
theorem e_X10_corners {g : gT} {h : mh_T} {P : Int32 → mh_T → Prop}  (q : MCi g yX10_noBook uX10_noBook [.ref 0] h (fun r2 h1 => (r2 = 0 → MCi g yX10_told uX10_told [.ref 0, .int (mI h1 8 1)] h1 (fun r5 h4 => P r5 h4)) ∧ (¬ r2 = 0 → MCi g yX10_refused uX10_refused [.ref 0, .int 1] h1 (fun r7 h6 => P r7 h6)))) : MCi g yX10_corners uX10_corners [.ref 0] h P := by
  refine m_enter (by decide) rfl (Nat.le_of_ble_eq_true rfl) (lv := [.ref 0]) rfl ?_
  refine m_aload_n dX10_corners_0 rfl ?_
  refine cl_X10_131 rfl (by decide) dX10_corners_1 (Nat.le_of_ble_eq_true rfl) (MCi_go q (fun r2 h1 q => ?_))
  refine m_if_eq 13 dX10_corners_4 (by decide) (fun c3 => ?_) (fun c3 => ?_)
  · replace q := q.1 c3
    refine m_aload_n dX10_corners_13 rfl ?_
    refine m_aload_n dX10_corners_14 rfl ?_
    refine gf_X10_64 rfl dX10_corners_15 ?_
    refine gf_X10_249 rfl dX10_corners_18 ?_
    refine cl_X10_125 rfl (by decide) dX10_corners_21 (Nat.le_of_ble_eq_true rfl) (MCi_go q (fun r5 h4 q => ?_))
    exact m_iret dX10_corners_24 rfl q
  · replace q := q.2 c3
    refine m_aload_n dX10_corners_7 rfl ?_
    refine m_iconst (v := 1) dX10_corners_8 (by decide) ?_
    refine cl_X10_90 rfl (by decide) dX10_corners_9 (Nat.le_of_ble_eq_true rfl) (MCi_go q (fun r7 h6 q => ?_))
    exact m_iret dX10_corners_12 rfl q
set_option maxRecDepth 100000 in
theorem e_X10_colours {g : gT} {h : mh_T} {P : Int32 → mh_T → Prop}  (q : MCi g yX10_noBook uX10_noBook [.ref 0] h (fun r2 h1 => (r2 = 0 → MCv g yX3_work uX3_work [.ref 8] h1 (fun h4 => MCi g yX10_told uX10_told [.ref 0, .int (mI h4 8 2)] h4 (fun r6 h5 => P r6 h5))) ∧ (¬ r2 = 0 → MCi g yX10_refused uX10_refused [.ref 0, .int 1] h1 (fun r8 h7 => P r8 h7)))) : MCi g yX10_colours uX10_colours [.ref 0] h P := by
  refine m_enter (by decide) rfl (Nat.le_of_ble_eq_true rfl) (lv := [.ref 0]) rfl ?_
  refine m_aload_n dX10_colours_0 rfl ?_
  refine cl_X10_131 rfl (by decide) dX10_colours_1 (Nat.le_of_ble_eq_true rfl) (MCi_go q (fun r2 h1 q => ?_))
  refine m_if_eq 13 dX10_colours_4 (by decide) (fun c3 => ?_) (fun c3 => ?_)
  · replace q := q.1 c3
    refine m_aload_n dX10_colours_13 rfl ?_
    refine gf_X10_64 rfl dX10_colours_14 ?_
    refine cl_X10_252 rfl (by decide) dX10_colours_17 (Nat.le_of_ble_eq_true rfl) (MCv_go q (fun h4 q => ?_))
    refine m_aload_n dX10_colours_20 rfl ?_
    refine m_aload_n dX10_colours_21 rfl ?_
    refine gf_X10_64 rfl dX10_colours_22 ?_
    refine gf_X10_255 rfl dX10_colours_25 ?_
    refine cl_X10_125 rfl (by decide) dX10_colours_28 (Nat.le_of_ble_eq_true rfl) (MCi_go q (fun r6 h5 q => ?_))
    exact m_iret dX10_colours_31 rfl q
  · replace q := q.2 c3
    refine m_aload_n dX10_colours_7 rfl ?_
    refine m_iconst (v := 1) dX10_colours_8 (by decide) ?_
    refine cl_X10_90 rfl (by decide) dX10_colours_9 (Nat.le_of_ble_eq_true rfl) (MCi_go q (fun r8 h7 q => ?_))
    exact m_iret dX10_colours_12 rfl q
set_option maxRecDepth 100000 in
theorem e_X10_ones {g : gT} {h : mh_T} {P : Int32 → mh_T → Prop}  (q : MCi g yX10_noBook uX10_noBook [.ref 0] h (fun r2 h1 => (r2 = 0 → MCv g yX3_work uX3_work [.ref 8] h1 (fun h4 => (¬ (mI h4 8 2) = 0 → MCi g yX10_told uX10_told [.ref 0, .int (mI h4 8 3)] h4 (fun r7 h6 => P r7 h6)) ∧ ((mI h4 8 2) = 0 → MCi g yX10_refused uX10_refused [.ref 0, .int 6] h4 (fun r9 h8 => P r9 h8)))) ∧ (¬ r2 = 0 → MCi g yX10_refused uX10_refused [.ref 0, .int 1] h1 (fun r11 h10 => P r11 h10)))) : MCi g yX10_ones uX10_ones [.ref 0] h P := by
  refine m_enter (by decide) rfl (Nat.le_of_ble_eq_true rfl) (lv := [.ref 0]) rfl ?_
  refine m_aload_n dX10_ones_0 rfl ?_
  refine cl_X10_131 rfl (by decide) dX10_ones_1 (Nat.le_of_ble_eq_true rfl) (MCi_go q (fun r2 h1 q => ?_))
  refine m_if_eq 13 dX10_ones_4 (by decide) (fun c3 => ?_) (fun c3 => ?_)
  · replace q := q.1 c3
    refine m_aload_n dX10_ones_13 rfl ?_
    refine gf_X10_64 rfl dX10_ones_14 ?_
    refine cl_X10_252 rfl (by decide) dX10_ones_17 (Nat.le_of_ble_eq_true rfl) (MCv_go q (fun h4 q => ?_))
    refine m_aload_n dX10_ones_20 rfl ?_
    refine gf_X10_64 rfl dX10_ones_21 ?_
    refine gf_X10_255 rfl dX10_ones_24 ?_
    refine m_if_ne 39 dX10_ones_27 (by decide) (fun c5 => ?_) (fun c5 => ?_)
    · replace q := q.1 c5
      refine m_aload_n dX10_ones_39 rfl ?_
      refine m_aload_n dX10_ones_40 rfl ?_
      refine gf_X10_64 rfl dX10_ones_41 ?_
      refine gf_X10_258 rfl dX10_ones_44 ?_
      refine cl_X10_125 rfl (by decide) dX10_ones_47 (Nat.le_of_ble_eq_true rfl) (MCi_go q (fun r7 h6 q => ?_))
      exact m_iret dX10_ones_50 rfl q
    · replace q := q.2 c5
      refine m_aload_n dX10_ones_30 rfl ?_
      refine m_bipush (v := 6) dX10_ones_31 (by decide) ?_
      refine cl_X10_90 rfl (by decide) dX10_ones_33 (Nat.le_of_ble_eq_true rfl) (MCi_go q (fun r9 h8 q => ?_))
      refine m_goto 50 dX10_ones_36 (by decide) ?_
      exact m_iret dX10_ones_50 rfl q
  · replace q := q.2 c3
    refine m_aload_n dX10_ones_7 rfl ?_
    refine m_iconst (v := 1) dX10_ones_8 (by decide) ?_
    refine cl_X10_90 rfl (by decide) dX10_ones_9 (Nat.le_of_ble_eq_true rfl) (MCi_go q (fun r11 h10 q => ?_))
    exact m_iret dX10_ones_12 rfl q
set_option maxRecDepth 100000 in
theorem e_X10_spare {g : gT} {h : mh_T} {P : Int32 → mh_T → Prop}  (q : MCi g yX10_noBook uX10_noBook [.ref 0] h (fun r2 h1 => (r2 = 0 → MCv g yX3_work uX3_work [.ref 8] h1 (fun h4 => MCi g yX10_told uX10_told [.ref 0, .int (mI h4 8 4)] h4 (fun r6 h5 => P r6 h5))) ∧ (¬ r2 = 0 → MCi g yX10_refused uX10_refused [.ref 0, .int 1] h1 (fun r8 h7 => P r8 h7)))) : MCi g yX10_spare uX10_spare [.ref 0] h P := by
  refine m_enter (by decide) rfl (Nat.le_of_ble_eq_true rfl) (lv := [.ref 0]) rfl ?_
  refine m_aload_n dX10_spare_0 rfl ?_
  refine cl_X10_131 rfl (by decide) dX10_spare_1 (Nat.le_of_ble_eq_true rfl) (MCi_go q (fun r2 h1 q => ?_))
  refine m_if_eq 13 dX10_spare_4 (by decide) (fun c3 => ?_) (fun c3 => ?_)
  · replace q := q.1 c3
    refine m_aload_n dX10_spare_13 rfl ?_
    refine gf_X10_64 rfl dX10_spare_14 ?_
    refine cl_X10_252 rfl (by decide) dX10_spare_17 (Nat.le_of_ble_eq_true rfl) (MCv_go q (fun h4 q => ?_))
    refine m_aload_n dX10_spare_20 rfl ?_
    refine m_aload_n dX10_spare_21 rfl ?_
    refine gf_X10_64 rfl dX10_spare_22 ?_
    refine gf_X10_261 rfl dX10_spare_25 ?_
    refine cl_X10_125 rfl (by decide) dX10_spare_28 (Nat.le_of_ble_eq_true rfl) (MCi_go q (fun r6 h5 q => ?_))
    exact m_iret dX10_spare_31 rfl q
  · replace q := q.2 c3
    refine m_aload_n dX10_spare_7 rfl ?_
    refine m_iconst (v := 1) dX10_spare_8 (by decide) ?_
    refine cl_X10_90 rfl (by decide) dX10_spare_9 (Nat.le_of_ble_eq_true rfl) (MCi_go q (fun r8 h7 q => ?_))
    exact m_iret dX10_spare_12 rfl q
set_option maxRecDepth 100000 in
theorem e_X10_critical {g : gT} {h : mh_T} {P : Int32 → mh_T → Prop}  (q : MCi g yX10_noBook uX10_noBook [.ref 0] h (fun r2 h1 => (r2 = 0 → MCv g yX3_work uX3_work [.ref 8] h1 (fun h4 => ((mI h4 8 2) = 0 → MCi g yX10_told uX10_told [.ref 0, .int (mI h4 8 5)] h4 (fun r7 h6 => P r7 h6)) ∧ (¬ (mI h4 8 2) = 0 → MCi g yX10_refused uX10_refused [.ref 0, .int 6] h4 (fun r9 h8 => P r9 h8)))) ∧ (¬ r2 = 0 → MCi g yX10_refused uX10_refused [.ref 0, .int 1] h1 (fun r11 h10 => P r11 h10)))) : MCi g yX10_critical uX10_critical [.ref 0] h P := by
  refine m_enter (by decide) rfl (Nat.le_of_ble_eq_true rfl) (lv := [.ref 0]) rfl ?_
  refine m_aload_n dX10_critical_0 rfl ?_
  refine cl_X10_131 rfl (by decide) dX10_critical_1 (Nat.le_of_ble_eq_true rfl) (MCi_go q (fun r2 h1 q => ?_))
  refine m_if_eq 13 dX10_critical_4 (by decide) (fun c3 => ?_) (fun c3 => ?_)
  · replace q := q.1 c3
    refine m_aload_n dX10_critical_13 rfl ?_
    refine gf_X10_64 rfl dX10_critical_14 ?_
    refine cl_X10_252 rfl (by decide) dX10_critical_17 (Nat.le_of_ble_eq_true rfl) (MCv_go q (fun h4 q => ?_))
    refine m_aload_n dX10_critical_20 rfl ?_
    refine gf_X10_64 rfl dX10_critical_21 ?_
    refine gf_X10_255 rfl dX10_critical_24 ?_
    refine m_if_eq 39 dX10_critical_27 (by decide) (fun c5 => ?_) (fun c5 => ?_)
    · replace q := q.1 c5
      refine m_aload_n dX10_critical_39 rfl ?_
      refine m_aload_n dX10_critical_40 rfl ?_
      refine gf_X10_64 rfl dX10_critical_41 ?_
      refine gf_X10_264 rfl dX10_critical_44 ?_
      refine cl_X10_125 rfl (by decide) dX10_critical_47 (Nat.le_of_ble_eq_true rfl) (MCi_go q (fun r7 h6 q => ?_))
      exact m_iret dX10_critical_50 rfl q
    · replace q := q.2 c5
      refine m_aload_n dX10_critical_30 rfl ?_
      refine m_bipush (v := 6) dX10_critical_31 (by decide) ?_
      refine cl_X10_90 rfl (by decide) dX10_critical_33 (Nat.le_of_ble_eq_true rfl) (MCi_go q (fun r9 h8 q => ?_))
      refine m_goto 50 dX10_critical_36 (by decide) ?_
      exact m_iret dX10_critical_50 rfl q
  · replace q := q.2 c3
    refine m_aload_n dX10_critical_7 rfl ?_
    refine m_iconst (v := 1) dX10_critical_8 (by decide) ?_
    refine cl_X10_90 rfl (by decide) dX10_critical_9 (Nat.le_of_ble_eq_true rfl) (MCi_go q (fun r11 h10 q => ?_))
    exact m_iret dX10_critical_12 rfl q
set_option maxRecDepth 100000 in
theorem e_X10_memory {g : gT} {h : mh_T} {P : Int32 → mh_T → Prop}  (q : MCi g yX10_noBook uX10_noBook [.ref 0] h (fun r2 h1 => (r2 = 0 → MCv g yX9_work uX9_work [.ref 9] h1 (fun h4 => (¬ (mI h4 9 1) = 0 → MCi g yX10_told uX10_told [.ref 0, .int (mI h4 9 1)] h4 (fun r7 h6 => P r7 h6)) ∧ ((mI h4 9 1) = 0 → MCi g yX10_told uX10_told [.ref 0, .int (-2)] h4 (fun r9 h8 => P r9 h8)))) ∧ (¬ r2 = 0 → MCi g yX10_refused uX10_refused [.ref 0, .int 1] h1 (fun r11 h10 => P r11 h10)))) : MCi g yX10_memory uX10_memory [.ref 0] h P := by
  refine m_enter (by decide) rfl (Nat.le_of_ble_eq_true rfl) (lv := [.ref 0]) rfl ?_
  refine m_aload_n dX10_memory_0 rfl ?_
  refine cl_X10_131 rfl (by decide) dX10_memory_1 (Nat.le_of_ble_eq_true rfl) (MCi_go q (fun r2 h1 q => ?_))
  refine m_if_eq 13 dX10_memory_4 (by decide) (fun c3 => ?_) (fun c3 => ?_)
  · replace q := q.1 c3
    refine m_aload_n dX10_memory_13 rfl ?_
    refine gf_X10_71 rfl dX10_memory_14 ?_
    refine cl_X10_267 rfl (by decide) dX10_memory_17 (Nat.le_of_ble_eq_true rfl) (MCv_go q (fun h4 q => ?_))
    refine m_aload_n dX10_memory_20 rfl ?_
    refine m_aload_n dX10_memory_21 rfl ?_
    refine gf_X10_71 rfl dX10_memory_22 ?_
    refine gf_X10_268 rfl dX10_memory_25 ?_
    refine m_if_ne 36 dX10_memory_28 (by decide) (fun c5 => ?_) (fun c5 => ?_)
    · replace q := q.1 c5
      refine m_aload_n dX10_memory_36 rfl ?_
      refine gf_X10_71 rfl dX10_memory_37 ?_
      refine gf_X10_268 rfl dX10_memory_40 ?_
      refine cl_X10_125 rfl (by decide) dX10_memory_43 (Nat.le_of_ble_eq_true rfl) (MCi_go q (fun r7 h6 q => ?_))
      exact m_iret dX10_memory_46 rfl q
    · replace q := q.2 c5
      refine m_bipush (v := (-2)) dX10_memory_31 (by decide) ?_
      refine m_goto 43 dX10_memory_33 (by decide) ?_
      refine cl_X10_125 rfl (by decide) dX10_memory_43 (Nat.le_of_ble_eq_true rfl) (MCi_go q (fun r9 h8 q => ?_))
      exact m_iret dX10_memory_46 rfl q
  · replace q := q.2 c3
    refine m_aload_n dX10_memory_7 rfl ?_
    refine m_iconst (v := 1) dX10_memory_8 (by decide) ?_
    refine cl_X10_90 rfl (by decide) dX10_memory_9 (Nat.le_of_ble_eq_true rfl) (MCi_go q (fun r11 h10 q => ?_))
    exact m_iret dX10_memory_12 rfl q
set_option maxRecDepth 100000 in
theorem e_X10_machine {g : gT} {h : mh_T} {P : Int32 → mh_T → Prop} (l1 : Int32) (l2 : Int32) (l3 : Int32) (q : (l1 < 0 → MCi g yX10_refused uX10_refused [.ref 0, .int 1] h (fun r3 h2 => P r3 h2)) ∧ (¬ l1 < 0 → (3 ≤ l1 → MCi g yX10_refused uX10_refused [.ref 0, .int 1] h (fun r6 h5 => P r6 h5)) ∧ (¬ 3 ≤ l1 → MCi g yX8_hasLook uX8_hasLook [.ref 3, .int l2] h (fun r8 h7 => (¬ r8 = 0 → MCv g yX9_work uX9_work [.ref 9] h7 (fun h10 => (¬ (mI h10 9 1) = 0 → MCi g yX9_entry uX9_entry [.ref 9, .int l1, .int l2, .int l3] h10 (fun r13 h12 => MCi g yX10_told uX10_told [.ref 0, .int r13] h12 (fun r15 h14 => P r15 h14))) ∧ ((mI h10 9 1) = 0 → MCi g yX10_refused uX10_refused [.ref 0, .int 6] h10 (fun r17 h16 => P r17 h16)))) ∧ (r8 = 0 → MCi g yX10_refused uX10_refused [.ref 0, .int 1] h7 (fun r19 h18 => P r19 h18)))))) : MCi g yX10_machine uX10_machine [.ref 0, .int l1, .int l2, .int l3] h P := by
  refine m_enter (by decide) rfl (Nat.le_of_ble_eq_true rfl) (lv := [.ref 0, .int l1, .int l2, .int l3]) rfl ?_
  refine m_iload_n dX10_machine_0 rfl ?_
  refine m_if_lt 20 dX10_machine_1 (by decide) (fun c1 => ?_) (fun c1 => ?_)
  · replace q := q.1 c1
    refine m_aload_n dX10_machine_20 rfl ?_
    refine m_iconst (v := 1) dX10_machine_21 (by decide) ?_
    refine cl_X10_90 rfl (by decide) dX10_machine_22 (Nat.le_of_ble_eq_true rfl) (MCi_go q (fun r3 h2 q => ?_))
    exact m_iret dX10_machine_25 rfl q
  · replace q := q.2 c1
    refine m_iload_n dX10_machine_4 rfl ?_
    refine m_iconst (v := 3) dX10_machine_5 (by decide) ?_
    refine m_icmp_ge 20 dX10_machine_6 (by decide) (fun c4 => ?_) (fun c4 => ?_)
    · replace q := q.1 c4
      refine m_aload_n dX10_machine_20 rfl ?_
      refine m_iconst (v := 1) dX10_machine_21 (by decide) ?_
      refine cl_X10_90 rfl (by decide) dX10_machine_22 (Nat.le_of_ble_eq_true rfl) (MCi_go q (fun r6 h5 q => ?_))
      exact m_iret dX10_machine_25 rfl q
    · replace q := q.2 c4
      refine m_aload_n dX10_machine_9 rfl ?_
      refine gf_X10_25 rfl dX10_machine_10 ?_
      refine m_iload_n dX10_machine_13 rfl ?_
      refine cl_X10_142 rfl (by decide) dX10_machine_14 (Nat.le_of_ble_eq_true rfl) (MCi_go q (fun r8 h7 q => ?_))
      refine m_if_ne 26 dX10_machine_17 (by decide) (fun c9 => ?_) (fun c9 => ?_)
      · replace q := q.1 c9
        refine m_aload_n dX10_machine_26 rfl ?_
        refine gf_X10_71 rfl dX10_machine_27 ?_
        refine cl_X10_267 rfl (by decide) dX10_machine_30 (Nat.le_of_ble_eq_true rfl) (MCv_go q (fun h10 q => ?_))
        refine m_aload_n dX10_machine_33 rfl ?_
        refine gf_X10_71 rfl dX10_machine_34 ?_
        refine gf_X10_268 rfl dX10_machine_37 ?_
        refine m_if_ne 50 dX10_machine_40 (by decide) (fun c11 => ?_) (fun c11 => ?_)
        · replace q := q.1 c11
          refine m_aload_n dX10_machine_50 rfl ?_
          refine m_aload_n dX10_machine_51 rfl ?_
          refine gf_X10_71 rfl dX10_machine_52 ?_
          refine m_iload_n dX10_machine_55 rfl ?_
          refine m_iload_n dX10_machine_56 rfl ?_
          refine m_iload_n dX10_machine_57 rfl ?_
          refine cl_X10_271 rfl (by decide) dX10_machine_58 (Nat.le_of_ble_eq_true rfl) (MCi_go q (fun r13 h12 q => ?_))
          refine cl_X10_125 rfl (by decide) dX10_machine_61 (Nat.le_of_ble_eq_true rfl) (MCi_go q (fun r15 h14 q => ?_))
          exact m_iret dX10_machine_64 rfl q
        · replace q := q.2 c11
          refine m_aload_n dX10_machine_43 rfl ?_
          refine m_bipush (v := 6) dX10_machine_44 (by decide) ?_
          refine cl_X10_90 rfl (by decide) dX10_machine_46 (Nat.le_of_ble_eq_true rfl) (MCi_go q (fun r17 h16 q => ?_))
          exact m_iret dX10_machine_49 rfl q
      · replace q := q.2 c9
        refine m_aload_n dX10_machine_20 rfl ?_
        refine m_iconst (v := 1) dX10_machine_21 (by decide) ?_
        refine cl_X10_90 rfl (by decide) dX10_machine_22 (Nat.le_of_ble_eq_true rfl) (MCi_go q (fun r19 h18 q => ?_))
        exact m_iret dX10_machine_25 rfl q
set_option maxRecDepth 100000 in
theorem e_X10_flip {g : gT} {h : mh_T} {P : Int32 → mh_T → Prop} (l1 : Int32) (q : MCi g yX8_hasLook uX8_hasLook [.ref 3, .int l1] h (fun r2 h1 => (¬ r2 = 0 → MCv g yX4_begin uX4_begin [.ref 10, .int 0, .int l1] h1 (fun h4 => MCv g yX8_turn uX8_turn [.ref 3, .int l1] h4 (fun h5 => MCi g yX10_done uX10_done [.ref 0] h5 (fun r7 h6 => (r7 = 0 ∨ r7 = 1) ∧ P r7 h6)))) ∧ (r2 = 0 → MCi g yX10_denied uX10_denied [.ref 0, .int 1] h1 (fun r9 h8 => (r9 = 0 ∨ r9 = 1) ∧ P r9 h8)))) : MCi g yX10_flip uX10_flip [.ref 0, .int l1] h P := by
  refine m_enter (by decide) rfl (Nat.le_of_ble_eq_true rfl) (lv := [.ref 0, .int l1]) rfl ?_
  refine m_aload_n dX10_flip_0 rfl ?_
  refine gf_X10_25 rfl dX10_flip_1 ?_
  refine m_iload_n dX10_flip_4 rfl ?_
  refine cl_X10_142 rfl (by decide) dX10_flip_5 (Nat.le_of_ble_eq_true rfl) (MCi_go q (fun r2 h1 q => ?_))
  refine m_if_ne 17 dX10_flip_8 (by decide) (fun c3 => ?_) (fun c3 => ?_)
  · replace q := q.1 c3
    refine m_aload_n dX10_flip_17 rfl ?_
    refine gf_X10_78 rfl dX10_flip_18 ?_
    refine m_iconst (v := 0) dX10_flip_21 (by decide) ?_
    refine m_iload_n dX10_flip_22 rfl ?_
    refine cl_X10_275 rfl (by decide) dX10_flip_23 (Nat.le_of_ble_eq_true rfl) (MCv_go q (fun h4 q => ?_))
    refine m_aload_n dX10_flip_26 rfl ?_
    refine gf_X10_25 rfl dX10_flip_27 ?_
    refine m_iload_n dX10_flip_30 rfl ?_
    refine cl_X10_279 rfl (by decide) dX10_flip_31 (Nat.le_of_ble_eq_true rfl) (MCv_go q (fun h5 q => ?_))
    refine m_aload_n dX10_flip_34 rfl ?_
    refine cl_X10_203 rfl (by decide) dX10_flip_35 (Nat.le_of_ble_eq_true rfl) (MCi_go q (fun r7 h6 q => ?_))
    exact m_zret dX10_flip_38 rfl q.1 q.2
  · replace q := q.2 c3
    refine m_aload_n dX10_flip_11 rfl ?_
    refine m_iconst (v := 1) dX10_flip_12 (by decide) ?_
    refine cl_X10_197 rfl (by decide) dX10_flip_13 (Nat.le_of_ble_eq_true rfl) (MCi_go q (fun r9 h8 q => ?_))
    exact m_zret dX10_flip_16 rfl q.1 q.2
set_option maxRecDepth 100000 in
theorem e_X10_drop {g : gT} {h : mh_T} {P : Int32 → mh_T → Prop} (l1 : Int32) (q : MCi g yX8_hasSet uX8_hasSet [.ref 3, .int l1] h (fun r2 h1 => (¬ r2 = 0 → MCv g yX4_begin uX4_begin [.ref 10, .int 1, .int l1] h1 (fun h4 => MCv g yX8_remove uX8_remove [.ref 3, .int l1] h4 (fun h5 => MCi g yX10_done uX10_done [.ref 0] h5 (fun r7 h6 => (r7 = 0 ∨ r7 = 1) ∧ P r7 h6)))) ∧ (r2 = 0 → MCi g yX10_denied uX10_denied [.ref 0, .int 1] h1 (fun r9 h8 => (r9 = 0 ∨ r9 = 1) ∧ P r9 h8)))) : MCi g yX10_drop uX10_drop [.ref 0, .int l1] h P := by
  refine m_enter (by decide) rfl (Nat.le_of_ble_eq_true rfl) (lv := [.ref 0, .int l1]) rfl ?_
  refine m_aload_n dX10_drop_0 rfl ?_
  refine gf_X10_25 rfl dX10_drop_1 ?_
  refine m_iload_n dX10_drop_4 rfl ?_
  refine cl_X10_282 rfl (by decide) dX10_drop_5 (Nat.le_of_ble_eq_true rfl) (MCi_go q (fun r2 h1 q => ?_))
  refine m_if_ne 17 dX10_drop_8 (by decide) (fun c3 => ?_) (fun c3 => ?_)
  · replace q := q.1 c3
    refine m_aload_n dX10_drop_17 rfl ?_
    refine gf_X10_78 rfl dX10_drop_18 ?_
    refine m_iconst (v := 1) dX10_drop_21 (by decide) ?_
    refine m_iload_n dX10_drop_22 rfl ?_
    refine cl_X10_275 rfl (by decide) dX10_drop_23 (Nat.le_of_ble_eq_true rfl) (MCv_go q (fun h4 q => ?_))
    refine m_aload_n dX10_drop_26 rfl ?_
    refine gf_X10_25 rfl dX10_drop_27 ?_
    refine m_iload_n dX10_drop_30 rfl ?_
    refine cl_X10_285 rfl (by decide) dX10_drop_31 (Nat.le_of_ble_eq_true rfl) (MCv_go q (fun h5 q => ?_))
    refine m_aload_n dX10_drop_34 rfl ?_
    refine cl_X10_203 rfl (by decide) dX10_drop_35 (Nat.le_of_ble_eq_true rfl) (MCi_go q (fun r7 h6 q => ?_))
    exact m_zret dX10_drop_38 rfl q.1 q.2
  · replace q := q.2 c3
    refine m_aload_n dX10_drop_11 rfl ?_
    refine m_iconst (v := 1) dX10_drop_12 (by decide) ?_
    refine cl_X10_197 rfl (by decide) dX10_drop_13 (Nat.le_of_ble_eq_true rfl) (MCi_go q (fun r9 h8 q => ?_))
    exact m_zret dX10_drop_16 rfl q.1 q.2
set_option maxRecDepth 100000 in
theorem e_X10_forget {g : gT} {h : mh_T} {P : Int32 → mh_T → Prop} (l1 : Int32) (q : MCi g yX8_hasLook uX8_hasLook [.ref 3, .int l1] h (fun r2 h1 => (¬ r2 = 0 → MCi g yX8_isLookedAt uX8_isLookedAt [.ref 3, .int l1] h1 (fun r5 h4 => (¬ r5 = 0 → MCv g yX4_begin uX4_begin [.ref 10, .int 2, .int l1] h4 (fun h7 => MCv g yX8_merge uX8_merge [.ref 3, .int l1] h7 (fun h8 => MCi g yX10_done uX10_done [.ref 0] h8 (fun r10 h9 => (r10 = 0 ∨ r10 = 1) ∧ P r10 h9)))) ∧ (r5 = 0 → MCi g yX10_denied uX10_denied [.ref 0, .int 5] h4 (fun r12 h11 => (r12 = 0 ∨ r12 = 1) ∧ P r12 h11)))) ∧ (r2 = 0 → MCi g yX10_denied uX10_denied [.ref 0, .int 1] h1 (fun r14 h13 => (r14 = 0 ∨ r14 = 1) ∧ P r14 h13)))) : MCi g yX10_forget uX10_forget [.ref 0, .int l1] h P := by
  refine m_enter (by decide) rfl (Nat.le_of_ble_eq_true rfl) (lv := [.ref 0, .int l1]) rfl ?_
  refine m_aload_n dX10_forget_0 rfl ?_
  refine gf_X10_25 rfl dX10_forget_1 ?_
  refine m_iload_n dX10_forget_4 rfl ?_
  refine cl_X10_142 rfl (by decide) dX10_forget_5 (Nat.le_of_ble_eq_true rfl) (MCi_go q (fun r2 h1 q => ?_))
  refine m_if_ne 17 dX10_forget_8 (by decide) (fun c3 => ?_) (fun c3 => ?_)
  · replace q := q.1 c3
    refine m_aload_n dX10_forget_17 rfl ?_
    refine gf_X10_25 rfl dX10_forget_18 ?_
    refine m_iload_n dX10_forget_21 rfl ?_
    refine cl_X10_288 rfl (by decide) dX10_forget_22 (Nat.le_of_ble_eq_true rfl) (MCi_go q (fun r5 h4 q => ?_))
    refine m_if_ne 34 dX10_forget_25 (by decide) (fun c6 => ?_) (fun c6 => ?_)
    · replace q := q.1 c6
      refine m_aload_n dX10_forget_34 rfl ?_
      refine gf_X10_78 rfl dX10_forget_35 ?_
      refine m_iconst (v := 2) dX10_forget_38 (by decide) ?_
      refine m_iload_n dX10_forget_39 rfl ?_
      refine cl_X10_275 rfl (by decide) dX10_forget_40 (Nat.le_of_ble_eq_true rfl) (MCv_go q (fun h7 q => ?_))
      refine m_aload_n dX10_forget_43 rfl ?_
      refine gf_X10_25 rfl dX10_forget_44 ?_
      refine m_iload_n dX10_forget_47 rfl ?_
      refine cl_X10_291 rfl (by decide) dX10_forget_48 (Nat.le_of_ble_eq_true rfl) (MCv_go q (fun h8 q => ?_))
      refine m_aload_n dX10_forget_51 rfl ?_
      refine cl_X10_203 rfl (by decide) dX10_forget_52 (Nat.le_of_ble_eq_true rfl) (MCi_go q (fun r10 h9 q => ?_))
      exact m_zret dX10_forget_55 rfl q.1 q.2
    · replace q := q.2 c6
      refine m_aload_n dX10_forget_28 rfl ?_
      refine m_iconst (v := 5) dX10_forget_29 (by decide) ?_
      refine cl_X10_197 rfl (by decide) dX10_forget_30 (Nat.le_of_ble_eq_true rfl) (MCi_go q (fun r12 h11 q => ?_))
      exact m_zret dX10_forget_33 rfl q.1 q.2
  · replace q := q.2 c3
    refine m_aload_n dX10_forget_11 rfl ?_
    refine m_iconst (v := 1) dX10_forget_12 (by decide) ?_
    refine cl_X10_197 rfl (by decide) dX10_forget_13 (Nat.le_of_ble_eq_true rfl) (MCi_go q (fun r14 h13 q => ?_))
    exact m_zret dX10_forget_16 rfl q.1 q.2
set_option maxRecDepth 100000 in
theorem e_X10_shift {g : gT} {h : mh_T} {P : Int32 → mh_T → Prop} (l1 : Int32) (l2 : Int32) (l3 : Int32) (l4 : Int32) (q : MCi g yX8_hasOutcome uX8_hasOutcome [.ref 3, .int l1, .int l2] h (fun r2 h1 => (r2 = 0 → MCi g yX10_denied uX10_denied [.ref 0, .int 1] h1 (fun r5 h4 => (r5 = 0 ∨ r5 = 1) ∧ P r5 h4)) ∧ (¬ r2 = 0 → MCi g yX8_hasOutcome uX8_hasOutcome [.ref 3, .int l1, .int l3] h1 (fun r7 h6 => (r7 = 0 → MCi g yX10_denied uX10_denied [.ref 0, .int 1] h6 (fun r10 h9 => (r10 = 0 ∨ r10 = 1) ∧ P r10 h9)) ∧ (¬ r7 = 0 → (¬ l2 = l3 → (l4 < 1 → MCi g yX10_denied uX10_denied [.ref 0, .int 2] h6 (fun r14 h13 => (r14 = 0 ∨ r14 = 1) ∧ P r14 h13)) ∧ (¬ l4 < 1 → (l4 ≤ 60 → (vp_in ((4 * l1) + l2) 32) ∧ ((l4 ≤ (mI h6 26 ((4 * l1) + l2).toNatClampNeg) → MCv g yX4_begin uX4_begin [.ref 10, .int 3, .int l1] h6 (fun h18 => MCv g yX4_tellMove uX4_tellMove [.ref 10, .int l2, .int l3, .int l4] h18 (fun h19 => MCv g yX8_move uX8_move [.ref 3, .int ((4 * l1) + l2), .int ((4 * l1) + l3), .int l4] h19 (fun h20 => MCi g yX10_done uX10_done [.ref 0] h20 (fun r22 h21 => (r22 = 0 ∨ r22 = 1) ∧ P r22 h21))))) ∧ (¬ l4 ≤ (mI h6 26 ((4 * l1) + l2).toNatClampNeg) → MCi g yX10_denied uX10_denied [.ref 0, .int 5] h6 (fun r24 h23 => (r24 = 0 ∨ r24 = 1) ∧ P r24 h23)))) ∧ (¬ l4 ≤ 60 → MCi g yX10_denied uX10_denied [.ref 0, .int 2] h6 (fun r26 h25 => (r26 = 0 ∨ r26 = 1) ∧ P r26 h25)))) ∧ (l2 = l3 → MCi g yX10_denied uX10_denied [.ref 0, .int 1] h6 (fun r28 h27 => (r28 = 0 ∨ r28 = 1) ∧ P r28 h27))))))) : MCi g yX10_shift uX10_shift [.ref 0, .int l1, .int l2, .int l3, .int l4] h P := by
  refine m_enter (by decide) rfl (Nat.le_of_ble_eq_true rfl) (lv := [.ref 0, .int l1, .int l2, .int l3, .int l4]) rfl ?_
  refine m_aload_n dX10_shift_0 rfl ?_
  refine gf_X10_25 rfl dX10_shift_1 ?_
  refine m_iload_n dX10_shift_4 rfl ?_
  refine m_iload_n dX10_shift_5 rfl ?_
  refine cl_X10_156 rfl (by decide) dX10_shift_6 (Nat.le_of_ble_eq_true rfl) (MCi_go q (fun r2 h1 q => ?_))
  refine m_if_eq 29 dX10_shift_9 (by decide) (fun c3 => ?_) (fun c3 => ?_)
  · replace q := q.1 c3
    refine m_aload_n dX10_shift_29 rfl ?_
    refine m_iconst (v := 1) dX10_shift_30 (by decide) ?_
    refine cl_X10_197 rfl (by decide) dX10_shift_31 (Nat.le_of_ble_eq_true rfl) (MCi_go q (fun r5 h4 q => ?_))
    exact m_zret dX10_shift_34 rfl q.1 q.2
  · replace q := q.2 c3
    refine m_aload_n dX10_shift_12 rfl ?_
    refine gf_X10_25 rfl dX10_shift_13 ?_
    refine m_iload_n dX10_shift_16 rfl ?_
    refine m_iload_n dX10_shift_17 rfl ?_
    refine cl_X10_156 rfl (by decide) dX10_shift_18 (Nat.le_of_ble_eq_true rfl) (MCi_go q (fun r7 h6 q => ?_))
    refine m_if_eq 29 dX10_shift_21 (by decide) (fun c8 => ?_) (fun c8 => ?_)
    · replace q := q.1 c8
      refine m_aload_n dX10_shift_29 rfl ?_
      refine m_iconst (v := 1) dX10_shift_30 (by decide) ?_
      refine cl_X10_197 rfl (by decide) dX10_shift_31 (Nat.le_of_ble_eq_true rfl) (MCi_go q (fun r10 h9 q => ?_))
      exact m_zret dX10_shift_34 rfl q.1 q.2
    · replace q := q.2 c8
      refine m_iload_n dX10_shift_24 rfl ?_
      refine m_iload_n dX10_shift_25 rfl ?_
      refine m_icmp_ne 35 dX10_shift_26 (by decide) (fun c11 => ?_) (fun c11 => ?_)
      · replace q := q.1 c11
        refine m_iload dX10_shift_35 rfl ?_
        refine m_iconst (v := 1) dX10_shift_37 (by decide) ?_
        refine m_icmp_lt 48 dX10_shift_38 (by decide) (fun c12 => ?_) (fun c12 => ?_)
        · replace q := q.1 c12
          refine m_aload_n dX10_shift_48 rfl ?_
          refine m_iconst (v := 2) dX10_shift_49 (by decide) ?_
          refine cl_X10_197 rfl (by decide) dX10_shift_50 (Nat.le_of_ble_eq_true rfl) (MCi_go q (fun r14 h13 q => ?_))
          exact m_zret dX10_shift_53 rfl q.1 q.2
        · replace q := q.2 c12
          refine m_iload dX10_shift_41 rfl ?_
          refine m_bipush (v := 60) dX10_shift_43 (by decide) ?_
          refine m_icmp_le 54 dX10_shift_45 (by decide) (fun c15 => ?_) (fun c15 => ?_)
          · replace q := q.1 c15
            refine m_aload_n dX10_shift_54 rfl ?_
            refine gf_X10_25 rfl dX10_shift_55 ?_
            refine gf_X10_294 rfl dX10_shift_58 ?_
            refine m_iconst (v := 4) dX10_shift_61 (by decide) ?_
            refine m_iload_n dX10_shift_62 rfl ?_
            refine m_imul dX10_shift_63 ?_
            refine m_iload_n dX10_shift_64 rfl ?_
            refine m_iadd dX10_shift_65 ?_
            obtain ⟨b16, q⟩ := q
            refine m_iaload dX10_shift_66 rfl (by decide) b16 ?_
            refine m_iload dX10_shift_67 rfl ?_
            refine m_icmp_ge 78 dX10_shift_69 (by decide) (fun c17 => ?_) (fun c17 => ?_)
            · replace q := q.1 c17
              refine m_aload_n dX10_shift_78 rfl ?_
              refine gf_X10_78 rfl dX10_shift_79 ?_
              refine m_iconst (v := 3) dX10_shift_82 (by decide) ?_
              refine m_iload_n dX10_shift_83 rfl ?_
              refine cl_X10_275 rfl (by decide) dX10_shift_84 (Nat.le_of_ble_eq_true rfl) (MCv_go q (fun h18 q => ?_))
              refine m_aload_n dX10_shift_87 rfl ?_
              refine gf_X10_78 rfl dX10_shift_88 ?_
              refine m_iload_n dX10_shift_91 rfl ?_
              refine m_iload_n dX10_shift_92 rfl ?_
              refine m_iload dX10_shift_93 rfl ?_
              refine cl_X10_297 rfl (by decide) dX10_shift_95 (Nat.le_of_ble_eq_true rfl) (MCv_go q (fun h19 q => ?_))
              refine m_aload_n dX10_shift_98 rfl ?_
              refine gf_X10_25 rfl dX10_shift_99 ?_
              refine m_iconst (v := 4) dX10_shift_102 (by decide) ?_
              refine m_iload_n dX10_shift_103 rfl ?_
              refine m_imul dX10_shift_104 ?_
              refine m_iload_n dX10_shift_105 rfl ?_
              refine m_iadd dX10_shift_106 ?_
              refine m_iconst (v := 4) dX10_shift_107 (by decide) ?_
              refine m_iload_n dX10_shift_108 rfl ?_
              refine m_imul dX10_shift_109 ?_
              refine m_iload_n dX10_shift_110 rfl ?_
              refine m_iadd dX10_shift_111 ?_
              refine m_iload dX10_shift_112 rfl ?_
              refine cl_X10_301 rfl (by decide) dX10_shift_114 (Nat.le_of_ble_eq_true rfl) (MCv_go q (fun h20 q => ?_))
              refine m_aload_n dX10_shift_117 rfl ?_
              refine cl_X10_203 rfl (by decide) dX10_shift_118 (Nat.le_of_ble_eq_true rfl) (MCi_go q (fun r22 h21 q => ?_))
              exact m_zret dX10_shift_121 rfl q.1 q.2
            · replace q := q.2 c17
              refine m_aload_n dX10_shift_72 rfl ?_
              refine m_iconst (v := 5) dX10_shift_73 (by decide) ?_
              refine cl_X10_197 rfl (by decide) dX10_shift_74 (Nat.le_of_ble_eq_true rfl) (MCi_go q (fun r24 h23 q => ?_))
              exact m_zret dX10_shift_77 rfl q.1 q.2
          · replace q := q.2 c15
            refine m_aload_n dX10_shift_48 rfl ?_
            refine m_iconst (v := 2) dX10_shift_49 (by decide) ?_
            refine cl_X10_197 rfl (by decide) dX10_shift_50 (Nat.le_of_ble_eq_true rfl) (MCi_go q (fun r26 h25 q => ?_))
            exact m_zret dX10_shift_53 rfl q.1 q.2
      · replace q := q.2 c11
        refine m_aload_n dX10_shift_29 rfl ?_
        refine m_iconst (v := 1) dX10_shift_30 (by decide) ?_
        refine cl_X10_197 rfl (by decide) dX10_shift_31 (Nat.le_of_ble_eq_true rfl) (MCi_go q (fun r28 h27 q => ?_))
        exact m_zret dX10_shift_34 rfl q.1 q.2
set_option maxRecDepth 100000 in
theorem e_X10_undo {g : gT} {h : mh_T} {P : Int32 → mh_T → Prop}  (q : MCi g yX4_takeBack uX4_takeBack [.ref 10] h (fun r2 h1 => (r2 = 0 → MCi g yX10_denied uX10_denied [.ref 0, .int 6] h1 (fun r5 h4 => (r5 = 0 ∨ r5 = 1) ∧ P r5 h4)) ∧ (¬ r2 = 0 → MCi g yX10_done uX10_done [.ref 0] h1 (fun r7 h6 => (r7 = 0 ∨ r7 = 1) ∧ P r7 h6)))) : MCi g yX10_undo uX10_undo [.ref 0] h P := by
  refine m_enter (by decide) rfl (Nat.le_of_ble_eq_true rfl) (lv := [.ref 0]) rfl ?_
  refine m_aload_n dX10_undo_0 rfl ?_
  refine gf_X10_78 rfl dX10_undo_1 ?_
  refine cl_X10_304 rfl (by decide) dX10_undo_4 (Nat.le_of_ble_eq_true rfl) (MCi_go q (fun r2 h1 q => ?_))
  refine m_if_eq 17 dX10_undo_7 (by decide) (fun c3 => ?_) (fun c3 => ?_)
  · replace q := q.1 c3
    refine m_aload_n dX10_undo_17 rfl ?_
    refine m_bipush (v := 6) dX10_undo_18 (by decide) ?_
    refine cl_X10_197 rfl (by decide) dX10_undo_20 (Nat.le_of_ble_eq_true rfl) (MCi_go q (fun r5 h4 q => ?_))
    exact m_zret dX10_undo_23 rfl q.1 q.2
  · replace q := q.2 c3
    refine m_aload_n dX10_undo_10 rfl ?_
    refine cl_X10_203 rfl (by decide) dX10_undo_11 (Nat.le_of_ble_eq_true rfl) (MCi_go q (fun r7 h6 q => ?_))
    refine m_goto 23 dX10_undo_14 (by decide) ?_
    exact m_zret dX10_undo_23 rfl q.1 q.2
set_option maxRecDepth 100000 in
theorem e_X10_redo {g : gT} {h : mh_T} {P : Int32 → mh_T → Prop}  (q : MCi g yX4_makeAgain uX4_makeAgain [.ref 10] h (fun r2 h1 => (r2 = 0 → MCi g yX10_denied uX10_denied [.ref 0, .int 6] h1 (fun r5 h4 => (r5 = 0 ∨ r5 = 1) ∧ P r5 h4)) ∧ (¬ r2 = 0 → MCi g yX10_done uX10_done [.ref 0] h1 (fun r7 h6 => (r7 = 0 ∨ r7 = 1) ∧ P r7 h6)))) : MCi g yX10_redo uX10_redo [.ref 0] h P := by
  refine m_enter (by decide) rfl (Nat.le_of_ble_eq_true rfl) (lv := [.ref 0]) rfl ?_
  refine m_aload_n dX10_redo_0 rfl ?_
  refine gf_X10_78 rfl dX10_redo_1 ?_
  refine cl_X10_307 rfl (by decide) dX10_redo_4 (Nat.le_of_ble_eq_true rfl) (MCi_go q (fun r2 h1 q => ?_))
  refine m_if_eq 17 dX10_redo_7 (by decide) (fun c3 => ?_) (fun c3 => ?_)
  · replace q := q.1 c3
    refine m_aload_n dX10_redo_17 rfl ?_
    refine m_bipush (v := 6) dX10_redo_18 (by decide) ?_
    refine cl_X10_197 rfl (by decide) dX10_redo_20 (Nat.le_of_ble_eq_true rfl) (MCi_go q (fun r5 h4 q => ?_))
    exact m_zret dX10_redo_23 rfl q.1 q.2
  · replace q := q.2 c3
    refine m_aload_n dX10_redo_10 rfl ?_
    refine cl_X10_203 rfl (by decide) dX10_redo_11 (Nat.le_of_ble_eq_true rfl) (MCi_go q (fun r7 h6 q => ?_))
    refine m_goto 23 dX10_redo_14 (by decide) ?_
    exact m_zret dX10_redo_23 rfl q.1 q.2
set_option maxRecDepth 100000 in
theorem e_X10_mark {g : gT} {h : mh_T} {P : Int32 → mh_T → Prop}  (q : MCi g yX10_noBook uX10_noBook [.ref 0] h (fun r2 h1 => (r2 = 0 → ((mI h1 10 2) < 4 → MCi g yX4_keep uX4_keep [.ref 10] h1 (fun r6 h5 => MCi g yX10_told uX10_told [.ref 0, .int r6] h5 (fun r8 h7 => P r8 h7))) ∧ (¬ (mI h1 10 2) < 4 → MCi g yX10_refused uX10_refused [.ref 0, .int 3] h1 (fun r10 h9 => P r10 h9))) ∧ (¬ r2 = 0 → MCi g yX10_refused uX10_refused [.ref 0, .int 1] h1 (fun r12 h11 => P r12 h11)))) : MCi g yX10_mark uX10_mark [.ref 0] h P := by
  refine m_enter (by decide) rfl (Nat.le_of_ble_eq_true rfl) (lv := [.ref 0]) rfl ?_
  refine m_aload_n dX10_mark_0 rfl ?_
  refine cl_X10_131 rfl (by decide) dX10_mark_1 (Nat.le_of_ble_eq_true rfl) (MCi_go q (fun r2 h1 q => ?_))
  refine m_if_eq 13 dX10_mark_4 (by decide) (fun c3 => ?_) (fun c3 => ?_)
  · replace q := q.1 c3
    refine m_aload_n dX10_mark_13 rfl ?_
    refine gf_X10_78 rfl dX10_mark_14 ?_
    refine gf_X10_310 rfl dX10_mark_17 ?_
    refine m_iconst (v := 4) dX10_mark_20 (by decide) ?_
    refine m_icmp_lt 30 dX10_mark_21 (by decide) (fun c4 => ?_) (fun c4 => ?_)
    · replace q := q.1 c4
      refine m_aload_n dX10_mark_30 rfl ?_
      refine m_aload_n dX10_mark_31 rfl ?_
      refine gf_X10_78 rfl dX10_mark_32 ?_
      refine cl_X10_313 rfl (by decide) dX10_mark_35 (Nat.le_of_ble_eq_true rfl) (MCi_go q (fun r6 h5 q => ?_))
      refine cl_X10_125 rfl (by decide) dX10_mark_38 (Nat.le_of_ble_eq_true rfl) (MCi_go q (fun r8 h7 q => ?_))
      exact m_iret dX10_mark_41 rfl q
    · replace q := q.2 c4
      refine m_aload_n dX10_mark_24 rfl ?_
      refine m_iconst (v := 3) dX10_mark_25 (by decide) ?_
      refine cl_X10_90 rfl (by decide) dX10_mark_26 (Nat.le_of_ble_eq_true rfl) (MCi_go q (fun r10 h9 q => ?_))
      exact m_iret dX10_mark_29 rfl q
  · replace q := q.2 c3
    refine m_aload_n dX10_mark_7 rfl ?_
    refine m_iconst (v := 1) dX10_mark_8 (by decide) ?_
    refine cl_X10_90 rfl (by decide) dX10_mark_9 (Nat.le_of_ble_eq_true rfl) (MCi_go q (fun r12 h11 q => ?_))
    exact m_iret dX10_mark_12 rfl q
set_option maxRecDepth 100000 in
theorem e_X10_back {g : gT} {h : mh_T} {P : Int32 → mh_T → Prop} (l1 : Int32) (q : MCi g yX4_goBack uX4_goBack [.ref 10, .int l1] h (fun r2 h1 => (r2 = 0 → MCi g yX10_denied uX10_denied [.ref 0, .int 1] h1 (fun r5 h4 => (r5 = 0 ∨ r5 = 1) ∧ P r5 h4)) ∧ (¬ r2 = 0 → MCi g yX10_done uX10_done [.ref 0] h1 (fun r7 h6 => (r7 = 0 ∨ r7 = 1) ∧ P r7 h6)))) : MCi g yX10_back uX10_back [.ref 0, .int l1] h P := by
  refine m_enter (by decide) rfl (Nat.le_of_ble_eq_true rfl) (lv := [.ref 0, .int l1]) rfl ?_
  refine m_aload_n dX10_back_0 rfl ?_
  refine gf_X10_78 rfl dX10_back_1 ?_
  refine m_iload_n dX10_back_4 rfl ?_
  refine cl_X10_316 rfl (by decide) dX10_back_5 (Nat.le_of_ble_eq_true rfl) (MCi_go q (fun r2 h1 q => ?_))
  refine m_if_eq 18 dX10_back_8 (by decide) (fun c3 => ?_) (fun c3 => ?_)
  · replace q := q.1 c3
    refine m_aload_n dX10_back_18 rfl ?_
    refine m_iconst (v := 1) dX10_back_19 (by decide) ?_
    refine cl_X10_197 rfl (by decide) dX10_back_20 (Nat.le_of_ble_eq_true rfl) (MCi_go q (fun r5 h4 q => ?_))
    exact m_zret dX10_back_23 rfl q.1 q.2
  · replace q := q.2 c3
    refine m_aload_n dX10_back_11 rfl ?_
    refine cl_X10_203 rfl (by decide) dX10_back_12 (Nat.le_of_ble_eq_true rfl) (MCi_go q (fun r7 h6 q => ?_))
    refine m_goto 23 dX10_back_15 (by decide) ?_
    exact m_zret dX10_back_23 rfl q.1 q.2
set_option maxRecDepth 100000 in
theorem e_X10_act {g : gT} {h : mh_T} {P : Int32 → mh_T → Prop} (l1 : Int32) (l2 : Int32) (q : (l1 < 0 → MCi g yX10_refused uX10_refused [.ref 0, .int 1] h (fun r3 h2 => P r3 h2)) ∧ (¬ l1 < 0 → ((mI h 10 0) ≤ l1 → MCi g yX10_refused uX10_refused [.ref 0, .int 1] h (fun r6 h5 => P r6 h5)) ∧ (¬ (mI h 10 0) ≤ l1 → (l2 < 0 → MCi g yX10_refused uX10_refused [.ref 0, .int 1] h (fun r9 h8 => P r9 h8)) ∧ (¬ l2 < 0 → (l2 < 5 → (vp_in l1 20) ∧ ((shp (mR h 40 l1.toNatClampNeg) = (20, 5, [])) ∧ ((vp_in l2 5) ∧ (MCi g yX10_told uX10_told [.ref 0, .int (mI h (mR h 40 l1.toNatClampNeg) l2.toNatClampNeg)] h (fun r15 h14 => P r15 h14))))) ∧ (¬ l2 < 5 → MCi g yX10_refused uX10_refused [.ref 0, .int 1] h (fun r17 h16 => P r17 h16)))))) : MCi g yX10_act uX10_act [.ref 0, .int l1, .int l2] h P := by
  refine m_enter (by decide) rfl (Nat.le_of_ble_eq_true rfl) (lv := [.ref 0, .int l1, .int l2]) rfl ?_
  refine m_iload_n dX10_act_0 rfl ?_
  refine m_if_lt 24 dX10_act_1 (by decide) (fun c1 => ?_) (fun c1 => ?_)
  · replace q := q.1 c1
    refine m_aload_n dX10_act_24 rfl ?_
    refine m_iconst (v := 1) dX10_act_25 (by decide) ?_
    refine cl_X10_90 rfl (by decide) dX10_act_26 (Nat.le_of_ble_eq_true rfl) (MCi_go q (fun r3 h2 q => ?_))
    exact m_iret dX10_act_29 rfl q
  · replace q := q.2 c1
    refine m_iload_n dX10_act_4 rfl ?_
    refine m_aload_n dX10_act_5 rfl ?_
    refine gf_X10_78 rfl dX10_act_6 ?_
    refine gf_X10_319 rfl dX10_act_9 ?_
    refine m_icmp_ge 24 dX10_act_12 (by decide) (fun c4 => ?_) (fun c4 => ?_)
    · replace q := q.1 c4
      refine m_aload_n dX10_act_24 rfl ?_
      refine m_iconst (v := 1) dX10_act_25 (by decide) ?_
      refine cl_X10_90 rfl (by decide) dX10_act_26 (Nat.le_of_ble_eq_true rfl) (MCi_go q (fun r6 h5 q => ?_))
      exact m_iret dX10_act_29 rfl q
    · replace q := q.2 c4
      refine m_iload_n dX10_act_15 rfl ?_
      refine m_if_lt 24 dX10_act_16 (by decide) (fun c7 => ?_) (fun c7 => ?_)
      · replace q := q.1 c7
        refine m_aload_n dX10_act_24 rfl ?_
        refine m_iconst (v := 1) dX10_act_25 (by decide) ?_
        refine cl_X10_90 rfl (by decide) dX10_act_26 (Nat.le_of_ble_eq_true rfl) (MCi_go q (fun r9 h8 q => ?_))
        exact m_iret dX10_act_29 rfl q
      · replace q := q.2 c7
        refine m_iload_n dX10_act_19 rfl ?_
        refine m_iconst (v := 5) dX10_act_20 (by decide) ?_
        refine m_icmp_lt 30 dX10_act_21 (by decide) (fun c10 => ?_) (fun c10 => ?_)
        · replace q := q.1 c10
          refine m_aload_n dX10_act_30 rfl ?_
          refine m_aload_n dX10_act_31 rfl ?_
          refine gf_X10_78 rfl dX10_act_32 ?_
          refine gf_X10_322 rfl dX10_act_35 ?_
          refine m_iload_n dX10_act_38 rfl ?_
          obtain ⟨b11, q⟩ := q
          obtain ⟨b12, q⟩ := q
          refine m_aaldD dX10_act_39 (show shp 40 = (25, 20, []) from rfl) b11 b12 (by decide) ?_
          refine m_iload_n dX10_act_40 rfl ?_
          obtain ⟨b13, q⟩ := q
          refine m_iaload dX10_act_41 b12 (shp_lt b12 (by decide)) b13 ?_
          refine cl_X10_125 rfl (by decide) dX10_act_42 (Nat.le_of_ble_eq_true rfl) (MCi_go q (fun r15 h14 q => ?_))
          exact m_iret dX10_act_45 rfl q
        · replace q := q.2 c10
          refine m_aload_n dX10_act_24 rfl ?_
          refine m_iconst (v := 1) dX10_act_25 (by decide) ?_
          refine cl_X10_90 rfl (by decide) dX10_act_26 (Nat.le_of_ble_eq_true rfl) (MCi_go q (fun r17 h16 q => ?_))
          exact m_iret dX10_act_29 rfl q
set_option maxRecDepth 100000 in
theorem e_X10_times {g : gT} {h : mh_T} {P : Int32 → mh_T → Prop} (l1 : Int32) (l2 : Int32) (q : MCi g yX8_hasOutcome uX8_hasOutcome [.ref 3, .int l1, .int l2] h (fun r2 h1 => (¬ r2 = 0 → (vp_in ((4 * l1) + l2) 32) ∧ (MCi g yX10_told uX10_told [.ref 0, .int (mI h1 26 ((4 * l1) + l2).toNatClampNeg)] h1 (fun r6 h5 => P r6 h5))) ∧ (r2 = 0 → MCi g yX10_refused uX10_refused [.ref 0, .int 1] h1 (fun r8 h7 => P r8 h7)))) : MCi g yX10_times uX10_times [.ref 0, .int l1, .int l2] h P := by
  refine m_enter (by decide) rfl (Nat.le_of_ble_eq_true rfl) (lv := [.ref 0, .int l1, .int l2]) rfl ?_
  refine m_aload_n dX10_times_0 rfl ?_
  refine gf_X10_25 rfl dX10_times_1 ?_
  refine m_iload_n dX10_times_4 rfl ?_
  refine m_iload_n dX10_times_5 rfl ?_
  refine cl_X10_156 rfl (by decide) dX10_times_6 (Nat.le_of_ble_eq_true rfl) (MCi_go q (fun r2 h1 q => ?_))
  refine m_if_ne 18 dX10_times_9 (by decide) (fun c3 => ?_) (fun c3 => ?_)
  · replace q := q.1 c3
    refine m_aload_n dX10_times_18 rfl ?_
    refine m_aload_n dX10_times_19 rfl ?_
    refine gf_X10_25 rfl dX10_times_20 ?_
    refine gf_X10_294 rfl dX10_times_23 ?_
    refine m_iconst (v := 4) dX10_times_26 (by decide) ?_
    refine m_iload_n dX10_times_27 rfl ?_
    refine m_imul dX10_times_28 ?_
    refine m_iload_n dX10_times_29 rfl ?_
    refine m_iadd dX10_times_30 ?_
    obtain ⟨b4, q⟩ := q
    refine m_iaload dX10_times_31 rfl (by decide) b4 ?_
    refine cl_X10_125 rfl (by decide) dX10_times_32 (Nat.le_of_ble_eq_true rfl) (MCi_go q (fun r6 h5 q => ?_))
    exact m_iret dX10_times_35 rfl q
  · replace q := q.2 c3
    refine m_aload_n dX10_times_12 rfl ?_
    refine m_iconst (v := 1) dX10_times_13 (by decide) ?_
    refine cl_X10_90 rfl (by decide) dX10_times_14 (Nat.le_of_ble_eq_true rfl) (MCi_go q (fun r8 h7 q => ?_))
    exact m_iret dX10_times_17 rfl q
set_option maxRecDepth 100000 in
theorem e_X10_look {g : gT} {h : mh_T} {P : Int32 → mh_T → Prop} (l1 : Int32) (l2 : Int32) (q : MCi g yX8_hasSet uX8_hasSet [.ref 3, .int l1] h (fun r2 h1 => (¬ r2 = 0 → (l2 = 0 → (vp_in l1 8) ∧ (MCi g yX10_told uX10_told [.ref 0, .int (mI h1 24 l1.toNatClampNeg)] h1 (fun r7 h6 => P r7 h6))) ∧ (¬ l2 = 0 → (vp_in l1 8) ∧ (MCi g yX10_told uX10_told [.ref 0, .int (mI h1 25 l1.toNatClampNeg)] h1 (fun r10 h9 => P r10 h9)))) ∧ (r2 = 0 → MCi g yX10_refused uX10_refused [.ref 0, .int 1] h1 (fun r12 h11 => P r12 h11)))) : MCi g yX10_look uX10_look [.ref 0, .int l1, .int l2] h P := by
  refine m_enter (by decide) rfl (Nat.le_of_ble_eq_true rfl) (lv := [.ref 0, .int l1, .int l2]) rfl ?_
  refine m_aload_n dX10_look_0 rfl ?_
  refine gf_X10_25 rfl dX10_look_1 ?_
  refine m_iload_n dX10_look_4 rfl ?_
  refine cl_X10_282 rfl (by decide) dX10_look_5 (Nat.le_of_ble_eq_true rfl) (MCi_go q (fun r2 h1 q => ?_))
  refine m_if_ne 17 dX10_look_8 (by decide) (fun c3 => ?_) (fun c3 => ?_)
  · replace q := q.1 c3
    refine m_aload_n dX10_look_17 rfl ?_
    refine m_iload_n dX10_look_18 rfl ?_
    refine m_if_eq 34 dX10_look_19 (by decide) (fun c4 => ?_) (fun c4 => ?_)
    · replace q := q.1 c4
      refine m_aload_n dX10_look_34 rfl ?_
      refine gf_X10_25 rfl dX10_look_35 ?_
      refine gf_X10_329 rfl dX10_look_38 ?_
      refine m_iload_n dX10_look_41 rfl ?_
      obtain ⟨b5, q⟩ := q
      refine m_iaload dX10_look_42 rfl (by decide) b5 ?_
      refine cl_X10_125 rfl (by decide) dX10_look_43 (Nat.le_of_ble_eq_true rfl) (MCi_go q (fun r7 h6 q => ?_))
      exact m_iret dX10_look_46 rfl q
    · replace q := q.2 c4
      refine m_aload_n dX10_look_22 rfl ?_
      refine gf_X10_25 rfl dX10_look_23 ?_
      refine gf_X10_326 rfl dX10_look_26 ?_
      refine m_iload_n dX10_look_29 rfl ?_
      obtain ⟨b8, q⟩ := q
      refine m_iaload dX10_look_30 rfl (by decide) b8 ?_
      refine m_goto 43 dX10_look_31 (by decide) ?_
      refine cl_X10_125 rfl (by decide) dX10_look_43 (Nat.le_of_ble_eq_true rfl) (MCi_go q (fun r10 h9 q => ?_))
      exact m_iret dX10_look_46 rfl q
  · replace q := q.2 c3
    refine m_aload_n dX10_look_11 rfl ?_
    refine m_iconst (v := 1) dX10_look_12 (by decide) ?_
    refine cl_X10_90 rfl (by decide) dX10_look_13 (Nat.le_of_ble_eq_true rfl) (MCi_go q (fun r12 h11 q => ?_))
    exact m_iret dX10_look_16 rfl q
set_option maxRecDepth 100000 in
theorem e_X10_coins {g : gT} {h : mh_T} {P : Int32 → mh_T → Prop} (l1 : Int32) (l2 : Int32) (q : MCi g yX8_hasOutcome uX8_hasOutcome [.ref 3, .int l1, .int l2] h (fun r2 h1 => (¬ r2 = 0 → (vp_in ((4 * l1) + l2) 32) ∧ (MCi g yX10_told uX10_told [.ref 0, .int (mI h1 27 ((4 * l1) + l2).toNatClampNeg)] h1 (fun r6 h5 => P r6 h5))) ∧ (r2 = 0 → MCi g yX10_refused uX10_refused [.ref 0, .int 1] h1 (fun r8 h7 => P r8 h7)))) : MCi g yX10_coins uX10_coins [.ref 0, .int l1, .int l2] h P := by
  refine m_enter (by decide) rfl (Nat.le_of_ble_eq_true rfl) (lv := [.ref 0, .int l1, .int l2]) rfl ?_
  refine m_aload_n dX10_coins_0 rfl ?_
  refine gf_X10_25 rfl dX10_coins_1 ?_
  refine m_iload_n dX10_coins_4 rfl ?_
  refine m_iload_n dX10_coins_5 rfl ?_
  refine cl_X10_156 rfl (by decide) dX10_coins_6 (Nat.le_of_ble_eq_true rfl) (MCi_go q (fun r2 h1 q => ?_))
  refine m_if_ne 18 dX10_coins_9 (by decide) (fun c3 => ?_) (fun c3 => ?_)
  · replace q := q.1 c3
    refine m_aload_n dX10_coins_18 rfl ?_
    refine m_aload_n dX10_coins_19 rfl ?_
    refine gf_X10_25 rfl dX10_coins_20 ?_
    refine gf_X10_200 rfl dX10_coins_23 ?_
    refine m_iconst (v := 4) dX10_coins_26 (by decide) ?_
    refine m_iload_n dX10_coins_27 rfl ?_
    refine m_imul dX10_coins_28 ?_
    refine m_iload_n dX10_coins_29 rfl ?_
    refine m_iadd dX10_coins_30 ?_
    obtain ⟨b4, q⟩ := q
    refine m_iaload dX10_coins_31 rfl (by decide) b4 ?_
    refine cl_X10_125 rfl (by decide) dX10_coins_32 (Nat.le_of_ble_eq_true rfl) (MCi_go q (fun r6 h5 q => ?_))
    exact m_iret dX10_coins_35 rfl q
  · replace q := q.2 c3
    refine m_aload_n dX10_coins_12 rfl ?_
    refine m_iconst (v := 1) dX10_coins_13 (by decide) ?_
    refine cl_X10_90 rfl (by decide) dX10_coins_14 (Nat.le_of_ble_eq_true rfl) (MCi_go q (fun r8 h7 q => ?_))
    exact m_iret dX10_coins_17 rfl q
set_option maxRecDepth 100000 in
theorem e_X10_size {g : gT} {h : mh_T} {P : Int32 → mh_T → Prop} (l1 : Int32) (q : (l1.toInt < 0 ∨ 10 < l1.toInt → P (-1) h) ∧ (l1 = 0 → P (mI h 3 1) h) ∧ (l1 = 1 → P (mI h 7 0) h) ∧ (l1 = 2 → P (mI h 3 2) h) ∧ (l1 = 3 → P (mI h 7 1) h) ∧ (l1 = 4 → P (mI h 8 0) h) ∧ (l1 = 5 → P (mI h 9 0) h) ∧ (l1 = 6 → P (mI h 3 0) h) ∧ (l1 = 7 → P (mI h 10 0) h) ∧ (l1 = 8 → P ((mI h 10 1) - (mI h 10 0)) h) ∧ (l1 = 9 → P (mI h 10 2) h) ∧ (l1 = 10 → P (mI h 0 10) h)) : MCi g yX10_size uX10_size [.ref 0, .int l1] h P := by
  refine m_enter (by decide) rfl (Nat.le_of_ble_eq_true rfl) (lv := [.ref 0, .int l1]) rfl ?_
  refine m_iload_n dX10_size_0 rfl ?_
  rcases sw_10 l1 with c1 | c1 | c1 | c1 | c1 | c1 | c1 | c1 | c1 | c1 | c1 | c1
  · replace q := q.1 c1
    refine m_tableOut 153 dX10_size_1 c1 (by decide) ?_
    refine m_iconst (v := (-1)) dX10_size_153 (by decide) ?_
    exact m_iret dX10_size_154 rfl q
  · replace q := q.2.1 c1
    refine m_tableIn (off := 59) 60 dX10_size_1 (by rw [c1]; decide) (by rw [c1]; decide) (by rw [c1]; decide) (by decide) ?_
    refine m_aload_n dX10_size_60 rfl ?_
    refine gf_X10_25 rfl dX10_size_61 ?_
    refine gf_X10_122 rfl dX10_size_64 ?_
    exact m_iret dX10_size_67 rfl q
  · replace q := q.2.2.1 c1
    refine m_tableIn (off := 67) 68 dX10_size_1 (by rw [c1]; decide) (by rw [c1]; decide) (by rw [c1]; decide) (by decide) ?_
    refine m_aload_n dX10_size_68 rfl ?_
    refine gf_X10_57 rfl dX10_size_69 ?_
    refine gf_X10_225 rfl dX10_size_72 ?_
    exact m_iret dX10_size_75 rfl q
  · replace q := q.2.2.2.1 c1
    refine m_tableIn (off := 75) 76 dX10_size_1 (by rw [c1]; decide) (by rw [c1]; decide) (by rw [c1]; decide) (by decide) ?_
    refine m_aload_n dX10_size_76 rfl ?_
    refine gf_X10_25 rfl dX10_size_77 ?_
    refine gf_X10_348 rfl dX10_size_80 ?_
    exact m_iret dX10_size_83 rfl q
  · replace q := q.2.2.2.2.1 c1
    refine m_tableIn (off := 83) 84 dX10_size_1 (by rw [c1]; decide) (by rw [c1]; decide) (by rw [c1]; decide) (by decide) ?_
    refine m_aload_n dX10_size_84 rfl ?_
    refine gf_X10_57 rfl dX10_size_85 ?_
    refine gf_X10_234 rfl dX10_size_88 ?_
    exact m_iret dX10_size_91 rfl q
  · replace q := q.2.2.2.2.2.1 c1
    refine m_tableIn (off := 91) 92 dX10_size_1 (by rw [c1]; decide) (by rw [c1]; decide) (by rw [c1]; decide) (by decide) ?_
    refine m_aload_n dX10_size_92 rfl ?_
    refine gf_X10_64 rfl dX10_size_93 ?_
    refine gf_X10_351 rfl dX10_size_96 ?_
    exact m_iret dX10_size_99 rfl q
  · replace q := q.2.2.2.2.2.2.1 c1
    refine m_tableIn (off := 99) 100 dX10_size_1 (by rw [c1]; decide) (by rw [c1]; decide) (by rw [c1]; decide) (by decide) ?_
    refine m_aload_n dX10_size_100 rfl ?_
    refine gf_X10_71 rfl dX10_size_101 ?_
    refine gf_X10_354 rfl dX10_size_104 ?_
    exact m_iret dX10_size_107 rfl q
  · replace q := q.2.2.2.2.2.2.2.1 c1
    refine m_tableIn (off := 107) 108 dX10_size_1 (by rw [c1]; decide) (by rw [c1]; decide) (by rw [c1]; decide) (by decide) ?_
    refine m_aload_n dX10_size_108 rfl ?_
    refine gf_X10_25 rfl dX10_size_109 ?_
    refine gf_X10_215 rfl dX10_size_112 ?_
    exact m_iret dX10_size_115 rfl q
  · replace q := q.2.2.2.2.2.2.2.2.1 c1
    refine m_tableIn (off := 115) 116 dX10_size_1 (by rw [c1]; decide) (by rw [c1]; decide) (by rw [c1]; decide) (by decide) ?_
    refine m_aload_n dX10_size_116 rfl ?_
    refine gf_X10_78 rfl dX10_size_117 ?_
    refine gf_X10_319 rfl dX10_size_120 ?_
    exact m_iret dX10_size_123 rfl q
  · replace q := q.2.2.2.2.2.2.2.2.2.1 c1
    refine m_tableIn (off := 123) 124 dX10_size_1 (by rw [c1]; decide) (by rw [c1]; decide) (by rw [c1]; decide) (by decide) ?_
    refine m_aload_n dX10_size_124 rfl ?_
    refine gf_X10_78 rfl dX10_size_125 ?_
    refine gf_X10_357 rfl dX10_size_128 ?_
    refine m_aload_n dX10_size_131 rfl ?_
    refine gf_X10_78 rfl dX10_size_132 ?_
    refine gf_X10_319 rfl dX10_size_135 ?_
    refine m_isub dX10_size_138 ?_
    exact m_iret dX10_size_139 rfl q
  · replace q := q.2.2.2.2.2.2.2.2.2.2.1 c1
    refine m_tableIn (off := 139) 140 dX10_size_1 (by rw [c1]; decide) (by rw [c1]; decide) (by rw [c1]; decide) (by decide) ?_
    refine m_aload_n dX10_size_140 rfl ?_
    refine gf_X10_78 rfl dX10_size_141 ?_
    refine gf_X10_310 rfl dX10_size_144 ?_
    exact m_iret dX10_size_147 rfl q
  · replace q := q.2.2.2.2.2.2.2.2.2.2.2 c1
    refine m_tableIn (off := 147) 148 dX10_size_1 (by rw [c1]; decide) (by rw [c1]; decide) (by rw [c1]; decide) (by decide) ?_
    refine m_aload_n dX10_size_148 rfl ?_
    refine gf_X10_82 rfl dX10_size_149 ?_
    exact m_iret dX10_size_152 rfl q
set_option maxRecDepth 100000 in
theorem e_X10_trouble {g : gT} {h : mh_T} {P : Int32 → mh_T → Prop}  (q : P (mI h 0 11) h) : MCi g yX10_trouble uX10_trouble [.ref 0] h P := by
  refine m_enter (by decide) rfl (Nat.le_of_ble_eq_true rfl) (lv := [.ref 0]) rfl ?_
  refine m_aload_n dX10_trouble_0 rfl ?_
  refine gf_X10_128 rfl dX10_trouble_1 ?_
  exact m_iret dX10_trouble_4 rfl q
set_option maxRecDepth 100000 in
theorem e_X10_put {g : gT} {h : mh_T} {P : mh_T → Prop} (l1 : Int32) (q : ME g uX10_put 3 [.ref 0, .int l1, .int 24] [] h (qV P)) : MCv g yX10_put uX10_put [.ref 0, .int l1] h P := by
  refine m_enter (by decide) rfl (Nat.le_of_ble_eq_true rfl) (lv := [.ref 0, .int l1, .retAddr 0]) rfl ?_
  refine m_bipush (v := 24) dX10_put_0 (by decide) ?_
  refine m_istore_n (lv' := [.ref 0, .int l1, .int 24]) dX10_put_2 (Nat.le_of_ble_eq_true rfl) rfl rfl ?_
  exact q
set_option maxRecDepth 100000 in
theorem r_X10_put_3 {g : gT} {h : mh_T} {P : mh_T → Prop} (l1 : Int32) (l2 : Int32) (q : (l2 < 0 → P h) ∧ (¬ l2 < 0 → (vp_in (mI h 0 10) 900) ∧ (ME g uX10_put 3 [.ref 0, .int l1, .int (l2 + (-8))] [] (wI (wI h 12 (mI h 0 10).toNatClampNeg (((l1.toUInt32 >>> (l2.toUInt32 &&& Int32.toUInt32 31)).toInt32) &&& 255)) 0 10 ((mI (wI h 12 (mI h 0 10).toNatClampNeg (((l1.toUInt32 >>> (l2.toUInt32 &&& Int32.toUInt32 31)).toInt32) &&& 255)) 0 10) + 1)) (qV P)))) : ME g uX10_put 3 [.ref 0, .int l1, .int l2] [] h (qV P) := by
  refine m_iload_n dX10_put_3 rfl ?_
  refine m_if_lt 39 dX10_put_4 (by decide) (fun c1 => ?_) (fun c1 => ?_)
  · replace q := q.1 c1
    exact m_vret dX10_put_39 rfl q
  · replace q := q.2 c1
    refine m_aload_n dX10_put_7 rfl ?_
    refine gf_X10_9 rfl dX10_put_8 ?_
    refine m_aload_n dX10_put_11 rfl ?_
    refine gf_X10_82 rfl dX10_put_12 ?_
    refine m_iload_n dX10_put_15 rfl ?_
    refine m_iload_n dX10_put_16 rfl ?_
    refine m_iushr dX10_put_17 ?_
    refine m_sipush (v := 255) dX10_put_18 (by decide) ?_
    refine m_iand dX10_put_21 ?_
    obtain ⟨b2, q⟩ := q
    refine m_iastore dX10_put_22 rfl (by decide) b2 ?_
    refine m_aload_n dX10_put_23 rfl ?_
    refine m_dup dX10_put_24 rfl ?_
    refine gf_X10_82 rfl dX10_put_25 ?_
    refine m_iconst (v := 1) dX10_put_28 (by decide) ?_
    refine m_iadd dX10_put_29 ?_
    refine pf_X10_82 rfl dX10_put_30 ?_
    refine m_iinc (v := (l2 + (-8))) (lv' := [.ref 0, .int l1, .int (l2 + (-8))]) dX10_put_33 (Nat.le_of_ble_eq_true rfl) rfl (congrArg (fun z => l2 + z) (by decide : Int32.ofInt (-8) = -8)) rfl rfl ?_
    refine m_goto 3 dX10_put_36 (by decide) ?_
    exact q
set_option maxRecDepth 100000 in
theorem e_X10_noBook {g : gT} {h : mh_T} {P : Int32 → mh_T → Prop}  (q : (¬ (mI h 3 0) = 0 → P 0 h) ∧ ((mI h 3 0) = 0 → P 1 h)) : MCi g yX10_noBook uX10_noBook [.ref 0] h P := by
  refine m_enter (by decide) rfl (Nat.le_of_ble_eq_true rfl) (lv := [.ref 0]) rfl ?_
  refine m_aload_n dX10_noBook_0 rfl ?_
  refine gf_X10_25 rfl dX10_noBook_1 ?_
  refine gf_X10_215 rfl dX10_noBook_4 ?_
  refine m_if_ne 14 dX10_noBook_7 (by decide) (fun c1 => ?_) (fun c1 => ?_)
  · replace q := q.1 c1
    refine m_iconst (v := 0) dX10_noBook_14 (by decide) ?_
    exact m_zret dX10_noBook_15 rfl (by decide) q
  · replace q := q.2 c1
    refine m_iconst (v := 1) dX10_noBook_10 (by decide) ?_
    refine m_goto 15 dX10_noBook_11 (by decide) ?_
    exact m_zret dX10_noBook_15 rfl (by decide) q
set_option maxRecDepth 100000 in
theorem e_X10_told {g : gT} {h : mh_T} {P : Int32 → mh_T → Prop} (l1 : Int32) (q : P l1 (wI h 0 11 0)) : MCi g yX10_told uX10_told [.ref 0, .int l1] h P := by
  refine m_enter (by decide) rfl (Nat.le_of_ble_eq_true rfl) (lv := [.ref 0, .int l1]) rfl ?_
  refine m_aload_n dX10_told_0 rfl ?_
  refine m_iconst (v := 0) dX10_told_1 (by decide) ?_
  refine pf_X10_128 rfl dX10_told_2 ?_
  refine m_iload_n dX10_told_5 rfl ?_
  exact m_iret dX10_told_6 rfl q
set_option maxRecDepth 100000 in
theorem e_X10_refused {g : gT} {h : mh_T} {P : Int32 → mh_T → Prop} (l1 : Int32) (q : P (-1) (wI h 0 11 l1)) : MCi g yX10_refused uX10_refused [.ref 0, .int l1] h P := by
  refine m_enter (by decide) rfl (Nat.le_of_ble_eq_true rfl) (lv := [.ref 0, .int l1]) rfl ?_
  refine m_aload_n dX10_refused_0 rfl ?_
  refine m_iload_n dX10_refused_1 rfl ?_
  refine pf_X10_128 rfl dX10_refused_2 ?_
  refine m_iconst (v := (-1)) dX10_refused_5 (by decide) ?_
  exact m_iret dX10_refused_6 rfl q
set_option maxRecDepth 100000 in
theorem e_X10_done {g : gT} {h : mh_T} {P : Int32 → mh_T → Prop}  (q : P 1 (wI h 0 11 0)) : MCi g yX10_done uX10_done [.ref 0] h P := by
  refine m_enter (by decide) rfl (Nat.le_of_ble_eq_true rfl) (lv := [.ref 0]) rfl ?_
  refine m_aload_n dX10_done_0 rfl ?_
  refine m_iconst (v := 0) dX10_done_1 (by decide) ?_
  refine pf_X10_128 rfl dX10_done_2 ?_
  refine m_iconst (v := 1) dX10_done_5 (by decide) ?_
  exact m_zret dX10_done_6 rfl (by decide) q
set_option maxRecDepth 100000 in
theorem e_X10_denied {g : gT} {h : mh_T} {P : Int32 → mh_T → Prop} (l1 : Int32) (q : P 0 (wI h 0 11 l1)) : MCi g yX10_denied uX10_denied [.ref 0, .int l1] h P := by
  refine m_enter (by decide) rfl (Nat.le_of_ble_eq_true rfl) (lv := [.ref 0, .int l1]) rfl ?_
  refine m_aload_n dX10_denied_0 rfl ?_
  refine m_iload_n dX10_denied_1 rfl ?_
  refine pf_X10_128 rfl dX10_denied_2 ?_
  refine m_iconst (v := 0) dX10_denied_5 (by decide) ?_
  exact m_zret dX10_denied_6 rfl (by decide) q
set_option maxRecDepth 100000 in
theorem e_X10_isBit {g : gT} {h : mh_T} {P : Int32 → mh_T → Prop} (l0 : Int32) (q : (l0 = 0 → P 1 h) ∧ (¬ l0 = 0 → (¬ l0 = 1 → P 0 h) ∧ (l0 = 1 → P 1 h))) : MCi g yX10_isBit uX10_isBit [.int l0] h P := by
  refine m_enter (by decide) rfl (Nat.le_of_ble_eq_true rfl) (lv := [.int l0]) rfl ?_
  refine m_iload_n dX10_isBit_0 rfl ?_
  refine m_if_eq 9 dX10_isBit_1 (by decide) (fun c1 => ?_) (fun c1 => ?_)
  · replace q := q.1 c1
    refine m_iconst (v := 1) dX10_isBit_9 (by decide) ?_
    refine m_goto 14 dX10_isBit_10 (by decide) ?_
    exact m_zret dX10_isBit_14 rfl (by decide) q
  · replace q := q.2 c1
    refine m_iload_n dX10_isBit_4 rfl ?_
    refine m_iconst (v := 1) dX10_isBit_5 (by decide) ?_
    refine m_icmp_ne 13 dX10_isBit_6 (by decide) (fun c2 => ?_) (fun c2 => ?_)
    · replace q := q.1 c2
      refine m_iconst (v := 0) dX10_isBit_13 (by decide) ?_
      exact m_zret dX10_isBit_14 rfl (by decide) q
    · replace q := q.2 c2
      refine m_iconst (v := 1) dX10_isBit_9 (by decide) ?_
      refine m_goto 14 dX10_isBit_10 (by decide) ?_
      exact m_zret dX10_isBit_14 rfl (by decide) q
set_option maxRecDepth 100000 in
theorem e_X10_bitAt {g : gT} {h : mh_T} {P : Int32 → mh_T → Prop} (l0 : Int32) (l1 : Int32) (q : ME g uX10_bitAt 4 [.int l0, .int l1, .int 0, .int 0] [] h (qI P)) : MCi g yX10_bitAt uX10_bitAt [.int l0, .int l1] h P := by
  refine m_enter (by decide) rfl (Nat.le_of_ble_eq_true rfl) (lv := [.int l0, .int l1, .retAddr 0, .retAddr 0]) rfl ?_
  refine m_iconst (v := 0) dX10_bitAt_0 (by decide) ?_
  refine m_istore_n (lv' := [.int l0, .int l1, .int 0, .retAddr 0]) dX10_bitAt_1 (Nat.le_of_ble_eq_true rfl) rfl rfl ?_
  refine m_iconst (v := 0) dX10_bitAt_2 (by decide) ?_
  refine m_istore_n (lv' := [.int l0, .int l1, .int 0, .int 0]) dX10_bitAt_3 (Nat.le_of_ble_eq_true rfl) rfl rfl ?_
  exact q
set_option maxRecDepth 100000 in
theorem r_X10_bitAt_4 {g : gT} {h : mh_T} {P : Int32 → mh_T → Prop} (l0 : Int32) (l1 : Int32) (l2 : Int32) (l3 : Int32) (q : (32 ≤ l3 → P (-1) h) ∧ (¬ 32 ≤ l3 → ((((l0.toUInt32 >>> (l3.toUInt32 &&& Int32.toUInt32 31)).toInt32) &&& 1) = 0 → ME g uX10_bitAt 4 [.int l0, .int l1, .int l2, .int (l3 + 1)] [] h (qI P)) ∧ (¬ (((l0.toUInt32 >>> (l3.toUInt32 &&& Int32.toUInt32 31)).toInt32) &&& 1) = 0 → (¬ l2 = l1 → ME g uX10_bitAt 4 [.int l0, .int l1, .int (l2 + 1), .int (l3 + 1)] [] h (qI P)) ∧ (l2 = l1 → P l3 h)))) : ME g uX10_bitAt 4 [.int l0, .int l1, .int l2, .int l3] [] h (qI P) := by
  refine m_iload_n dX10_bitAt_4 rfl ?_
  refine m_bipush (v := 32) dX10_bitAt_5 (by decide) ?_
  refine m_icmp_ge 34 dX10_bitAt_7 (by decide) (fun c1 => ?_) (fun c1 => ?_)
  · replace q := q.1 c1
    refine m_iconst (v := (-1)) dX10_bitAt_34 (by decide) ?_
    exact m_iret dX10_bitAt_35 rfl q
  · replace q := q.2 c1
    refine m_iload_n dX10_bitAt_10 rfl ?_
    refine m_iload_n dX10_bitAt_11 rfl ?_
    refine m_iushr dX10_bitAt_12 ?_
    refine m_iconst (v := 1) dX10_bitAt_13 (by decide) ?_
    refine m_iand dX10_bitAt_14 ?_
    refine m_if_eq 28 dX10_bitAt_15 (by decide) (fun c2 => ?_) (fun c2 => ?_)
    · replace q := q.1 c2
      refine m_iinc (v := (l3 + 1)) (lv' := [.int l0, .int l1, .int l2, .int (l3 + 1)]) dX10_bitAt_28 (Nat.le_of_ble_eq_true rfl) rfl (congrArg (fun z => l3 + z) (by decide : Int32.ofInt 1 = 1)) rfl rfl ?_
      refine m_goto 4 dX10_bitAt_31 (by decide) ?_
      exact q
    · replace q := q.2 c2
      refine m_iload_n dX10_bitAt_18 rfl ?_
      refine m_iload_n dX10_bitAt_19 rfl ?_
      refine m_icmp_ne 25 dX10_bitAt_20 (by decide) (fun c3 => ?_) (fun c3 => ?_)
      · replace q := q.1 c3
        refine m_iinc (v := (l2 + 1)) (lv' := [.int l0, .int l1, .int (l2 + 1), .int l3]) dX10_bitAt_25 (Nat.le_of_ble_eq_true rfl) rfl (congrArg (fun z => l2 + z) (by decide : Int32.ofInt 1 = 1)) rfl rfl ?_
        refine m_iinc (v := (l3 + 1)) (lv' := [.int l0, .int l1, .int (l2 + 1), .int (l3 + 1)]) dX10_bitAt_28 (Nat.le_of_ble_eq_true rfl) rfl (congrArg (fun z => l3 + z) (by decide : Int32.ofInt 1 = 1)) rfl rfl ?_
        refine m_goto 4 dX10_bitAt_31 (by decide) ?_
        exact q
      · replace q := q.2 c3
        refine m_iload_n dX10_bitAt_23 rfl ?_
        exact m_iret dX10_bitAt_24 rfl q
