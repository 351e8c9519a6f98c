set_option maxRecDepth 100000 in
theorem e_X0_findShare {g : gT} {h : mh_T} {P : mh_T → Prop}  (q : (¬ (mI h 3 2) = 0 → MCv g yX0_solve uX0_solve [.ref 6] h (fun h2 => (vp_in (mI h2 6 6) 65) ∧ (MCv g yX2_set uX2_set [.ref 5, .long (mL h2 (62 + (Int32.toNatClampNeg 32)) (mI h2 6 6).toNatClampNeg), .long ((mL h2 6 7) * (Int32.toInt64 (mI h2 3 0)))] h2 (fun h4 => P h4)))) ∧ ((mI h 3 2) = 0 → MCv g yX2_set uX2_set [.ref 5, .long 1, .long 1] h (fun h5 => P h5))) : MCv g yX0_findShare uX0_findShare [.ref 6] h P := by
  refine m_enter (by decide) rfl (Nat.le_of_ble_eq_true rfl) (lv := [.ref 6]) rfl ?_
  refine m_aload_n dX0_findShare_0 rfl ?_
  refine gf_X0_27 rfl dX0_findShare_1 ?_
  refine gf_X0_44 rfl dX0_findShare_4 ?_
  refine m_if_ne 20 dX0_findShare_7 (by decide) (fun c1 => ?_) (fun c1 => ?_)
  · replace q := q.1 c1
    refine m_aload_n dX0_findShare_20 rfl ?_
    refine cl_X0_53 rfl (by decide) dX0_findShare_21 (Nat.le_of_ble_eq_true rfl) (MCv_go q (fun h2 q => ?_))
    refine m_aload_n dX0_findShare_24 rfl ?_
    refine gf_X0_31 rfl dX0_findShare_25 ?_
    refine m_aload_n dX0_findShare_28 rfl ?_
    refine gf_X0_13 rfl dX0_findShare_29 ?_
    refine m_bipush (v := 32) dX0_findShare_32 (by decide) ?_
    refine m_aald28 dX0_findShare_34 (by unfold vp_in; decide) ?_
    refine m_aload_n dX0_findShare_35 rfl ?_
    refine gf_X0_56 rfl dX0_findShare_36 ?_
    obtain ⟨b3, q⟩ := q
    refine m_laload dX0_findShare_39 (shp_62 _ (vp_lt (by unfold vp_in; decide))) (shp_lt (shp_62 _ (vp_lt (by unfold vp_in; decide))) (by decide)) b3 ?_
    refine m_aload_n dX0_findShare_40 rfl ?_
    refine gf_X0_23 rfl dX0_findShare_41 ?_
    refine m_aload_n dX0_findShare_44 rfl ?_
    refine gf_X0_27 rfl dX0_findShare_45 ?_
    refine gf_X0_59 rfl dX0_findShare_48 ?_
    refine m_i2l dX0_findShare_51 ?_
    refine m_lmul dX0_findShare_52 ?_
    refine cl_X0_47 rfl (by decide) dX0_findShare_53 (Nat.le_of_ble_eq_true rfl) (MCv_go q (fun h4 q => ?_))
    exact m_vret dX0_findShare_56 rfl q
  · replace q := q.2 c1
    refine m_aload_n dX0_findShare_10 rfl ?_
    refine gf_X0_31 rfl dX0_findShare_11 ?_
    refine m_lconst (v := 1) dX0_findShare_14 (by decide) ?_
    refine m_lconst (v := 1) dX0_findShare_15 (by decide) ?_
    refine cl_X0_47 rfl (by decide) dX0_findShare_16 (Nat.le_of_ble_eq_true rfl) (MCv_go q (fun h5 q => ?_))
    exact m_vret dX0_findShare_19 rfl q
set_option maxRecDepth 100000 in
theorem e_X0_isMixed {g : gT} {h : mh_T} {P : Int32 → mh_T → Prop}  (q : (¬ (mI h 3 2) = 0 → MCv g yX0_solve uX0_solve [.ref 6] h (fun h2 => (vp_in (mI h2 6 6) 65) ∧ ((¬ (lg_cmp (mL h2 (62 + (Int32.toNatClampNeg 32)) (mI h2 6 6).toNatClampNeg) ((mL h2 6 7) * (Int32.toInt64 (mI h2 3 0)))) = 0 → P 0 h2) ∧ ((lg_cmp (mL h2 (62 + (Int32.toNatClampNeg 32)) (mI h2 6 6).toNatClampNeg) ((mL h2 6 7) * (Int32.toInt64 (mI h2 3 0)))) = 0 → P 1 h2)))) ∧ ((mI h 3 2) = 0 → P 1 h)) : MCi g yX0_isMixed uX0_isMixed [.ref 6] h P := by
  refine m_enter (by decide) rfl (Nat.le_of_ble_eq_true rfl) (lv := [.ref 6]) rfl ?_
  refine m_aload_n dX0_isMixed_0 rfl ?_
  refine gf_X0_27 rfl dX0_isMixed_1 ?_
  refine gf_X0_44 rfl dX0_isMixed_4 ?_
  refine m_if_ne 12 dX0_isMixed_7 (by decide) (fun c1 => ?_) (fun c1 => ?_)
  · replace q := q.1 c1
    refine m_aload_n dX0_isMixed_12 rfl ?_
    refine cl_X0_53 rfl (by decide) dX0_isMixed_13 (Nat.le_of_ble_eq_true rfl) (MCv_go q (fun h2 q => ?_))
    refine m_aload_n dX0_isMixed_16 rfl ?_
    refine gf_X0_13 rfl dX0_isMixed_17 ?_
    refine m_bipush (v := 32) dX0_isMixed_20 (by decide) ?_
    refine m_aald28 dX0_isMixed_22 (by unfold vp_in; decide) ?_
    refine m_aload_n dX0_isMixed_23 rfl ?_
    refine gf_X0_56 rfl dX0_isMixed_24 ?_
    obtain ⟨b3, q⟩ := q
    refine m_laload dX0_isMixed_27 (shp_62 _ (vp_lt (by unfold vp_in; decide))) (shp_lt (shp_62 _ (vp_lt (by unfold vp_in; decide))) (by decide)) b3 ?_
    refine m_aload_n dX0_isMixed_28 rfl ?_
    refine gf_X0_23 rfl dX0_isMixed_29 ?_
    refine m_aload_n dX0_isMixed_32 rfl ?_
    refine gf_X0_27 rfl dX0_isMixed_33 ?_
    refine gf_X0_59 rfl dX0_isMixed_36 ?_
    refine m_i2l dX0_isMixed_39 ?_
    refine m_lmul dX0_isMixed_40 ?_
    refine m_lcmp dX0_isMixed_41 ?_
    refine m_if_ne 49 dX0_isMixed_42 (by decide) (fun c4 => ?_) (fun c4 => ?_)
    · replace q := q.1 c4
      refine m_iconst (v := 0) dX0_isMixed_49 (by decide) ?_
      exact m_zret dX0_isMixed_50 rfl (by decide) q
    · replace q := q.2 c4
      refine m_iconst (v := 1) dX0_isMixed_45 (by decide) ?_
      refine m_goto 50 dX0_isMixed_46 (by decide) ?_
      exact m_zret dX0_isMixed_50 rfl (by decide) q
  · replace q := q.2 c1
    refine m_iconst (v := 1) dX0_isMixed_10 (by decide) ?_
    exact m_zret dX0_isMixed_11 rfl (by decide) q
set_option maxRecDepth 100000 in
theorem e_X0_findTogether {g : gT} {h : mh_T} {P : mh_T → Prop} (l1 : Int32) (l2 : Int32) (l3 : Int32) (q : (¬ (mI h 3 2) = 0 → MCv g yX0_solve uX0_solve [.ref 6] h (fun h2 => (l3 = 0 → MCv g yX0_aim uX0_aim [.ref 6, .int l1, .int l2, .int (-1)] h2 (fun h4 => MCv g yX0_climb uX0_climb [.ref 6, .int 33] h4 (fun h5 => (vp_in (mI h5 6 6) 65) ∧ (MCv g yX2_set uX2_set [.ref 5, .long ((Int32.toInt64 (-1)) * (mL h5 (62 + (Int32.toNatClampNeg 33)) (mI h5 6 6).toNatClampNeg)), .long ((mL h5 6 7) * (Int32.toInt64 (mI h5 3 0)))] h5 (fun h7 => P h7))))) ∧ (¬ l3 = 0 → MCv g yX0_aim uX0_aim [.ref 6, .int l1, .int l2, .int 1] h2 (fun h8 => MCv g yX0_climb uX0_climb [.ref 6, .int 33] h8 (fun h9 => (vp_in (mI h9 6 6) 65) ∧ (MCv g yX2_set uX2_set [.ref 5, .long ((Int32.toInt64 1) * (mL h9 (62 + (Int32.toNatClampNeg 33)) (mI h9 6 6).toNatClampNeg)), .long ((mL h9 6 7) * (Int32.toInt64 (mI h9 3 0)))] h9 (fun h11 => P h11))))))) ∧ ((mI h 3 2) = 0 → (l3 = 0 → MCv g yX2_set uX2_set [.ref 5, .long 0, .long 1] h (fun h13 => P h13)) ∧ (¬ l3 = 0 → MCv g yX2_set uX2_set [.ref 5, .long 1, .long 1] h (fun h14 => P h14)))) : MCv g yX0_findTogether uX0_findTogether [.ref 6, .int l1, .int l2, .int l3] h P := by
  refine m_enter (by decide) rfl (Nat.le_of_ble_eq_true rfl) (lv := [.ref 6, .int l1, .int l2, .int l3, .retAddr 0]) rfl ?_
  refine m_aload_n dX0_findTogether_0 rfl ?_
  refine gf_X0_27 rfl dX0_findTogether_1 ?_
  refine gf_X0_44 rfl dX0_findTogether_4 ?_
  refine m_if_ne 28 dX0_findTogether_7 (by decide) (fun c1 => ?_) (fun c1 => ?_)
  · replace q := q.1 c1
    refine m_aload_n dX0_findTogether_28 rfl ?_
    refine cl_X0_53 rfl (by decide) dX0_findTogether_29 (Nat.le_of_ble_eq_true rfl) (MCv_go q (fun h2 q => ?_))
    refine m_iload_n dX0_findTogether_32 rfl ?_
    refine m_if_eq 40 dX0_findTogether_33 (by decide) (fun c3 => ?_) (fun c3 => ?_)
    · replace q := q.1 c3
      refine m_iconst (v := (-1)) dX0_findTogether_40 (by decide) ?_
      refine m_istore (lv' := [.ref 6, .int l1, .int l2, .int l3, .int (-1)]) dX0_findTogether_41 (Nat.le_of_ble_eq_true rfl) rfl rfl ?_
      refine m_aload_n dX0_findTogether_43 rfl ?_
      refine m_iload_n dX0_findTogether_44 rfl ?_
      refine m_iload_n dX0_findTogether_45 rfl ?_
      refine m_iload dX0_findTogether_46 rfl ?_
      refine cl_X0_62 rfl (by decide) dX0_findTogether_48 (Nat.le_of_ble_eq_true rfl) (MCv_go q (fun h4 q => ?_))
      refine m_aload_n dX0_findTogether_51 rfl ?_
      refine m_bipush (v := 33) dX0_findTogether_52 (by decide) ?_
      refine cl_X0_66 rfl (by decide) dX0_findTogether_54 (Nat.le_of_ble_eq_true rfl) (MCv_go q (fun h5 q => ?_))
      refine m_aload_n dX0_findTogether_57 rfl ?_
      refine gf_X0_31 rfl dX0_findTogether_58 ?_
      refine m_iload dX0_findTogether_61 rfl ?_
      refine m_i2l dX0_findTogether_63 ?_
      refine m_aload_n dX0_findTogether_64 rfl ?_
      refine gf_X0_13 rfl dX0_findTogether_65 ?_
      refine m_bipush (v := 33) dX0_findTogether_68 (by decide) ?_
      refine m_aald28 dX0_findTogether_70 (by unfold vp_in; decide) ?_
      refine m_aload_n dX0_findTogether_71 rfl ?_
      refine gf_X0_56 rfl dX0_findTogether_72 ?_
      obtain ⟨b6, q⟩ := q
      refine m_laload dX0_findTogether_75 (shp_62 _ (vp_lt (by unfold vp_in; decide))) (shp_lt (shp_62 _ (vp_lt (by unfold vp_in; decide))) (by decide)) b6 ?_
      refine m_lmul dX0_findTogether_76 ?_
      refine m_aload_n dX0_findTogether_77 rfl ?_
      refine gf_X0_23 rfl dX0_findTogether_78 ?_
      refine m_aload_n dX0_findTogether_81 rfl ?_
      refine gf_X0_27 rfl dX0_findTogether_82 ?_
      refine gf_X0_59 rfl dX0_findTogether_85 ?_
      refine m_i2l dX0_findTogether_88 ?_
      refine m_lmul dX0_findTogether_89 ?_
      refine cl_X0_47 rfl (by decide) dX0_findTogether_90 (Nat.le_of_ble_eq_true rfl) (MCv_go q (fun h7 q => ?_))
      exact m_vret dX0_findTogether_93 rfl q
    · replace q := q.2 c3
      refine m_iconst (v := 1) dX0_findTogether_36 (by decide) ?_
      refine m_goto 41 dX0_findTogether_37 (by decide) ?_
      refine m_istore (lv' := [.ref 6, .int l1, .int l2, .int l3, .int 1]) dX0_findTogether_41 (Nat.le_of_ble_eq_true rfl) rfl rfl ?_
      refine m_aload_n dX0_findTogether_43 rfl ?_
      refine m_iload_n dX0_findTogether_44 rfl ?_
      refine m_iload_n dX0_findTogether_45 rfl ?_
      refine m_iload dX0_findTogether_46 rfl ?_
      refine cl_X0_62 rfl (by decide) dX0_findTogether_48 (Nat.le_of_ble_eq_true rfl) (MCv_go q (fun h8 q => ?_))
      refine m_aload_n dX0_findTogether_51 rfl ?_
      refine m_bipush (v := 33) dX0_findTogether_52 (by decide) ?_
      refine cl_X0_66 rfl (by decide) dX0_findTogether_54 (Nat.le_of_ble_eq_true rfl) (MCv_go q (fun h9 q => ?_))
      refine m_aload_n dX0_findTogether_57 rfl ?_
      refine gf_X0_31 rfl dX0_findTogether_58 ?_
      refine m_iload dX0_findTogether_61 rfl ?_
      refine m_i2l dX0_findTogether_63 ?_
      refine m_aload_n dX0_findTogether_64 rfl ?_
      refine gf_X0_13 rfl dX0_findTogether_65 ?_
      refine m_bipush (v := 33) dX0_findTogether_68 (by decide) ?_
      refine m_aald28 dX0_findTogether_70 (by unfold vp_in; decide) ?_
      refine m_aload_n dX0_findTogether_71 rfl ?_
      refine gf_X0_56 rfl dX0_findTogether_72 ?_
      obtain ⟨b10, q⟩ := q
      refine m_laload dX0_findTogether_75 (shp_62 _ (vp_lt (by unfold vp_in; decide))) (shp_lt (shp_62 _ (vp_lt (by unfold vp_in; decide))) (by decide)) b10 ?_
      refine m_lmul dX0_findTogether_76 ?_
      refine m_aload_n dX0_findTogether_77 rfl ?_
      refine gf_X0_23 rfl dX0_findTogether_78 ?_
      refine m_aload_n dX0_findTogether_81 rfl ?_
      refine gf_X0_27 rfl dX0_findTogether_82 ?_
      refine gf_X0_59 rfl dX0_findTogether_85 ?_
      refine m_i2l dX0_findTogether_88 ?_
      refine m_lmul dX0_findTogether_89 ?_
      refine cl_X0_47 rfl (by decide) dX0_findTogether_90 (Nat.le_of_ble_eq_true rfl) (MCv_go q (fun h11 q => ?_))
      exact m_vret dX0_findTogether_93 rfl q
  · replace q := q.2 c1
    refine m_aload_n dX0_findTogether_10 rfl ?_
    refine gf_X0_31 rfl dX0_findTogether_11 ?_
    refine m_iload_n dX0_findTogether_14 rfl ?_
    refine m_if_eq 22 dX0_findTogether_15 (by decide) (fun c12 => ?_) (fun c12 => ?_)
    · replace q := q.1 c12
      refine m_lconst (v := 0) dX0_findTogether_22 (by decide) ?_
      refine m_lconst (v := 1) dX0_findTogether_23 (by decide) ?_
      refine cl_X0_47 rfl (by decide) dX0_findTogether_24 (Nat.le_of_ble_eq_true rfl) (MCv_go q (fun h13 q => ?_))
      exact m_vret dX0_findTogether_27 rfl q
    · replace q := q.2 c12
      refine m_lconst (v := 1) dX0_findTogether_18 (by decide) ?_
      refine m_goto 23 dX0_findTogether_19 (by decide) ?_
      refine m_lconst (v := 1) dX0_findTogether_23 (by decide) ?_
      refine cl_X0_47 rfl (by decide) dX0_findTogether_24 (Nat.le_of_ble_eq_true rfl) (MCv_go q (fun h14 q => ?_))
      exact m_vret dX0_findTogether_27 rfl q
set_option maxRecDepth 100000 in
theorem e_X0_solve {g : gT} {h : mh_T} {P : mh_T → Prop}  (q : (¬ (mI h 6 8) = (mI h 3 3) → MCv g yX0_nameColumns uX0_nameColumns [.ref 6] (wI h 6 8 (mI h 3 3)) (fun h2 => MCv g yX0_fillRows uX0_fillRows [.ref 6] h2 (fun h3 => ME g uX0_solve 36 [.ref 6, .int 0] [] h3 (qV P)))) ∧ ((mI h 6 8) = (mI h 3 3) → P h)) : MCv g yX0_solve uX0_solve [.ref 6] h P := by
  refine m_enter (by decide) rfl (Nat.le_of_ble_eq_true rfl) (lv := [.ref 6, .retAddr 0]) rfl ?_
  refine m_aload_n dX0_solve_0 rfl ?_
  refine gf_X0_41 rfl dX0_solve_1 ?_
  refine m_aload_n dX0_solve_4 rfl ?_
  refine gf_X0_27 rfl dX0_solve_5 ?_
  refine gf_X0_35 rfl dX0_solve_8 ?_
  refine m_icmp_ne 15 dX0_solve_11 (by decide) (fun c1 => ?_) (fun c1 => ?_)
  · replace q := q.1 c1
    refine m_aload_n dX0_solve_15 rfl ?_
    refine m_aload_n dX0_solve_16 rfl ?_
    refine gf_X0_27 rfl dX0_solve_17 ?_
    refine gf_X0_35 rfl dX0_solve_20 ?_
    refine pf_X0_41 rfl dX0_solve_23 ?_
    refine m_aload_n dX0_solve_26 rfl ?_
    refine cl_X0_70 rfl (by decide) dX0_solve_27 (Nat.le_of_ble_eq_true rfl) (MCv_go q (fun h2 q => ?_))
    refine m_aload_n dX0_solve_30 rfl ?_
    refine cl_X0_73 rfl (by decide) dX0_solve_31 (Nat.le_of_ble_eq_true rfl) (MCv_go q (fun h3 q => ?_))
    refine m_iconst (v := 0) dX0_solve_34 (by decide) ?_
    refine m_istore_n (lv' := [.ref 6, .int 0]) dX0_solve_35 (Nat.le_of_ble_eq_true rfl) rfl rfl ?_
    exact q
  · replace q := q.2 c1
    exact m_vret dX0_solve_14 rfl q
set_option maxRecDepth 100000 in
theorem r_X0_solve_36 {g : gT} {h : mh_T} {P : mh_T → Prop} (l1 : Int32) (q : ((mI h 6 6) ≤ l1 → (vp_in (mI h 6 6) 65) ∧ (MCv g yX0_climb uX0_climb [.ref 6, .int 32] (wL (wL h (62 + (Int32.toNatClampNeg 32)) (mI h 6 6).toNatClampNeg 0) 6 7 1) (fun h3 => P h3))) ∧ (¬ (mI h 6 6) ≤ l1 → (vp_in l1 65) ∧ (ME g uX0_solve 36 [.ref 6, .int (l1 + 1)] [] (wL h (62 + (Int32.toNatClampNeg 32)) l1.toNatClampNeg (-1)) (qV P)))) : ME g uX0_solve 36 [.ref 6, .int l1] [] h (qV P) := by
  refine m_iload_n dX0_solve_36 rfl ?_
  refine m_aload_n dX0_solve_37 rfl ?_
  refine gf_X0_56 rfl dX0_solve_38 ?_
  refine m_icmp_ge 62 dX0_solve_41 (by decide) (fun c1 => ?_) (fun c1 => ?_)
  · replace q := q.1 c1
    refine m_aload_n dX0_solve_62 rfl ?_
    refine gf_X0_13 rfl dX0_solve_63 ?_
    refine m_bipush (v := 32) dX0_solve_66 (by decide) ?_
    refine m_aald28 dX0_solve_68 (by unfold vp_in; decide) ?_
    refine m_aload_n dX0_solve_69 rfl ?_
    refine gf_X0_56 rfl dX0_solve_70 ?_
    refine m_lconst (v := 0) dX0_solve_73 (by decide) ?_
    obtain ⟨b2, q⟩ := q
    refine m_lastore dX0_solve_74 (shp_62 _ (vp_lt (by unfold vp_in; decide))) (shp_lt (shp_62 _ (vp_lt (by unfold vp_in; decide))) (by decide)) b2 ?_
    refine m_aload_n dX0_solve_75 rfl ?_
    refine m_lconst (v := 1) dX0_solve_76 (by decide) ?_
    refine pf_X0_23 rfl dX0_solve_77 ?_
    refine m_aload_n dX0_solve_80 rfl ?_
    refine m_bipush (v := 32) dX0_solve_81 (by decide) ?_
    refine cl_X0_66 rfl (by decide) dX0_solve_83 (Nat.le_of_ble_eq_true rfl) (MCv_go q (fun h3 q => ?_))
    exact m_vret dX0_solve_86 rfl q
  · replace q := q.2 c1
    refine m_aload_n dX0_solve_44 rfl ?_
    refine gf_X0_13 rfl dX0_solve_45 ?_
    refine m_bipush (v := 32) dX0_solve_48 (by decide) ?_
    refine m_aald28 dX0_solve_50 (by unfold vp_in; decide) ?_
    refine m_iload_n dX0_solve_51 rfl ?_
    refine m_ldc2 (v := (-1)) dX0_solve_52 tw_282 ?_
    obtain ⟨b4, q⟩ := q
    refine m_lastore dX0_solve_55 (shp_62 _ (vp_lt (by unfold vp_in; decide))) (shp_lt (shp_62 _ (vp_lt (by unfold vp_in; decide))) (by decide)) b4 ?_
    refine m_iinc (v := (l1 + 1)) (lv' := [.ref 6, .int (l1 + 1)]) dX0_solve_56 (Nat.le_of_ble_eq_true rfl) rfl (congrArg (fun z => l1 + z) (by decide : Int32.ofInt 1 = 1)) rfl rfl ?_
    refine m_goto 36 dX0_solve_59 (by decide) ?_
    exact q
set_option maxRecDepth 100000 in
theorem e_X0_nameColumns {g : gT} {h : mh_T} {P : mh_T → Prop}  (q : ME g uX0_nameColumns 7 [.ref 6, .int 0] [] (wI h 6 6 0) (qV P)) : MCv g yX0_nameColumns uX0_nameColumns [.ref 6] h P := by
  refine m_enter (by decide) rfl (Nat.le_of_ble_eq_true rfl) (lv := [.ref 6, .retAddr 0]) rfl ?_
  refine m_aload_n dX0_nameColumns_0 rfl ?_
  refine m_iconst (v := 0) dX0_nameColumns_1 (by decide) ?_
  refine pf_X0_56 rfl dX0_nameColumns_2 ?_
  refine m_iconst (v := 0) dX0_nameColumns_5 (by decide) ?_
  refine m_istore_n (lv' := [.ref 6, .int 0]) dX0_nameColumns_6 (Nat.le_of_ble_eq_true rfl) rfl rfl ?_
  exact q
set_option maxRecDepth 100000 in
theorem r_X0_nameColumns_7 {g : gT} {h : mh_T} {P : mh_T → Prop} (l1 : Int32) (q : MCi g yX8_hiddenAnswers uX8_hiddenAnswers [.ref 3] h (fun r2 h1 => (r2 ≤ l1 → P h1) ∧ (¬ r2 ≤ l1 → MCi g yX8_missed uX8_missed [.ref 3, .int l1] h1 (fun r5 h4 => (¬ r5 = 0 → ME g uX0_nameColumns 7 [.ref 6, .int (l1 + 1)] [] h4 (qV P)) ∧ (r5 = 0 → (vp_in (mI h4 6 6) 64) ∧ (ME g uX0_nameColumns 7 [.ref 6, .int (l1 + 1)] [] (wI (wI h4 30 (mI h4 6 6).toNatClampNeg l1) 6 6 ((mI (wI h4 30 (mI h4 6 6).toNatClampNeg l1) 6 6) + 1)) (qV P))))))) : ME g uX0_nameColumns 7 [.ref 6, .int l1] [] h (qV P) := by
  refine m_iload_n dX0_nameColumns_7 rfl ?_
  refine m_aload_n dX0_nameColumns_8 rfl ?_
  refine gf_X0_27 rfl dX0_nameColumns_9 ?_
  refine cl_X0_78 rfl (by decide) dX0_nameColumns_12 (Nat.le_of_ble_eq_true rfl) (MCi_go q (fun r2 h1 q => ?_))
  refine m_icmp_ge 55 dX0_nameColumns_15 (by decide) (fun c3 => ?_) (fun c3 => ?_)
  · replace q := q.1 c3
    exact m_vret dX0_nameColumns_55 rfl q
  · replace q := q.2 c3
    refine m_aload_n dX0_nameColumns_18 rfl ?_
    refine gf_X0_27 rfl dX0_nameColumns_19 ?_
    refine m_iload_n dX0_nameColumns_22 rfl ?_
    refine cl_X0_82 rfl (by decide) dX0_nameColumns_23 (Nat.le_of_ble_eq_true rfl) (MCi_go q (fun r5 h4 q => ?_))
    refine m_if_ne 49 dX0_nameColumns_26 (by decide) (fun c6 => ?_) (fun c6 => ?_)
    · replace q := q.1 c6
      refine m_iinc (v := (l1 + 1)) (lv' := [.ref 6, .int (l1 + 1)]) dX0_nameColumns_49 (Nat.le_of_ble_eq_true rfl) rfl (congrArg (fun z => l1 + z) (by decide : Int32.ofInt 1 = 1)) rfl rfl ?_
      refine m_goto 7 dX0_nameColumns_52 (by decide) ?_
      exact q
    · replace q := q.2 c6
      refine m_aload_n dX0_nameColumns_29 rfl ?_
      refine gf_X0_20 rfl dX0_nameColumns_30 ?_
      refine m_aload_n dX0_nameColumns_33 rfl ?_
      refine gf_X0_56 rfl dX0_nameColumns_34 ?_
      refine m_iload_n dX0_nameColumns_37 rfl ?_
      obtain ⟨b7, q⟩ := q
      refine m_iastore dX0_nameColumns_38 rfl (by decide) b7 ?_
      refine m_aload_n dX0_nameColumns_39 rfl ?_
      refine m_dup dX0_nameColumns_40 rfl ?_
      refine gf_X0_56 rfl dX0_nameColumns_41 ?_
      refine m_iconst (v := 1) dX0_nameColumns_44 (by decide) ?_
      refine m_iadd dX0_nameColumns_45 ?_
      refine pf_X0_56 rfl dX0_nameColumns_46 ?_
      refine m_iinc (v := (l1 + 1)) (lv' := [.ref 6, .int (l1 + 1)]) dX0_nameColumns_49 (Nat.le_of_ble_eq_true rfl) rfl (congrArg (fun z => l1 + z) (by decide : Int32.ofInt 1 = 1)) rfl rfl ?_
      refine m_goto 7 dX0_nameColumns_52 (by decide) ?_
      exact q
set_option maxRecDepth 100000 in
theorem e_X0_fillRows {g : gT} {h : mh_T} {P : mh_T → Prop}  (q : ME g uX0_fillRows 7 [.ref 6, .int 0, .retAddr 0] [] (wI h 6 5 0) (qV P)) : MCv g yX0_fillRows uX0_fillRows [.ref 6] h P := by
  refine m_enter (by decide) rfl (Nat.le_of_ble_eq_true rfl) (lv := [.ref 6, .retAddr 0, .retAddr 0]) rfl ?_
  refine m_aload_n dX0_fillRows_0 rfl ?_
  refine m_iconst (v := 0) dX0_fillRows_1 (by decide) ?_
  refine pf_X0_86 rfl dX0_fillRows_2 ?_
  refine m_iconst (v := 0) dX0_fillRows_5 (by decide) ?_
  refine m_istore_n (lv' := [.ref 6, .int 0, .retAddr 0]) dX0_fillRows_6 (Nat.le_of_ble_eq_true rfl) rfl rfl ?_
  exact q
set_option maxRecDepth 100000 in
theorem r_X0_fillRows_7 {g : gT} {h : mh_T} {P : mh_T → Prop} (l1 : Int32) (q : ((4 * (mI h 3 2)) ≤ l1 → P h) ∧ (¬ (4 * (mI h 3 2)) ≤ l1 → (vp_in l1 32) ∧ (((mI h 26 l1.toNatClampNeg) ≤ 0 → ME g uX0_fillRows 7 [.ref 6, .int (l1 + 1), .retAddr 0] [] h (qV P)) ∧ (¬ (mI h 26 l1.toNatClampNeg) ≤ 0 → ME g uX0_fillRows 34 [.ref 6, .int l1, .int 0] [] h (qV P))))) : ME g uX0_fillRows 7 [.ref 6, .int l1, .retAddr 0] [] h (qV P) := by
  refine m_iload_n dX0_fillRows_7 rfl ?_
  refine m_iconst (v := 4) dX0_fillRows_8 (by decide) ?_
  refine m_aload_n dX0_fillRows_9 rfl ?_
  refine gf_X0_27 rfl dX0_fillRows_10 ?_
  refine gf_X0_44 rfl dX0_fillRows_13 ?_
  refine m_imul dX0_fillRows_16 ?_
  refine m_icmp_ge 137 dX0_fillRows_17 (by decide) (fun c1 => ?_) (fun c1 => ?_)
  · replace q := q.1 c1
    exact m_vret dX0_fillRows_137 rfl q
  · replace q := q.2 c1
    refine m_aload_n dX0_fillRows_20 rfl ?_
    refine gf_X0_27 rfl dX0_fillRows_21 ?_
    refine gf_X0_89 rfl dX0_fillRows_24 ?_
    refine m_iload_n dX0_fillRows_27 rfl ?_
    obtain ⟨b2, q⟩ := q
    refine m_iaload dX0_fillRows_28 rfl (by decide) b2 ?_
    refine m_if_le 131 dX0_fillRows_29 (by decide) (fun c3 => ?_) (fun c3 => ?_)
    · replace q := q.1 c3
      refine m_iinc (v := (l1 + 1)) (lv' := [.ref 6, .int (l1 + 1), .retAddr 0]) dX0_fillRows_131 (Nat.le_of_ble_eq_true rfl) rfl (congrArg (fun z => l1 + z) (by decide : Int32.ofInt 1 = 1)) rfl rfl ?_
      refine m_goto 7 dX0_fillRows_134 (by decide) ?_
      exact q
    · replace q := q.2 c3
      refine m_iconst (v := 0) dX0_fillRows_32 (by decide) ?_
      refine m_istore_n (lv' := [.ref 6, .int l1, .int 0]) dX0_fillRows_33 (Nat.le_of_ble_eq_true rfl) rfl rfl ?_
      exact q
set_option maxRecDepth 100000 in
theorem r_X0_fillRows_34 {g : gT} {h : mh_T} {P : mh_T → Prop} (l1 : Int32) (l2 : Int32) (q : ((mI h 6 6) ≤ l2 → (vp_in (mI h 6 5) 34) ∧ ((vp_in l1 32) ∧ ((vp_in (mI h 6 6) 65) ∧ ((vp_in (mI (wL h (62 + (mI h 6 5).toNatClampNeg) (mI h 6 6).toNatClampNeg (Int32.toInt64 (mI h 26 l1.toNatClampNeg))) 6 5) 32) ∧ (ME g uX0_fillRows 7 [.ref 6, .int (l1 + 1), .retAddr 0] [] (wI (wI (wL h (62 + (mI h 6 5).toNatClampNeg) (mI h 6 6).toNatClampNeg (Int32.toInt64 (mI h 26 l1.toNatClampNeg))) 29 (mI (wL h (62 + (mI h 6 5).toNatClampNeg) (mI h 6 6).toNatClampNeg (Int32.toInt64 (mI h 26 l1.toNatClampNeg))) 6 5).toNatClampNeg (64 + l1)) 6 5 ((mI (wI (wL h (62 + (mI h 6 5).toNatClampNeg) (mI h 6 6).toNatClampNeg (Int32.toInt64 (mI h 26 l1.toNatClampNeg))) 29 (mI (wL h (62 + (mI h 6 5).toNatClampNeg) (mI h 6 6).toNatClampNeg (Int32.toInt64 (mI h 26 l1.toNatClampNeg))) 6 5).toNatClampNeg (64 + l1)) 6 5) + 1)) (qV P)))))) ∧ (¬ (mI h 6 6) ≤ l2 → (vp_in (mI h 6 5) 34) ∧ ((vp_in l2 64) ∧ (MCi g yX8_cellOf uX8_cellOf [.ref 3, .int (l1 / 4), .int (mI h 30 l2.toNatClampNeg)] h (fun r9 h8 => (¬ r9 = l1 → (vp_in l2 65) ∧ (ME g uX0_fillRows 34 [.ref 6, .int l1, .int (l2 + 1)] [] (wL h8 (62 + (mI h 6 5).toNatClampNeg) l2.toNatClampNeg 0) (qV P))) ∧ (r9 = l1 → (vp_in l2 65) ∧ (ME g uX0_fillRows 34 [.ref 6, .int l1, .int (l2 + 1)] [] (wL h8 (62 + (mI h 6 5).toNatClampNeg) l2.toNatClampNeg 1) (qV P)))))))) : ME g uX0_fillRows 34 [.ref 6, .int l1, .int l2] [] h (qV P) := by
  refine m_iload_n dX0_fillRows_34 rfl ?_
  refine m_aload_n dX0_fillRows_35 rfl ?_
  refine gf_X0_56 rfl dX0_fillRows_36 ?_
  refine m_icmp_ge 84 dX0_fillRows_39 (by decide) (fun c1 => ?_) (fun c1 => ?_)
  · replace q := q.1 c1
    refine m_aload_n dX0_fillRows_84 rfl ?_
    refine gf_X0_13 rfl dX0_fillRows_85 ?_
    refine m_aload_n dX0_fillRows_88 rfl ?_
    refine gf_X0_86 rfl dX0_fillRows_89 ?_
    obtain ⟨b2, q⟩ := q
    refine m_aald28 dX0_fillRows_92 b2 ?_
    refine m_aload_n dX0_fillRows_93 rfl ?_
    refine gf_X0_56 rfl dX0_fillRows_94 ?_
    refine m_aload_n dX0_fillRows_97 rfl ?_
    refine gf_X0_27 rfl dX0_fillRows_98 ?_
    refine gf_X0_89 rfl dX0_fillRows_101 ?_
    refine m_iload_n dX0_fillRows_104 rfl ?_
    obtain ⟨b3, q⟩ := q
    refine m_iaload dX0_fillRows_105 rfl (by decide) b3 ?_
    refine m_i2l dX0_fillRows_106 ?_
    obtain ⟨b4, q⟩ := q
    refine m_lastore dX0_fillRows_107 (shp_62 _ (vp_lt b2)) (shp_lt (shp_62 _ (vp_lt b2)) (by decide)) b4 ?_
    refine m_aload_n dX0_fillRows_108 rfl ?_
    refine gf_X0_16 rfl dX0_fillRows_109 ?_
    refine m_aload_n dX0_fillRows_112 rfl ?_
    refine gf_X0_86 rfl dX0_fillRows_113 ?_
    refine m_bipush (v := 64) dX0_fillRows_116 (by decide) ?_
    refine m_iload_n dX0_fillRows_118 rfl ?_
    refine m_iadd dX0_fillRows_119 ?_
    obtain ⟨b5, q⟩ := q
    refine m_iastore dX0_fillRows_120 rfl (by decide) b5 ?_
    refine m_aload_n dX0_fillRows_121 rfl ?_
    refine m_dup dX0_fillRows_122 rfl ?_
    refine gf_X0_86 rfl dX0_fillRows_123 ?_
    refine m_iconst (v := 1) dX0_fillRows_126 (by decide) ?_
    refine m_iadd dX0_fillRows_127 ?_
    refine pf_X0_86 rfl dX0_fillRows_128 ?_
    refine m_iinc (v := (l1 + 1)) (lv' := [.ref 6, .int (l1 + 1), .int l2]) dX0_fillRows_131 (Nat.le_of_ble_eq_true rfl) rfl (congrArg (fun z => l1 + z) (by decide : Int32.ofInt 1 = 1)) rfl rfl ?_
    refine m_goto 7 dX0_fillRows_134 (by decide) ?_
    refine m_dropK (lv' := [.ref 6, .int (l1 + 1), .retAddr 0]) [2] rfl ?_
    exact q
  · replace q := q.2 c1
    refine m_aload_n dX0_fillRows_42 rfl ?_
    refine gf_X0_13 rfl dX0_fillRows_43 ?_
    refine m_aload_n dX0_fillRows_46 rfl ?_
    refine gf_X0_86 rfl dX0_fillRows_47 ?_
    obtain ⟨b6, q⟩ := q
    refine m_aald28 dX0_fillRows_50 b6 ?_
    refine m_iload_n dX0_fillRows_51 rfl ?_
    refine m_aload_n dX0_fillRows_52 rfl ?_
    refine gf_X0_27 rfl dX0_fillRows_53 ?_
    refine m_iload_n dX0_fillRows_56 rfl ?_
    refine m_iconst (v := 4) dX0_fillRows_57 (by decide) ?_
    refine m_idiv dX0_fillRows_58 (by decide) ?_
    refine m_aload_n dX0_fillRows_59 rfl ?_
    refine gf_X0_20 rfl dX0_fillRows_60 ?_
    refine m_iload_n dX0_fillRows_63 rfl ?_
    obtain ⟨b7, q⟩ := q
    refine m_iaload dX0_fillRows_64 rfl (by decide) b7 ?_
    refine cl_X0_92 rfl (by decide) dX0_fillRows_65 (Nat.le_of_ble_eq_true rfl) (MCi_go q (fun r9 h8 q => ?_))
    refine m_iload_n dX0_fillRows_68 rfl ?_
    refine m_icmp_ne 76 dX0_fillRows_69 (by decide) (fun c10 => ?_) (fun c10 => ?_)
    · replace q := q.1 c10
      refine m_lconst (v := 0) dX0_fillRows_76 (by decide) ?_
      obtain ⟨b11, q⟩ := q
      refine m_lastore dX0_fillRows_77 (shp_62 _ (vp_lt b6)) (shp_lt (shp_62 _ (vp_lt b6)) (by decide)) b11 ?_
      refine m_iinc (v := (l2 + 1)) (lv' := [.ref 6, .int l1, .int (l2 + 1)]) dX0_fillRows_78 (Nat.le_of_ble_eq_true rfl) rfl (congrArg (fun z => l2 + z) (by decide : Int32.ofInt 1 = 1)) rfl rfl ?_
      refine m_goto 34 dX0_fillRows_81 (by decide) ?_
      exact q
    · replace q := q.2 c10
      refine m_lconst (v := 1) dX0_fillRows_72 (by decide) ?_
      refine m_goto 77 dX0_fillRows_73 (by decide) ?_
      obtain ⟨b12, q⟩ := q
      refine m_lastore dX0_fillRows_77 (shp_62 _ (vp_lt b6)) (shp_lt (shp_62 _ (vp_lt b6)) (by decide)) b12 ?_
      refine m_iinc (v := (l2 + 1)) (lv' := [.ref 6, .int l1, .int (l2 + 1)]) dX0_fillRows_78 (Nat.le_of_ble_eq_true rfl) rfl (congrArg (fun z => l2 + z) (by decide : Int32.ofInt 1 = 1)) rfl rfl ?_
      refine m_goto 34 dX0_fillRows_81 (by decide) ?_
      exact q
set_option maxRecDepth 100000 in
theorem e_X0_aim {g : gT} {h : mh_T} {P : mh_T → Prop} (l1 : Int32) (l2 : Int32) (l3 : Int32) (q : ME g uX0_aim 3 [.ref 6, .int l1, .int l2, .int l3, .int 0, .retAddr 0, .retAddr 0, .retAddr 0] [] h (qV P)) : MCv g yX0_aim uX0_aim [.ref 6, .int l1, .int l2, .int l3] h P := by
  refine m_enter (by decide) rfl (Nat.le_of_ble_eq_true rfl) (lv := [.ref 6, .int l1, .int l2, .int l3, .retAddr 0, .retAddr 0, .retAddr 0, .retAddr 0]) rfl ?_
  refine m_iconst (v := 0) dX0_aim_0 (by decide) ?_
  refine m_istore (lv' := [.ref 6, .int l1, .int l2, .int l3, .int 0, .retAddr 0, .retAddr 0, .retAddr 0]) dX0_aim_1 (Nat.le_of_ble_eq_true rfl) rfl rfl ?_
  exact q
set_option maxRecDepth 100000 in
theorem r_X0_aim_3 {g : gT} {h : mh_T} {P : mh_T → Prop} (l1 : Int32) (l2 : Int32) (l3 : Int32) (l4 : Int32) (q : ((mI h 6 6) < l4 → P h) ∧ (¬ (mI h 6 6) < l4 → ME g uX0_aim 18 [.ref 6, .int l1, .int l2, .int l3, .int l4, .long 0, .retAddr 0, .int 0] [] h (qV P))) : ME g uX0_aim 3 [.ref 6, .int l1, .int l2, .int l3, .int l4, .retAddr 0, .retAddr 0, .retAddr 0] [] h (qV P) := by
  refine m_iload dX0_aim_3 rfl ?_
  refine m_aload_n dX0_aim_5 rfl ?_
  refine gf_X0_56 rfl dX0_aim_6 ?_
  refine m_icmp_gt 117 dX0_aim_9 (by decide) (fun c1 => ?_) (fun c1 => ?_)
  · replace q := q.1 c1
    exact m_vret dX0_aim_117 rfl q
  · replace q := q.2 c1
    refine m_lconst (v := 0) dX0_aim_12 (by decide) ?_
    refine m_lstore (lv' := [.ref 6, .int l1, .int l2, .int l3, .int l4, .long 0, .retAddr 0, .retAddr 0]) dX0_aim_13 (Nat.le_of_ble_eq_true rfl) rfl rfl ?_
    refine m_iconst (v := 0) dX0_aim_15 (by decide) ?_
    refine m_istore (lv' := [.ref 6, .int l1, .int l2, .int l3, .int l4, .long 0, .retAddr 0, .int 0]) dX0_aim_16 (Nat.le_of_ble_eq_true rfl) rfl rfl ?_
    exact q
set_option maxRecDepth 100000 in
theorem r_X0_aim_18 {g : gT} {h : mh_T} {P : mh_T → Prop} (l1 : Int32) (l2 : Int32) (l3 : Int32) (l4 : Int32) (l5 : Int64) (l7 : Int32) (q : ((mI h 6 5) ≤ l7 → ((mI h 6 6) ≤ l4 → (vp_in l4 65) ∧ (ME g uX0_aim 3 [.ref 6, .int l1, .int l2, .int l3, .int (l4 + 1), .retAddr 0, .retAddr 0, .retAddr 0] [] (wL h (62 + (Int32.toNatClampNeg 33)) l4.toNatClampNeg ((Int32.toInt64 l3) * l5)) (qV P))) ∧ (¬ (mI h 6 6) ≤ l4 → (vp_in l4 64) ∧ (MCi g yX0_isMeant uX0_isMeant [.int (mI h 30 l4.toNatClampNeg), .int l1, .int l2] h (fun r6 h5 => (r6 = 0 → (vp_in l4 65) ∧ (ME g uX0_aim 3 [.ref 6, .int l1, .int l2, .int l3, .int (l4 + 1), .retAddr 0, .retAddr 0, .retAddr 0] [] (wL h5 (62 + (Int32.toNatClampNeg 33)) l4.toNatClampNeg ((Int32.toInt64 l3) * l5)) (qV P))) ∧ (¬ r6 = 0 → ∀ x9 : Int64, x9 = (l5 - (mL h5 6 7)) → (vp_in l4 65) ∧ (ME g uX0_aim 3 [.ref 6, .int l1, .int l2, .int l3, .int (l4 + 1), .retAddr 0, .retAddr 0, .retAddr 0] [] (wL h5 (62 + (Int32.toNatClampNeg 33)) l4.toNatClampNeg ((Int32.toInt64 l3) * x9)) (qV P))))))) ∧ (¬ (mI h 6 5) ≤ l7 → (vp_in l7 32) ∧ (MCi g yX0_isMeant uX0_isMeant [.int (mI h 29 l7.toNatClampNeg), .int l1, .int l2] h (fun r13 h12 => (r13 = 0 → ME g uX0_aim 18 [.ref 6, .int l1, .int l2, .int l3, .int l4, .long l5, .retAddr 0, .int (l7 + 1)] [] h12 (qV P)) ∧ (¬ r13 = 0 → (vp_in l7 34) ∧ ((vp_in l4 65) ∧ (∀ x17 : Int64, x17 = (l5 + (mL h12 (62 + l7.toNatClampNeg) l4.toNatClampNeg)) → ME g uX0_aim 18 [.ref 6, .int l1, .int l2, .int l3, .int l4, .long x17, .retAddr 0, .int (l7 + 1)] [] h12 (qV P)))))))) : ME g uX0_aim 18 [.ref 6, .int l1, .int l2, .int l3, .int l4, .long l5, .retAddr 0, .int l7] [] h (qV P) := by
  refine m_iload dX0_aim_18 rfl ?_
  refine m_aload_n dX0_aim_20 rfl ?_
  refine gf_X0_86 rfl dX0_aim_21 ?_
  refine m_icmp_ge 63 dX0_aim_24 (by decide) (fun c1 => ?_) (fun c1 => ?_)
  · replace q := q.1 c1
    refine m_iload dX0_aim_63 rfl ?_
    refine m_aload_n dX0_aim_65 rfl ?_
    refine gf_X0_56 rfl dX0_aim_66 ?_
    refine m_icmp_ge 96 dX0_aim_69 (by decide) (fun c2 => ?_) (fun c2 => ?_)
    · replace q := q.1 c2
      refine m_aload_n dX0_aim_96 rfl ?_
      refine gf_X0_13 rfl dX0_aim_97 ?_
      refine m_bipush (v := 33) dX0_aim_100 (by decide) ?_
      refine m_aald28 dX0_aim_102 (by unfold vp_in; decide) ?_
      refine m_iload dX0_aim_103 rfl ?_
      refine m_iload_n dX0_aim_105 rfl ?_
      refine m_i2l dX0_aim_106 ?_
      refine m_lload dX0_aim_107 rfl ?_
      refine m_lmul dX0_aim_109 ?_
      obtain ⟨b3, q⟩ := q
      refine m_lastore dX0_aim_110 (shp_62 _ (vp_lt (by unfold vp_in; decide))) (shp_lt (shp_62 _ (vp_lt (by unfold vp_in; decide))) (by decide)) b3 ?_
      refine m_iinc (v := (l4 + 1)) (lv' := [.ref 6, .int l1, .int l2, .int l3, .int (l4 + 1), .long l5, .retAddr 0, .int l7]) dX0_aim_111 (Nat.le_of_ble_eq_true rfl) rfl (congrArg (fun z => l4 + z) (by decide : Int32.ofInt 1 = 1)) rfl rfl ?_
      refine m_goto 3 dX0_aim_114 (by decide) ?_
      refine m_dropK (lv' := [.ref 6, .int l1, .int l2, .int l3, .int (l4 + 1), .retAddr 0, .retAddr 0, .retAddr 0]) [5, 7] rfl ?_
      exact q
    · replace q := q.2 c2
      refine m_aload_n dX0_aim_72 rfl ?_
      refine gf_X0_20 rfl dX0_aim_73 ?_
      refine m_iload dX0_aim_76 rfl ?_
      obtain ⟨b4, q⟩ := q
      refine m_iaload dX0_aim_78 rfl (by decide) b4 ?_
      refine m_iload_n dX0_aim_79 rfl ?_
      refine m_iload_n dX0_aim_80 rfl ?_
      refine cl_X0_96 rfl (by decide) dX0_aim_81 (Nat.le_of_ble_eq_true rfl) (MCi_go q (fun r6 h5 q => ?_))
      refine m_if_eq 96 dX0_aim_84 (by decide) (fun c7 => ?_) (fun c7 => ?_)
      · replace q := q.1 c7
        refine m_aload_n dX0_aim_96 rfl ?_
        refine gf_X0_13 rfl dX0_aim_97 ?_
        refine m_bipush (v := 33) dX0_aim_100 (by decide) ?_
        refine m_aald28 dX0_aim_102 (by unfold vp_in; decide) ?_
        refine m_iload dX0_aim_103 rfl ?_
        refine m_iload_n dX0_aim_105 rfl ?_
        refine m_i2l dX0_aim_106 ?_
        refine m_lload dX0_aim_107 rfl ?_
        refine m_lmul dX0_aim_109 ?_
        obtain ⟨b8, q⟩ := q
        refine m_lastore dX0_aim_110 (shp_62 _ (vp_lt (by unfold vp_in; decide))) (shp_lt (shp_62 _ (vp_lt (by unfold vp_in; decide))) (by decide)) b8 ?_
        refine m_iinc (v := (l4 + 1)) (lv' := [.ref 6, .int l1, .int l2, .int l3, .int (l4 + 1), .long l5, .retAddr 0, .int l7]) dX0_aim_111 (Nat.le_of_ble_eq_true rfl) rfl (congrArg (fun z => l4 + z) (by decide : Int32.ofInt 1 = 1)) rfl rfl ?_
        refine m_goto 3 dX0_aim_114 (by decide) ?_
        refine m_dropK (lv' := [.ref 6, .int l1, .int l2, .int l3, .int (l4 + 1), .retAddr 0, .retAddr 0, .retAddr 0]) [5, 7] rfl ?_
        exact q
      · replace q := q.2 c7
        refine m_lload dX0_aim_87 rfl ?_
        refine m_aload_n dX0_aim_89 rfl ?_
        refine gf_X0_23 rfl dX0_aim_90 ?_
        refine m_lsub dX0_aim_93 ?_
        obtain ⟨x9, ex9⟩ : ∃ z, z = (l5 - (mL h5 6 7)) := ⟨_, rfl⟩
        rw [← ex9]
        replace q := q x9 ex9
        refine m_lstore (lv' := [.ref 6, .int l1, .int l2, .int l3, .int l4, .long x9, .retAddr 0, .int l7]) dX0_aim_94 (Nat.le_of_ble_eq_true rfl) rfl rfl ?_
        refine m_aload_n dX0_aim_96 rfl ?_
        refine gf_X0_13 rfl dX0_aim_97 ?_
        refine m_bipush (v := 33) dX0_aim_100 (by decide) ?_
        refine m_aald28 dX0_aim_102 (by unfold vp_in; decide) ?_
        refine m_iload dX0_aim_103 rfl ?_
        refine m_iload_n dX0_aim_105 rfl ?_
        refine m_i2l dX0_aim_106 ?_
        refine m_lload dX0_aim_107 rfl ?_
        refine m_lmul dX0_aim_109 ?_
        obtain ⟨b10, q⟩ := q
        refine m_lastore dX0_aim_110 (shp_62 _ (vp_lt (by unfold vp_in; decide))) (shp_lt (shp_62 _ (vp_lt (by unfold vp_in; decide))) (by decide)) b10 ?_
        refine m_iinc (v := (l4 + 1)) (lv' := [.ref 6, .int l1, .int l2, .int l3, .int (l4 + 1), .long x9, .retAddr 0, .int l7]) dX0_aim_111 (Nat.le_of_ble_eq_true rfl) rfl (congrArg (fun z => l4 + z) (by decide : Int32.ofInt 1 = 1)) rfl rfl ?_
        refine m_goto 3 dX0_aim_114 (by decide) ?_
        refine m_dropK (lv' := [.ref 6, .int l1, .int l2, .int l3, .int (l4 + 1), .retAddr 0, .retAddr 0, .retAddr 0]) [5, 7] rfl ?_
        exact q
  · replace q := q.2 c1
    refine m_aload_n dX0_aim_27 rfl ?_
    refine gf_X0_16 rfl dX0_aim_28 ?_
    refine m_iload dX0_aim_31 rfl ?_
    obtain ⟨b11, q⟩ := q
    refine m_iaload dX0_aim_33 rfl (by decide) b11 ?_
    refine m_iload_n dX0_aim_34 rfl ?_
    refine m_iload_n dX0_aim_35 rfl ?_
    refine cl_X0_96 rfl (by decide) dX0_aim_36 (Nat.le_of_ble_eq_true rfl) (MCi_go q (fun r13 h12 q => ?_))
    refine m_if_eq 57 dX0_aim_39 (by decide) (fun c14 => ?_) (fun c14 => ?_)
    · replace q := q.1 c14
      refine m_iinc (v := (l7 + 1)) (lv' := [.ref 6, .int l1, .int l2, .int l3, .int l4, .long l5, .retAddr 0, .int (l7 + 1)]) dX0_aim_57 (Nat.le_of_ble_eq_true rfl) rfl (congrArg (fun z => l7 + z) (by decide : Int32.ofInt 1 = 1)) rfl rfl ?_
      refine m_goto 18 dX0_aim_60 (by decide) ?_
      exact q
    · replace q := q.2 c14
      refine m_lload dX0_aim_42 rfl ?_
      refine m_aload_n dX0_aim_44 rfl ?_
      refine gf_X0_13 rfl dX0_aim_45 ?_
      refine m_iload dX0_aim_48 rfl ?_
      obtain ⟨b15, q⟩ := q
      refine m_aald28 dX0_aim_50 b15 ?_
      refine m_iload dX0_aim_51 rfl ?_
      obtain ⟨b16, q⟩ := q
      refine m_laload dX0_aim_53 (shp_62 _ (vp_lt b15)) (shp_lt (shp_62 _ (vp_lt b15)) (by decide)) b16 ?_
      refine m_ladd dX0_aim_54 ?_
      obtain ⟨x17, ex17⟩ : ∃ z, z = (l5 + (mL h12 (62 + l7.toNatClampNeg) l4.toNatClampNeg)) := ⟨_, rfl⟩
      rw [← ex17]
      replace q := q x17 ex17
      refine m_lstore (lv' := [.ref 6, .int l1, .int l2, .int l3, .int l4, .long x17, .retAddr 0, .int l7]) dX0_aim_55 (Nat.le_of_ble_eq_true rfl) rfl rfl ?_
      refine m_iinc (v := (l7 + 1)) (lv' := [.ref 6, .int l1, .int l2, .int l3, .int l4, .long x17, .retAddr 0, .int (l7 + 1)]) dX0_aim_57 (Nat.le_of_ble_eq_true rfl) rfl (congrArg (fun z => l7 + z) (by decide : Int32.ofInt 1 = 1)) rfl rfl ?_
      refine m_goto 18 dX0_aim_60 (by decide) ?_
      exact q
set_option maxRecDepth 100000 in
theorem e_X0_isMeant {g : gT} {h : mh_T} {P : Int32 → mh_T → Prop} (l0 : Int32) (l1 : Int32) (l2 : Int32) (q : (64 ≤ l0 → P 0 h) ∧ (¬ 64 ≤ l0 → (¬ (l0 &&& l1) = l2 → P 0 h) ∧ ((l0 &&& l1) = l2 → P 1 h))) : MCi g yX0_isMeant uX0_isMeant [.int l0, .int l1, .int l2] h P := by
  refine m_enter (by decide) rfl (Nat.le_of_ble_eq_true rfl) (lv := [.int l0, .int l1, .int l2]) rfl ?_
  refine m_iload_n dX0_isMeant_0 rfl ?_
  refine m_bipush (v := 64) dX0_isMeant_1 (by decide) ?_
  refine m_icmp_ge 17 dX0_isMeant_3 (by decide) (fun c1 => ?_) (fun c1 => ?_)
  · replace q := q.1 c1
    refine m_iconst (v := 0) dX0_isMeant_17 (by decide) ?_
    exact m_zret dX0_isMeant_18 rfl (by decide) q
  · replace q := q.2 c1
    refine m_iload_n dX0_isMeant_6 rfl ?_
    refine m_iload_n dX0_isMeant_7 rfl ?_
    refine m_iand dX0_isMeant_8 ?_
    refine m_iload_n dX0_isMeant_9 rfl ?_
    refine m_icmp_ne 17 dX0_isMeant_10 (by decide) (fun c2 => ?_) (fun c2 => ?_)
    · replace q := q.1 c2
      refine m_iconst (v := 0) dX0_isMeant_17 (by decide) ?_
      exact m_zret dX0_isMeant_18 rfl (by decide) q
    · replace q := q.2 c2
      refine m_iconst (v := 1) dX0_isMeant_13 (by decide) ?_
      refine m_goto 18 dX0_isMeant_14 (by decide) ?_
      exact m_zret dX0_isMeant_18 rfl (by decide) q
set_option maxRecDepth 100000 in
theorem e_X0_climb {g : gT} {h : mh_T} {P : mh_T → Prop} (l1 : Int32) (q : ME g uX0_climb 2 [.ref 6, .int l1, .int 0, .retAddr 0, .retAddr 0] [] h (qV P)) : MCv g yX0_climb uX0_climb [.ref 6, .int l1] h P := by
  refine m_enter (by decide) rfl (Nat.le_of_ble_eq_true rfl) (lv := [.ref 6, .int l1, .retAddr 0, .retAddr 0, .retAddr 0]) rfl ?_
  refine m_iconst (v := 0) dX0_climb_0 (by decide) ?_
  refine m_istore_n (lv' := [.ref 6, .int l1, .int 0, .retAddr 0, .retAddr 0]) dX0_climb_1 (Nat.le_of_ble_eq_true rfl) rfl rfl ?_
  exact q
set_option maxRecDepth 100000 in
theorem r_X0_climb_2 {g : gT} {h : mh_T} {P : mh_T → Prop} (l1 : Int32) (l2 : Int32) (q : (1000000 ≤ l2 → P h) ∧ (¬ 1000000 ≤ l2 → MCi g yX0_entering uX0_entering [.ref 6, .int l1] h (fun r3 h2 => (0 ≤ r3 → MCi g yX0_leaving uX0_leaving [.ref 6, .int r3] h2 (fun r6 h5 => (0 ≤ r6 → MCv g yX0_pivot uX0_pivot [.ref 6, .int r6, .int r3, .int l1] h5 (fun h8 => ME g uX0_climb 2 [.ref 6, .int l1, .int (l2 + 1), .retAddr 0, .retAddr 0] [] h8 (qV P))) ∧ (¬ 0 ≤ r6 → P h5))) ∧ (¬ 0 ≤ r3 → P h2)))) : ME g uX0_climb 2 [.ref 6, .int l1, .int l2, .retAddr 0, .retAddr 0] [] h (qV P) := by
  refine m_iload_n dX0_climb_2 rfl ?_
  refine m_ldc (v := 1000000) dX0_climb_3 tw_293 ?_
  refine m_icmp_ge 46 dX0_climb_5 (by decide) (fun c1 => ?_) (fun c1 => ?_)
  · replace q := q.1 c1
    exact m_vret dX0_climb_46 rfl q
  · replace q := q.2 c1
    refine m_aload_n dX0_climb_8 rfl ?_
    refine m_iload_n dX0_climb_9 rfl ?_
    refine cl_X0_101 rfl (by decide) dX0_climb_10 (Nat.le_of_ble_eq_true rfl) (MCi_go q (fun r3 h2 q => ?_))
    refine m_istore_n (lv' := [.ref 6, .int l1, .int l2, .int r3, .retAddr 0]) dX0_climb_13 (Nat.le_of_ble_eq_true rfl) rfl rfl ?_
    refine m_iload_n dX0_climb_14 rfl ?_
    refine m_if_ge 19 dX0_climb_15 (by decide) (fun c4 => ?_) (fun c4 => ?_)
    · replace q := q.1 c4
      refine m_aload_n dX0_climb_19 rfl ?_
      refine m_iload_n dX0_climb_20 rfl ?_
      refine cl_X0_104 rfl (by decide) dX0_climb_21 (Nat.le_of_ble_eq_true rfl) (MCi_go q (fun r6 h5 q => ?_))
      refine m_istore (lv' := [.ref 6, .int l1, .int l2, .int r3, .int r6]) dX0_climb_24 (Nat.le_of_ble_eq_true rfl) rfl rfl ?_
      refine m_iload dX0_climb_26 rfl ?_
      refine m_if_ge 32 dX0_climb_28 (by decide) (fun c7 => ?_) (fun c7 => ?_)
      · replace q := q.1 c7
        refine m_aload_n dX0_climb_32 rfl ?_
        refine m_iload dX0_climb_33 rfl ?_
        refine m_iload_n dX0_climb_35 rfl ?_
        refine m_iload_n dX0_climb_36 rfl ?_
        refine cl_X0_107 rfl (by decide) dX0_climb_37 (Nat.le_of_ble_eq_true rfl) (MCv_go q (fun h8 q => ?_))
        refine m_iinc (v := (l2 + 1)) (lv' := [.ref 6, .int l1, .int (l2 + 1), .int r3, .int r6]) dX0_climb_40 (Nat.le_of_ble_eq_true rfl) rfl (congrArg (fun z => l2 + z) (by decide : Int32.ofInt 1 = 1)) rfl rfl ?_
        refine m_goto 2 dX0_climb_43 (by decide) ?_
        refine m_dropK (lv' := [.ref 6, .int l1, .int (l2 + 1), .retAddr 0, .retAddr 0]) [3, 4] rfl ?_
        exact q
      · replace q := q.2 c7
        exact m_vret dX0_climb_31 rfl q
    · replace q := q.2 c4
      exact m_vret dX0_climb_18 rfl q
set_option maxRecDepth 100000 in
theorem e_X0_entering {g : gT} {h : mh_T} {P : Int32 → mh_T → Prop} (l1 : Int32) (q : ME g uX0_entering 4 [.ref 6, .int l1, .int (-1), .int 0, .retAddr 0] [] h (qI P)) : MCi g yX0_entering uX0_entering [.ref 6, .int l1] h P := by
  refine m_enter (by decide) rfl (Nat.le_of_ble_eq_true rfl) (lv := [.ref 6, .int l1, .retAddr 0, .retAddr 0, .retAddr 0]) rfl ?_
  refine m_iconst (v := (-1)) dX0_entering_0 (by decide) ?_
  refine m_istore_n (lv' := [.ref 6, .int l1, .int (-1), .retAddr 0, .retAddr 0]) dX0_entering_1 (Nat.le_of_ble_eq_true rfl) rfl rfl ?_
  refine m_iconst (v := 0) dX0_entering_2 (by decide) ?_
  refine m_istore_n (lv' := [.ref 6, .int l1, .int (-1), .int 0, .retAddr 0]) dX0_entering_3 (Nat.le_of_ble_eq_true rfl) rfl rfl ?_
  exact q
set_option maxRecDepth 100000 in
theorem r_X0_entering_4 {g : gT} {h : mh_T} {P : Int32 → mh_T → Prop} (l1 : Int32) (l2 : Int32) (l3 : Int32) (q : ((mI h 6 6) ≤ l3 → P l2 h) ∧ (¬ (mI h 6 6) ≤ l3 → (l1 = 32 → (vp_in l1 34) ∧ ((vp_in l3 65) ∧ ((0 ≤ (lg_cmp (mL h (62 + l1.toNatClampNeg) l3.toNatClampNeg) 0) → ME g uX0_entering 4 [.ref 6, .int l1, .int l2, .int (l3 + 1), .retAddr 0] [] h (qI P)) ∧ (¬ 0 ≤ (lg_cmp (mL h (62 + l1.toNatClampNeg) l3.toNatClampNeg) 0) → (l2 < 0 → ME g uX0_entering 4 [.ref 6, .int l1, .int l3, .int (l3 + 1), .retAddr 0] [] h (qI P)) ∧ (¬ l2 < 0 → (vp_in l3 64) ∧ ((vp_in l2 64) ∧ (((mI h 30 l2.toNatClampNeg) ≤ (mI h 30 l3.toNatClampNeg) → ME g uX0_entering 4 [.ref 6, .int l1, .int l2, .int (l3 + 1), .retAddr 0] [] h (qI P)) ∧ (¬ (mI h 30 l2.toNatClampNeg) ≤ (mI h 30 l3.toNatClampNeg) → ME g uX0_entering 4 [.ref 6, .int l1, .int l3, .int (l3 + 1), .retAddr 0] [] h (qI P))))))))) ∧ (¬ l1 = 32 → (vp_in l3 65) ∧ ((¬ (lg_cmp (mL h (62 + (Int32.toNatClampNeg 32)) l3.toNatClampNeg) 0) = 0 → ME g uX0_entering 4 [.ref 6, .int l1, .int l2, .int (l3 + 1), .retAddr 0] [] h (qI P)) ∧ ((lg_cmp (mL h (62 + (Int32.toNatClampNeg 32)) l3.toNatClampNeg) 0) = 0 → (vp_in l1 34) ∧ ((vp_in l3 65) ∧ ((0 ≤ (lg_cmp (mL h (62 + l1.toNatClampNeg) l3.toNatClampNeg) 0) → ME g uX0_entering 4 [.ref 6, .int l1, .int l2, .int (l3 + 1), .retAddr 0] [] h (qI P)) ∧ (¬ 0 ≤ (lg_cmp (mL h (62 + l1.toNatClampNeg) l3.toNatClampNeg) 0) → (l2 < 0 → ME g uX0_entering 4 [.ref 6, .int l1, .int l3, .int (l3 + 1), .retAddr 0] [] h (qI P)) ∧ (¬ l2 < 0 → (vp_in l3 64) ∧ ((vp_in l2 64) ∧ (((mI h 30 l2.toNatClampNeg) ≤ (mI h 30 l3.toNatClampNeg) → ME g uX0_entering 4 [.ref 6, .int l1, .int l2, .int (l3 + 1), .retAddr 0] [] h (qI P)) ∧ (¬ (mI h 30 l2.toNatClampNeg) ≤ (mI h 30 l3.toNatClampNeg) → ME g uX0_entering 4 [.ref 6, .int l1, .int l3, .int (l3 + 1), .retAddr 0] [] h (qI P))))))))))))) : ME g uX0_entering 4 [.ref 6, .int l1, .int l2, .int l3, .retAddr 0] [] h (qI P) := by
  refine m_iload_n dX0_entering_4 rfl ?_
  refine m_aload_n dX0_entering_5 rfl ?_
  refine gf_X0_56 rfl dX0_entering_6 ?_
  refine m_icmp_ge 84 dX0_entering_9 (by decide) (fun c1 => ?_) (fun c1 => ?_)
  · replace q := q.1 c1
    refine m_iload_n dX0_entering_84 rfl ?_
    exact m_iret dX0_entering_85 rfl q
  · replace q := q.2 c1
    refine m_iload_n dX0_entering_12 rfl ?_
    refine m_bipush (v := 32) dX0_entering_13 (by decide) ?_
    refine m_icmp_eq 32 dX0_entering_15 (by decide) (fun c2 => ?_) (fun c2 => ?_)
    · replace q := q.1 c2
      refine m_iconst (v := 1) dX0_entering_32 (by decide) ?_
      refine m_goto 37 dX0_entering_33 (by decide) ?_
      refine m_istore (lv' := [.ref 6, .int l1, .int l2, .int l3, .int 1]) dX0_entering_37 (Nat.le_of_ble_eq_true rfl) rfl rfl ?_
      refine m_iload dX0_entering_39 rfl ?_
      refine m_if_eq 78 dX0_entering_41 (by decide) (fun c3 => absurd c3 (by decide)) (fun c3 => ?_)
      refine m_aload_n dX0_entering_44 rfl ?_
      refine gf_X0_13 rfl dX0_entering_45 ?_
      refine m_iload_n dX0_entering_48 rfl ?_
      obtain ⟨b4, q⟩ := q
      refine m_aald28 dX0_entering_49 b4 ?_
      refine m_iload_n dX0_entering_50 rfl ?_
      obtain ⟨b5, q⟩ := q
      refine m_laload dX0_entering_51 (shp_62 _ (vp_lt b4)) (shp_lt (shp_62 _ (vp_lt b4)) (by decide)) b5 ?_
      refine m_lconst (v := 0) dX0_entering_52 (by decide) ?_
      refine m_lcmp dX0_entering_53 ?_
      refine m_if_ge 78 dX0_entering_54 (by decide) (fun c6 => ?_) (fun c6 => ?_)
      · replace q := q.1 c6
        refine m_iinc (v := (l3 + 1)) (lv' := [.ref 6, .int l1, .int l2, .int (l3 + 1), .int 1]) dX0_entering_78 (Nat.le_of_ble_eq_true rfl) rfl (congrArg (fun z => l3 + z) (by decide : Int32.ofInt 1 = 1)) rfl rfl ?_
        refine m_goto 4 dX0_entering_81 (by decide) ?_
        refine m_dropK (lv' := [.ref 6, .int l1, .int l2, .int (l3 + 1), .retAddr 0]) [4] rfl ?_
        exact q
      · replace q := q.2 c6
        refine m_iload_n dX0_entering_57 rfl ?_
        refine m_if_lt 76 dX0_entering_58 (by decide) (fun c7 => ?_) (fun c7 => ?_)
        · replace q := q.1 c7
          refine m_iload_n dX0_entering_76 rfl ?_
          refine m_istore_n (lv' := [.ref 6, .int l1, .int l3, .int l3, .int 1]) dX0_entering_77 (Nat.le_of_ble_eq_true rfl) rfl rfl ?_
          refine m_iinc (v := (l3 + 1)) (lv' := [.ref 6, .int l1, .int l3, .int (l3 + 1), .int 1]) dX0_entering_78 (Nat.le_of_ble_eq_true rfl) rfl (congrArg (fun z => l3 + z) (by decide : Int32.ofInt 1 = 1)) rfl rfl ?_
          refine m_goto 4 dX0_entering_81 (by decide) ?_
          refine m_dropK (lv' := [.ref 6, .int l1, .int l3, .int (l3 + 1), .retAddr 0]) [4] rfl ?_
          exact q
        · replace q := q.2 c7
          refine m_aload_n dX0_entering_61 rfl ?_
          refine gf_X0_20 rfl dX0_entering_62 ?_
          refine m_iload_n dX0_entering_65 rfl ?_
          obtain ⟨b8, q⟩ := q
          refine m_iaload dX0_entering_66 rfl (by decide) b8 ?_
          refine m_aload_n dX0_entering_67 rfl ?_
          refine gf_X0_20 rfl dX0_entering_68 ?_
          refine m_iload_n dX0_entering_71 rfl ?_
          obtain ⟨b9, q⟩ := q
          refine m_iaload dX0_entering_72 rfl (by decide) b9 ?_
          refine m_icmp_ge 78 dX0_entering_73 (by decide) (fun c10 => ?_) (fun c10 => ?_)
          · replace q := q.1 c10
            refine m_iinc (v := (l3 + 1)) (lv' := [.ref 6, .int l1, .int l2, .int (l3 + 1), .int 1]) dX0_entering_78 (Nat.le_of_ble_eq_true rfl) rfl (congrArg (fun z => l3 + z) (by decide : Int32.ofInt 1 = 1)) rfl rfl ?_
            refine m_goto 4 dX0_entering_81 (by decide) ?_
            refine m_dropK (lv' := [.ref 6, .int l1, .int l2, .int (l3 + 1), .retAddr 0]) [4] rfl ?_
            exact q
          · replace q := q.2 c10
            refine m_iload_n dX0_entering_76 rfl ?_
            refine m_istore_n (lv' := [.ref 6, .int l1, .int l3, .int l3, .int 1]) dX0_entering_77 (Nat.le_of_ble_eq_true rfl) rfl rfl ?_
            refine m_iinc (v := (l3 + 1)) (lv' := [.ref 6, .int l1, .int l3, .int (l3 + 1), .int 1]) dX0_entering_78 (Nat.le_of_ble_eq_true rfl) rfl (congrArg (fun z => l3 + z) (by decide : Int32.ofInt 1 = 1)) rfl rfl ?_
            refine m_goto 4 dX0_entering_81 (by decide) ?_
            refine m_dropK (lv' := [.ref 6, .int l1, .int l3, .int (l3 + 1), .retAddr 0]) [4] rfl ?_
            exact q
    · replace q := q.2 c2
      refine m_aload_n dX0_entering_18 rfl ?_
      refine gf_X0_13 rfl dX0_entering_19 ?_
      refine m_bipush (v := 32) dX0_entering_22 (by decide) ?_
      refine m_aald28 dX0_entering_24 (by unfold vp_in; decide) ?_
      refine m_iload_n dX0_entering_25 rfl ?_
      obtain ⟨b11, q⟩ := q
      refine m_laload dX0_entering_26 (shp_62 _ (vp_lt (by unfold vp_in; decide))) (shp_lt (shp_62 _ (vp_lt (by unfold vp_in; decide))) (by decide)) b11 ?_
      refine m_lconst (v := 0) dX0_entering_27 (by decide) ?_
      refine m_lcmp dX0_entering_28 ?_
      refine m_if_ne 36 dX0_entering_29 (by decide) (fun c12 => ?_) (fun c12 => ?_)
      · replace q := q.1 c12
        refine m_iconst (v := 0) dX0_entering_36 (by decide) ?_
        refine m_istore (lv' := [.ref 6, .int l1, .int l2, .int l3, .int 0]) dX0_entering_37 (Nat.le_of_ble_eq_true rfl) rfl rfl ?_
        refine m_iload dX0_entering_39 rfl ?_
        refine m_if_eq 78 dX0_entering_41 (by decide) (fun c13 => ?_) (fun c13 => absurd c13 (by decide))
        refine m_iinc (v := (l3 + 1)) (lv' := [.ref 6, .int l1, .int l2, .int (l3 + 1), .int 0]) dX0_entering_78 (Nat.le_of_ble_eq_true rfl) rfl (congrArg (fun z => l3 + z) (by decide : Int32.ofInt 1 = 1)) rfl rfl ?_
        refine m_goto 4 dX0_entering_81 (by decide) ?_
        refine m_dropK (lv' := [.ref 6, .int l1, .int l2, .int (l3 + 1), .retAddr 0]) [4] rfl ?_
        exact q
      · replace q := q.2 c12
        refine m_iconst (v := 1) dX0_entering_32 (by decide) ?_
        refine m_goto 37 dX0_entering_33 (by decide) ?_
        refine m_istore (lv' := [.ref 6, .int l1, .int l2, .int l3, .int 1]) dX0_entering_37 (Nat.le_of_ble_eq_true rfl) rfl rfl ?_
        refine m_iload dX0_entering_39 rfl ?_
        refine m_if_eq 78 dX0_entering_41 (by decide) (fun c14 => absurd c14 (by decide)) (fun c14 => ?_)
        refine m_aload_n dX0_entering_44 rfl ?_
        refine gf_X0_13 rfl dX0_entering_45 ?_
        refine m_iload_n dX0_entering_48 rfl ?_
        obtain ⟨b15, q⟩ := q
        refine m_aald28 dX0_entering_49 b15 ?_
        refine m_iload_n dX0_entering_50 rfl ?_
        obtain ⟨b16, q⟩ := q
        refine m_laload dX0_entering_51 (shp_62 _ (vp_lt b15)) (shp_lt (shp_62 _ (vp_lt b15)) (by decide)) b16 ?_
        refine m_lconst (v := 0) dX0_entering_52 (by decide) ?_
        refine m_lcmp dX0_entering_53 ?_
        refine m_if_ge 78 dX0_entering_54 (by decide) (fun c17 => ?_) (fun c17 => ?_)
        · replace q := q.1 c17
          refine m_iinc (v := (l3 + 1)) (lv' := [.ref 6, .int l1, .int l2, .int (l3 + 1), .int 1]) dX0_entering_78 (Nat.le_of_ble_eq_true rfl) rfl (congrArg (fun z => l3 + z) (by decide : Int32.ofInt 1 = 1)) rfl rfl ?_
          refine m_goto 4 dX0_entering_81 (by decide) ?_
          refine m_dropK (lv' := [.ref 6, .int l1, .int l2, .int (l3 + 1), .retAddr 0]) [4] rfl ?_
          exact q
        · replace q := q.2 c17
          refine m_iload_n dX0_entering_57 rfl ?_
          refine m_if_lt 76 dX0_entering_58 (by decide) (fun c18 => ?_) (fun c18 => ?_)
          · replace q := q.1 c18
            refine m_iload_n dX0_entering_76 rfl ?_
            refine m_istore_n (lv' := [.ref 6, .int l1, .int l3, .int l3, .int 1]) dX0_entering_77 (Nat.le_of_ble_eq_true rfl) rfl rfl ?_
            refine m_iinc (v := (l3 + 1)) (lv' := [.ref 6, .int l1, .int l3, .int (l3 + 1), .int 1]) dX0_entering_78 (Nat.le_of_ble_eq_true rfl) rfl (congrArg (fun z => l3 + z) (by decide : Int32.ofInt 1 = 1)) rfl rfl ?_
            refine m_goto 4 dX0_entering_81 (by decide) ?_
            refine m_dropK (lv' := [.ref 6, .int l1, .int l3, .int (l3 + 1), .retAddr 0]) [4] rfl ?_
            exact q
          · replace q := q.2 c18
            refine m_aload_n dX0_entering_61 rfl ?_
            refine gf_X0_20 rfl dX0_entering_62 ?_
            refine m_iload_n dX0_entering_65 rfl ?_
            obtain ⟨b19, q⟩ := q
            refine m_iaload dX0_entering_66 rfl (by decide) b19 ?_
            refine m_aload_n dX0_entering_67 rfl ?_
            refine gf_X0_20 rfl dX0_entering_68 ?_
            refine m_iload_n dX0_entering_71 rfl ?_
            obtain ⟨b20, q⟩ := q
            refine m_iaload dX0_entering_72 rfl (by decide) b20 ?_
            refine m_icmp_ge 78 dX0_entering_73 (by decide) (fun c21 => ?_) (fun c21 => ?_)
            · replace q := q.1 c21
              refine m_iinc (v := (l3 + 1)) (lv' := [.ref 6, .int l1, .int l2, .int (l3 + 1), .int 1]) dX0_entering_78 (Nat.le_of_ble_eq_true rfl) rfl (congrArg (fun z => l3 + z) (by decide : Int32.ofInt 1 = 1)) rfl rfl ?_
              refine m_goto 4 dX0_entering_81 (by decide) ?_
              refine m_dropK (lv' := [.ref 6, .int l1, .int l2, .int (l3 + 1), .retAddr 0]) [4] rfl ?_
              exact q
            · replace q := q.2 c21
              refine m_iload_n dX0_entering_76 rfl ?_
              refine m_istore_n (lv' := [.ref 6, .int l1, .int l3, .int l3, .int 1]) dX0_entering_77 (Nat.le_of_ble_eq_true rfl) rfl rfl ?_
              refine m_iinc (v := (l3 + 1)) (lv' := [.ref 6, .int l1, .int l3, .int (l3 + 1), .int 1]) dX0_entering_78 (Nat.le_of_ble_eq_true rfl) rfl (congrArg (fun z => l3 + z) (by decide : Int32.ofInt 1 = 1)) rfl rfl ?_
              refine m_goto 4 dX0_entering_81 (by decide) ?_
              refine m_dropK (lv' := [.ref 6, .int l1, .int l3, .int (l3 + 1), .retAddr 0]) [4] rfl ?_
              exact q
set_option maxRecDepth 100000 in
theorem e_X0_leaving {g : gT} {h : mh_T} {P : Int32 → mh_T → Prop} (l1 : Int32) (q : ME g uX0_leaving 4 [.ref 6, .int l1, .int (-1), .int 0] [] h (qI P)) : MCi g yX0_leaving uX0_leaving [.ref 6, .int l1] h P := by
  refine m_enter (by decide) rfl (Nat.le_of_ble_eq_true rfl) (lv := [.ref 6, .int l1, .retAddr 0, .retAddr 0]) rfl ?_
  refine m_iconst (v := (-1)) dX0_leaving_0 (by decide) ?_
  refine m_istore_n (lv' := [.ref 6, .int l1, .int (-1), .retAddr 0]) dX0_leaving_1 (Nat.le_of_ble_eq_true rfl) rfl rfl ?_
  refine m_iconst (v := 0) dX0_leaving_2 (by decide) ?_
  refine m_istore_n (lv' := [.ref 6, .int l1, .int (-1), .int 0]) dX0_leaving_3 (Nat.le_of_ble_eq_true rfl) rfl rfl ?_
  exact q
set_option maxRecDepth 100000 in
theorem r_X0_leaving_4 {g : gT} {h : mh_T} {P : Int32 → mh_T → Prop} (l1 : Int32) (l2 : Int32) (l3 : Int32) (q : ((mI h 6 5) ≤ l3 → P l2 h) ∧ (¬ (mI h 6 5) ≤ l3 → (vp_in l3 34) ∧ ((vp_in l1 65) ∧ (((lg_cmp (mL h (62 + l3.toNatClampNeg) l1.toNatClampNeg) 0) ≤ 0 → ME g uX0_leaving 4 [.ref 6, .int l1, .int l2, .int (l3 + 1)] [] h (qI P)) ∧ (¬ (lg_cmp (mL h (62 + l3.toNatClampNeg) l1.toNatClampNeg) 0) ≤ 0 → (l2 < 0 → ME g uX0_leaving 4 [.ref 6, .int l1, .int l3, .int (l3 + 1)] [] h (qI P)) ∧ (¬ l2 < 0 → MCi g yX0_comesFirst uX0_comesFirst [.ref 6, .int l3, .int l2, .int l1] h (fun r7 h6 => (r7 = 0 → ME g uX0_leaving 4 [.ref 6, .int l1, .int l2, .int (l3 + 1)] [] h6 (qI P)) ∧ (¬ r7 = 0 → ME g uX0_leaving 4 [.ref 6, .int l1, .int l3, .int (l3 + 1)] [] h6 (qI P))))))))) : ME g uX0_leaving 4 [.ref 6, .int l1, .int l2, .int l3] [] h (qI P) := by
  refine m_iload_n dX0_leaving_4 rfl ?_
  refine m_aload_n dX0_leaving_5 rfl ?_
  refine gf_X0_86 rfl dX0_leaving_6 ?_
  refine m_icmp_ge 47 dX0_leaving_9 (by decide) (fun c1 => ?_) (fun c1 => ?_)
  · replace q := q.1 c1
    refine m_iload_n dX0_leaving_47 rfl ?_
    exact m_iret dX0_leaving_48 rfl q
  · replace q := q.2 c1
    refine m_aload_n dX0_leaving_12 rfl ?_
    refine gf_X0_13 rfl dX0_leaving_13 ?_
    refine m_iload_n dX0_leaving_16 rfl ?_
    obtain ⟨b2, q⟩ := q
    refine m_aald28 dX0_leaving_17 b2 ?_
    refine m_iload_n dX0_leaving_18 rfl ?_
    obtain ⟨b3, q⟩ := q
    refine m_laload dX0_leaving_19 (shp_62 _ (vp_lt b2)) (shp_lt (shp_62 _ (vp_lt b2)) (by decide)) b3 ?_
    refine m_lconst (v := 0) dX0_leaving_20 (by decide) ?_
    refine m_lcmp dX0_leaving_21 ?_
    refine m_if_le 41 dX0_leaving_22 (by decide) (fun c4 => ?_) (fun c4 => ?_)
    · replace q := q.1 c4
      refine m_iinc (v := (l3 + 1)) (lv' := [.ref 6, .int l1, .int l2, .int (l3 + 1)]) dX0_leaving_41 (Nat.le_of_ble_eq_true rfl) rfl (congrArg (fun z => l3 + z) (by decide : Int32.ofInt 1 = 1)) rfl rfl ?_
      refine m_goto 4 dX0_leaving_44 (by decide) ?_
      exact q
    · replace q := q.2 c4
      refine m_iload_n dX0_leaving_25 rfl ?_
      refine m_if_lt 39 dX0_leaving_26 (by decide) (fun c5 => ?_) (fun c5 => ?_)
      · replace q := q.1 c5
        refine m_iload_n dX0_leaving_39 rfl ?_
        refine m_istore_n (lv' := [.ref 6, .int l1, .int l3, .int l3]) dX0_leaving_40 (Nat.le_of_ble_eq_true rfl) rfl rfl ?_
        refine m_iinc (v := (l3 + 1)) (lv' := [.ref 6, .int l1, .int l3, .int (l3 + 1)]) dX0_leaving_41 (Nat.le_of_ble_eq_true rfl) rfl (congrArg (fun z => l3 + z) (by decide : Int32.ofInt 1 = 1)) rfl rfl ?_
        refine m_goto 4 dX0_leaving_44 (by decide) ?_
        exact q
      · replace q := q.2 c5
        refine m_aload_n dX0_leaving_29 rfl ?_
        refine m_iload_n dX0_leaving_30 rfl ?_
        refine m_iload_n dX0_leaving_31 rfl ?_
        refine m_iload_n dX0_leaving_32 rfl ?_
        refine cl_X0_110 rfl (by decide) dX0_leaving_33 (Nat.le_of_ble_eq_true rfl) (MCi_go q (fun r7 h6 q => ?_))
        refine m_if_eq 41 dX0_leaving_36 (by decide) (fun c8 => ?_) (fun c8 => ?_)
        · replace q := q.1 c8
          refine m_iinc (v := (l3 + 1)) (lv' := [.ref 6, .int l1, .int l2, .int (l3 + 1)]) dX0_leaving_41 (Nat.le_of_ble_eq_true rfl) rfl (congrArg (fun z => l3 + z) (by decide : Int32.ofInt 1 = 1)) rfl rfl ?_
          refine m_goto 4 dX0_leaving_44 (by decide) ?_
          exact q
        · replace q := q.2 c8
          refine m_iload_n dX0_leaving_39 rfl ?_
          refine m_istore_n (lv' := [.ref 6, .int l1, .int l3, .int l3]) dX0_leaving_40 (Nat.le_of_ble_eq_true rfl) rfl rfl ?_
          refine m_iinc (v := (l3 + 1)) (lv' := [.ref 6, .int l1, .int l3, .int (l3 + 1)]) dX0_leaving_41 (Nat.le_of_ble_eq_true rfl) rfl (congrArg (fun z => l3 + z) (by decide : Int32.ofInt 1 = 1)) rfl rfl ?_
          refine m_goto 4 dX0_leaving_44 (by decide) ?_
          exact q
set_option maxRecDepth 100000 in
theorem e_X0_comesFirst {g : gT} {h : mh_T} {P : Int32 → mh_T → Prop} (l1 : Int32) (l2 : Int32) (l3 : Int32) (q : (vp_in l1 34) ∧ ((vp_in (mI h 6 6) 65) ∧ ((vp_in l2 34) ∧ ((vp_in l3 65) ∧ (∀ x5 : Int64, x5 = ((mL h (62 + l1.toNatClampNeg) (mI h 6 6).toNatClampNeg) * (mL h (62 + l2.toNatClampNeg) l3.toNatClampNeg)) → (vp_in l2 34) ∧ ((vp_in (mI h 6 6) 65) ∧ ((vp_in l1 34) ∧ ((vp_in l3 65) ∧ (∀ x10 : Int64, x10 = ((mL h (62 + l2.toNatClampNeg) (mI h 6 6).toNatClampNeg) * (mL h (62 + l1.toNatClampNeg) l3.toNatClampNeg)) → ((lg_cmp x5 x10) < 0 → P 1 h) ∧ (¬ (lg_cmp x5 x10) < 0 → (¬ (lg_cmp x5 x10) = 0 → P 0 h) ∧ ((lg_cmp x5 x10) = 0 → (vp_in l1 32) ∧ ((vp_in l2 32) ∧ (((mI h 29 l2.toNatClampNeg) ≤ (mI h 29 l1.toNatClampNeg) → P 0 h) ∧ (¬ (mI h 29 l2.toNatClampNeg) ≤ (mI h 29 l1.toNatClampNeg) → P 1 h)))))))))))))) : MCi g yX0_comesFirst uX0_comesFirst [.ref 6, .int l1, .int l2, .int l3] h P := by
  refine m_enter (by decide) rfl (Nat.le_of_ble_eq_true rfl) (lv := [.ref 6, .int l1, .int l2, .int l3, .retAddr 0, .retAddr 0, .retAddr 0, .retAddr 0]) rfl ?_
  refine m_aload_n dX0_comesFirst_0 rfl ?_
  refine gf_X0_13 rfl dX0_comesFirst_1 ?_
  refine m_iload_n dX0_comesFirst_4 rfl ?_
  obtain ⟨b1, q⟩ := q
  refine m_aald28 dX0_comesFirst_5 b1 ?_
  refine m_aload_n dX0_comesFirst_6 rfl ?_
  refine gf_X0_56 rfl dX0_comesFirst_7 ?_
  obtain ⟨b2, q⟩ := q
  refine m_laload dX0_comesFirst_10 (shp_62 _ (vp_lt b1)) (shp_lt (shp_62 _ (vp_lt b1)) (by decide)) b2 ?_
  refine m_aload_n dX0_comesFirst_11 rfl ?_
  refine gf_X0_13 rfl dX0_comesFirst_12 ?_
  refine m_iload_n dX0_comesFirst_15 rfl ?_
  obtain ⟨b3, q⟩ := q
  refine m_aald28 dX0_comesFirst_16 b3 ?_
  refine m_iload_n dX0_comesFirst_17 rfl ?_
  obtain ⟨b4, q⟩ := q
  refine m_laload dX0_comesFirst_18 (shp_62 _ (vp_lt b3)) (shp_lt (shp_62 _ (vp_lt b3)) (by decide)) b4 ?_
  refine m_lmul dX0_comesFirst_19 ?_
  obtain ⟨x5, ex5⟩ : ∃ z, z = ((mL h (62 + l1.toNatClampNeg) (mI h 6 6).toNatClampNeg) * (mL h (62 + l2.toNatClampNeg) l3.toNatClampNeg)) := ⟨_, rfl⟩
  rw [← ex5]
  replace q := q x5 ex5
  refine m_lstore (lv' := [.ref 6, .int l1, .int l2, .int l3, .long x5, .retAddr 0, .retAddr 0, .retAddr 0]) dX0_comesFirst_20 (Nat.le_of_ble_eq_true rfl) rfl rfl ?_
  refine m_aload_n dX0_comesFirst_22 rfl ?_
  refine gf_X0_13 rfl dX0_comesFirst_23 ?_
  refine m_iload_n dX0_comesFirst_26 rfl ?_
  obtain ⟨b6, q⟩ := q
  refine m_aald28 dX0_comesFirst_27 b6 ?_
  refine m_aload_n dX0_comesFirst_28 rfl ?_
  refine gf_X0_56 rfl dX0_comesFirst_29 ?_
  obtain ⟨b7, q⟩ := q
  refine m_laload dX0_comesFirst_32 (shp_62 _ (vp_lt b6)) (shp_lt (shp_62 _ (vp_lt b6)) (by decide)) b7 ?_
  refine m_aload_n dX0_comesFirst_33 rfl ?_
  refine gf_X0_13 rfl dX0_comesFirst_34 ?_
  refine m_iload_n dX0_comesFirst_37 rfl ?_
  obtain ⟨b8, q⟩ := q
  refine m_aald28 dX0_comesFirst_38 b8 ?_
  refine m_iload_n dX0_comesFirst_39 rfl ?_
  obtain ⟨b9, q⟩ := q
  refine m_laload dX0_comesFirst_40 (shp_62 _ (vp_lt b8)) (shp_lt (shp_62 _ (vp_lt b8)) (by decide)) b9 ?_
  refine m_lmul dX0_comesFirst_41 ?_
  obtain ⟨x10, ex10⟩ : ∃ z, z = ((mL h (62 + l2.toNatClampNeg) (mI h 6 6).toNatClampNeg) * (mL h (62 + l1.toNatClampNeg) l3.toNatClampNeg)) := ⟨_, rfl⟩
  rw [← ex10]
  replace q := q x10 ex10
  refine m_lstore (lv' := [.ref 6, .int l1, .int l2, .int l3, .long x5, .retAddr 0, .long x10, .retAddr 0]) dX0_comesFirst_42 (Nat.le_of_ble_eq_true rfl) rfl rfl ?_
  refine m_lload dX0_comesFirst_44 rfl ?_
  refine m_lload dX0_comesFirst_46 rfl ?_
  refine m_lcmp dX0_comesFirst_48 ?_
  refine m_if_lt 75 dX0_comesFirst_49 (by decide) (fun c11 => ?_) (fun c11 => ?_)
  · replace q := q.1 c11
    refine m_iconst (v := 1) dX0_comesFirst_75 (by decide) ?_
    refine m_goto 80 dX0_comesFirst_76 (by decide) ?_
    exact m_zret dX0_comesFirst_80 rfl (by decide) q
  · replace q := q.2 c11
    refine m_lload dX0_comesFirst_52 rfl ?_
    refine m_lload dX0_comesFirst_54 rfl ?_
    refine m_lcmp dX0_comesFirst_56 ?_
    refine m_if_ne 79 dX0_comesFirst_57 (by decide) (fun c12 => ?_) (fun c12 => ?_)
    · replace q := q.1 c12
      refine m_iconst (v := 0) dX0_comesFirst_79 (by decide) ?_
      exact m_zret dX0_comesFirst_80 rfl (by decide) q
    · replace q := q.2 c12
      refine m_aload_n dX0_comesFirst_60 rfl ?_
      refine gf_X0_16 rfl dX0_comesFirst_61 ?_
      refine m_iload_n dX0_comesFirst_64 rfl ?_
      obtain ⟨b13, q⟩ := q
      refine m_iaload dX0_comesFirst_65 rfl (by decide) b13 ?_
      refine m_aload_n dX0_comesFirst_66 rfl ?_
      refine gf_X0_16 rfl dX0_comesFirst_67 ?_
      refine m_iload_n dX0_comesFirst_70 rfl ?_
      obtain ⟨b14, q⟩ := q
      refine m_iaload dX0_comesFirst_71 rfl (by decide) b14 ?_
      refine m_icmp_ge 79 dX0_comesFirst_72 (by decide) (fun c15 => ?_) (fun c15 => ?_)
      · replace q := q.1 c15
        refine m_iconst (v := 0) dX0_comesFirst_79 (by decide) ?_
        exact m_zret dX0_comesFirst_80 rfl (by decide) q
      · replace q := q.2 c15
        refine m_iconst (v := 1) dX0_comesFirst_75 (by decide) ?_
        refine m_goto 80 dX0_comesFirst_76 (by decide) ?_
        exact m_zret dX0_comesFirst_80 rfl (by decide) q
set_option maxRecDepth 100000 in
theorem e_X0_pivot {g : gT} {h : mh_T} {P : mh_T → Prop} (l1 : Int32) (l2 : Int32) (l3 : Int32) (q : (vp_in l1 34) ∧ ((vp_in l2 65) ∧ (∀ x3 : Int64, x3 = (mL h (62 + l1.toNatClampNeg) l2.toNatClampNeg) → ((lg_cmp x3 0) = 0 → P h) ∧ (¬ (lg_cmp x3 0) = 0 → (¬ (lg_cmp (mL h 6 7) 0) = 0 → ME g uX0_pivot 30 [.ref 6, .int l1, .int l2, .int l3, .long x3, .retAddr 0, .int 0] [] h (qV P)) ∧ ((lg_cmp (mL h 6 7) 0) = 0 → P h))))) : MCv g yX0_pivot uX0_pivot [.ref 6, .int l1, .int l2, .int l3] h P := by
  refine m_enter (by decide) rfl (Nat.le_of_ble_eq_true rfl) (lv := [.ref 6, .int l1, .int l2, .int l3, .retAddr 0, .retAddr 0, .retAddr 0]) rfl ?_
  refine m_aload_n dX0_pivot_0 rfl ?_
  refine gf_X0_13 rfl dX0_pivot_1 ?_
  refine m_iload_n dX0_pivot_4 rfl ?_
  obtain ⟨b1, q⟩ := q
  refine m_aald28 dX0_pivot_5 b1 ?_
  refine m_iload_n dX0_pivot_6 rfl ?_
  obtain ⟨b2, q⟩ := q
  refine m_laload dX0_pivot_7 (shp_62 _ (vp_lt b1)) (shp_lt (shp_62 _ (vp_lt b1)) (by decide)) b2 ?_
  obtain ⟨x3, ex3⟩ : ∃ z, z = (mL h (62 + l1.toNatClampNeg) l2.toNatClampNeg) := ⟨_, rfl⟩
  rw [← ex3]
  replace q := q x3 ex3
  refine m_lstore (lv' := [.ref 6, .int l1, .int l2, .int l3, .long x3, .retAddr 0, .retAddr 0]) dX0_pivot_8 (Nat.le_of_ble_eq_true rfl) rfl rfl ?_
  refine m_lload dX0_pivot_10 rfl ?_
  refine m_lconst (v := 0) dX0_pivot_12 (by decide) ?_
  refine m_lcmp dX0_pivot_13 ?_
  refine m_if_eq 26 dX0_pivot_14 (by decide) (fun c4 => ?_) (fun c4 => ?_)
  · replace q := q.1 c4
    exact m_vret dX0_pivot_26 rfl q
  · replace q := q.2 c4
    refine m_aload_n dX0_pivot_17 rfl ?_
    refine gf_X0_23 rfl dX0_pivot_18 ?_
    refine m_lconst (v := 0) dX0_pivot_21 (by decide) ?_
    refine m_lcmp dX0_pivot_22 ?_
    refine m_if_ne 27 dX0_pivot_23 (by decide) (fun c5 => ?_) (fun c5 => ?_)
    · replace q := q.1 c5
      refine m_iconst (v := 0) dX0_pivot_27 (by decide) ?_
      refine m_istore (lv' := [.ref 6, .int l1, .int l2, .int l3, .long x3, .retAddr 0, .int 0]) dX0_pivot_28 (Nat.le_of_ble_eq_true rfl) rfl rfl ?_
      exact q
    · replace q := q.2 c5
      exact m_vret dX0_pivot_26 rfl q
set_option maxRecDepth 100000 in
theorem r_X0_pivot_30 {g : gT} {h : mh_T} {P : mh_T → Prop} (l1 : Int32) (l2 : Int32) (l3 : Int32) (l4 : Int64) (l6 : Int32) (q : ((mI h 6 5) ≤ l6 → MCv g yX0_clearFrom uX0_clearFrom [.ref 6, .int 32, .int l1, .int l2] h (fun h2 => (¬ l3 = 33 → (vp_in l1 34) ∧ ((vp_in l2 65) ∧ ((vp_in l1 32) ∧ (∀ x7 : Int32, x7 = (mI (wL (wL h2 (62 + l1.toNatClampNeg) l2.toNatClampNeg (mL h2 6 7)) 6 7 l4) 29 l1.toNatClampNeg) → (vp_in l2 64) ∧ ((vp_in l1 32) ∧ ((vp_in l2 64) ∧ (P (wI (wI (wL (wL h2 (62 + l1.toNatClampNeg) l2.toNatClampNeg (mL h2 6 7)) 6 7 l4) 29 l1.toNatClampNeg (mI (wL (wL h2 (62 + l1.toNatClampNeg) l2.toNatClampNeg (mL h2 6 7)) 6 7 l4) 30 l2.toNatClampNeg)) 30 l2.toNatClampNeg x7)))))))) ∧ (l3 = 33 → MCv g yX0_clearFrom uX0_clearFrom [.ref 6, .int 33, .int l1, .int l2] h2 (fun h11 => (vp_in l1 34) ∧ ((vp_in l2 65) ∧ ((vp_in l1 32) ∧ (∀ x15 : Int32, x15 = (mI (wL (wL h11 (62 + l1.toNatClampNeg) l2.toNatClampNeg (mL h11 6 7)) 6 7 l4) 29 l1.toNatClampNeg) → (vp_in l2 64) ∧ ((vp_in l1 32) ∧ ((vp_in l2 64) ∧ (P (wI (wI (wL (wL h11 (62 + l1.toNatClampNeg) l2.toNatClampNeg (mL h11 6 7)) 6 7 l4) 29 l1.toNatClampNeg (mI (wL (wL h11 (62 + l1.toNatClampNeg) l2.toNatClampNeg (mL h11 6 7)) 6 7 l4) 30 l2.toNatClampNeg)) 30 l2.toNatClampNeg x15))))))))))) ∧ (¬ (mI h 6 5) ≤ l6 → (l6 = l1 → ME g uX0_pivot 30 [.ref 6, .int l1, .int l2, .int l3, .long l4, .retAddr 0, .int (l6 + 1)] [] h (qV P)) ∧ (¬ l6 = l1 → MCv g yX0_clearFrom uX0_clearFrom [.ref 6, .int l6, .int l1, .int l2] h (fun h20 => ME g uX0_pivot 30 [.ref 6, .int l1, .int l2, .int l3, .long l4, .retAddr 0, .int (l6 + 1)] [] h20 (qV P))))) : ME g uX0_pivot 30 [.ref 6, .int l1, .int l2, .int l3, .long l4, .retAddr 0, .int l6] [] h (qV P) := by
  refine m_iload dX0_pivot_30 rfl ?_
  refine m_aload_n dX0_pivot_32 rfl ?_
  refine gf_X0_86 rfl dX0_pivot_33 ?_
  refine m_icmp_ge 59 dX0_pivot_36 (by decide) (fun c1 => ?_) (fun c1 => ?_)
  · replace q := q.1 c1
    refine m_aload_n dX0_pivot_59 rfl ?_
    refine m_bipush (v := 32) dX0_pivot_60 (by decide) ?_
    refine m_iload_n dX0_pivot_62 rfl ?_
    refine m_iload_n dX0_pivot_63 rfl ?_
    refine cl_X0_113 rfl (by decide) dX0_pivot_64 (Nat.le_of_ble_eq_true rfl) (MCv_go q (fun h2 q => ?_))
    refine m_iload_n dX0_pivot_67 rfl ?_
    refine m_bipush (v := 33) dX0_pivot_68 (by decide) ?_
    refine m_icmp_ne 81 dX0_pivot_70 (by decide) (fun c3 => ?_) (fun c3 => ?_)
    · replace q := q.1 c3
      refine m_aload_n dX0_pivot_81 rfl ?_
      refine gf_X0_13 rfl dX0_pivot_82 ?_
      refine m_iload_n dX0_pivot_85 rfl ?_
      obtain ⟨b4, q⟩ := q
      refine m_aald28 dX0_pivot_86 b4 ?_
      refine m_iload_n dX0_pivot_87 rfl ?_
      refine m_aload_n dX0_pivot_88 rfl ?_
      refine gf_X0_23 rfl dX0_pivot_89 ?_
      obtain ⟨b5, q⟩ := q
      refine m_lastore dX0_pivot_92 (shp_62 _ (vp_lt b4)) (shp_lt (shp_62 _ (vp_lt b4)) (by decide)) b5 ?_
      refine m_aload_n dX0_pivot_93 rfl ?_
      refine m_lload dX0_pivot_94 rfl ?_
      refine pf_X0_23 rfl dX0_pivot_96 ?_
      refine m_aload_n dX0_pivot_99 rfl ?_
      refine gf_X0_16 rfl dX0_pivot_100 ?_
      refine m_iload_n dX0_pivot_103 rfl ?_
      obtain ⟨b6, q⟩ := q
      refine m_iaload dX0_pivot_104 rfl (by decide) b6 ?_
      obtain ⟨x7, ex7⟩ : ∃ z, z = (mI (wL (wL h2 (62 + l1.toNatClampNeg) l2.toNatClampNeg (mL h2 6 7)) 6 7 l4) 29 l1.toNatClampNeg) := ⟨_, rfl⟩
      rw [← ex7]
      replace q := q x7 ex7
      refine m_istore (lv' := [.ref 6, .int l1, .int l2, .int l3, .long l4, .retAddr 0, .int x7]) dX0_pivot_105 (Nat.le_of_ble_eq_true rfl) rfl rfl ?_
      refine m_aload_n dX0_pivot_107 rfl ?_
      refine gf_X0_16 rfl dX0_pivot_108 ?_
      refine m_iload_n dX0_pivot_111 rfl ?_
      refine m_aload_n dX0_pivot_112 rfl ?_
      refine gf_X0_20 rfl dX0_pivot_113 ?_
      refine m_iload_n dX0_pivot_116 rfl ?_
      obtain ⟨b8, q⟩ := q
      refine m_iaload dX0_pivot_117 rfl (by decide) b8 ?_
      obtain ⟨b9, q⟩ := q
      refine m_iastore dX0_pivot_118 rfl (by decide) b9 ?_
      refine m_aload_n dX0_pivot_119 rfl ?_
      refine gf_X0_20 rfl dX0_pivot_120 ?_
      refine m_iload_n dX0_pivot_123 rfl ?_
      refine m_iload dX0_pivot_124 rfl ?_
      obtain ⟨b10, q⟩ := q
      refine m_iastore dX0_pivot_126 rfl (by decide) b10 ?_
      exact m_vret dX0_pivot_127 rfl q
    · replace q := q.2 c3
      refine m_aload_n dX0_pivot_73 rfl ?_
      refine m_bipush (v := 33) dX0_pivot_74 (by decide) ?_
      refine m_iload_n dX0_pivot_76 rfl ?_
      refine m_iload_n dX0_pivot_77 rfl ?_
      refine cl_X0_113 rfl (by decide) dX0_pivot_78 (Nat.le_of_ble_eq_true rfl) (MCv_go q (fun h11 q => ?_))
      refine m_aload_n dX0_pivot_81 rfl ?_
      refine gf_X0_13 rfl dX0_pivot_82 ?_
      refine m_iload_n dX0_pivot_85 rfl ?_
      obtain ⟨b12, q⟩ := q
      refine m_aald28 dX0_pivot_86 b12 ?_
      refine m_iload_n dX0_pivot_87 rfl ?_
      refine m_aload_n dX0_pivot_88 rfl ?_
      refine gf_X0_23 rfl dX0_pivot_89 ?_
      obtain ⟨b13, q⟩ := q
      refine m_lastore dX0_pivot_92 (shp_62 _ (vp_lt b12)) (shp_lt (shp_62 _ (vp_lt b12)) (by decide)) b13 ?_
      refine m_aload_n dX0_pivot_93 rfl ?_
      refine m_lload dX0_pivot_94 rfl ?_
      refine pf_X0_23 rfl dX0_pivot_96 ?_
      refine m_aload_n dX0_pivot_99 rfl ?_
      refine gf_X0_16 rfl dX0_pivot_100 ?_
      refine m_iload_n dX0_pivot_103 rfl ?_
      obtain ⟨b14, q⟩ := q
      refine m_iaload dX0_pivot_104 rfl (by decide) b14 ?_
      obtain ⟨x15, ex15⟩ : ∃ z, z = (mI (wL (wL h11 (62 + l1.toNatClampNeg) l2.toNatClampNeg (mL h11 6 7)) 6 7 l4) 29 l1.toNatClampNeg) := ⟨_, rfl⟩
      rw [← ex15]
      replace q := q x15 ex15
      refine m_istore (lv' := [.ref 6, .int l1, .int l2, .int l3, .long l4, .retAddr 0, .int x15]) dX0_pivot_105 (Nat.le_of_ble_eq_true rfl) rfl rfl ?_
      refine m_aload_n dX0_pivot_107 rfl ?_
      refine gf_X0_16 rfl dX0_pivot_108 ?_
      refine m_iload_n dX0_pivot_111 rfl ?_
      refine m_aload_n dX0_pivot_112 rfl ?_
      refine gf_X0_20 rfl dX0_pivot_113 ?_
      refine m_iload_n dX0_pivot_116 rfl ?_
      obtain ⟨b16, q⟩ := q
      refine m_iaload dX0_pivot_117 rfl (by decide) b16 ?_
      obtain ⟨b17, q⟩ := q
      refine m_iastore dX0_pivot_118 rfl (by decide) b17 ?_
      refine m_aload_n dX0_pivot_119 rfl ?_
      refine gf_X0_20 rfl dX0_pivot_120 ?_
      refine m_iload_n dX0_pivot_123 rfl ?_
      refine m_iload dX0_pivot_124 rfl ?_
      obtain ⟨b18, q⟩ := q
      refine m_iastore dX0_pivot_126 rfl (by decide) b18 ?_
      exact m_vret dX0_pivot_127 rfl q
  · replace q := q.2 c1
    refine m_iload dX0_pivot_39 rfl ?_
    refine m_iload_n dX0_pivot_41 rfl ?_
    refine m_icmp_eq 53 dX0_pivot_42 (by decide) (fun c19 => ?_) (fun c19 => ?_)
    · replace q := q.1 c19
      refine m_iinc (v := (l6 + 1)) (lv' := [.ref 6, .int l1, .int l2, .int l3, .long l4, .retAddr 0, .int (l6 + 1)]) dX0_pivot_53 (Nat.le_of_ble_eq_true rfl) rfl (congrArg (fun z => l6 + z) (by decide : Int32.ofInt 1 = 1)) rfl rfl ?_
      refine m_goto 30 dX0_pivot_56 (by decide) ?_
      exact q
    · replace q := q.2 c19
      refine m_aload_n dX0_pivot_45 rfl ?_
      refine m_iload dX0_pivot_46 rfl ?_
      refine m_iload_n dX0_pivot_48 rfl ?_
      refine m_iload_n dX0_pivot_49 rfl ?_
      refine cl_X0_113 rfl (by decide) dX0_pivot_50 (Nat.le_of_ble_eq_true rfl) (MCv_go q (fun h20 q => ?_))
      refine m_iinc (v := (l6 + 1)) (lv' := [.ref 6, .int l1, .int l2, .int l3, .long l4, .retAddr 0, .int (l6 + 1)]) dX0_pivot_53 (Nat.le_of_ble_eq_true rfl) rfl (congrArg (fun z => l6 + z) (by decide : Int32.ofInt 1 = 1)) rfl rfl ?_
      refine m_goto 30 dX0_pivot_56 (by decide) ?_
      exact q
set_option maxRecDepth 100000 in
theorem e_X0_clearFrom {g : gT} {h : mh_T} {P : mh_T → Prop} (l1 : Int32) (l2 : Int32) (l3 : Int32) (q : (vp_in l1 34) ∧ ((vp_in l2 34) ∧ ((vp_in l3 65) ∧ (∀ x4 : Int64, x4 = (mL h (62 + l2.toNatClampNeg) l3.toNatClampNeg) → (vp_in l3 65) ∧ (∀ x6 : Int64, x6 = (mL h (62 + l1.toNatClampNeg) l3.toNatClampNeg) → (¬ (lg_cmp x6 0) = 0 → ME g uX0_clearFrom 49 [.ref 6, .int l1, .int l2, .int l3, .ref (62 + l1.toNatClampNeg), .ref (62 + l2.toNatClampNeg), .long x4, .retAddr 0, .long x6, .retAddr 0, .int 0] [] h (qV P)) ∧ ((lg_cmp x6 0) = 0 → (¬ (lg_cmp x4 (mL h 6 7)) = 0 → ME g uX0_clearFrom 49 [.ref 6, .int l1, .int l2, .int l3, .ref (62 + l1.toNatClampNeg), .ref (62 + l2.toNatClampNeg), .long x4, .retAddr 0, .long x6, .retAddr 0, .int 0] [] h (qV P)) ∧ ((lg_cmp x4 (mL h 6 7)) = 0 → P h))))))) : MCv g yX0_clearFrom uX0_clearFrom [.ref 6, .int l1, .int l2, .int l3] h P := by
  refine m_enter (by decide) rfl (Nat.le_of_ble_eq_true rfl) (lv := [.ref 6, .int l1, .int l2, .int l3, .retAddr 0, .retAddr 0, .retAddr 0, .retAddr 0, .retAddr 0, .retAddr 0, .retAddr 0]) rfl ?_
  refine m_aload_n dX0_clearFrom_0 rfl ?_
  refine gf_X0_13 rfl dX0_clearFrom_1 ?_
  refine m_iload_n dX0_clearFrom_4 rfl ?_
  obtain ⟨b1, q⟩ := q
  refine m_aald28 dX0_clearFrom_5 b1 ?_
  refine m_astore (lv' := [.ref 6, .int l1, .int l2, .int l3, .ref (62 + l1.toNatClampNeg), .retAddr 0, .retAddr 0, .retAddr 0, .retAddr 0, .retAddr 0, .retAddr 0]) dX0_clearFrom_6 (Nat.le_of_ble_eq_true rfl) rfl rfl ?_
  refine m_aload_n dX0_clearFrom_8 rfl ?_
  refine gf_X0_13 rfl dX0_clearFrom_9 ?_
  refine m_iload_n dX0_clearFrom_12 rfl ?_
  obtain ⟨b2, q⟩ := q
  refine m_aald28 dX0_clearFrom_13 b2 ?_
  refine m_astore (lv' := [.ref 6, .int l1, .int l2, .int l3, .ref (62 + l1.toNatClampNeg), .ref (62 + l2.toNatClampNeg), .retAddr 0, .retAddr 0, .retAddr 0, .retAddr 0, .retAddr 0]) dX0_clearFrom_14 (Nat.le_of_ble_eq_true rfl) rfl rfl ?_
  refine m_aload dX0_clearFrom_16 rfl ?_
  refine m_iload_n dX0_clearFrom_18 rfl ?_
  obtain ⟨b3, q⟩ := q
  refine m_laload dX0_clearFrom_19 (shp_62 _ (vp_lt b2)) (shp_lt (shp_62 _ (vp_lt b2)) (by decide)) b3 ?_
  obtain ⟨x4, ex4⟩ : ∃ z, z = (mL h (62 + l2.toNatClampNeg) l3.toNatClampNeg) := ⟨_, rfl⟩
  rw [← ex4]
  replace q := q x4 ex4
  refine m_lstore (lv' := [.ref 6, .int l1, .int l2, .int l3, .ref (62 + l1.toNatClampNeg), .ref (62 + l2.toNatClampNeg), .long x4, .retAddr 0, .retAddr 0, .retAddr 0, .retAddr 0]) dX0_clearFrom_20 (Nat.le_of_ble_eq_true rfl) rfl rfl ?_
  refine m_aload dX0_clearFrom_22 rfl ?_
  refine m_iload_n dX0_clearFrom_24 rfl ?_
  obtain ⟨b5, q⟩ := q
  refine m_laload dX0_clearFrom_25 (shp_62 _ (vp_lt b1)) (shp_lt (shp_62 _ (vp_lt b1)) (by decide)) b5 ?_
  obtain ⟨x6, ex6⟩ : ∃ z, z = (mL h (62 + l1.toNatClampNeg) l3.toNatClampNeg) := ⟨_, rfl⟩
  rw [← ex6]
  replace q := q x6 ex6
  refine m_lstore (lv' := [.ref 6, .int l1, .int l2, .int l3, .ref (62 + l1.toNatClampNeg), .ref (62 + l2.toNatClampNeg), .long x4, .retAddr 0, .long x6, .retAddr 0, .retAddr 0]) dX0_clearFrom_26 (Nat.le_of_ble_eq_true rfl) rfl rfl ?_
  refine m_lload dX0_clearFrom_28 rfl ?_
  refine m_lconst (v := 0) dX0_clearFrom_30 (by decide) ?_
  refine m_lcmp dX0_clearFrom_31 ?_
  refine m_if_ne 46 dX0_clearFrom_32 (by decide) (fun c7 => ?_) (fun c7 => ?_)
  · replace q := q.1 c7
    refine m_iconst (v := 0) dX0_clearFrom_46 (by decide) ?_
    refine m_istore (lv' := [.ref 6, .int l1, .int l2, .int l3, .ref (62 + l1.toNatClampNeg), .ref (62 + l2.toNatClampNeg), .long x4, .retAddr 0, .long x6, .retAddr 0, .int 0]) dX0_clearFrom_47 (Nat.le_of_ble_eq_true rfl) rfl rfl ?_
    exact q
  · replace q := q.2 c7
    refine m_lload dX0_clearFrom_35 rfl ?_
    refine m_aload_n dX0_clearFrom_37 rfl ?_
    refine gf_X0_23 rfl dX0_clearFrom_38 ?_
    refine m_lcmp dX0_clearFrom_41 ?_
    refine m_if_ne 46 dX0_clearFrom_42 (by decide) (fun c8 => ?_) (fun c8 => ?_)
    · replace q := q.1 c8
      refine m_iconst (v := 0) dX0_clearFrom_46 (by decide) ?_
      refine m_istore (lv' := [.ref 6, .int l1, .int l2, .int l3, .ref (62 + l1.toNatClampNeg), .ref (62 + l2.toNatClampNeg), .long x4, .retAddr 0, .long x6, .retAddr 0, .int 0]) dX0_clearFrom_47 (Nat.le_of_ble_eq_true rfl) rfl rfl ?_
      exact q
    · replace q := q.2 c8
      exact m_vret dX0_clearFrom_45 rfl q
set_option maxRecDepth 100000 in
theorem r_X0_clearFrom_49 {g : gT} {h : mh_T} {P : mh_T → Prop} (l1 : Int32) (l2 : Int32) (l3 : Int32) (l4 : Nat) (l5 : Nat) (l6 : Int64) (l8 : Int64) (l10 : Int32) (sl4 : shp l4 = (22, 65, [])) (sl5 : shp l5 = (22, 65, [])) (q : ((mI h 6 6) < l10 → (vp_in l3 65) ∧ (P (wL h l4 l3.toNatClampNeg (-l8)))) ∧ (¬ (mI h 6 6) < l10 → (l10 = l3 → ME g uX0_clearFrom 49 [.ref 6, .int l1, .int l2, .int l3, .ref l4, .ref l5, .long l6, .retAddr 0, .long l8, .retAddr 0, .int (l10 + 1)] [] h (qV P)) ∧ (¬ l10 = l3 → (vp_in l10 65) ∧ ((vp_in l10 65) ∧ ((¬ (mL h 6 7) = 0) ∧ ((vp_in l10 65) ∧ (ME g uX0_clearFrom 49 [.ref 6, .int l1, .int l2, .int l3, .ref l4, .ref l5, .long l6, .retAddr 0, .long l8, .retAddr 0, .int (l10 + 1)] [] (wL h l4 l10.toNatClampNeg ((((mL h l4 l10.toNatClampNeg) * l6) - (l8 * (mL h l5 l10.toNatClampNeg))) / (mL h 6 7))) (qV P)))))))) : ME g uX0_clearFrom 49 [.ref 6, .int l1, .int l2, .int l3, .ref l4, .ref l5, .long l6, .retAddr 0, .long l8, .retAddr 0, .int l10] [] h (qV P) := by
  refine m_iload dX0_clearFrom_49 rfl ?_
  refine m_aload_n dX0_clearFrom_51 rfl ?_
  refine gf_X0_56 rfl dX0_clearFrom_52 ?_
  refine m_icmp_gt 97 dX0_clearFrom_55 (by decide) (fun c1 => ?_) (fun c1 => ?_)
  · replace q := q.1 c1
    refine m_aload dX0_clearFrom_97 rfl ?_
    refine m_iload_n dX0_clearFrom_99 rfl ?_
    refine m_lload dX0_clearFrom_100 rfl ?_
    refine m_lneg dX0_clearFrom_102 ?_
    obtain ⟨b2, q⟩ := q
    refine m_lastore dX0_clearFrom_103 sl4 (shp_lt sl4 (by decide)) b2 ?_
    exact m_vret dX0_clearFrom_104 rfl q
  · replace q := q.2 c1
    refine m_iload dX0_clearFrom_58 rfl ?_
    refine m_iload_n dX0_clearFrom_60 rfl ?_
    refine m_icmp_eq 91 dX0_clearFrom_61 (by decide) (fun c3 => ?_) (fun c3 => ?_)
    · replace q := q.1 c3
      refine m_iinc (v := (l10 + 1)) (lv' := [.ref 6, .int l1, .int l2, .int l3, .ref l4, .ref l5, .long l6, .retAddr 0, .long l8, .retAddr 0, .int (l10 + 1)]) dX0_clearFrom_91 (Nat.le_of_ble_eq_true rfl) rfl (congrArg (fun z => l10 + z) (by decide : Int32.ofInt 1 = 1)) rfl rfl ?_
      refine m_goto 49 dX0_clearFrom_94 (by decide) ?_
      exact q
    · replace q := q.2 c3
      refine m_aload dX0_clearFrom_64 rfl ?_
      refine m_iload dX0_clearFrom_66 rfl ?_
      refine m_aload dX0_clearFrom_68 rfl ?_
      refine m_iload dX0_clearFrom_70 rfl ?_
      obtain ⟨b4, q⟩ := q
      refine m_laload dX0_clearFrom_72 sl4 (shp_lt sl4 (by decide)) b4 ?_
      refine m_lload dX0_clearFrom_73 rfl ?_
      refine m_lmul dX0_clearFrom_75 ?_
      refine m_lload dX0_clearFrom_76 rfl ?_
      refine m_aload dX0_clearFrom_78 rfl ?_
      refine m_iload dX0_clearFrom_80 rfl ?_
      obtain ⟨b5, q⟩ := q
      refine m_laload dX0_clearFrom_82 sl5 (shp_lt sl5 (by decide)) b5 ?_
      refine m_lmul dX0_clearFrom_83 ?_
      refine m_lsub dX0_clearFrom_84 ?_
      refine m_aload_n dX0_clearFrom_85 rfl ?_
      refine gf_X0_23 rfl dX0_clearFrom_86 ?_
      obtain ⟨b6, q⟩ := q
      refine m_ldiv dX0_clearFrom_89 b6 ?_
      obtain ⟨b7, q⟩ := q
      refine m_lastore dX0_clearFrom_90 sl4 (shp_lt sl4 (by decide)) b7 ?_
      refine m_iinc (v := (l10 + 1)) (lv' := [.ref 6, .int l1, .int l2, .int l3, .ref l4, .ref l5, .long l6, .retAddr 0, .long l8, .retAddr 0, .int (l10 + 1)]) dX0_clearFrom_91 (Nat.le_of_ble_eq_true rfl) rfl (congrArg (fun z => l10 + z) (by decide : Int32.ofInt 1 = 1)) rfl rfl ?_
      refine m_goto 49 dX0_clearFrom_94 (by decide) ?_
      exact q
