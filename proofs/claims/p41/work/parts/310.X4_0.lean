set_option maxRecDepth 100000 in
theorem e_X4_open {g : gT} {h : mh_T} {P : mh_T → Prop}  (q : P (wI (wI (wI h 10 0 0) 10 1 0) 10 2 0)) : MCv g yX4_open uX4_open [.ref 10] h P := by
  refine m_enter (by decide) rfl (Nat.le_of_ble_eq_true rfl) (lv := [.ref 10]) rfl ?_
  refine m_aload_n dX4_open_0 rfl ?_
  refine m_iconst (v := 0) dX4_open_1 (by decide) ?_
  refine pf_X4_28 rfl dX4_open_2 ?_
  refine m_aload_n dX4_open_5 rfl ?_
  refine m_iconst (v := 0) dX4_open_6 (by decide) ?_
  refine pf_X4_32 rfl dX4_open_7 ?_
  refine m_aload_n dX4_open_10 rfl ?_
  refine m_iconst (v := 0) dX4_open_11 (by decide) ?_
  refine pf_X4_35 rfl dX4_open_12 ?_
  exact m_vret dX4_open_15 rfl q
set_option maxRecDepth 100000 in
theorem e_X4_begin {g : gT} {h : mh_T} {P : mh_T → Prop} (l1 : Int32) (l2 : Int32) (q : ((mI h 10 0) < 20 → (vp_in (mI h 10 0) 21) ∧ ((shp (mR h 41 (mI h 10 0).toNatClampNeg) = (20, 49, [])) ∧ (MCv g yX8_save uX8_save [.ref 3, .ref (mR h 41 (mI h 10 0).toNatClampNeg)] h (fun h4 => (vp_in (mI h4 10 0) 20) ∧ ((shp (mR h4 40 (mI h4 10 0).toNatClampNeg) = (20, 5, [])) ∧ ((vp_in 0 5) ∧ ((vp_in 1 5) ∧ ((vp_in 2 5) ∧ ((vp_in 3 5) ∧ ((vp_in 4 5) ∧ (P (wI (wI (wI (wI (wI (wI (wI h4 (mR h4 40 (mI h4 10 0).toNatClampNeg) (Int32.toNatClampNeg 0) l1) (mR h4 40 (mI h4 10 0).toNatClampNeg) (Int32.toNatClampNeg 1) l2) (mR h4 40 (mI h4 10 0).toNatClampNeg) (Int32.toNatClampNeg 2) (-2)) (mR h4 40 (mI h4 10 0).toNatClampNeg) (Int32.toNatClampNeg 3) (-2)) (mR h4 40 (mI h4 10 0).toNatClampNeg) (Int32.toNatClampNeg 4) (-2)) 10 0 ((mI (wI (wI (wI (wI (wI h4 (mR h4 40 (mI h4 10 0).toNatClampNeg) (Int32.toNatClampNeg 0) l1) (mR h4 40 (mI h4 10 0).toNatClampNeg) (Int32.toNatClampNeg 1) l2) (mR h4 40 (mI h4 10 0).toNatClampNeg) (Int32.toNatClampNeg 2) (-2)) (mR h4 40 (mI h4 10 0).toNatClampNeg) (Int32.toNatClampNeg 3) (-2)) (mR h4 40 (mI h4 10 0).toNatClampNeg) (Int32.toNatClampNeg 4) (-2)) 10 0) + 1)) 10 1 (mI (wI (wI (wI (wI (wI (wI h4 (mR h4 40 (mI h4 10 0).toNatClampNeg) (Int32.toNatClampNeg 0) l1) (mR h4 40 (mI h4 10 0).toNatClampNeg) (Int32.toNatClampNeg 1) l2) (mR h4 40 (mI h4 10 0).toNatClampNeg) (Int32.toNatClampNeg 2) (-2)) (mR h4 40 (mI h4 10 0).toNatClampNeg) (Int32.toNatClampNeg 3) (-2)) (mR h4 40 (mI h4 10 0).toNatClampNeg) (Int32.toNatClampNeg 4) (-2)) 10 0 ((mI (wI (wI (wI (wI (wI h4 (mR h4 40 (mI h4 10 0).toNatClampNeg) (Int32.toNatClampNeg 0) l1) (mR h4 40 (mI h4 10 0).toNatClampNeg) (Int32.toNatClampNeg 1) l2) (mR h4 40 (mI h4 10 0).toNatClampNeg) (Int32.toNatClampNeg 2) (-2)) (mR h4 40 (mI h4 10 0).toNatClampNeg) (Int32.toNatClampNeg 3) (-2)) (mR h4 40 (mI h4 10 0).toNatClampNeg) (Int32.toNatClampNeg 4) (-2)) 10 0) + 1)) 10 0))))))))))))) ∧ (¬ (mI h 10 0) < 20 → MCv g yX4_leaveOldest uX4_leaveOldest [.ref 10] h (fun h12 => (vp_in (mI h12 10 0) 21) ∧ ((shp (mR h12 41 (mI h12 10 0).toNatClampNeg) = (20, 49, [])) ∧ (MCv g yX8_save uX8_save [.ref 3, .ref (mR h12 41 (mI h12 10 0).toNatClampNeg)] h12 (fun h15 => (vp_in (mI h15 10 0) 20) ∧ ((shp (mR h15 40 (mI h15 10 0).toNatClampNeg) = (20, 5, [])) ∧ ((vp_in 0 5) ∧ ((vp_in 1 5) ∧ ((vp_in 2 5) ∧ ((vp_in 3 5) ∧ ((vp_in 4 5) ∧ (P (wI (wI (wI (wI (wI (wI (wI h15 (mR h15 40 (mI h15 10 0).toNatClampNeg) (Int32.toNatClampNeg 0) l1) (mR h15 40 (mI h15 10 0).toNatClampNeg) (Int32.toNatClampNeg 1) l2) (mR h15 40 (mI h15 10 0).toNatClampNeg) (Int32.toNatClampNeg 2) (-2)) (mR h15 40 (mI h15 10 0).toNatClampNeg) (Int32.toNatClampNeg 3) (-2)) (mR h15 40 (mI h15 10 0).toNatClampNeg) (Int32.toNatClampNeg 4) (-2)) 10 0 ((mI (wI (wI (wI (wI (wI h15 (mR h15 40 (mI h15 10 0).toNatClampNeg) (Int32.toNatClampNeg 0) l1) (mR h15 40 (mI h15 10 0).toNatClampNeg) (Int32.toNatClampNeg 1) l2) (mR h15 40 (mI h15 10 0).toNatClampNeg) (Int32.toNatClampNeg 2) (-2)) (mR h15 40 (mI h15 10 0).toNatClampNeg) (Int32.toNatClampNeg 3) (-2)) (mR h15 40 (mI h15 10 0).toNatClampNeg) (Int32.toNatClampNeg 4) (-2)) 10 0) + 1)) 10 1 (mI (wI (wI (wI (wI (wI (wI h15 (mR h15 40 (mI h15 10 0).toNatClampNeg) (Int32.toNatClampNeg 0) l1) (mR h15 40 (mI h15 10 0).toNatClampNeg) (Int32.toNatClampNeg 1) l2) (mR h15 40 (mI h15 10 0).toNatClampNeg) (Int32.toNatClampNeg 2) (-2)) (mR h15 40 (mI h15 10 0).toNatClampNeg) (Int32.toNatClampNeg 3) (-2)) (mR h15 40 (mI h15 10 0).toNatClampNeg) (Int32.toNatClampNeg 4) (-2)) 10 0 ((mI (wI (wI (wI (wI (wI h15 (mR h15 40 (mI h15 10 0).toNatClampNeg) (Int32.toNatClampNeg 0) l1) (mR h15 40 (mI h15 10 0).toNatClampNeg) (Int32.toNatClampNeg 1) l2) (mR h15 40 (mI h15 10 0).toNatClampNeg) (Int32.toNatClampNeg 2) (-2)) (mR h15 40 (mI h15 10 0).toNatClampNeg) (Int32.toNatClampNeg 3) (-2)) (mR h15 40 (mI h15 10 0).toNatClampNeg) (Int32.toNatClampNeg 4) (-2)) 10 0) + 1)) 10 0))))))))))))))) : MCv g yX4_begin uX4_begin [.ref 10, .int l1, .int l2] h P := by
  refine m_enter (by decide) rfl (Nat.le_of_ble_eq_true rfl) (lv := [.ref 10, .int l1, .int l2, .retAddr 0]) rfl ?_
  refine m_aload_n dX4_begin_0 rfl ?_
  refine gf_X4_28 rfl dX4_begin_1 ?_
  refine m_bipush (v := 20) dX4_begin_4 (by decide) ?_
  refine m_icmp_lt 13 dX4_begin_6 (by decide) (fun c1 => ?_) (fun c1 => ?_)
  · replace q := q.1 c1
    refine m_aload_n dX4_begin_13 rfl ?_
    refine gf_X4_24 rfl dX4_begin_14 ?_
    refine m_aload_n dX4_begin_17 rfl ?_
    refine gf_X4_18 rfl dX4_begin_18 ?_
    refine m_aload_n dX4_begin_21 rfl ?_
    refine gf_X4_28 rfl dX4_begin_22 ?_
    obtain ⟨b2, q⟩ := q
    obtain ⟨b3, q⟩ := q
    refine m_aaldD dX4_begin_25 (show shp 41 = (25, 21, []) from rfl) b2 b3 (by decide) ?_
    refine cl_X4_41 rfl (by decide) dX4_begin_26 (Nat.le_of_ble_eq_true rfl) (MCv_go q (fun h4 q => ?_))
    refine m_aload_n dX4_begin_29 rfl ?_
    refine gf_X4_13 rfl dX4_begin_30 ?_
    refine m_aload_n dX4_begin_33 rfl ?_
    refine gf_X4_28 rfl dX4_begin_34 ?_
    obtain ⟨b5, q⟩ := q
    obtain ⟨b6, q⟩ := q
    refine m_aaldD dX4_begin_37 (show shp 40 = (25, 20, []) from rfl) b5 b6 (by decide) ?_
    refine m_astore_n (lv' := [.ref 10, .int l1, .int l2, .ref (mR h4 40 (mI h4 10 0).toNatClampNeg)]) dX4_begin_38 (Nat.le_of_ble_eq_true rfl) rfl rfl ?_
    refine m_aload_n dX4_begin_39 rfl ?_
    refine m_iconst (v := 0) dX4_begin_40 (by decide) ?_
    refine m_iload_n dX4_begin_41 rfl ?_
    obtain ⟨b7, q⟩ := q
    refine m_iastore dX4_begin_42 b6 (shp_lt b6 (by decide)) b7 ?_
    refine m_aload_n dX4_begin_43 rfl ?_
    refine m_iconst (v := 1) dX4_begin_44 (by decide) ?_
    refine m_iload_n dX4_begin_45 rfl ?_
    obtain ⟨b8, q⟩ := q
    refine m_iastore dX4_begin_46 b6 (shp_lt b6 (by decide)) b8 ?_
    refine m_aload_n dX4_begin_47 rfl ?_
    refine m_iconst (v := 2) dX4_begin_48 (by decide) ?_
    refine m_bipush (v := (-2)) dX4_begin_49 (by decide) ?_
    obtain ⟨b9, q⟩ := q
    refine m_iastore dX4_begin_51 b6 (shp_lt b6 (by decide)) b9 ?_
    refine m_aload_n dX4_begin_52 rfl ?_
    refine m_iconst (v := 3) dX4_begin_53 (by decide) ?_
    refine m_bipush (v := (-2)) dX4_begin_54 (by decide) ?_
    obtain ⟨b10, q⟩ := q
    refine m_iastore dX4_begin_56 b6 (shp_lt b6 (by decide)) b10 ?_
    refine m_aload_n dX4_begin_57 rfl ?_
    refine m_iconst (v := 4) dX4_begin_58 (by decide) ?_
    refine m_bipush (v := (-2)) dX4_begin_59 (by decide) ?_
    obtain ⟨b11, q⟩ := q
    refine m_iastore dX4_begin_61 b6 (shp_lt b6 (by decide)) b11 ?_
    refine m_aload_n dX4_begin_62 rfl ?_
    refine m_dup dX4_begin_63 rfl ?_
    refine gf_X4_28 rfl dX4_begin_64 ?_
    refine m_iconst (v := 1) dX4_begin_67 (by decide) ?_
    refine m_iadd dX4_begin_68 ?_
    refine pf_X4_28 rfl dX4_begin_69 ?_
    refine m_aload_n dX4_begin_72 rfl ?_
    refine m_aload_n dX4_begin_73 rfl ?_
    refine gf_X4_28 rfl dX4_begin_74 ?_
    refine pf_X4_32 rfl dX4_begin_77 ?_
    exact m_vret dX4_begin_80 rfl q
  · replace q := q.2 c1
    refine m_aload_n dX4_begin_9 rfl ?_
    refine cl_X4_38 rfl (by decide) dX4_begin_10 (Nat.le_of_ble_eq_true rfl) (MCv_go q (fun h12 q => ?_))
    refine m_aload_n dX4_begin_13 rfl ?_
    refine gf_X4_24 rfl dX4_begin_14 ?_
    refine m_aload_n dX4_begin_17 rfl ?_
    refine gf_X4_18 rfl dX4_begin_18 ?_
    refine m_aload_n dX4_begin_21 rfl ?_
    refine gf_X4_28 rfl dX4_begin_22 ?_
    obtain ⟨b13, q⟩ := q
    obtain ⟨b14, q⟩ := q
    refine m_aaldD dX4_begin_25 (show shp 41 = (25, 21, []) from rfl) b13 b14 (by decide) ?_
    refine cl_X4_41 rfl (by decide) dX4_begin_26 (Nat.le_of_ble_eq_true rfl) (MCv_go q (fun h15 q => ?_))
    refine m_aload_n dX4_begin_29 rfl ?_
    refine gf_X4_13 rfl dX4_begin_30 ?_
    refine m_aload_n dX4_begin_33 rfl ?_
    refine gf_X4_28 rfl dX4_begin_34 ?_
    obtain ⟨b16, q⟩ := q
    obtain ⟨b17, q⟩ := q
    refine m_aaldD dX4_begin_37 (show shp 40 = (25, 20, []) from rfl) b16 b17 (by decide) ?_
    refine m_astore_n (lv' := [.ref 10, .int l1, .int l2, .ref (mR h15 40 (mI h15 10 0).toNatClampNeg)]) dX4_begin_38 (Nat.le_of_ble_eq_true rfl) rfl rfl ?_
    refine m_aload_n dX4_begin_39 rfl ?_
    refine m_iconst (v := 0) dX4_begin_40 (by decide) ?_
    refine m_iload_n dX4_begin_41 rfl ?_
    obtain ⟨b18, q⟩ := q
    refine m_iastore dX4_begin_42 b17 (shp_lt b17 (by decide)) b18 ?_
    refine m_aload_n dX4_begin_43 rfl ?_
    refine m_iconst (v := 1) dX4_begin_44 (by decide) ?_
    refine m_iload_n dX4_begin_45 rfl ?_
    obtain ⟨b19, q⟩ := q
    refine m_iastore dX4_begin_46 b17 (shp_lt b17 (by decide)) b19 ?_
    refine m_aload_n dX4_begin_47 rfl ?_
    refine m_iconst (v := 2) dX4_begin_48 (by decide) ?_
    refine m_bipush (v := (-2)) dX4_begin_49 (by decide) ?_
    obtain ⟨b20, q⟩ := q
    refine m_iastore dX4_begin_51 b17 (shp_lt b17 (by decide)) b20 ?_
    refine m_aload_n dX4_begin_52 rfl ?_
    refine m_iconst (v := 3) dX4_begin_53 (by decide) ?_
    refine m_bipush (v := (-2)) dX4_begin_54 (by decide) ?_
    obtain ⟨b21, q⟩ := q
    refine m_iastore dX4_begin_56 b17 (shp_lt b17 (by decide)) b21 ?_
    refine m_aload_n dX4_begin_57 rfl ?_
    refine m_iconst (v := 4) dX4_begin_58 (by decide) ?_
    refine m_bipush (v := (-2)) dX4_begin_59 (by decide) ?_
    obtain ⟨b22, q⟩ := q
    refine m_iastore dX4_begin_61 b17 (shp_lt b17 (by decide)) b22 ?_
    refine m_aload_n dX4_begin_62 rfl ?_
    refine m_dup dX4_begin_63 rfl ?_
    refine gf_X4_28 rfl dX4_begin_64 ?_
    refine m_iconst (v := 1) dX4_begin_67 (by decide) ?_
    refine m_iadd dX4_begin_68 ?_
    refine pf_X4_28 rfl dX4_begin_69 ?_
    refine m_aload_n dX4_begin_72 rfl ?_
    refine m_aload_n dX4_begin_73 rfl ?_
    refine gf_X4_28 rfl dX4_begin_74 ?_
    refine pf_X4_32 rfl dX4_begin_77 ?_
    exact m_vret dX4_begin_80 rfl q
set_option maxRecDepth 100000 in
theorem e_X4_tellMove {g : gT} {h : mh_T} {P : mh_T → Prop} (l1 : Int32) (l2 : Int32) (l3 : Int32) (q : ((mI h 10 0) ≤ 0 → P h) ∧ (¬ (mI h 10 0) ≤ 0 → (vp_in ((mI h 10 0) - 1) 20) ∧ ((shp (mR h 40 ((mI h 10 0) - 1).toNatClampNeg) = (20, 5, [])) ∧ ((vp_in 2 5) ∧ ((vp_in 3 5) ∧ ((vp_in 4 5) ∧ (P (wI (wI (wI h (mR h 40 ((mI h 10 0) - 1).toNatClampNeg) (Int32.toNatClampNeg 2) l1) (mR h 40 ((mI h 10 0) - 1).toNatClampNeg) (Int32.toNatClampNeg 3) l2) (mR h 40 ((mI h 10 0) - 1).toNatClampNeg) (Int32.toNatClampNeg 4) l3)))))))) : MCv g yX4_tellMove uX4_tellMove [.ref 10, .int l1, .int l2, .int l3] h P := by
  refine m_enter (by decide) rfl (Nat.le_of_ble_eq_true rfl) (lv := [.ref 10, .int l1, .int l2, .int l3, .retAddr 0]) rfl ?_
  refine m_aload_n dX4_tellMove_0 rfl ?_
  refine gf_X4_28 rfl dX4_tellMove_1 ?_
  refine m_if_le 35 dX4_tellMove_4 (by decide) (fun c1 => ?_) (fun c1 => ?_)
  · replace q := q.1 c1
    exact m_vret dX4_tellMove_35 rfl q
  · replace q := q.2 c1
    refine m_aload_n dX4_tellMove_7 rfl ?_
    refine gf_X4_13 rfl dX4_tellMove_8 ?_
    refine m_aload_n dX4_tellMove_11 rfl ?_
    refine gf_X4_28 rfl dX4_tellMove_12 ?_
    refine m_iconst (v := 1) dX4_tellMove_15 (by decide) ?_
    refine m_isub dX4_tellMove_16 ?_
    obtain ⟨b2, q⟩ := q
    obtain ⟨b3, q⟩ := q
    refine m_aaldD dX4_tellMove_17 (show shp 40 = (25, 20, []) from rfl) b2 b3 (by decide) ?_
    refine m_astore (lv' := [.ref 10, .int l1, .int l2, .int l3, .ref (mR h 40 ((mI h 10 0) - 1).toNatClampNeg)]) dX4_tellMove_18 (Nat.le_of_ble_eq_true rfl) rfl rfl ?_
    refine m_aload dX4_tellMove_20 rfl ?_
    refine m_iconst (v := 2) dX4_tellMove_22 (by decide) ?_
    refine m_iload_n dX4_tellMove_23 rfl ?_
    obtain ⟨b4, q⟩ := q
    refine m_iastore dX4_tellMove_24 b3 (shp_lt b3 (by decide)) b4 ?_
    refine m_aload dX4_tellMove_25 rfl ?_
    refine m_iconst (v := 3) dX4_tellMove_27 (by decide) ?_
    refine m_iload_n dX4_tellMove_28 rfl ?_
    obtain ⟨b5, q⟩ := q
    refine m_iastore dX4_tellMove_29 b3 (shp_lt b3 (by decide)) b5 ?_
    refine m_aload dX4_tellMove_30 rfl ?_
    refine m_iconst (v := 4) dX4_tellMove_32 (by decide) ?_
    refine m_iload_n dX4_tellMove_33 rfl ?_
    obtain ⟨b6, q⟩ := q
    refine m_iastore dX4_tellMove_34 b3 (shp_lt b3 (by decide)) b6 ?_
    exact m_vret dX4_tellMove_35 rfl q
set_option maxRecDepth 100000 in
theorem e_X4_leaveOldest {g : gT} {h : mh_T} {P : mh_T → Prop}  (q : (shp (mR h 40 (Int32.toNatClampNeg 0)) = (20, 5, [])) ∧ ((shp (mR h 41 (Int32.toNatClampNeg 0)) = (20, 49, [])) ∧ (ME g uX4_leaveOldest 16 [.ref 10, .ref (mR h 40 (Int32.toNatClampNeg 0)), .ref (mR h 41 (Int32.toNatClampNeg 0)), .int 0] [] h (qV P)))) : MCv g yX4_leaveOldest uX4_leaveOldest [.ref 10] h P := by
  refine m_enter (by decide) rfl (Nat.le_of_ble_eq_true rfl) (lv := [.ref 10, .retAddr 0, .retAddr 0, .retAddr 0]) rfl ?_
  refine m_aload_n dX4_leaveOldest_0 rfl ?_
  refine gf_X4_13 rfl dX4_leaveOldest_1 ?_
  refine m_iconst (v := 0) dX4_leaveOldest_4 (by decide) ?_
  obtain ⟨b1, q⟩ := q
  refine m_aaldD dX4_leaveOldest_5 (show shp 40 = (25, 20, []) from rfl) (by unfold vp_in; decide) b1 (by decide) ?_
  refine m_astore_n (lv' := [.ref 10, .ref (mR h 40 (Int32.toNatClampNeg 0)), .retAddr 0, .retAddr 0]) dX4_leaveOldest_6 (Nat.le_of_ble_eq_true rfl) rfl rfl ?_
  refine m_aload_n dX4_leaveOldest_7 rfl ?_
  refine gf_X4_18 rfl dX4_leaveOldest_8 ?_
  refine m_iconst (v := 0) dX4_leaveOldest_11 (by decide) ?_
  obtain ⟨b2, q⟩ := q
  refine m_aaldD dX4_leaveOldest_12 (show shp 41 = (25, 21, []) from rfl) (by unfold vp_in; decide) b2 (by decide) ?_
  refine m_astore_n (lv' := [.ref 10, .ref (mR h 40 (Int32.toNatClampNeg 0)), .ref (mR h 41 (Int32.toNatClampNeg 0)), .retAddr 0]) dX4_leaveOldest_13 (Nat.le_of_ble_eq_true rfl) rfl rfl ?_
  refine m_iconst (v := 0) dX4_leaveOldest_14 (by decide) ?_
  refine m_istore_n (lv' := [.ref 10, .ref (mR h 40 (Int32.toNatClampNeg 0)), .ref (mR h 41 (Int32.toNatClampNeg 0)), .int 0]) dX4_leaveOldest_15 (Nat.le_of_ble_eq_true rfl) rfl rfl ?_
  exact q
set_option maxRecDepth 100000 in
theorem r_X4_leaveOldest_16 {g : gT} {h : mh_T} {P : mh_T → Prop} (l1 : Nat) (l2 : Nat) (l3 : Int32) (sl1 : shp l1 = (20, 5, [])) (sl2 : shp l2 = (20, 49, [])) (q : (19 ≤ l3 → P (wI (wR (wR h 40 (Int32.toNatClampNeg 19) l1) 41 (Int32.toNatClampNeg 19) l2) 10 0 19)) ∧ (¬ 19 ≤ l3 → (vp_in (l3 + 1) 20) ∧ ((shp (mR h 40 (l3 + 1).toNatClampNeg) = (20, 5, [])) ∧ ((vp_in l3 20) ∧ ((vp_in (l3 + 1) 21) ∧ ((shp (mR (wR h 40 l3.toNatClampNeg (mR h 40 (l3 + 1).toNatClampNeg)) 41 (l3 + 1).toNatClampNeg) = (20, 49, [])) ∧ ((vp_in l3 21) ∧ (ME g uX4_leaveOldest 16 [.ref 10, .ref l1, .ref l2, .int (l3 + 1)] [] (wR (wR h 40 l3.toNatClampNeg (mR h 40 (l3 + 1).toNatClampNeg)) 41 l3.toNatClampNeg (mR (wR h 40 l3.toNatClampNeg (mR h 40 (l3 + 1).toNatClampNeg)) 41 (l3 + 1).toNatClampNeg)) (qV P))))))))) : ME g uX4_leaveOldest 16 [.ref 10, .ref l1, .ref l2, .int l3] [] h (qV P) := by
  refine m_iload_n dX4_leaveOldest_16 rfl ?_
  refine m_bipush (v := 19) dX4_leaveOldest_17 (by decide) ?_
  refine m_icmp_ge 56 dX4_leaveOldest_19 (by decide) (fun c1 => ?_) (fun c1 => ?_)
  · replace q := q.1 c1
    refine m_aload_n dX4_leaveOldest_56 rfl ?_
    refine gf_X4_13 rfl dX4_leaveOldest_57 ?_
    refine m_bipush (v := 19) dX4_leaveOldest_60 (by decide) ?_
    refine m_aload_n dX4_leaveOldest_62 rfl ?_
    refine m_aastore dX4_leaveOldest_63 (show shp 40 = (25, 20, []) from rfl) (by decide) (by unfold vp_in; decide) sl1 (shp_lt sl1 (by decide)) ?_
    refine m_aload_n dX4_leaveOldest_64 rfl ?_
    refine gf_X4_18 rfl dX4_leaveOldest_65 ?_
    refine m_bipush (v := 19) dX4_leaveOldest_68 (by decide) ?_
    refine m_aload_n dX4_leaveOldest_70 rfl ?_
    refine m_aastore dX4_leaveOldest_71 (show shp 41 = (25, 21, []) from rfl) (by decide) (by unfold vp_in; decide) sl2 (shp_lt sl2 (by decide)) ?_
    refine m_aload_n dX4_leaveOldest_72 rfl ?_
    refine m_bipush (v := 19) dX4_leaveOldest_73 (by decide) ?_
    refine pf_X4_28 rfl dX4_leaveOldest_75 ?_
    exact m_vret dX4_leaveOldest_78 rfl q
  · replace q := q.2 c1
    refine m_aload_n dX4_leaveOldest_22 rfl ?_
    refine gf_X4_13 rfl dX4_leaveOldest_23 ?_
    refine m_iload_n dX4_leaveOldest_26 rfl ?_
    refine m_aload_n dX4_leaveOldest_27 rfl ?_
    refine gf_X4_13 rfl dX4_leaveOldest_28 ?_
    refine m_iload_n dX4_leaveOldest_31 rfl ?_
    refine m_iconst (v := 1) dX4_leaveOldest_32 (by decide) ?_
    refine m_iadd dX4_leaveOldest_33 ?_
    obtain ⟨b2, q⟩ := q
    obtain ⟨b3, q⟩ := q
    refine m_aaldD dX4_leaveOldest_34 (show shp 40 = (25, 20, []) from rfl) b2 b3 (by decide) ?_
    obtain ⟨b4, q⟩ := q
    refine m_aastore dX4_leaveOldest_35 (show shp 40 = (25, 20, []) from rfl) (by decide) b4 b3 (shp_lt b3 (by decide)) ?_
    refine m_aload_n dX4_leaveOldest_36 rfl ?_
    refine gf_X4_18 rfl dX4_leaveOldest_37 ?_
    refine m_iload_n dX4_leaveOldest_40 rfl ?_
    refine m_aload_n dX4_leaveOldest_41 rfl ?_
    refine gf_X4_18 rfl dX4_leaveOldest_42 ?_
    refine m_iload_n dX4_leaveOldest_45 rfl ?_
    refine m_iconst (v := 1) dX4_leaveOldest_46 (by decide) ?_
    refine m_iadd dX4_leaveOldest_47 ?_
    obtain ⟨b5, q⟩ := q
    obtain ⟨b6, q⟩ := q
    refine m_aaldD dX4_leaveOldest_48 (show shp 41 = (25, 21, []) from rfl) b5 b6 (by decide) ?_
    obtain ⟨b7, q⟩ := q
    refine m_aastore dX4_leaveOldest_49 (show shp 41 = (25, 21, []) from rfl) (by decide) b7 b6 (shp_lt b6 (by decide)) ?_
    refine m_iinc (v := (l3 + 1)) (lv' := [.ref 10, .ref l1, .ref l2, .int (l3 + 1)]) dX4_leaveOldest_50 (Nat.le_of_ble_eq_true rfl) rfl (congrArg (fun z => l3 + z) (by decide : Int32.ofInt 1 = 1)) rfl rfl ?_
    refine m_goto 16 dX4_leaveOldest_53 (by decide) ?_
    exact q
set_option maxRecDepth 100000 in
theorem e_X4_takeBack {g : gT} {h : mh_T} {P : Int32 → mh_T → Prop}  (q : (¬ (mI h 10 0) = 0 → (vp_in (mI h 10 0) 21) ∧ ((shp (mR h 41 (mI h 10 0).toNatClampNeg) = (20, 49, [])) ∧ (MCv g yX8_save uX8_save [.ref 3, .ref (mR h 41 (mI h 10 0).toNatClampNeg)] h (fun h4 => (vp_in (mI (wI h4 10 0 ((mI h4 10 0) - 1)) 10 0) 21) ∧ ((shp (mR (wI h4 10 0 ((mI h4 10 0) - 1)) 41 (mI (wI h4 10 0 ((mI h4 10 0) - 1)) 10 0).toNatClampNeg) = (20, 49, [])) ∧ (MCv g yX8_restore uX8_restore [.ref 3, .ref (mR (wI h4 10 0 ((mI h4 10 0) - 1)) 41 (mI (wI h4 10 0 ((mI h4 10 0) - 1)) 10 0).toNatClampNeg)] (wI h4 10 0 ((mI h4 10 0) - 1)) (fun h7 => P 1 h7))))))) ∧ ((mI h 10 0) = 0 → P 0 h)) : MCi g yX4_takeBack uX4_takeBack [.ref 10] h P := by
  refine m_enter (by decide) rfl (Nat.le_of_ble_eq_true rfl) (lv := [.ref 10]) rfl ?_
  refine m_aload_n dX4_takeBack_0 rfl ?_
  refine gf_X4_28 rfl dX4_takeBack_1 ?_
  refine m_if_ne 9 dX4_takeBack_4 (by decide) (fun c1 => ?_) (fun c1 => ?_)
  · replace q := q.1 c1
    refine m_aload_n dX4_takeBack_9 rfl ?_
    refine gf_X4_24 rfl dX4_takeBack_10 ?_
    refine m_aload_n dX4_takeBack_13 rfl ?_
    refine gf_X4_18 rfl dX4_takeBack_14 ?_
    refine m_aload_n dX4_takeBack_17 rfl ?_
    refine gf_X4_28 rfl dX4_takeBack_18 ?_
    obtain ⟨b2, q⟩ := q
    obtain ⟨b3, q⟩ := q
    refine m_aaldD dX4_takeBack_21 (show shp 41 = (25, 21, []) from rfl) b2 b3 (by decide) ?_
    refine cl_X4_41 rfl (by decide) dX4_takeBack_22 (Nat.le_of_ble_eq_true rfl) (MCv_go q (fun h4 q => ?_))
    refine m_aload_n dX4_takeBack_25 rfl ?_
    refine m_dup dX4_takeBack_26 rfl ?_
    refine gf_X4_28 rfl dX4_takeBack_27 ?_
    refine m_iconst (v := 1) dX4_takeBack_30 (by decide) ?_
    refine m_isub dX4_takeBack_31 ?_
    refine pf_X4_28 rfl dX4_takeBack_32 ?_
    refine m_aload_n dX4_takeBack_35 rfl ?_
    refine gf_X4_24 rfl dX4_takeBack_36 ?_
    refine m_aload_n dX4_takeBack_39 rfl ?_
    refine gf_X4_18 rfl dX4_takeBack_40 ?_
    refine m_aload_n dX4_takeBack_43 rfl ?_
    refine gf_X4_28 rfl dX4_takeBack_44 ?_
    obtain ⟨b5, q⟩ := q
    obtain ⟨b6, q⟩ := q
    refine m_aaldD dX4_takeBack_47 (show shp 41 = (25, 21, []) from rfl) b5 b6 (by decide) ?_
    refine cl_X4_45 rfl (by decide) dX4_takeBack_48 (Nat.le_of_ble_eq_true rfl) (MCv_go q (fun h7 q => ?_))
    refine m_iconst (v := 1) dX4_takeBack_51 (by decide) ?_
    exact m_zret dX4_takeBack_52 rfl (by decide) q
  · replace q := q.2 c1
    refine m_iconst (v := 0) dX4_takeBack_7 (by decide) ?_
    exact m_zret dX4_takeBack_8 rfl (by decide) q
set_option maxRecDepth 100000 in
theorem e_X4_makeAgain {g : gT} {h : mh_T} {P : Int32 → mh_T → Prop}  (q : ((mI h 10 0) < (mI h 10 1) → (vp_in (mI (wI h 10 0 ((mI h 10 0) + 1)) 10 0) 21) ∧ ((shp (mR (wI h 10 0 ((mI h 10 0) + 1)) 41 (mI (wI h 10 0 ((mI h 10 0) + 1)) 10 0).toNatClampNeg) = (20, 49, [])) ∧ (MCv g yX8_restore uX8_restore [.ref 3, .ref (mR (wI h 10 0 ((mI h 10 0) + 1)) 41 (mI (wI h 10 0 ((mI h 10 0) + 1)) 10 0).toNatClampNeg)] (wI h 10 0 ((mI h 10 0) + 1)) (fun h4 => P 1 h4)))) ∧ (¬ (mI h 10 0) < (mI h 10 1) → P 0 h)) : MCi g yX4_makeAgain uX4_makeAgain [.ref 10] h P := by
  refine m_enter (by decide) rfl (Nat.le_of_ble_eq_true rfl) (lv := [.ref 10]) rfl ?_
  refine m_aload_n dX4_makeAgain_0 rfl ?_
  refine gf_X4_28 rfl dX4_makeAgain_1 ?_
  refine m_aload_n dX4_makeAgain_4 rfl ?_
  refine gf_X4_32 rfl dX4_makeAgain_5 ?_
  refine m_icmp_lt 13 dX4_makeAgain_8 (by decide) (fun c1 => ?_) (fun c1 => ?_)
  · replace q := q.1 c1
    refine m_aload_n dX4_makeAgain_13 rfl ?_
    refine m_dup dX4_makeAgain_14 rfl ?_
    refine gf_X4_28 rfl dX4_makeAgain_15 ?_
    refine m_iconst (v := 1) dX4_makeAgain_18 (by decide) ?_
    refine m_iadd dX4_makeAgain_19 ?_
    refine pf_X4_28 rfl dX4_makeAgain_20 ?_
    refine m_aload_n dX4_makeAgain_23 rfl ?_
    refine gf_X4_24 rfl dX4_makeAgain_24 ?_
    refine m_aload_n dX4_makeAgain_27 rfl ?_
    refine gf_X4_18 rfl dX4_makeAgain_28 ?_
    refine m_aload_n dX4_makeAgain_31 rfl ?_
    refine gf_X4_28 rfl dX4_makeAgain_32 ?_
    obtain ⟨b2, q⟩ := q
    obtain ⟨b3, q⟩ := q
    refine m_aaldD dX4_makeAgain_35 (show shp 41 = (25, 21, []) from rfl) b2 b3 (by decide) ?_
    refine cl_X4_45 rfl (by decide) dX4_makeAgain_36 (Nat.le_of_ble_eq_true rfl) (MCv_go q (fun h4 q => ?_))
    refine m_iconst (v := 1) dX4_makeAgain_39 (by decide) ?_
    exact m_zret dX4_makeAgain_40 rfl (by decide) q
  · replace q := q.2 c1
    refine m_iconst (v := 0) dX4_makeAgain_11 (by decide) ?_
    exact m_zret dX4_makeAgain_12 rfl (by decide) q
set_option maxRecDepth 100000 in
theorem e_X4_keep {g : gT} {h : mh_T} {P : Int32 → mh_T → Prop}  (q : (vp_in (mI h 10 2) 4) ∧ (MCv g yX8_save uX8_save [.ref 3, .ref (137 + (mI h 10 2).toNatClampNeg)] h (fun h2 => P ((mI (wI h2 10 2 ((mI h2 10 2) + 1)) 10 2) - 1) (wI h2 10 2 ((mI h2 10 2) + 1))))) : MCi g yX4_keep uX4_keep [.ref 10] h P := by
  refine m_enter (by decide) rfl (Nat.le_of_ble_eq_true rfl) (lv := [.ref 10]) rfl ?_
  refine m_aload_n dX4_keep_0 rfl ?_
  refine gf_X4_24 rfl dX4_keep_1 ?_
  refine m_aload_n dX4_keep_4 rfl ?_
  refine gf_X4_21 rfl dX4_keep_5 ?_
  refine m_aload_n dX4_keep_8 rfl ?_
  refine gf_X4_35 rfl dX4_keep_9 ?_
  obtain ⟨b1, q⟩ := q
  refine m_aald42 dX4_keep_12 b1 ?_
  refine cl_X4_41 rfl (by decide) dX4_keep_13 (Nat.le_of_ble_eq_true rfl) (MCv_go q (fun h2 q => ?_))
  refine m_aload_n dX4_keep_16 rfl ?_
  refine m_dup dX4_keep_17 rfl ?_
  refine gf_X4_35 rfl dX4_keep_18 ?_
  refine m_iconst (v := 1) dX4_keep_21 (by decide) ?_
  refine m_iadd dX4_keep_22 ?_
  refine pf_X4_35 rfl dX4_keep_23 ?_
  refine m_aload_n dX4_keep_26 rfl ?_
  refine gf_X4_35 rfl dX4_keep_27 ?_
  refine m_iconst (v := 1) dX4_keep_30 (by decide) ?_
  refine m_isub dX4_keep_31 ?_
  exact m_iret dX4_keep_32 rfl q
set_option maxRecDepth 100000 in
theorem e_X4_goBack {g : gT} {h : mh_T} {P : Int32 → mh_T → Prop} (l1 : Int32) (q : (l1 < 0 → P 0 h) ∧ (¬ l1 < 0 → (l1 < (mI h 10 2) → (vp_in l1 4) ∧ (MCv g yX8_restore uX8_restore [.ref 3, .ref (137 + l1.toNatClampNeg)] h (fun h4 => P 1 (wI (wI h4 10 0 0) 10 1 0)))) ∧ (¬ l1 < (mI h 10 2) → P 0 h))) : MCi g yX4_goBack uX4_goBack [.ref 10, .int l1] h P := by
  refine m_enter (by decide) rfl (Nat.le_of_ble_eq_true rfl) (lv := [.ref 10, .int l1]) rfl ?_
  refine m_iload_n dX4_goBack_0 rfl ?_
  refine m_if_lt 12 dX4_goBack_1 (by decide) (fun c1 => ?_) (fun c1 => ?_)
  · replace q := q.1 c1
    refine m_iconst (v := 0) dX4_goBack_12 (by decide) ?_
    exact m_zret dX4_goBack_13 rfl (by decide) q
  · replace q := q.2 c1
    refine m_iload_n dX4_goBack_4 rfl ?_
    refine m_aload_n dX4_goBack_5 rfl ?_
    refine gf_X4_35 rfl dX4_goBack_6 ?_
    refine m_icmp_lt 14 dX4_goBack_9 (by decide) (fun c2 => ?_) (fun c2 => ?_)
    · replace q := q.1 c2
      refine m_aload_n dX4_goBack_14 rfl ?_
      refine gf_X4_24 rfl dX4_goBack_15 ?_
      refine m_aload_n dX4_goBack_18 rfl ?_
      refine gf_X4_21 rfl dX4_goBack_19 ?_
      refine m_iload_n dX4_goBack_22 rfl ?_
      obtain ⟨b3, q⟩ := q
      refine m_aald42 dX4_goBack_23 b3 ?_
      refine cl_X4_45 rfl (by decide) dX4_goBack_24 (Nat.le_of_ble_eq_true rfl) (MCv_go q (fun h4 q => ?_))
      refine m_aload_n dX4_goBack_27 rfl ?_
      refine m_iconst (v := 0) dX4_goBack_28 (by decide) ?_
      refine pf_X4_28 rfl dX4_goBack_29 ?_
      refine m_aload_n dX4_goBack_32 rfl ?_
      refine m_iconst (v := 0) dX4_goBack_33 (by decide) ?_
      refine pf_X4_32 rfl dX4_goBack_34 ?_
      refine m_iconst (v := 1) dX4_goBack_37 (by decide) ?_
      exact m_zret dX4_goBack_38 rfl (by decide) q
    · replace q := q.2 c2
      refine m_iconst (v := 0) dX4_goBack_12 (by decide) ?_
      exact m_zret dX4_goBack_13 rfl (by decide) q
