set_option maxRecDepth 100000 in
theorem e_J6_bitCount_0f7a4 {g : gT} {h : mh_T} {P : Int32 → mh_T → Prop} (l0 : Int32) (q : ∀ x1 : Int32, x1 = (l0 - (((l0.toUInt32 >>> (Int32.toUInt32 1 &&& Int32.toUInt32 31)).toInt32) &&& 1431655765)) → ∀ x2 : Int32, x2 = ((x1 &&& 858993459) + (((x1.toUInt32 >>> (Int32.toUInt32 2 &&& Int32.toUInt32 31)).toInt32) &&& 858993459)) → ∀ x3 : Int32, x3 = ((x2 + ((x2.toUInt32 >>> (Int32.toUInt32 4 &&& Int32.toUInt32 31)).toInt32)) &&& 252645135) → ∀ x4 : Int32, x4 = (x3 + ((x3.toUInt32 >>> (Int32.toUInt32 8 &&& Int32.toUInt32 31)).toInt32)) → ∀ x5 : Int32, x5 = (x4 + ((x4.toUInt32 >>> (Int32.toUInt32 16 &&& Int32.toUInt32 31)).toInt32)) → P (x5 &&& 63) h) : MCi g yJ6_bitCount_0f7a4 uJ6_bitCount_0f7a4 [.int l0] h P := by
  refine m_enter (by decide) rfl (Nat.le_of_ble_eq_true rfl) (lv := [.int l0]) rfl ?_
  refine m_iload_n dJ6_bitCount_0f7a4_0 rfl ?_
  refine m_iload_n dJ6_bitCount_0f7a4_1 rfl ?_
  refine m_iconst (v := 1) dJ6_bitCount_0f7a4_2 (by decide) ?_
  refine m_iushr dJ6_bitCount_0f7a4_3 ?_
  refine m_ldcw (v := 1431655765) dJ6_bitCount_0f7a4_4 tw_0 ?_
  refine m_iand dJ6_bitCount_0f7a4_7 ?_
  refine m_isub dJ6_bitCount_0f7a4_8 ?_
  obtain ⟨x1, ex1⟩ : ∃ z, z = (l0 - (((l0.toUInt32 >>> (Int32.toUInt32 1 &&& Int32.toUInt32 31)).toInt32) &&& 1431655765)) := ⟨_, rfl⟩
  rw [← ex1]
  replace q := q x1 ex1
  refine m_istore_n (lv' := [.int x1]) dJ6_bitCount_0f7a4_9 (Nat.le_of_ble_eq_true rfl) rfl rfl ?_
  refine m_iload_n dJ6_bitCount_0f7a4_10 rfl ?_
  refine m_ldcw (v := 858993459) dJ6_bitCount_0f7a4_11 tw_1 ?_
  refine m_iand dJ6_bitCount_0f7a4_14 ?_
  refine m_iload_n dJ6_bitCount_0f7a4_15 rfl ?_
  refine m_iconst (v := 2) dJ6_bitCount_0f7a4_16 (by decide) ?_
  refine m_iushr dJ6_bitCount_0f7a4_17 ?_
  refine m_ldcw (v := 858993459) dJ6_bitCount_0f7a4_18 tw_1 ?_
  refine m_iand dJ6_bitCount_0f7a4_21 ?_
  refine m_iadd dJ6_bitCount_0f7a4_22 ?_
  obtain ⟨x2, ex2⟩ : ∃ z, z = ((x1 &&& 858993459) + (((x1.toUInt32 >>> (Int32.toUInt32 2 &&& Int32.toUInt32 31)).toInt32) &&& 858993459)) := ⟨_, rfl⟩
  rw [← ex2]
  replace q := q x2 ex2
  refine m_istore_n (lv' := [.int x2]) dJ6_bitCount_0f7a4_23 (Nat.le_of_ble_eq_true rfl) rfl rfl ?_
  refine m_iload_n dJ6_bitCount_0f7a4_24 rfl ?_
  refine m_iload_n dJ6_bitCount_0f7a4_25 rfl ?_
  refine m_iconst (v := 4) dJ6_bitCount_0f7a4_26 (by decide) ?_
  refine m_iushr dJ6_bitCount_0f7a4_27 ?_
  refine m_iadd dJ6_bitCount_0f7a4_28 ?_
  refine m_ldcw (v := 252645135) dJ6_bitCount_0f7a4_29 tw_2 ?_
  refine m_iand dJ6_bitCount_0f7a4_32 ?_
  obtain ⟨x3, ex3⟩ : ∃ z, z = ((x2 + ((x2.toUInt32 >>> (Int32.toUInt32 4 &&& Int32.toUInt32 31)).toInt32)) &&& 252645135) := ⟨_, rfl⟩
  rw [← ex3]
  replace q := q x3 ex3
  refine m_istore_n (lv' := [.int x3]) dJ6_bitCount_0f7a4_33 (Nat.le_of_ble_eq_true rfl) rfl rfl ?_
  refine m_iload_n dJ6_bitCount_0f7a4_34 rfl ?_
  refine m_iload_n dJ6_bitCount_0f7a4_35 rfl ?_
  refine m_bipush (v := 8) dJ6_bitCount_0f7a4_36 (by decide) ?_
  refine m_iushr dJ6_bitCount_0f7a4_38 ?_
  refine m_iadd dJ6_bitCount_0f7a4_39 ?_
  obtain ⟨x4, ex4⟩ : ∃ z, z = (x3 + ((x3.toUInt32 >>> (Int32.toUInt32 8 &&& Int32.toUInt32 31)).toInt32)) := ⟨_, rfl⟩
  rw [← ex4]
  replace q := q x4 ex4
  refine m_istore_n (lv' := [.int x4]) dJ6_bitCount_0f7a4_40 (Nat.le_of_ble_eq_true rfl) rfl rfl ?_
  refine m_iload_n dJ6_bitCount_0f7a4_41 rfl ?_
  refine m_iload_n dJ6_bitCount_0f7a4_42 rfl ?_
  refine m_bipush (v := 16) dJ6_bitCount_0f7a4_43 (by decide) ?_
  refine m_iushr dJ6_bitCount_0f7a4_45 ?_
  refine m_iadd dJ6_bitCount_0f7a4_46 ?_
  obtain ⟨x5, ex5⟩ : ∃ z, z = (x4 + ((x4.toUInt32 >>> (Int32.toUInt32 16 &&& Int32.toUInt32 31)).toInt32)) := ⟨_, rfl⟩
  rw [← ex5]
  replace q := q x5 ex5
  refine m_istore_n (lv' := [.int x5]) dJ6_bitCount_0f7a4_47 (Nat.le_of_ble_eq_true rfl) rfl rfl ?_
  refine m_iload_n dJ6_bitCount_0f7a4_48 rfl ?_
  refine m_bipush (v := 63) dJ6_bitCount_0f7a4_49 (by decide) ?_
  refine m_iand dJ6_bitCount_0f7a4_51 ?_
  exact m_iret dJ6_bitCount_0f7a4_52 rfl q
set_option maxRecDepth 100000 in
theorem e_J0_length_8abf5 {g : gT} {h : mh_T} {P : Int32 → mh_T → Prop} (l0 : Nat) (sl0 : l0 < nJS) (q : MCi g yJ0_coder_7d493 uJ0_coder_7d493 [.ref (1000 + l0)] h (fun r2 h1 => P ((Int32.ofNat (lenJS.getD l0 0)) >>> (r2 &&& 31)) h1)) : MCi g yJ0_length_8abf5 uJ0_length_8abf5 [.ref (1000 + l0)] h P := by
  refine m_enter (by decide) rfl (Nat.le_of_ble_eq_true rfl) (lv := [.ref (1000 + l0)]) rfl ?_
  refine m_aload_n dJ0_length_8abf5_0 rfl ?_
  refine m_getValue dJ0_length_8abf5_1 sl0 tw_3 ?_
  refine m_alenS dJ0_length_8abf5_4 sl0 ?_
  refine m_aload_n dJ0_length_8abf5_5 rfl ?_
  refine cl_J0_335 rfl (by decide) sl0 dJ0_length_8abf5_6 (Nat.le_of_ble_eq_true rfl) (MCi_go q (fun r2 h1 q => ?_))
  refine m_ishr dJ0_length_8abf5_9 ?_
  exact m_iret dJ0_length_8abf5_10 rfl q
set_option maxRecDepth 100000 in
theorem e_J0_charAt_5068e {g : gT} {h : mh_T} {P : Int32 → mh_T → Prop} (l0 : Nat) (l1 : Int32) (sl0 : l0 < nJS) (q : MCi g yJ0_isLatin1_aae02 uJ0_isLatin1_aae02 [.ref (1000 + l0)] h (fun r2 h1 => (r2 = 0 → False) ∧ (¬ r2 = 0 → MCi g yJ1_charAt_3b067 uJ1_charAt_3b067 [.ref (2000 + l0), .int l1] h1 (fun r5 h4 => narrow .char (.int r5) = .int r5 ∧ P r5 h4)))) : MCi g yJ0_charAt_5068e uJ0_charAt_5068e [.ref (1000 + l0), .int l1] h P := by
  refine m_enter (by decide) rfl (Nat.le_of_ble_eq_true rfl) (lv := [.ref (1000 + l0), .int l1]) rfl ?_
  refine m_aload_n dJ0_charAt_5068e_0 rfl ?_
  refine cl_J0_492 rfl (by decide) sl0 dJ0_charAt_5068e_1 (Nat.le_of_ble_eq_true rfl) (MCi_go q (fun r2 h1 q => ?_))
  refine m_if_eq 16 dJ0_charAt_5068e_4 (by decide) (fun c3 => ?_) (fun c3 => ?_)
  · replace q := q.1 c3
    exact q.elim
  · replace q := q.2 c3
    refine m_aload_n dJ0_charAt_5068e_7 rfl ?_
    refine m_getValue dJ0_charAt_5068e_8 sl0 tw_3 ?_
    refine m_iload_n dJ0_charAt_5068e_11 rfl ?_
    refine cl_J0_495 rfl (by decide) dJ0_charAt_5068e_12 (Nat.le_of_ble_eq_true rfl) (MCi_go q (fun r5 h4 q => ?_))
    exact m_cret dJ0_charAt_5068e_15 rfl q.1 q.2
set_option maxRecDepth 100000 in
theorem e_J0_coder_7d493 {g : gT} {h : mh_T} {P : Int32 → mh_T → Prop} (l0 : Nat) (sl0 : l0 < nJS) (q : narrow .byte (.int 0) = .int 0 ∧ P 0 h) : MCi g yJ0_coder_7d493 uJ0_coder_7d493 [.ref (1000 + l0)] h P := by
  refine m_enter (by decide) rfl (Nat.le_of_ble_eq_true rfl) (lv := [.ref (1000 + l0)]) rfl ?_
  refine m_getsC dJ0_coder_7d493_0 tw_17 ?_
  refine m_if_eq 13 dJ0_coder_7d493_3 (by decide) (fun c1 => absurd c1 (by decide)) (fun c1 => ?_)
  refine m_aload_n dJ0_coder_7d493_6 rfl ?_
  refine m_getCoder dJ0_coder_7d493_7 sl0 tw_18 ?_
  refine m_goto 14 dJ0_coder_7d493_10 (by decide) ?_
  exact m_cret dJ0_coder_7d493_14 rfl q.1 q.2
set_option maxRecDepth 100000 in
theorem e_J0_isLatin1_aae02 {g : gT} {h : mh_T} {P : Int32 → mh_T → Prop} (l0 : Nat) (sl0 : l0 < nJS) (q : P 1 h) : MCi g yJ0_isLatin1_aae02 uJ0_isLatin1_aae02 [.ref (1000 + l0)] h P := by
  refine m_enter (by decide) rfl (Nat.le_of_ble_eq_true rfl) (lv := [.ref (1000 + l0)]) rfl ?_
  refine m_getsC dJ0_isLatin1_aae02_0 tw_17 ?_
  refine m_if_eq 17 dJ0_isLatin1_aae02_3 (by decide) (fun c1 => absurd c1 (by decide)) (fun c1 => ?_)
  refine m_aload_n dJ0_isLatin1_aae02_6 rfl ?_
  refine m_getCoder dJ0_isLatin1_aae02_7 sl0 tw_18 ?_
  refine m_if_ne 17 dJ0_isLatin1_aae02_10 (by decide) (fun c2 => absurd c2 (by decide)) (fun c2 => ?_)
  refine m_iconst (v := 1) dJ0_isLatin1_aae02_13 (by decide) ?_
  refine m_goto 18 dJ0_isLatin1_aae02_14 (by decide) ?_
  exact m_zret dJ0_isLatin1_aae02_18 rfl (by decide) q
set_option maxRecDepth 100000 in
theorem e_J0_checkIndex_df160 {g : gT} {h : mh_T} {P : mh_T → Prop} (l0 : Int32) (l1 : Int32) (q : MCi g yJ3_checkIndex_8e157 uJ3_checkIndex_8e157 [.int l0, .int l1, .retAddr 1] h (fun r2 h1 => P h1)) : MCv g yJ0_checkIndex_df160 uJ0_checkIndex_df160 [.int l0, .int l1] h P := by
  refine m_enter (by decide) rfl (Nat.le_of_ble_eq_true rfl) (lv := [.int l0, .int l1]) rfl ?_
  refine m_iload_n dJ0_checkIndex_df160_0 rfl ?_
  refine m_iload_n dJ0_checkIndex_df160_1 rfl ?_
  refine m_getsF dJ0_checkIndex_df160_2 tw_19 ?_
  refine cl_J0_1059 rfl (by decide) dJ0_checkIndex_df160_5 (Nat.le_of_ble_eq_true rfl) (MCi_go q (fun r2 h1 q => ?_))
  refine m_pop dJ0_checkIndex_df160_8 rfl ?_
  exact m_vret dJ0_checkIndex_df160_9 rfl q
set_option maxRecDepth 100000 in
theorem e_J1_charAt_3b067 {g : gT} {h : mh_T} {P : Int32 → mh_T → Prop} (l0 : Nat) (l1 : Int32) (sl0 : l0 < nJS) (q : MCv g yJ0_checkIndex_df160 uJ0_checkIndex_df160 [.int l1, .int (Int32.ofNat (lenJS.getD l0 0))] h (fun h1 => (vp_in l1 (lenJS.getD l0 0)) ∧ (narrow .char (.int ((Int32.toUInt32 (((bytJS.getD l0 []).getD l1.toNatClampNeg 0) &&& 255) % 65536).toInt32)) = .int ((Int32.toUInt32 (((bytJS.getD l0 []).getD l1.toNatClampNeg 0) &&& 255) % 65536).toInt32) ∧ P ((Int32.toUInt32 (((bytJS.getD l0 []).getD l1.toNatClampNeg 0) &&& 255) % 65536).toInt32) h1))) : MCi g yJ1_charAt_3b067 uJ1_charAt_3b067 [.ref (2000 + l0), .int l1] h P := by
  refine m_enter (by decide) rfl (Nat.le_of_ble_eq_true rfl) (lv := [.ref (2000 + l0), .int l1]) rfl ?_
  refine m_iload_n dJ1_charAt_3b067_0 rfl ?_
  refine m_aload_n dJ1_charAt_3b067_1 rfl ?_
  refine m_alenS dJ1_charAt_3b067_2 sl0 ?_
  refine cl_J1_9 rfl (by decide) dJ1_charAt_3b067_3 (Nat.le_of_ble_eq_true rfl) (MCv_go q (fun h1 q => ?_))
  refine m_aload_n dJ1_charAt_3b067_6 rfl ?_
  refine m_iload_n dJ1_charAt_3b067_7 rfl ?_
  obtain ⟨b2, q⟩ := q
  refine m_baldS dJ1_charAt_3b067_8 sl0 b2 ?_
  refine m_sipush (v := 255) dJ1_charAt_3b067_9 (by decide) ?_
  refine m_iand dJ1_charAt_3b067_12 ?_
  refine m_i2c dJ1_charAt_3b067_13 ?_
  exact m_cret dJ1_charAt_3b067_14 rfl q.1 q.2
set_option maxRecDepth 100000 in
theorem e_J3_checkIndex_8e157 {g : gT} {h : mh_T} {P : Int32 → mh_T → Prop} (l0 : Int32) (l1 : Int32) (q : (l0 < 0 → False) ∧ (¬ l0 < 0 → (l0 < l1 → P l0 h) ∧ (¬ l0 < l1 → False))) : MCi g yJ3_checkIndex_8e157 uJ3_checkIndex_8e157 [.int l0, .int l1, .retAddr 1] h P := by
  refine m_enter (by decide) rfl (Nat.le_of_ble_eq_true rfl) (lv := [.int l0, .int l1, .retAddr 1]) rfl ?_
  refine m_iload_n dJ3_checkIndex_8e157_0 rfl ?_
  refine m_if_lt 9 dJ3_checkIndex_8e157_1 (by decide) (fun c1 => ?_) (fun c1 => ?_)
  · replace q := q.1 c1
    exact q.elim
  · replace q := q.2 c1
    refine m_iload_n dJ3_checkIndex_8e157_4 rfl ?_
    refine m_iload_n dJ3_checkIndex_8e157_5 rfl ?_
    refine m_icmp_lt 16 dJ3_checkIndex_8e157_6 (by decide) (fun c2 => ?_) (fun c2 => ?_)
    · replace q := q.1 c2
      refine m_iload_n dJ3_checkIndex_8e157_16 rfl ?_
      exact m_iret dJ3_checkIndex_8e157_17 rfl q
    · replace q := q.2 c2
      exact q.elim
set_option maxRecDepth 100000 in
theorem e_X8_open {g : gT} {h : mh_T} {P : mh_T → Prop}  (q : MCv g yX8_clearCoins uX8_clearCoins [.ref 3] (cpI (cpI (cpI (wI (wI (wI h 3 0 (mI h 2 0)) 3 1 (mI (wI h 3 0 (mI h 2 0)) 2 1)) 3 2 (mI (wI (wI h 3 0 (mI h 2 0)) 3 1 (mI (wI h 3 0 (mI h 2 0)) 2 1)) 2 3)) 15 (Int32.toNatClampNeg 0) 24 (Int32.toNatClampNeg 0) (Int32.toNatClampNeg 8)) 16 (Int32.toNatClampNeg 0) 25 (Int32.toNatClampNeg 0) (Int32.toNatClampNeg 8)) 17 (Int32.toNatClampNeg 0) 26 (Int32.toNatClampNeg 0) (Int32.toNatClampNeg 32)) (fun h1 => P (wI h1 3 3 ((mI h1 3 3) + 1)))) : MCv g yX8_open uX8_open [.ref 3, .ref 2] h P := by
  refine m_enter (by decide) rfl (Nat.le_of_ble_eq_true rfl) (lv := [.ref 3, .ref 2]) rfl ?_
  refine m_aload_n dX8_open_0 rfl ?_
  refine m_aload_n dX8_open_1 rfl ?_
  refine gf_X8_24 rfl dX8_open_2 ?_
  refine pf_X8_30 rfl dX8_open_5 ?_
  refine m_aload_n dX8_open_8 rfl ?_
  refine m_aload_n dX8_open_9 rfl ?_
  refine gf_X8_31 rfl dX8_open_10 ?_
  refine pf_X8_34 rfl dX8_open_13 ?_
  refine m_aload_n dX8_open_16 rfl ?_
  refine m_aload_n dX8_open_17 rfl ?_
  refine gf_X8_35 rfl dX8_open_18 ?_
  refine pf_X8_38 rfl dX8_open_21 ?_
  refine m_aload_n dX8_open_24 rfl ?_
  refine gf_X8_41 rfl dX8_open_25 ?_
  refine m_iconst (v := 0) dX8_open_28 (by decide) ?_
  refine m_aload_n dX8_open_29 rfl ?_
  refine gf_X8_9 rfl dX8_open_30 ?_
  refine m_iconst (v := 0) dX8_open_33 (by decide) ?_
  refine m_bipush (v := 8) dX8_open_34 (by decide) ?_
  refine m_copy dX8_open_36 tw_40 tw_41 tw_42 tw_43 rfl rfl (by decide) (by decide) (by decide) (by decide) (by decide) (by decide) (by decide) (by decide) (Nat.le_of_ble_eq_true rfl) ?_
  refine m_aload_n dX8_open_39 rfl ?_
  refine gf_X8_48 rfl dX8_open_40 ?_
  refine m_iconst (v := 0) dX8_open_43 (by decide) ?_
  refine m_aload_n dX8_open_44 rfl ?_
  refine gf_X8_15 rfl dX8_open_45 ?_
  refine m_iconst (v := 0) dX8_open_48 (by decide) ?_
  refine m_bipush (v := 8) dX8_open_49 (by decide) ?_
  refine m_copy dX8_open_51 tw_40 tw_41 tw_42 tw_43 rfl rfl (by decide) (by decide) (by decide) (by decide) (by decide) (by decide) (by decide) (by decide) (Nat.le_of_ble_eq_true rfl) ?_
  refine m_aload_n dX8_open_54 rfl ?_
  refine gf_X8_49 rfl dX8_open_55 ?_
  refine m_iconst (v := 0) dX8_open_58 (by decide) ?_
  refine m_aload_n dX8_open_59 rfl ?_
  refine gf_X8_18 rfl dX8_open_60 ?_
  refine m_iconst (v := 0) dX8_open_63 (by decide) ?_
  refine m_bipush (v := 32) dX8_open_64 (by decide) ?_
  refine m_copy dX8_open_66 tw_40 tw_41 tw_42 tw_43 rfl rfl (by decide) (by decide) (by decide) (by decide) (by decide) (by decide) (by decide) (by decide) (Nat.le_of_ble_eq_true rfl) ?_
  refine m_aload_n dX8_open_69 rfl ?_
  refine cl_X8_50 rfl (by decide) dX8_open_70 (Nat.le_of_ble_eq_true rfl) (MCv_go q (fun h1 q => ?_))
  refine m_aload_n dX8_open_73 rfl ?_
  refine m_dup dX8_open_74 rfl ?_
  refine gf_X8_53 rfl dX8_open_75 ?_
  refine m_iconst (v := 1) dX8_open_78 (by decide) ?_
  refine m_iadd dX8_open_79 ?_
  refine pf_X8_53 rfl dX8_open_80 ?_
  exact m_vret dX8_open_83 rfl q
set_option maxRecDepth 100000 in
theorem e_X8_save {g : gT} {h : mh_T} {P : mh_T → Prop} (l1 : Nat) (sl1 : shp l1 = (20, 49, [])) (q : (vp_in 0 49) ∧ (P (cpI (cpI (cpI (wI h l1 (Int32.toNatClampNeg 0) (mI h 3 2)) 24 (Int32.toNatClampNeg 0) l1 (Int32.toNatClampNeg 1) (Int32.toNatClampNeg 8)) 25 (Int32.toNatClampNeg 0) l1 (Int32.toNatClampNeg 9) (Int32.toNatClampNeg 8)) 26 (Int32.toNatClampNeg 0) l1 (Int32.toNatClampNeg 17) (Int32.toNatClampNeg 32)))) : MCv g yX8_save uX8_save [.ref 3, .ref l1] h P := by
  refine m_enter (by decide) rfl (Nat.le_of_ble_eq_true rfl) (lv := [.ref 3, .ref l1]) rfl ?_
  refine m_aload_n dX8_save_0 rfl ?_
  refine m_iconst (v := 0) dX8_save_1 (by decide) ?_
  refine m_aload_n dX8_save_2 rfl ?_
  refine gf_X8_38 rfl dX8_save_3 ?_
  obtain ⟨b1, q⟩ := q
  refine m_iastore dX8_save_6 sl1 (shp_lt sl1 (by decide)) b1 ?_
  refine m_aload_n dX8_save_7 rfl ?_
  refine gf_X8_9 rfl dX8_save_8 ?_
  refine m_iconst (v := 0) dX8_save_11 (by decide) ?_
  refine m_aload_n dX8_save_12 rfl ?_
  refine m_iconst (v := 1) dX8_save_13 (by decide) ?_
  refine m_bipush (v := 8) dX8_save_14 (by decide) ?_
  refine m_copy dX8_save_16 tw_40 tw_41 tw_42 tw_43 rfl sl1 (by decide) (shp_lt sl1 (by decide)) (by decide) (by decide) (by decide) (by decide) (by decide) (by decide) (Nat.le_of_ble_eq_true rfl) ?_
  refine m_aload_n dX8_save_19 rfl ?_
  refine gf_X8_15 rfl dX8_save_20 ?_
  refine m_iconst (v := 0) dX8_save_23 (by decide) ?_
  refine m_aload_n dX8_save_24 rfl ?_
  refine m_bipush (v := 9) dX8_save_25 (by decide) ?_
  refine m_bipush (v := 8) dX8_save_27 (by decide) ?_
  refine m_copy dX8_save_29 tw_40 tw_41 tw_42 tw_43 rfl sl1 (by decide) (shp_lt sl1 (by decide)) (by decide) (by decide) (by decide) (by decide) (by decide) (by decide) (Nat.le_of_ble_eq_true rfl) ?_
  refine m_aload_n dX8_save_32 rfl ?_
  refine gf_X8_18 rfl dX8_save_33 ?_
  refine m_iconst (v := 0) dX8_save_36 (by decide) ?_
  refine m_aload_n dX8_save_37 rfl ?_
  refine m_bipush (v := 17) dX8_save_38 (by decide) ?_
  refine m_bipush (v := 32) dX8_save_40 (by decide) ?_
  refine m_copy dX8_save_42 tw_40 tw_41 tw_42 tw_43 rfl sl1 (by decide) (shp_lt sl1 (by decide)) (by decide) (by decide) (by decide) (by decide) (by decide) (by decide) (Nat.le_of_ble_eq_true rfl) ?_
  exact m_vret dX8_save_45 rfl q
set_option maxRecDepth 100000 in
theorem e_X8_restore {g : gT} {h : mh_T} {P : mh_T → Prop} (l1 : Nat) (sl1 : shp l1 = (20, 49, [])) (q : (vp_in 0 49) ∧ (MCv g yX8_clearCoins uX8_clearCoins [.ref 3] (cpI (cpI (cpI (wI h 3 2 (mI h l1 (Int32.toNatClampNeg 0))) l1 (Int32.toNatClampNeg 1) 24 (Int32.toNatClampNeg 0) (Int32.toNatClampNeg 8)) l1 (Int32.toNatClampNeg 9) 25 (Int32.toNatClampNeg 0) (Int32.toNatClampNeg 8)) l1 (Int32.toNatClampNeg 17) 26 (Int32.toNatClampNeg 0) (Int32.toNatClampNeg 32)) (fun h2 => P (wI h2 3 3 ((mI h2 3 3) + 1))))) : MCv g yX8_restore uX8_restore [.ref 3, .ref l1] h P := by
  refine m_enter (by decide) rfl (Nat.le_of_ble_eq_true rfl) (lv := [.ref 3, .ref l1]) rfl ?_
  refine m_aload_n dX8_restore_0 rfl ?_
  refine m_aload_n dX8_restore_1 rfl ?_
  refine m_iconst (v := 0) dX8_restore_2 (by decide) ?_
  obtain ⟨b1, q⟩ := q
  refine m_iaload dX8_restore_3 sl1 (shp_lt sl1 (by decide)) b1 ?_
  refine pf_X8_38 rfl dX8_restore_4 ?_
  refine m_aload_n dX8_restore_7 rfl ?_
  refine m_iconst (v := 1) dX8_restore_8 (by decide) ?_
  refine m_aload_n dX8_restore_9 rfl ?_
  refine gf_X8_9 rfl dX8_restore_10 ?_
  refine m_iconst (v := 0) dX8_restore_13 (by decide) ?_
  refine m_bipush (v := 8) dX8_restore_14 (by decide) ?_
  refine m_copy dX8_restore_16 tw_40 tw_41 tw_42 tw_43 sl1 rfl (shp_lt sl1 (by decide)) (by decide) (by decide) (by decide) (by decide) (by decide) (by decide) (by decide) (Nat.le_of_ble_eq_true rfl) ?_
  refine m_aload_n dX8_restore_19 rfl ?_
  refine m_bipush (v := 9) dX8_restore_20 (by decide) ?_
  refine m_aload_n dX8_restore_22 rfl ?_
  refine gf_X8_15 rfl dX8_restore_23 ?_
  refine m_iconst (v := 0) dX8_restore_26 (by decide) ?_
  refine m_bipush (v := 8) dX8_restore_27 (by decide) ?_
  refine m_copy dX8_restore_29 tw_40 tw_41 tw_42 tw_43 sl1 rfl (shp_lt sl1 (by decide)) (by decide) (by decide) (by decide) (by decide) (by decide) (by decide) (by decide) (Nat.le_of_ble_eq_true rfl) ?_
  refine m_aload_n dX8_restore_32 rfl ?_
  refine m_bipush (v := 17) dX8_restore_33 (by decide) ?_
  refine m_aload_n dX8_restore_35 rfl ?_
  refine gf_X8_18 rfl dX8_restore_36 ?_
  refine m_iconst (v := 0) dX8_restore_39 (by decide) ?_
  refine m_bipush (v := 32) dX8_restore_40 (by decide) ?_
  refine m_copy dX8_restore_42 tw_40 tw_41 tw_42 tw_43 sl1 rfl (shp_lt sl1 (by decide)) (by decide) (by decide) (by decide) (by decide) (by decide) (by decide) (by decide) (Nat.le_of_ble_eq_true rfl) ?_
  refine m_aload_n dX8_restore_45 rfl ?_
  refine cl_X8_50 rfl (by decide) dX8_restore_46 (Nat.le_of_ble_eq_true rfl) (MCv_go q (fun h2 q => ?_))
  refine m_aload_n dX8_restore_49 rfl ?_
  refine m_dup dX8_restore_50 rfl ?_
  refine gf_X8_53 rfl dX8_restore_51 ?_
  refine m_iconst (v := 1) dX8_restore_54 (by decide) ?_
  refine m_iadd dX8_restore_55 ?_
  refine pf_X8_53 rfl dX8_restore_56 ?_
  exact m_vret dX8_restore_59 rfl q
set_option maxRecDepth 100000 in
theorem e_X8_clearCoins {g : gT} {h : mh_T} {P : mh_T → Prop}  (q : ME g uX8_clearCoins 2 [.ref 3, .int 0] [] h (qV P)) : MCv g yX8_clearCoins uX8_clearCoins [.ref 3] h P := by
  refine m_enter (by decide) rfl (Nat.le_of_ble_eq_true rfl) (lv := [.ref 3, .retAddr 0]) rfl ?_
  refine m_iconst (v := 0) dX8_clearCoins_0 (by decide) ?_
  refine m_istore_n (lv' := [.ref 3, .int 0]) dX8_clearCoins_1 (Nat.le_of_ble_eq_true rfl) rfl rfl ?_
  exact q
set_option maxRecDepth 100000 in
theorem r_X8_clearCoins_2 {g : gT} {h : mh_T} {P : mh_T → Prop} (l1 : Int32) (q : (32 ≤ l1 → P h) ∧ (¬ 32 ≤ l1 → (vp_in l1 32) ∧ (ME g uX8_clearCoins 2 [.ref 3, .int (l1 + 1)] [] (wI h 27 l1.toNatClampNeg 0) (qV P)))) : ME g uX8_clearCoins 2 [.ref 3, .int l1] [] h (qV P) := by
  refine m_iload_n dX8_clearCoins_2 rfl ?_
  refine m_aload_n dX8_clearCoins_3 rfl ?_
  refine gf_X8_21 rfl dX8_clearCoins_4 ?_
  refine m_alen (v := 32) dX8_clearCoins_7 rfl (by decide) (by decide) (by decide) ?_
  refine m_icmp_ge 24 dX8_clearCoins_8 (by decide) (fun c1 => ?_) (fun c1 => ?_)
  · replace q := q.1 c1
    exact m_vret dX8_clearCoins_24 rfl q
  · replace q := q.2 c1
    refine m_aload_n dX8_clearCoins_11 rfl ?_
    refine gf_X8_21 rfl dX8_clearCoins_12 ?_
    refine m_iload_n dX8_clearCoins_15 rfl ?_
    refine m_iconst (v := 0) dX8_clearCoins_16 (by decide) ?_
    obtain ⟨b2, q⟩ := q
    refine m_iastore dX8_clearCoins_17 rfl (by decide) b2 ?_
    refine m_iinc (v := (l1 + 1)) (lv' := [.ref 3, .int (l1 + 1)]) dX8_clearCoins_18 (Nat.le_of_ble_eq_true rfl) rfl (congrArg (fun z => l1 + z) (by decide : Int32.ofInt 1 = 1)) rfl rfl ?_
    refine m_goto 2 dX8_clearCoins_21 (by decide) ?_
    exact q
set_option maxRecDepth 100000 in
theorem e_X8_hasLook {g : gT} {h : mh_T} {P : Int32 → mh_T → Prop} (l1 : Int32) (q : (l1 < 0 → P 0 h) ∧ (¬ l1 < 0 → ((mI h 3 1) ≤ l1 → P 0 h) ∧ (¬ (mI h 3 1) ≤ l1 → P 1 h))) : MCi g yX8_hasLook uX8_hasLook [.ref 3, .int l1] h P := by
  refine m_enter (by decide) rfl (Nat.le_of_ble_eq_true rfl) (lv := [.ref 3, .int l1]) rfl ?_
  refine m_iload_n dX8_hasLook_0 rfl ?_
  refine m_if_lt 16 dX8_hasLook_1 (by decide) (fun c1 => ?_) (fun c1 => ?_)
  · replace q := q.1 c1
    refine m_iconst (v := 0) dX8_hasLook_16 (by decide) ?_
    exact m_zret dX8_hasLook_17 rfl (by decide) q
  · replace q := q.2 c1
    refine m_iload_n dX8_hasLook_4 rfl ?_
    refine m_aload_n dX8_hasLook_5 rfl ?_
    refine gf_X8_34 rfl dX8_hasLook_6 ?_
    refine m_icmp_ge 16 dX8_hasLook_9 (by decide) (fun c2 => ?_) (fun c2 => ?_)
    · replace q := q.1 c2
      refine m_iconst (v := 0) dX8_hasLook_16 (by decide) ?_
      exact m_zret dX8_hasLook_17 rfl (by decide) q
    · replace q := q.2 c2
      refine m_iconst (v := 1) dX8_hasLook_12 (by decide) ?_
      refine m_goto 17 dX8_hasLook_13 (by decide) ?_
      exact m_zret dX8_hasLook_17 rfl (by decide) q
set_option maxRecDepth 100000 in
theorem e_X8_hasSet {g : gT} {h : mh_T} {P : Int32 → mh_T → Prop} (l1 : Int32) (q : (l1 < 0 → P 0 h) ∧ (¬ l1 < 0 → ((mI h 3 2) ≤ l1 → P 0 h) ∧ (¬ (mI h 3 2) ≤ l1 → P 1 h))) : MCi g yX8_hasSet uX8_hasSet [.ref 3, .int l1] h P := by
  refine m_enter (by decide) rfl (Nat.le_of_ble_eq_true rfl) (lv := [.ref 3, .int l1]) rfl ?_
  refine m_iload_n dX8_hasSet_0 rfl ?_
  refine m_if_lt 16 dX8_hasSet_1 (by decide) (fun c1 => ?_) (fun c1 => ?_)
  · replace q := q.1 c1
    refine m_iconst (v := 0) dX8_hasSet_16 (by decide) ?_
    exact m_zret dX8_hasSet_17 rfl (by decide) q
  · replace q := q.2 c1
    refine m_iload_n dX8_hasSet_4 rfl ?_
    refine m_aload_n dX8_hasSet_5 rfl ?_
    refine gf_X8_38 rfl dX8_hasSet_6 ?_
    refine m_icmp_ge 16 dX8_hasSet_9 (by decide) (fun c2 => ?_) (fun c2 => ?_)
    · replace q := q.1 c2
      refine m_iconst (v := 0) dX8_hasSet_16 (by decide) ?_
      exact m_zret dX8_hasSet_17 rfl (by decide) q
    · replace q := q.2 c2
      refine m_iconst (v := 1) dX8_hasSet_12 (by decide) ?_
      refine m_goto 17 dX8_hasSet_13 (by decide) ?_
      exact m_zret dX8_hasSet_17 rfl (by decide) q
set_option maxRecDepth 100000 in
theorem e_X8_hasPair {g : gT} {h : mh_T} {P : Int32 → mh_T → Prop} (l1 : Int32) (q : MCi g yX8_hasSet uX8_hasSet [.ref 3, .int l1] h (fun r2 h1 => (r2 = 0 → P 0 h1) ∧ (¬ r2 = 0 → (vp_in l1 8) ∧ (((mI h1 25 l1.toNatClampNeg) < 0 → P 0 h1) ∧ (¬ (mI h1 25 l1.toNatClampNeg) < 0 → P 1 h1))))) : MCi g yX8_hasPair uX8_hasPair [.ref 3, .int l1] h P := by
  refine m_enter (by decide) rfl (Nat.le_of_ble_eq_true rfl) (lv := [.ref 3, .int l1]) rfl ?_
  refine m_aload_n dX8_hasPair_0 rfl ?_
  refine m_iload_n dX8_hasPair_1 rfl ?_
  refine cl_X8_56 rfl (by decide) dX8_hasPair_2 (Nat.le_of_ble_eq_true rfl) (MCi_go q (fun r2 h1 q => ?_))
  refine m_if_eq 21 dX8_hasPair_5 (by decide) (fun c3 => ?_) (fun c3 => ?_)
  · replace q := q.1 c3
    refine m_iconst (v := 0) dX8_hasPair_21 (by decide) ?_
    exact m_zret dX8_hasPair_22 rfl (by decide) q
  · replace q := q.2 c3
    refine m_aload_n dX8_hasPair_8 rfl ?_
    refine gf_X8_15 rfl dX8_hasPair_9 ?_
    refine m_iload_n dX8_hasPair_12 rfl ?_
    obtain ⟨b4, q⟩ := q
    refine m_iaload dX8_hasPair_13 rfl (by decide) b4 ?_
    refine m_if_lt 21 dX8_hasPair_14 (by decide) (fun c5 => ?_) (fun c5 => ?_)
    · replace q := q.1 c5
      refine m_iconst (v := 0) dX8_hasPair_21 (by decide) ?_
      exact m_zret dX8_hasPair_22 rfl (by decide) q
    · replace q := q.2 c5
      refine m_iconst (v := 1) dX8_hasPair_17 (by decide) ?_
      refine m_goto 22 dX8_hasPair_18 (by decide) ?_
      exact m_zret dX8_hasPair_22 rfl (by decide) q
set_option maxRecDepth 100000 in
theorem e_X8_hasOutcome {g : gT} {h : mh_T} {P : Int32 → mh_T → Prop} (l1 : Int32) (l2 : Int32) (q : MCi g yX8_hasSet uX8_hasSet [.ref 3, .int l1] h (fun r2 h1 => (r2 = 0 → P 0 h1) ∧ (¬ r2 = 0 → (l2 < 0 → P 0 h1) ∧ (¬ l2 < 0 → MCi g yX8_outcomes uX8_outcomes [.ref 3, .int l1] h1 (fun r6 h5 => (r6 ≤ l2 → P 0 h5) ∧ (¬ r6 ≤ l2 → P 1 h5)))))) : MCi g yX8_hasOutcome uX8_hasOutcome [.ref 3, .int l1, .int l2] h P := by
  refine m_enter (by decide) rfl (Nat.le_of_ble_eq_true rfl) (lv := [.ref 3, .int l1, .int l2]) rfl ?_
  refine m_aload_n dX8_hasOutcome_0 rfl ?_
  refine m_iload_n dX8_hasOutcome_1 rfl ?_
  refine cl_X8_56 rfl (by decide) dX8_hasOutcome_2 (Nat.le_of_ble_eq_true rfl) (MCi_go q (fun r2 h1 q => ?_))
  refine m_if_eq 25 dX8_hasOutcome_5 (by decide) (fun c3 => ?_) (fun c3 => ?_)
  · replace q := q.1 c3
    refine m_iconst (v := 0) dX8_hasOutcome_25 (by decide) ?_
    exact m_zret dX8_hasOutcome_26 rfl (by decide) q
  · replace q := q.2 c3
    refine m_iload_n dX8_hasOutcome_8 rfl ?_
    refine m_if_lt 25 dX8_hasOutcome_9 (by decide) (fun c4 => ?_) (fun c4 => ?_)
    · replace q := q.1 c4
      refine m_iconst (v := 0) dX8_hasOutcome_25 (by decide) ?_
      exact m_zret dX8_hasOutcome_26 rfl (by decide) q
    · replace q := q.2 c4
      refine m_iload_n dX8_hasOutcome_12 rfl ?_
      refine m_aload_n dX8_hasOutcome_13 rfl ?_
      refine m_iload_n dX8_hasOutcome_14 rfl ?_
      refine cl_X8_60 rfl (by decide) dX8_hasOutcome_15 (Nat.le_of_ble_eq_true rfl) (MCi_go q (fun r6 h5 q => ?_))
      refine m_icmp_ge 25 dX8_hasOutcome_18 (by decide) (fun c7 => ?_) (fun c7 => ?_)
      · replace q := q.1 c7
        refine m_iconst (v := 0) dX8_hasOutcome_25 (by decide) ?_
        exact m_zret dX8_hasOutcome_26 rfl (by decide) q
      · replace q := q.2 c7
        refine m_iconst (v := 1) dX8_hasOutcome_21 (by decide) ?_
        refine m_goto 26 dX8_hasOutcome_22 (by decide) ?_
        exact m_zret dX8_hasOutcome_26 rfl (by decide) q
set_option maxRecDepth 100000 in
theorem e_X8_outcomes {g : gT} {h : mh_T} {P : Int32 → mh_T → Prop} (l1 : Int32) (q : (vp_in l1 8) ∧ ((0 ≤ (mI h 25 l1.toNatClampNeg) → P 4 h) ∧ (¬ 0 ≤ (mI h 25 l1.toNatClampNeg) → P 2 h))) : MCi g yX8_outcomes uX8_outcomes [.ref 3, .int l1] h P := by
  refine m_enter (by decide) rfl (Nat.le_of_ble_eq_true rfl) (lv := [.ref 3, .int l1]) rfl ?_
  refine m_aload_n dX8_outcomes_0 rfl ?_
  refine gf_X8_15 rfl dX8_outcomes_1 ?_
  refine m_iload_n dX8_outcomes_4 rfl ?_
  obtain ⟨b1, q⟩ := q
  refine m_iaload dX8_outcomes_5 rfl (by decide) b1 ?_
  refine m_if_ge 13 dX8_outcomes_6 (by decide) (fun c2 => ?_) (fun c2 => ?_)
  · replace q := q.1 c2
    refine m_iconst (v := 4) dX8_outcomes_13 (by decide) ?_
    exact m_iret dX8_outcomes_14 rfl q
  · replace q := q.2 c2
    refine m_iconst (v := 2) dX8_outcomes_9 (by decide) ?_
    refine m_goto 14 dX8_outcomes_10 (by decide) ?_
    exact m_iret dX8_outcomes_14 rfl q
set_option maxRecDepth 100000 in
theorem e_X8_hiddenAnswers {g : gT} {h : mh_T} {P : Int32 → mh_T → Prop}  (q : P (1 <<< ((mI h 3 1) &&& 31)) h) : MCi g yX8_hiddenAnswers uX8_hiddenAnswers [.ref 3] h P := by
  refine m_enter (by decide) rfl (Nat.le_of_ble_eq_true rfl) (lv := [.ref 3]) rfl ?_
  refine m_iconst (v := 1) dX8_hiddenAnswers_0 (by decide) ?_
  refine m_aload_n dX8_hiddenAnswers_1 rfl ?_
  refine gf_X8_34 rfl dX8_hiddenAnswers_2 ?_
  refine m_ishl dX8_hiddenAnswers_5 ?_
  exact m_iret dX8_hiddenAnswers_6 rfl q
set_option maxRecDepth 100000 in
theorem e_X8_cellOf {g : gT} {h : mh_T} {P : Int32 → mh_T → Prop} (l1 : Int32) (l2 : Int32) (q : (vp_in l1 8) ∧ (∀ x2 : Int32, x2 = ((l2 >>> ((mI h 24 l1.toNatClampNeg) &&& 31)) &&& 1) → (vp_in l1 8) ∧ ((0 ≤ (mI h 25 l1.toNatClampNeg) → (vp_in l1 8) ∧ (P (((4 * l1) + (2 * x2)) + ((l2 >>> ((mI h 25 l1.toNatClampNeg) &&& 31)) &&& 1)) h)) ∧ (¬ 0 ≤ (mI h 25 l1.toNatClampNeg) → P ((4 * l1) + x2) h)))) : MCi g yX8_cellOf uX8_cellOf [.ref 3, .int l1, .int l2] h P := by
  refine m_enter (by decide) rfl (Nat.le_of_ble_eq_true rfl) (lv := [.ref 3, .int l1, .int l2, .retAddr 0]) rfl ?_
  refine m_iload_n dX8_cellOf_0 rfl ?_
  refine m_aload_n dX8_cellOf_1 rfl ?_
  refine gf_X8_9 rfl dX8_cellOf_2 ?_
  refine m_iload_n dX8_cellOf_5 rfl ?_
  obtain ⟨b1, q⟩ := q
  refine m_iaload dX8_cellOf_6 rfl (by decide) b1 ?_
  refine m_ishr dX8_cellOf_7 ?_
  refine m_iconst (v := 1) dX8_cellOf_8 (by decide) ?_
  refine m_iand dX8_cellOf_9 ?_
  obtain ⟨x2, ex2⟩ : ∃ z, z = ((l2 >>> ((mI h 24 l1.toNatClampNeg) &&& 31)) &&& 1) := ⟨_, rfl⟩
  rw [← ex2]
  replace q := q x2 ex2
  refine m_istore_n (lv' := [.ref 3, .int l1, .int l2, .int x2]) dX8_cellOf_10 (Nat.le_of_ble_eq_true rfl) rfl rfl ?_
  refine m_aload_n dX8_cellOf_11 rfl ?_
  refine gf_X8_15 rfl dX8_cellOf_12 ?_
  refine m_iload_n dX8_cellOf_15 rfl ?_
  obtain ⟨b3, q⟩ := q
  refine m_iaload dX8_cellOf_16 rfl (by decide) b3 ?_
  refine m_if_ge 26 dX8_cellOf_17 (by decide) (fun c4 => ?_) (fun c4 => ?_)
  · replace q := q.1 c4
    refine m_iconst (v := 4) dX8_cellOf_26 (by decide) ?_
    refine m_iload_n dX8_cellOf_27 rfl ?_
    refine m_imul dX8_cellOf_28 ?_
    refine m_iconst (v := 2) dX8_cellOf_29 (by decide) ?_
    refine m_iload_n dX8_cellOf_30 rfl ?_
    refine m_imul dX8_cellOf_31 ?_
    refine m_iadd dX8_cellOf_32 ?_
    refine m_iload_n dX8_cellOf_33 rfl ?_
    refine m_aload_n dX8_cellOf_34 rfl ?_
    refine gf_X8_15 rfl dX8_cellOf_35 ?_
    refine m_iload_n dX8_cellOf_38 rfl ?_
    obtain ⟨b5, q⟩ := q
    refine m_iaload dX8_cellOf_39 rfl (by decide) b5 ?_
    refine m_ishr dX8_cellOf_40 ?_
    refine m_iconst (v := 1) dX8_cellOf_41 (by decide) ?_
    refine m_iand dX8_cellOf_42 ?_
    refine m_iadd dX8_cellOf_43 ?_
    exact m_iret dX8_cellOf_44 rfl q
  · replace q := q.2 c4
    refine m_iconst (v := 4) dX8_cellOf_20 (by decide) ?_
    refine m_iload_n dX8_cellOf_21 rfl ?_
    refine m_imul dX8_cellOf_22 ?_
    refine m_iload_n dX8_cellOf_23 rfl ?_
    refine m_iadd dX8_cellOf_24 ?_
    exact m_iret dX8_cellOf_25 rfl q
set_option maxRecDepth 100000 in
theorem e_X8_missed {g : gT} {h : mh_T} {P : Int32 → mh_T → Prop} (l1 : Int32) (q : ME g uX8_missed 4 [.ref 3, .int l1, .int 0, .int 0] [] h (qI P)) : MCi g yX8_missed uX8_missed [.ref 3, .int l1] h P := by
  refine m_enter (by decide) rfl (Nat.le_of_ble_eq_true rfl) (lv := [.ref 3, .int l1, .retAddr 0, .retAddr 0]) rfl ?_
  refine m_iconst (v := 0) dX8_missed_0 (by decide) ?_
  refine m_istore_n (lv' := [.ref 3, .int l1, .int 0, .retAddr 0]) dX8_missed_1 (Nat.le_of_ble_eq_true rfl) rfl rfl ?_
  refine m_iconst (v := 0) dX8_missed_2 (by decide) ?_
  refine m_istore_n (lv' := [.ref 3, .int l1, .int 0, .int 0]) dX8_missed_3 (Nat.le_of_ble_eq_true rfl) rfl rfl ?_
  exact q
set_option maxRecDepth 100000 in
theorem r_X8_missed_4 {g : gT} {h : mh_T} {P : Int32 → mh_T → Prop} (l1 : Int32) (l2 : Int32) (l3 : Int32) (q : ((mI h 3 2) ≤ l3 → P l2 h) ∧ (¬ (mI h 3 2) ≤ l3 → MCi g yX8_cellOf uX8_cellOf [.ref 3, .int l3, .int l1] h (fun r3 h2 => (vp_in r3 32) ∧ ((¬ (mI h2 26 r3.toNatClampNeg) = 0 → ME g uX8_missed 4 [.ref 3, .int l1, .int l2, .int (l3 + 1)] [] h2 (qI P)) ∧ ((mI h2 26 r3.toNatClampNeg) = 0 → ∀ x6 : Int32, x6 = (l2 ||| (1 <<< (l3 &&& 31))) → ME g uX8_missed 4 [.ref 3, .int l1, .int x6, .int (l3 + 1)] [] h2 (qI P)))))) : ME g uX8_missed 4 [.ref 3, .int l1, .int l2, .int l3] [] h (qI P) := by
  refine m_iload_n dX8_missed_4 rfl ?_
  refine m_aload_n dX8_missed_5 rfl ?_
  refine gf_X8_38 rfl dX8_missed_6 ?_
  refine m_icmp_ge 38 dX8_missed_9 (by decide) (fun c1 => ?_) (fun c1 => ?_)
  · replace q := q.1 c1
    refine m_iload_n dX8_missed_38 rfl ?_
    exact m_iret dX8_missed_39 rfl q
  · replace q := q.2 c1
    refine m_aload_n dX8_missed_12 rfl ?_
    refine gf_X8_18 rfl dX8_missed_13 ?_
    refine m_aload_n dX8_missed_16 rfl ?_
    refine m_iload_n dX8_missed_17 rfl ?_
    refine m_iload_n dX8_missed_18 rfl ?_
    refine cl_X8_64 rfl (by decide) dX8_missed_19 (Nat.le_of_ble_eq_true rfl) (MCi_go q (fun r3 h2 q => ?_))
    obtain ⟨b4, q⟩ := q
    refine m_iaload dX8_missed_22 rfl (by decide) b4 ?_
    refine m_if_ne 32 dX8_missed_23 (by decide) (fun c5 => ?_) (fun c5 => ?_)
    · replace q := q.1 c5
      refine m_iinc (v := (l3 + 1)) (lv' := [.ref 3, .int l1, .int l2, .int (l3 + 1)]) dX8_missed_32 (Nat.le_of_ble_eq_true rfl) rfl (congrArg (fun z => l3 + z) (by decide : Int32.ofInt 1 = 1)) rfl rfl ?_
      refine m_goto 4 dX8_missed_35 (by decide) ?_
      exact q
    · replace q := q.2 c5
      refine m_iload_n dX8_missed_26 rfl ?_
      refine m_iconst (v := 1) dX8_missed_27 (by decide) ?_
      refine m_iload_n dX8_missed_28 rfl ?_
      refine m_ishl dX8_missed_29 ?_
      refine m_ior dX8_missed_30 ?_
      obtain ⟨x6, ex6⟩ : ∃ z, z = (l2 ||| (1 <<< (l3 &&& 31))) := ⟨_, rfl⟩
      rw [← ex6]
      replace q := q x6 ex6
      refine m_istore_n (lv' := [.ref 3, .int l1, .int x6, .int l3]) dX8_missed_31 (Nat.le_of_ble_eq_true rfl) rfl rfl ?_
      refine m_iinc (v := (l3 + 1)) (lv' := [.ref 3, .int l1, .int x6, .int (l3 + 1)]) dX8_missed_32 (Nat.le_of_ble_eq_true rfl) rfl (congrArg (fun z => l3 + z) (by decide : Int32.ofInt 1 = 1)) rfl rfl ?_
      refine m_goto 4 dX8_missed_35 (by decide) ?_
      exact q
set_option maxRecDepth 100000 in
theorem e_X8_fitting {g : gT} {h : mh_T} {P : Int32 → mh_T → Prop}  (q : ME g uX8_fitting 4 [.ref 3, .int 0, .int 0] [] h (qI P)) : MCi g yX8_fitting uX8_fitting [.ref 3] h P := by
  refine m_enter (by decide) rfl (Nat.le_of_ble_eq_true rfl) (lv := [.ref 3, .retAddr 0, .retAddr 0]) rfl ?_
  refine m_iconst (v := 0) dX8_fitting_0 (by decide) ?_
  refine m_istore_n (lv' := [.ref 3, .int 0, .retAddr 0]) dX8_fitting_1 (Nat.le_of_ble_eq_true rfl) rfl rfl ?_
  refine m_iconst (v := 0) dX8_fitting_2 (by decide) ?_
  refine m_istore_n (lv' := [.ref 3, .int 0, .int 0]) dX8_fitting_3 (Nat.le_of_ble_eq_true rfl) rfl rfl ?_
  exact q
set_option maxRecDepth 100000 in
theorem r_X8_fitting_4 {g : gT} {h : mh_T} {P : Int32 → mh_T → Prop} (l1 : Int32) (l2 : Int32) (q : MCi g yX8_hiddenAnswers uX8_hiddenAnswers [.ref 3] h (fun r2 h1 => (r2 ≤ l2 → P l1 h1) ∧ (¬ r2 ≤ l2 → MCi g yX8_missed uX8_missed [.ref 3, .int l2] h1 (fun r5 h4 => (¬ r5 = 0 → ME g uX8_fitting 4 [.ref 3, .int l1, .int (l2 + 1)] [] h4 (qI P)) ∧ (r5 = 0 → ME g uX8_fitting 4 [.ref 3, .int (l1 + 1), .int (l2 + 1)] [] h4 (qI P)))))) : ME g uX8_fitting 4 [.ref 3, .int l1, .int l2] [] h (qI P) := by
  refine m_iload_n dX8_fitting_4 rfl ?_
  refine m_aload_n dX8_fitting_5 rfl ?_
  refine cl_X8_68 rfl (by decide) dX8_fitting_6 (Nat.le_of_ble_eq_true rfl) (MCi_go q (fun r2 h1 q => ?_))
  refine m_icmp_ge 29 dX8_fitting_9 (by decide) (fun c3 => ?_) (fun c3 => ?_)
  · replace q := q.1 c3
    refine m_iload_n dX8_fitting_29 rfl ?_
    exact m_iret dX8_fitting_30 rfl q
  · replace q := q.2 c3
    refine m_aload_n dX8_fitting_12 rfl ?_
    refine m_iload_n dX8_fitting_13 rfl ?_
    refine cl_X8_72 rfl (by decide) dX8_fitting_14 (Nat.le_of_ble_eq_true rfl) (MCi_go q (fun r5 h4 q => ?_))
    refine m_if_ne 23 dX8_fitting_17 (by decide) (fun c6 => ?_) (fun c6 => ?_)
    · replace q := q.1 c6
      refine m_iinc (v := (l2 + 1)) (lv' := [.ref 3, .int l1, .int (l2 + 1)]) dX8_fitting_23 (Nat.le_of_ble_eq_true rfl) rfl (congrArg (fun z => l2 + z) (by decide : Int32.ofInt 1 = 1)) rfl rfl ?_
      refine m_goto 4 dX8_fitting_26 (by decide) ?_
      exact q
    · replace q := q.2 c6
      refine m_iinc (v := (l1 + 1)) (lv' := [.ref 3, .int (l1 + 1), .int l2]) dX8_fitting_20 (Nat.le_of_ble_eq_true rfl) rfl (congrArg (fun z => l1 + z) (by decide : Int32.ofInt 1 = 1)) rfl rfl ?_
      refine m_iinc (v := (l2 + 1)) (lv' := [.ref 3, .int (l1 + 1), .int (l2 + 1)]) dX8_fitting_23 (Nat.le_of_ble_eq_true rfl) rfl (congrArg (fun z => l2 + z) (by decide : Int32.ofInt 1 = 1)) rfl rfl ?_
      refine m_goto 4 dX8_fitting_26 (by decide) ?_
      exact q
set_option maxRecDepth 100000 in
theorem e_X8_fittingAt {g : gT} {h : mh_T} {P : Int32 → mh_T → Prop} (l1 : Int32) (q : ME g uX8_fittingAt 4 [.ref 3, .int l1, .int 0, .int 0] [] h (qI P)) : MCi g yX8_fittingAt uX8_fittingAt [.ref 3, .int l1] h P := by
  refine m_enter (by decide) rfl (Nat.le_of_ble_eq_true rfl) (lv := [.ref 3, .int l1, .retAddr 0, .retAddr 0]) rfl ?_
  refine m_iconst (v := 0) dX8_fittingAt_0 (by decide) ?_
  refine m_istore_n (lv' := [.ref 3, .int l1, .int 0, .retAddr 0]) dX8_fittingAt_1 (Nat.le_of_ble_eq_true rfl) rfl rfl ?_
  refine m_iconst (v := 0) dX8_fittingAt_2 (by decide) ?_
  refine m_istore_n (lv' := [.ref 3, .int l1, .int 0, .int 0]) dX8_fittingAt_3 (Nat.le_of_ble_eq_true rfl) rfl rfl ?_
  exact q
set_option maxRecDepth 100000 in
theorem r_X8_fittingAt_4 {g : gT} {h : mh_T} {P : Int32 → mh_T → Prop} (l1 : Int32) (l2 : Int32) (l3 : Int32) (q : MCi g yX8_hiddenAnswers uX8_hiddenAnswers [.ref 3] h (fun r2 h1 => (r2 ≤ l3 → P (-1) h1) ∧ (¬ r2 ≤ l3 → MCi g yX8_missed uX8_missed [.ref 3, .int l3] h1 (fun r5 h4 => (¬ r5 = 0 → ME g uX8_fittingAt 4 [.ref 3, .int l1, .int l2, .int (l3 + 1)] [] h4 (qI P)) ∧ (r5 = 0 → (¬ l2 = l1 → ME g uX8_fittingAt 4 [.ref 3, .int l1, .int (l2 + 1), .int (l3 + 1)] [] h4 (qI P)) ∧ (l2 = l1 → P l3 h4)))))) : ME g uX8_fittingAt 4 [.ref 3, .int l1, .int l2, .int l3] [] h (qI P) := by
  refine m_iload_n dX8_fittingAt_4 rfl ?_
  refine m_aload_n dX8_fittingAt_5 rfl ?_
  refine cl_X8_68 rfl (by decide) dX8_fittingAt_6 (Nat.le_of_ble_eq_true rfl) (MCi_go q (fun r2 h1 q => ?_))
  refine m_icmp_ge 36 dX8_fittingAt_9 (by decide) (fun c3 => ?_) (fun c3 => ?_)
  · replace q := q.1 c3
    refine m_iconst (v := (-1)) dX8_fittingAt_36 (by decide) ?_
    exact m_iret dX8_fittingAt_37 rfl q
  · replace q := q.2 c3
    refine m_aload_n dX8_fittingAt_12 rfl ?_
    refine m_iload_n dX8_fittingAt_13 rfl ?_
    refine cl_X8_72 rfl (by decide) dX8_fittingAt_14 (Nat.le_of_ble_eq_true rfl) (MCi_go q (fun r5 h4 q => ?_))
    refine m_if_ne 30 dX8_fittingAt_17 (by decide) (fun c6 => ?_) (fun c6 => ?_)
    · replace q := q.1 c6
      refine m_iinc (v := (l3 + 1)) (lv' := [.ref 3, .int l1, .int l2, .int (l3 + 1)]) dX8_fittingAt_30 (Nat.le_of_ble_eq_true rfl) rfl (congrArg (fun z => l3 + z) (by decide : Int32.ofInt 1 = 1)) rfl rfl ?_
      refine m_goto 4 dX8_fittingAt_33 (by decide) ?_
      exact q
    · replace q := q.2 c6
      refine m_iload_n dX8_fittingAt_20 rfl ?_
      refine m_iload_n dX8_fittingAt_21 rfl ?_
      refine m_icmp_ne 27 dX8_fittingAt_22 (by decide) (fun c7 => ?_) (fun c7 => ?_)
      · replace q := q.1 c7
        refine m_iinc (v := (l2 + 1)) (lv' := [.ref 3, .int l1, .int (l2 + 1), .int l3]) dX8_fittingAt_27 (Nat.le_of_ble_eq_true rfl) rfl (congrArg (fun z => l2 + z) (by decide : Int32.ofInt 1 = 1)) rfl rfl ?_
        refine m_iinc (v := (l3 + 1)) (lv' := [.ref 3, .int l1, .int (l2 + 1), .int (l3 + 1)]) dX8_fittingAt_30 (Nat.le_of_ble_eq_true rfl) rfl (congrArg (fun z => l3 + z) (by decide : Int32.ofInt 1 = 1)) rfl rfl ?_
        refine m_goto 4 dX8_fittingAt_33 (by decide) ?_
        exact q
      · replace q := q.2 c7
        refine m_iload_n dX8_fittingAt_25 rfl ?_
        exact m_iret dX8_fittingAt_26 rfl q
set_option maxRecDepth 100000 in
theorem e_X8_possible {g : gT} {h : mh_T} {P : Int32 → mh_T → Prop}  (q : ME g uX8_possible 4 [.ref 3, .int 0, .int 0] [] h (qI P)) : MCi g yX8_possible uX8_possible [.ref 3] h P := by
  refine m_enter (by decide) rfl (Nat.le_of_ble_eq_true rfl) (lv := [.ref 3, .retAddr 0, .retAddr 0]) rfl ?_
  refine m_iconst (v := 0) dX8_possible_0 (by decide) ?_
  refine m_istore_n (lv' := [.ref 3, .int 0, .retAddr 0]) dX8_possible_1 (Nat.le_of_ble_eq_true rfl) rfl rfl ?_
  refine m_iconst (v := 0) dX8_possible_2 (by decide) ?_
  refine m_istore_n (lv' := [.ref 3, .int 0, .int 0]) dX8_possible_3 (Nat.le_of_ble_eq_true rfl) rfl rfl ?_
  exact q
set_option maxRecDepth 100000 in
theorem r_X8_possible_4 {g : gT} {h : mh_T} {P : Int32 → mh_T → Prop} (l1 : Int32) (l2 : Int32) (q : ((4 * (mI h 3 2)) ≤ l2 → P l1 h) ∧ (¬ (4 * (mI h 3 2)) ≤ l2 → (vp_in l2 32) ∧ (((mI h 26 l2.toNatClampNeg) ≤ 0 → ME g uX8_possible 4 [.ref 3, .int l1, .int (l2 + 1)] [] h (qI P)) ∧ (¬ (mI h 26 l2.toNatClampNeg) ≤ 0 → ∀ x4 : Int32, x4 = (l1 ||| (1 <<< (l2 &&& 31))) → ME g uX8_possible 4 [.ref 3, .int x4, .int (l2 + 1)] [] h (qI P))))) : ME g uX8_possible 4 [.ref 3, .int l1, .int l2] [] h (qI P) := by
  refine m_iload_n dX8_possible_4 rfl ?_
  refine m_iconst (v := 4) dX8_possible_5 (by decide) ?_
  refine m_aload_n dX8_possible_6 rfl ?_
  refine gf_X8_38 rfl dX8_possible_7 ?_
  refine m_imul dX8_possible_10 ?_
  refine m_icmp_ge 35 dX8_possible_11 (by decide) (fun c1 => ?_) (fun c1 => ?_)
  · replace q := q.1 c1
    refine m_iload_n dX8_possible_35 rfl ?_
    exact m_iret dX8_possible_36 rfl q
  · replace q := q.2 c1
    refine m_aload_n dX8_possible_14 rfl ?_
    refine gf_X8_18 rfl dX8_possible_15 ?_
    refine m_iload_n dX8_possible_18 rfl ?_
    obtain ⟨b2, q⟩ := q
    refine m_iaload dX8_possible_19 rfl (by decide) b2 ?_
    refine m_if_le 29 dX8_possible_20 (by decide) (fun c3 => ?_) (fun c3 => ?_)
    · replace q := q.1 c3
      refine m_iinc (v := (l2 + 1)) (lv' := [.ref 3, .int l1, .int (l2 + 1)]) dX8_possible_29 (Nat.le_of_ble_eq_true rfl) rfl (congrArg (fun z => l2 + z) (by decide : Int32.ofInt 1 = 1)) rfl rfl ?_
      refine m_goto 4 dX8_possible_32 (by decide) ?_
      exact q
    · replace q := q.2 c3
      refine m_iload_n dX8_possible_23 rfl ?_
      refine m_iconst (v := 1) dX8_possible_24 (by decide) ?_
      refine m_iload_n dX8_possible_25 rfl ?_
      refine m_ishl dX8_possible_26 ?_
      refine m_ior dX8_possible_27 ?_
      obtain ⟨x4, ex4⟩ : ∃ z, z = (l1 ||| (1 <<< (l2 &&& 31))) := ⟨_, rfl⟩
      rw [← ex4]
      replace q := q x4 ex4
      refine m_istore_n (lv' := [.ref 3, .int x4, .int l2]) dX8_possible_28 (Nat.le_of_ble_eq_true rfl) rfl rfl ?_
      refine m_iinc (v := (l2 + 1)) (lv' := [.ref 3, .int x4, .int (l2 + 1)]) dX8_possible_29 (Nat.le_of_ble_eq_true rfl) rfl (congrArg (fun z => l2 + z) (by decide : Int32.ofInt 1 = 1)) rfl rfl ?_
      refine m_goto 4 dX8_possible_32 (by decide) ?_
      exact q
set_option maxRecDepth 100000 in
theorem e_X8_extending {g : gT} {h : mh_T} {P : Int32 → mh_T → Prop}  (q : ME g uX8_extending 4 [.ref 3, .int 0, .int 0, .retAddr 0, .retAddr 0] [] h (qI P)) : MCi g yX8_extending uX8_extending [.ref 3] h P := by
  refine m_enter (by decide) rfl (Nat.le_of_ble_eq_true rfl) (lv := [.ref 3, .retAddr 0, .retAddr 0, .retAddr 0, .retAddr 0]) rfl ?_
  refine m_iconst (v := 0) dX8_extending_0 (by decide) ?_
  refine m_istore_n (lv' := [.ref 3, .int 0, .retAddr 0, .retAddr 0, .retAddr 0]) dX8_extending_1 (Nat.le_of_ble_eq_true rfl) rfl rfl ?_
  refine m_iconst (v := 0) dX8_extending_2 (by decide) ?_
  refine m_istore_n (lv' := [.ref 3, .int 0, .int 0, .retAddr 0, .retAddr 0]) dX8_extending_3 (Nat.le_of_ble_eq_true rfl) rfl rfl ?_
  exact q
set_option maxRecDepth 100000 in
theorem r_X8_extending_4 {g : gT} {h : mh_T} {P : Int32 → mh_T → Prop} (l1 : Int32) (l2 : Int32) (q : MCi g yX8_hiddenAnswers uX8_hiddenAnswers [.ref 3] h (fun r2 h1 => (r2 ≤ l2 → P l1 h1) ∧ (¬ r2 ≤ l2 → MCi g yX8_missed uX8_missed [.ref 3, .int l2] h1 (fun r5 h4 => ME g uX8_extending 21 [.ref 3, .int l1, .int l2, .int r5, .int 0] [] h4 (qI P))))) : ME g uX8_extending 4 [.ref 3, .int l1, .int l2, .retAddr 0, .retAddr 0] [] h (qI P) := by
  refine m_iload_n dX8_extending_4 rfl ?_
  refine m_aload_n dX8_extending_5 rfl ?_
  refine cl_X8_68 rfl (by decide) dX8_extending_6 (Nat.le_of_ble_eq_true rfl) (MCi_go q (fun r2 h1 q => ?_))
  refine m_icmp_ge 65 dX8_extending_9 (by decide) (fun c3 => ?_) (fun c3 => ?_)
  · replace q := q.1 c3
    refine m_iload_n dX8_extending_65 rfl ?_
    exact m_iret dX8_extending_66 rfl q
  · replace q := q.2 c3
    refine m_aload_n dX8_extending_12 rfl ?_
    refine m_iload_n dX8_extending_13 rfl ?_
    refine cl_X8_72 rfl (by decide) dX8_extending_14 (Nat.le_of_ble_eq_true rfl) (MCi_go q (fun r5 h4 q => ?_))
    refine m_istore_n (lv' := [.ref 3, .int l1, .int l2, .int r5, .retAddr 0]) dX8_extending_17 (Nat.le_of_ble_eq_true rfl) rfl rfl ?_
    refine m_iconst (v := 0) dX8_extending_18 (by decide) ?_
    refine m_istore (lv' := [.ref 3, .int l1, .int l2, .int r5, .int 0]) dX8_extending_19 (Nat.le_of_ble_eq_true rfl) rfl rfl ?_
    exact q
set_option maxRecDepth 100000 in
theorem r_X8_extending_21 {g : gT} {h : mh_T} {P : Int32 → mh_T → Prop} (l1 : Int32) (l2 : Int32) (l3 : Int32) (l4 : Int32) (q : ((mI h 3 2) ≤ l4 → ME g uX8_extending 4 [.ref 3, .int l1, .int (l2 + 1), .retAddr 0, .retAddr 0] [] h (qI P)) ∧ (¬ (mI h 3 2) ≤ l4 → (¬ (l3 &&& ((1 <<< (l4 &&& 31)) ^^^ (-1))) = 0 → ME g uX8_extending 21 [.ref 3, .int l1, .int l2, .int l3, .int (l4 + 1)] [] h (qI P)) ∧ ((l3 &&& ((1 <<< (l4 &&& 31)) ^^^ (-1))) = 0 → MCi g yX8_cellOf uX8_cellOf [.ref 3, .int l4, .int l2] h (fun r4 h3 => ∀ x5 : Int32, x5 = (l1 ||| (1 <<< (r4 &&& 31))) → ME g uX8_extending 21 [.ref 3, .int x5, .int l2, .int l3, .int (l4 + 1)] [] h3 (qI P))))) : ME g uX8_extending 21 [.ref 3, .int l1, .int l2, .int l3, .int l4] [] h (qI P) := by
  refine m_iload dX8_extending_21 rfl ?_
  refine m_aload_n dX8_extending_23 rfl ?_
  refine gf_X8_38 rfl dX8_extending_24 ?_
  refine m_icmp_ge 59 dX8_extending_27 (by decide) (fun c1 => ?_) (fun c1 => ?_)
  · replace q := q.1 c1
    refine m_iinc (v := (l2 + 1)) (lv' := [.ref 3, .int l1, .int (l2 + 1), .int l3, .int l4]) dX8_extending_59 (Nat.le_of_ble_eq_true rfl) rfl (congrArg (fun z => l2 + z) (by decide : Int32.ofInt 1 = 1)) rfl rfl ?_
    refine m_goto 4 dX8_extending_62 (by decide) ?_
    refine m_dropK (lv' := [.ref 3, .int l1, .int (l2 + 1), .retAddr 0, .retAddr 0]) [3, 4] rfl ?_
    exact q
  · replace q := q.2 c1
    refine m_iload_n dX8_extending_30 rfl ?_
    refine m_iconst (v := 1) dX8_extending_31 (by decide) ?_
    refine m_iload dX8_extending_32 rfl ?_
    refine m_ishl dX8_extending_34 ?_
    refine m_iconst (v := (-1)) dX8_extending_35 (by decide) ?_
    refine m_ixor dX8_extending_36 ?_
    refine m_iand dX8_extending_37 ?_
    refine m_if_ne 53 dX8_extending_38 (by decide) (fun c2 => ?_) (fun c2 => ?_)
    · replace q := q.1 c2
      refine m_iinc (v := (l4 + 1)) (lv' := [.ref 3, .int l1, .int l2, .int l3, .int (l4 + 1)]) dX8_extending_53 (Nat.le_of_ble_eq_true rfl) rfl (congrArg (fun z => l4 + z) (by decide : Int32.ofInt 1 = 1)) rfl rfl ?_
      refine m_goto 21 dX8_extending_56 (by decide) ?_
      exact q
    · replace q := q.2 c2
      refine m_iload_n dX8_extending_41 rfl ?_
      refine m_iconst (v := 1) dX8_extending_42 (by decide) ?_
      refine m_aload_n dX8_extending_43 rfl ?_
      refine m_iload dX8_extending_44 rfl ?_
      refine m_iload_n dX8_extending_46 rfl ?_
      refine cl_X8_64 rfl (by decide) dX8_extending_47 (Nat.le_of_ble_eq_true rfl) (MCi_go q (fun r4 h3 q => ?_))
      refine m_ishl dX8_extending_50 ?_
      refine m_ior dX8_extending_51 ?_
      obtain ⟨x5, ex5⟩ : ∃ z, z = (l1 ||| (1 <<< (r4 &&& 31))) := ⟨_, rfl⟩
      rw [← ex5]
      replace q := q x5 ex5
      refine m_istore_n (lv' := [.ref 3, .int x5, .int l2, .int l3, .int l4]) dX8_extending_52 (Nat.le_of_ble_eq_true rfl) rfl rfl ?_
      refine m_iinc (v := (l4 + 1)) (lv' := [.ref 3, .int x5, .int l2, .int l3, .int (l4 + 1)]) dX8_extending_53 (Nat.le_of_ble_eq_true rfl) rfl (congrArg (fun z => l4 + z) (by decide : Int32.ofInt 1 = 1)) rfl rfl ?_
      refine m_goto 21 dX8_extending_56 (by decide) ?_
      exact q
set_option maxRecDepth 100000 in
theorem e_X8_firstDisturbed {g : gT} {h : mh_T} {P : Int32 → mh_T → Prop}  (q : ME g uX8_firstDisturbed 2 [.ref 3, .int 0, .retAddr 0, .retAddr 0, .retAddr 0] [] h (qI P)) : MCi g yX8_firstDisturbed uX8_firstDisturbed [.ref 3] h P := by
  refine m_enter (by decide) rfl (Nat.le_of_ble_eq_true rfl) (lv := [.ref 3, .retAddr 0, .retAddr 0, .retAddr 0, .retAddr 0]) rfl ?_
  refine m_iconst (v := 0) dX8_firstDisturbed_0 (by decide) ?_
  refine m_istore_n (lv' := [.ref 3, .int 0, .retAddr 0, .retAddr 0, .retAddr 0]) dX8_firstDisturbed_1 (Nat.le_of_ble_eq_true rfl) rfl rfl ?_
  exact q
set_option maxRecDepth 100000 in
theorem r_X8_firstDisturbed_2 {g : gT} {h : mh_T} {P : Int32 → mh_T → Prop} (l1 : Int32) (q : ((mI h 3 1) ≤ l1 → P (-2) h) ∧ (¬ (mI h 3 1) ≤ l1 → ME g uX8_firstDisturbed 14 [.ref 3, .int l1, .int (-1), .int 0, .retAddr 0] [] h (qI P))) : ME g uX8_firstDisturbed 2 [.ref 3, .int l1, .retAddr 0, .retAddr 0, .retAddr 0] [] h (qI P) := by
  refine m_iload_n dX8_firstDisturbed_2 rfl ?_
  refine m_aload_n dX8_firstDisturbed_3 rfl ?_
  refine gf_X8_34 rfl dX8_firstDisturbed_4 ?_
  refine m_icmp_ge 71 dX8_firstDisturbed_7 (by decide) (fun c1 => ?_) (fun c1 => ?_)
  · replace q := q.1 c1
    refine m_bipush (v := (-2)) dX8_firstDisturbed_71 (by decide) ?_
    exact m_iret dX8_firstDisturbed_73 rfl q
  · replace q := q.2 c1
    refine m_iconst (v := (-1)) dX8_firstDisturbed_10 (by decide) ?_
    refine m_istore_n (lv' := [.ref 3, .int l1, .int (-1), .retAddr 0, .retAddr 0]) dX8_firstDisturbed_11 (Nat.le_of_ble_eq_true rfl) rfl rfl ?_
    refine m_iconst (v := 0) dX8_firstDisturbed_12 (by decide) ?_
    refine m_istore_n (lv' := [.ref 3, .int l1, .int (-1), .int 0, .retAddr 0]) dX8_firstDisturbed_13 (Nat.le_of_ble_eq_true rfl) rfl rfl ?_
    exact q
set_option maxRecDepth 100000 in
theorem r_X8_firstDisturbed_14 {g : gT} {h : mh_T} {P : Int32 → mh_T → Prop} (l1 : Int32) (l2 : Int32) (l3 : Int32) (q : ((mI h 3 2) ≤ l3 → ME g uX8_firstDisturbed 2 [.ref 3, .int (l1 + 1), .retAddr 0, .retAddr 0, .retAddr 0] [] h (qI P)) ∧ (¬ (mI h 3 2) ≤ l3 → MCi g yX8_onesOf uX8_onesOf [.ref 3, .int l3, .int l1] h (fun r3 h2 => (r3 < 0 → (r3 < 0 → ME g uX8_firstDisturbed 14 [.ref 3, .int l1, .int l2, .int (l3 + 1), .retAddr 0] [] h2 (qI P)) ∧ (¬ r3 < 0 → ME g uX8_firstDisturbed 14 [.ref 3, .int l1, .int r3, .int (l3 + 1), .retAddr 0] [] h2 (qI P))) ∧ (¬ r3 < 0 → (l2 < 0 → (r3 < 0 → ME g uX8_firstDisturbed 14 [.ref 3, .int l1, .int l2, .int (l3 + 1), .retAddr 0] [] h2 (qI P)) ∧ (¬ r3 < 0 → ME g uX8_firstDisturbed 14 [.ref 3, .int l1, .int r3, .int (l3 + 1), .retAddr 0] [] h2 (qI P))) ∧ (¬ l2 < 0 → (r3 = l2 → (r3 < 0 → ME g uX8_firstDisturbed 14 [.ref 3, .int l1, .int l2, .int (l3 + 1), .retAddr 0] [] h2 (qI P)) ∧ (¬ r3 < 0 → ME g uX8_firstDisturbed 14 [.ref 3, .int l1, .int r3, .int (l3 + 1), .retAddr 0] [] h2 (qI P))) ∧ (¬ r3 = l2 → P l1 h2)))))) : ME g uX8_firstDisturbed 14 [.ref 3, .int l1, .int l2, .int l3, .retAddr 0] [] h (qI P) := by
  refine m_iload_n dX8_firstDisturbed_14 rfl ?_
  refine m_aload_n dX8_firstDisturbed_15 rfl ?_
  refine gf_X8_38 rfl dX8_firstDisturbed_16 ?_
  refine m_icmp_ge 65 dX8_firstDisturbed_19 (by decide) (fun c1 => ?_) (fun c1 => ?_)
  · replace q := q.1 c1
    refine m_iinc (v := (l1 + 1)) (lv' := [.ref 3, .int (l1 + 1), .int l2, .int l3, .retAddr 0]) dX8_firstDisturbed_65 (Nat.le_of_ble_eq_true rfl) rfl (congrArg (fun z => l1 + z) (by decide : Int32.ofInt 1 = 1)) rfl rfl ?_
    refine m_goto 2 dX8_firstDisturbed_68 (by decide) ?_
    refine m_dropK (lv' := [.ref 3, .int (l1 + 1), .retAddr 0, .retAddr 0, .retAddr 0]) [2, 3] rfl ?_
    exact q
  · replace q := q.2 c1
    refine m_aload_n dX8_firstDisturbed_22 rfl ?_
    refine m_iload_n dX8_firstDisturbed_23 rfl ?_
    refine m_iload_n dX8_firstDisturbed_24 rfl ?_
    refine cl_X8_75 rfl (by decide) dX8_firstDisturbed_25 (Nat.le_of_ble_eq_true rfl) (MCi_go q (fun r3 h2 q => ?_))
    refine m_istore (lv' := [.ref 3, .int l1, .int l2, .int l3, .int r3]) dX8_firstDisturbed_28 (Nat.le_of_ble_eq_true rfl) rfl rfl ?_
    refine m_iload dX8_firstDisturbed_30 rfl ?_
    refine m_if_lt 47 dX8_firstDisturbed_32 (by decide) (fun c4 => ?_) (fun c4 => ?_)
    · replace q := q.1 c4
      refine m_iload dX8_firstDisturbed_47 rfl ?_
      refine m_if_lt 57 dX8_firstDisturbed_49 (by decide) (fun c5 => ?_) (fun c5 => ?_)
      · replace q := q.1 c5
        refine m_iload_n dX8_firstDisturbed_57 rfl ?_
        refine m_istore_n (lv' := [.ref 3, .int l1, .int l2, .int l3, .int r3]) dX8_firstDisturbed_58 (Nat.le_of_ble_eq_true rfl) rfl rfl ?_
        refine m_iinc (v := (l3 + 1)) (lv' := [.ref 3, .int l1, .int l2, .int (l3 + 1), .int r3]) dX8_firstDisturbed_59 (Nat.le_of_ble_eq_true rfl) rfl (congrArg (fun z => l3 + z) (by decide : Int32.ofInt 1 = 1)) rfl rfl ?_
        refine m_goto 14 dX8_firstDisturbed_62 (by decide) ?_
        refine m_dropK (lv' := [.ref 3, .int l1, .int l2, .int (l3 + 1), .retAddr 0]) [4] rfl ?_
        exact q
      · replace q := q.2 c5
        refine m_iload dX8_firstDisturbed_52 rfl ?_
        refine m_goto 58 dX8_firstDisturbed_54 (by decide) ?_
        refine m_istore_n (lv' := [.ref 3, .int l1, .int r3, .int l3, .int r3]) dX8_firstDisturbed_58 (Nat.le_of_ble_eq_true rfl) rfl rfl ?_
        refine m_iinc (v := (l3 + 1)) (lv' := [.ref 3, .int l1, .int r3, .int (l3 + 1), .int r3]) dX8_firstDisturbed_59 (Nat.le_of_ble_eq_true rfl) rfl (congrArg (fun z => l3 + z) (by decide : Int32.ofInt 1 = 1)) rfl rfl ?_
        refine m_goto 14 dX8_firstDisturbed_62 (by decide) ?_
        refine m_dropK (lv' := [.ref 3, .int l1, .int r3, .int (l3 + 1), .retAddr 0]) [4] rfl ?_
        exact q
    · replace q := q.2 c4
      refine m_iload_n dX8_firstDisturbed_35 rfl ?_
      refine m_if_lt 47 dX8_firstDisturbed_36 (by decide) (fun c6 => ?_) (fun c6 => ?_)
      · replace q := q.1 c6
        refine m_iload dX8_firstDisturbed_47 rfl ?_
        refine m_if_lt 57 dX8_firstDisturbed_49 (by decide) (fun c7 => ?_) (fun c7 => ?_)
        · replace q := q.1 c7
          refine m_iload_n dX8_firstDisturbed_57 rfl ?_
          refine m_istore_n (lv' := [.ref 3, .int l1, .int l2, .int l3, .int r3]) dX8_firstDisturbed_58 (Nat.le_of_ble_eq_true rfl) rfl rfl ?_
          refine m_iinc (v := (l3 + 1)) (lv' := [.ref 3, .int l1, .int l2, .int (l3 + 1), .int r3]) dX8_firstDisturbed_59 (Nat.le_of_ble_eq_true rfl) rfl (congrArg (fun z => l3 + z) (by decide : Int32.ofInt 1 = 1)) rfl rfl ?_
          refine m_goto 14 dX8_firstDisturbed_62 (by decide) ?_
          refine m_dropK (lv' := [.ref 3, .int l1, .int l2, .int (l3 + 1), .retAddr 0]) [4] rfl ?_
          exact q
        · replace q := q.2 c7
          refine m_iload dX8_firstDisturbed_52 rfl ?_
          refine m_goto 58 dX8_firstDisturbed_54 (by decide) ?_
          refine m_istore_n (lv' := [.ref 3, .int l1, .int r3, .int l3, .int r3]) dX8_firstDisturbed_58 (Nat.le_of_ble_eq_true rfl) rfl rfl ?_
          refine m_iinc (v := (l3 + 1)) (lv' := [.ref 3, .int l1, .int r3, .int (l3 + 1), .int r3]) dX8_firstDisturbed_59 (Nat.le_of_ble_eq_true rfl) rfl (congrArg (fun z => l3 + z) (by decide : Int32.ofInt 1 = 1)) rfl rfl ?_
          refine m_goto 14 dX8_firstDisturbed_62 (by decide) ?_
          refine m_dropK (lv' := [.ref 3, .int l1, .int r3, .int (l3 + 1), .retAddr 0]) [4] rfl ?_
          exact q
      · replace q := q.2 c6
        refine m_iload dX8_firstDisturbed_39 rfl ?_
        refine m_iload_n dX8_firstDisturbed_41 rfl ?_
        refine m_icmp_eq 47 dX8_firstDisturbed_42 (by decide) (fun c8 => ?_) (fun c8 => ?_)
        · replace q := q.1 c8
          refine m_iload dX8_firstDisturbed_47 rfl ?_
          refine m_if_lt 57 dX8_firstDisturbed_49 (by decide) (fun c9 => ?_) (fun c9 => ?_)
          · replace q := q.1 c9
            refine m_iload_n dX8_firstDisturbed_57 rfl ?_
            refine m_istore_n (lv' := [.ref 3, .int l1, .int l2, .int l3, .int r3]) dX8_firstDisturbed_58 (Nat.le_of_ble_eq_true rfl) rfl rfl ?_
            refine m_iinc (v := (l3 + 1)) (lv' := [.ref 3, .int l1, .int l2, .int (l3 + 1), .int r3]) dX8_firstDisturbed_59 (Nat.le_of_ble_eq_true rfl) rfl (congrArg (fun z => l3 + z) (by decide : Int32.ofInt 1 = 1)) rfl rfl ?_
            refine m_goto 14 dX8_firstDisturbed_62 (by decide) ?_
            refine m_dropK (lv' := [.ref 3, .int l1, .int l2, .int (l3 + 1), .retAddr 0]) [4] rfl ?_
            exact q
          · replace q := q.2 c9
            refine m_iload dX8_firstDisturbed_52 rfl ?_
            refine m_goto 58 dX8_firstDisturbed_54 (by decide) ?_
            refine m_istore_n (lv' := [.ref 3, .int l1, .int r3, .int l3, .int r3]) dX8_firstDisturbed_58 (Nat.le_of_ble_eq_true rfl) rfl rfl ?_
            refine m_iinc (v := (l3 + 1)) (lv' := [.ref 3, .int l1, .int r3, .int (l3 + 1), .int r3]) dX8_firstDisturbed_59 (Nat.le_of_ble_eq_true rfl) rfl (congrArg (fun z => l3 + z) (by decide : Int32.ofInt 1 = 1)) rfl rfl ?_
            refine m_goto 14 dX8_firstDisturbed_62 (by decide) ?_
            refine m_dropK (lv' := [.ref 3, .int l1, .int r3, .int (l3 + 1), .retAddr 0]) [4] rfl ?_
            exact q
        · replace q := q.2 c8
          refine m_iload_n dX8_firstDisturbed_45 rfl ?_
          exact m_iret dX8_firstDisturbed_46 rfl q
set_option maxRecDepth 100000 in
theorem e_X8_onesOf {g : gT} {h : mh_T} {P : Int32 → mh_T → Prop} (l1 : Int32) (l2 : Int32) (q : ∀ x1 : Int32, x1 = (4 * l1) → (vp_in l1 8) ∧ ((0 ≤ (mI h 25 l1.toNatClampNeg) → (vp_in l1 8) ∧ ((¬ (mI h 24 l1.toNatClampNeg) = l2 → (vp_in l1 8) ∧ ((¬ (mI h 25 l1.toNatClampNeg) = l2 → P (-1) h) ∧ ((mI h 25 l1.toNatClampNeg) = l2 → (vp_in (x1 + 1) 32) ∧ ((vp_in (x1 + 3) 32) ∧ (P ((mI h 26 (x1 + 1).toNatClampNeg) + (mI h 26 (x1 + 3).toNatClampNeg)) h))))) ∧ ((mI h 24 l1.toNatClampNeg) = l2 → (vp_in (x1 + 2) 32) ∧ ((vp_in (x1 + 3) 32) ∧ (P ((mI h 26 (x1 + 2).toNatClampNeg) + (mI h 26 (x1 + 3).toNatClampNeg)) h))))) ∧ (¬ 0 ≤ (mI h 25 l1.toNatClampNeg) → (vp_in l1 8) ∧ ((¬ (mI h 24 l1.toNatClampNeg) = l2 → P (-1) h) ∧ ((mI h 24 l1.toNatClampNeg) = l2 → (vp_in (x1 + 1) 32) ∧ (P (mI h 26 (x1 + 1).toNatClampNeg) h)))))) : MCi g yX8_onesOf uX8_onesOf [.ref 3, .int l1, .int l2] h P := by
  refine m_enter (by decide) rfl (Nat.le_of_ble_eq_true rfl) (lv := [.ref 3, .int l1, .int l2, .retAddr 0]) rfl ?_
  refine m_iconst (v := 4) dX8_onesOf_0 (by decide) ?_
  refine m_iload_n dX8_onesOf_1 rfl ?_
  refine m_imul dX8_onesOf_2 ?_
  obtain ⟨x1, ex1⟩ : ∃ z, z = (4 * l1) := ⟨_, rfl⟩
  rw [← ex1]
  replace q := q x1 ex1
  refine m_istore_n (lv' := [.ref 3, .int l1, .int l2, .int x1]) dX8_onesOf_3 (Nat.le_of_ble_eq_true rfl) rfl rfl ?_
  refine m_aload_n dX8_onesOf_4 rfl ?_
  refine gf_X8_15 rfl dX8_onesOf_5 ?_
  refine m_iload_n dX8_onesOf_8 rfl ?_
  obtain ⟨b2, q⟩ := q
  refine m_iaload dX8_onesOf_9 rfl (by decide) b2 ?_
  refine m_if_ge 36 dX8_onesOf_10 (by decide) (fun c3 => ?_) (fun c3 => ?_)
  · replace q := q.1 c3
    refine m_aload_n dX8_onesOf_36 rfl ?_
    refine gf_X8_9 rfl dX8_onesOf_37 ?_
    refine m_iload_n dX8_onesOf_40 rfl ?_
    obtain ⟨b4, q⟩ := q
    refine m_iaload dX8_onesOf_41 rfl (by decide) b4 ?_
    refine m_iload_n dX8_onesOf_42 rfl ?_
    refine m_icmp_ne 64 dX8_onesOf_43 (by decide) (fun c5 => ?_) (fun c5 => ?_)
    · replace q := q.1 c5
      refine m_aload_n dX8_onesOf_64 rfl ?_
      refine gf_X8_15 rfl dX8_onesOf_65 ?_
      refine m_iload_n dX8_onesOf_68 rfl ?_
      obtain ⟨b6, q⟩ := q
      refine m_iaload dX8_onesOf_69 rfl (by decide) b6 ?_
      refine m_iload_n dX8_onesOf_70 rfl ?_
      refine m_icmp_ne 94 dX8_onesOf_71 (by decide) (fun c7 => ?_) (fun c7 => ?_)
      · replace q := q.1 c7
        refine m_iconst (v := (-1)) dX8_onesOf_94 (by decide) ?_
        exact m_iret dX8_onesOf_95 rfl q
      · replace q := q.2 c7
        refine m_aload_n dX8_onesOf_74 rfl ?_
        refine gf_X8_18 rfl dX8_onesOf_75 ?_
        refine m_iload_n dX8_onesOf_78 rfl ?_
        refine m_iconst (v := 1) dX8_onesOf_79 (by decide) ?_
        refine m_iadd dX8_onesOf_80 ?_
        obtain ⟨b8, q⟩ := q
        refine m_iaload dX8_onesOf_81 rfl (by decide) b8 ?_
        refine m_aload_n dX8_onesOf_82 rfl ?_
        refine gf_X8_18 rfl dX8_onesOf_83 ?_
        refine m_iload_n dX8_onesOf_86 rfl ?_
        refine m_iconst (v := 3) dX8_onesOf_87 (by decide) ?_
        refine m_iadd dX8_onesOf_88 ?_
        obtain ⟨b9, q⟩ := q
        refine m_iaload dX8_onesOf_89 rfl (by decide) b9 ?_
        refine m_iadd dX8_onesOf_90 ?_
        refine m_goto 95 dX8_onesOf_91 (by decide) ?_
        exact m_iret dX8_onesOf_95 rfl q
    · replace q := q.2 c5
      refine m_aload_n dX8_onesOf_46 rfl ?_
      refine gf_X8_18 rfl dX8_onesOf_47 ?_
      refine m_iload_n dX8_onesOf_50 rfl ?_
      refine m_iconst (v := 2) dX8_onesOf_51 (by decide) ?_
      refine m_iadd dX8_onesOf_52 ?_
      obtain ⟨b10, q⟩ := q
      refine m_iaload dX8_onesOf_53 rfl (by decide) b10 ?_
      refine m_aload_n dX8_onesOf_54 rfl ?_
      refine gf_X8_18 rfl dX8_onesOf_55 ?_
      refine m_iload_n dX8_onesOf_58 rfl ?_
      refine m_iconst (v := 3) dX8_onesOf_59 (by decide) ?_
      refine m_iadd dX8_onesOf_60 ?_
      obtain ⟨b11, q⟩ := q
      refine m_iaload dX8_onesOf_61 rfl (by decide) b11 ?_
      refine m_iadd dX8_onesOf_62 ?_
      exact m_iret dX8_onesOf_63 rfl q
  · replace q := q.2 c3
    refine m_aload_n dX8_onesOf_13 rfl ?_
    refine gf_X8_9 rfl dX8_onesOf_14 ?_
    refine m_iload_n dX8_onesOf_17 rfl ?_
    obtain ⟨b12, q⟩ := q
    refine m_iaload dX8_onesOf_18 rfl (by decide) b12 ?_
    refine m_iload_n dX8_onesOf_19 rfl ?_
    refine m_icmp_ne 34 dX8_onesOf_20 (by decide) (fun c13 => ?_) (fun c13 => ?_)
    · replace q := q.1 c13
      refine m_iconst (v := (-1)) dX8_onesOf_34 (by decide) ?_
      exact m_iret dX8_onesOf_35 rfl q
    · replace q := q.2 c13
      refine m_aload_n dX8_onesOf_23 rfl ?_
      refine gf_X8_18 rfl dX8_onesOf_24 ?_
      refine m_iload_n dX8_onesOf_27 rfl ?_
      refine m_iconst (v := 1) dX8_onesOf_28 (by decide) ?_
      refine m_iadd dX8_onesOf_29 ?_
      obtain ⟨b14, q⟩ := q
      refine m_iaload dX8_onesOf_30 rfl (by decide) b14 ?_
      refine m_goto 35 dX8_onesOf_31 (by decide) ?_
      exact m_iret dX8_onesOf_35 rfl q
set_option maxRecDepth 100000 in
theorem e_X8_alike {g : gT} {h : mh_T} {P : Int32 → mh_T → Prop} (l1 : Int32) (q : ∀ x1 : Int32, x1 = (4 * l1) → (vp_in x1 32) ∧ ((vp_in (x1 + 3) 32) ∧ ((vp_in (x1 + 1) 32) ∧ ((vp_in (x1 + 2) 32) ∧ (P ((((mI h 26 x1.toNatClampNeg) + (mI h 26 (x1 + 3).toNatClampNeg)) - (mI h 26 (x1 + 1).toNatClampNeg)) - (mI h 26 (x1 + 2).toNatClampNeg)) h))))) : MCi g yX8_alike uX8_alike [.ref 3, .int l1] h P := by
  refine m_enter (by decide) rfl (Nat.le_of_ble_eq_true rfl) (lv := [.ref 3, .int l1, .retAddr 0]) rfl ?_
  refine m_iconst (v := 4) dX8_alike_0 (by decide) ?_
  refine m_iload_n dX8_alike_1 rfl ?_
  refine m_imul dX8_alike_2 ?_
  obtain ⟨x1, ex1⟩ : ∃ z, z = (4 * l1) := ⟨_, rfl⟩
  rw [← ex1]
  replace q := q x1 ex1
  refine m_istore_n (lv' := [.ref 3, .int l1, .int x1]) dX8_alike_3 (Nat.le_of_ble_eq_true rfl) rfl rfl ?_
  refine m_aload_n dX8_alike_4 rfl ?_
  refine gf_X8_18 rfl dX8_alike_5 ?_
  refine m_iload_n dX8_alike_8 rfl ?_
  obtain ⟨b2, q⟩ := q
  refine m_iaload dX8_alike_9 rfl (by decide) b2 ?_
  refine m_aload_n dX8_alike_10 rfl ?_
  refine gf_X8_18 rfl dX8_alike_11 ?_
  refine m_iload_n dX8_alike_14 rfl ?_
  refine m_iconst (v := 3) dX8_alike_15 (by decide) ?_
  refine m_iadd dX8_alike_16 ?_
  obtain ⟨b3, q⟩ := q
  refine m_iaload dX8_alike_17 rfl (by decide) b3 ?_
  refine m_iadd dX8_alike_18 ?_
  refine m_aload_n dX8_alike_19 rfl ?_
  refine gf_X8_18 rfl dX8_alike_20 ?_
  refine m_iload_n dX8_alike_23 rfl ?_
  refine m_iconst (v := 1) dX8_alike_24 (by decide) ?_
  refine m_iadd dX8_alike_25 ?_
  obtain ⟨b4, q⟩ := q
  refine m_iaload dX8_alike_26 rfl (by decide) b4 ?_
  refine m_isub dX8_alike_27 ?_
  refine m_aload_n dX8_alike_28 rfl ?_
  refine gf_X8_18 rfl dX8_alike_29 ?_
  refine m_iload_n dX8_alike_32 rfl ?_
  refine m_iconst (v := 2) dX8_alike_33 (by decide) ?_
  refine m_iadd dX8_alike_34 ?_
  obtain ⟨b5, q⟩ := q
  refine m_iaload dX8_alike_35 rfl (by decide) b5 ?_
  refine m_isub dX8_alike_36 ?_
  exact m_iret dX8_alike_37 rfl q
set_option maxRecDepth 100000 in
theorem e_X8_winnings {g : gT} {h : mh_T} {P : Int32 → mh_T → Prop}  (q : ME g uX8_winnings 4 [.ref 3, .int 0, .int 0] [] h (qI P)) : MCi g yX8_winnings uX8_winnings [.ref 3] h P := by
  refine m_enter (by decide) rfl (Nat.le_of_ble_eq_true rfl) (lv := [.ref 3, .retAddr 0, .retAddr 0]) rfl ?_
  refine m_iconst (v := 0) dX8_winnings_0 (by decide) ?_
  refine m_istore_n (lv' := [.ref 3, .int 0, .retAddr 0]) dX8_winnings_1 (Nat.le_of_ble_eq_true rfl) rfl rfl ?_
  refine m_iconst (v := 0) dX8_winnings_2 (by decide) ?_
  refine m_istore_n (lv' := [.ref 3, .int 0, .int 0]) dX8_winnings_3 (Nat.le_of_ble_eq_true rfl) rfl rfl ?_
  exact q
set_option maxRecDepth 100000 in
theorem r_X8_winnings_4 {g : gT} {h : mh_T} {P : Int32 → mh_T → Prop} (l1 : Int32) (l2 : Int32) (q : ((4 * (mI h 3 2)) ≤ l2 → P l1 h) ∧ (¬ (4 * (mI h 3 2)) ≤ l2 → (vp_in l2 32) ∧ ((vp_in l2 32) ∧ (∀ x4 : Int32, x4 = (l1 + ((mI h 27 l2.toNatClampNeg) * (mI h 26 l2.toNatClampNeg))) → ME g uX8_winnings 4 [.ref 3, .int x4, .int (l2 + 1)] [] h (qI P))))) : ME g uX8_winnings 4 [.ref 3, .int l1, .int l2] [] h (qI P) := by
  refine m_iload_n dX8_winnings_4 rfl ?_
  refine m_iconst (v := 4) dX8_winnings_5 (by decide) ?_
  refine m_aload_n dX8_winnings_6 rfl ?_
  refine gf_X8_38 rfl dX8_winnings_7 ?_
  refine m_imul dX8_winnings_10 ?_
  refine m_icmp_ge 36 dX8_winnings_11 (by decide) (fun c1 => ?_) (fun c1 => ?_)
  · replace q := q.1 c1
    refine m_iload_n dX8_winnings_36 rfl ?_
    exact m_iret dX8_winnings_37 rfl q
  · replace q := q.2 c1
    refine m_iload_n dX8_winnings_14 rfl ?_
    refine m_aload_n dX8_winnings_15 rfl ?_
    refine gf_X8_21 rfl dX8_winnings_16 ?_
    refine m_iload_n dX8_winnings_19 rfl ?_
    obtain ⟨b2, q⟩ := q
    refine m_iaload dX8_winnings_20 rfl (by decide) b2 ?_
    refine m_aload_n dX8_winnings_21 rfl ?_
    refine gf_X8_18 rfl dX8_winnings_22 ?_
    refine m_iload_n dX8_winnings_25 rfl ?_
    obtain ⟨b3, q⟩ := q
    refine m_iaload dX8_winnings_26 rfl (by decide) b3 ?_
    refine m_imul dX8_winnings_27 ?_
    refine m_iadd dX8_winnings_28 ?_
    obtain ⟨x4, ex4⟩ : ∃ z, z = (l1 + ((mI h 27 l2.toNatClampNeg) * (mI h 26 l2.toNatClampNeg))) := ⟨_, rfl⟩
    rw [← ex4]
    replace q := q x4 ex4
    refine m_istore_n (lv' := [.ref 3, .int x4, .int l2]) dX8_winnings_29 (Nat.le_of_ble_eq_true rfl) rfl rfl ?_
    refine m_iinc (v := (l2 + 1)) (lv' := [.ref 3, .int x4, .int (l2 + 1)]) dX8_winnings_30 (Nat.le_of_ble_eq_true rfl) rfl (congrArg (fun z => l2 + z) (by decide : Int32.ofInt 1 = 1)) rfl rfl ?_
    refine m_goto 4 dX8_winnings_33 (by decide) ?_
    exact q
set_option maxRecDepth 100000 in
theorem e_X8_pay {g : gT} {h : mh_T} {P : Int32 → mh_T → Prop} (l1 : Int32) (q : ME g uX8_pay 4 [.ref 3, .int l1, .int 0, .int 0] [] h (qI P)) : MCi g yX8_pay uX8_pay [.ref 3, .int l1] h P := by
  refine m_enter (by decide) rfl (Nat.le_of_ble_eq_true rfl) (lv := [.ref 3, .int l1, .retAddr 0, .retAddr 0]) rfl ?_
  refine m_iconst (v := 0) dX8_pay_0 (by decide) ?_
  refine m_istore_n (lv' := [.ref 3, .int l1, .int 0, .retAddr 0]) dX8_pay_1 (Nat.le_of_ble_eq_true rfl) rfl rfl ?_
  refine m_iconst (v := 0) dX8_pay_2 (by decide) ?_
  refine m_istore_n (lv' := [.ref 3, .int l1, .int 0, .int 0]) dX8_pay_3 (Nat.le_of_ble_eq_true rfl) rfl rfl ?_
  exact q
set_option maxRecDepth 100000 in
theorem r_X8_pay_4 {g : gT} {h : mh_T} {P : Int32 → mh_T → Prop} (l1 : Int32) (l2 : Int32) (l3 : Int32) (q : ((mI h 3 2) ≤ l3 → P l2 h) ∧ (¬ (mI h 3 2) ≤ l3 → MCi g yX8_cellOf uX8_cellOf [.ref 3, .int l3, .int l1] h (fun r3 h2 => (vp_in r3 32) ∧ (∀ x5 : Int32, x5 = (l2 + (mI h2 27 r3.toNatClampNeg)) → ME g uX8_pay 4 [.ref 3, .int l1, .int x5, .int (l3 + 1)] [] h2 (qI P))))) : ME g uX8_pay 4 [.ref 3, .int l1, .int l2, .int l3] [] h (qI P) := by
  refine m_iload_n dX8_pay_4 rfl ?_
  refine m_aload_n dX8_pay_5 rfl ?_
  refine gf_X8_38 rfl dX8_pay_6 ?_
  refine m_icmp_ge 32 dX8_pay_9 (by decide) (fun c1 => ?_) (fun c1 => ?_)
  · replace q := q.1 c1
    refine m_iload_n dX8_pay_32 rfl ?_
    exact m_iret dX8_pay_33 rfl q
  · replace q := q.2 c1
    refine m_iload_n dX8_pay_12 rfl ?_
    refine m_aload_n dX8_pay_13 rfl ?_
    refine gf_X8_21 rfl dX8_pay_14 ?_
    refine m_aload_n dX8_pay_17 rfl ?_
    refine m_iload_n dX8_pay_18 rfl ?_
    refine m_iload_n dX8_pay_19 rfl ?_
    refine cl_X8_64 rfl (by decide) dX8_pay_20 (Nat.le_of_ble_eq_true rfl) (MCi_go q (fun r3 h2 q => ?_))
    obtain ⟨b4, q⟩ := q
    refine m_iaload dX8_pay_23 rfl (by decide) b4 ?_
    refine m_iadd dX8_pay_24 ?_
    obtain ⟨x5, ex5⟩ : ∃ z, z = (l2 + (mI h2 27 r3.toNatClampNeg)) := ⟨_, rfl⟩
    rw [← ex5]
    replace q := q x5 ex5
    refine m_istore_n (lv' := [.ref 3, .int l1, .int x5, .int l3]) dX8_pay_25 (Nat.le_of_ble_eq_true rfl) rfl rfl ?_
    refine m_iinc (v := (l3 + 1)) (lv' := [.ref 3, .int l1, .int x5, .int (l3 + 1)]) dX8_pay_26 (Nat.le_of_ble_eq_true rfl) rfl (congrArg (fun z => l3 + z) (by decide : Int32.ofInt 1 = 1)) rfl rfl ?_
    refine m_goto 4 dX8_pay_29 (by decide) ?_
    exact q
set_option maxRecDepth 100000 in
theorem e_X8_leastPaid {g : gT} {h : mh_T} {P : Int32 → mh_T → Prop}  (q : ME g uX8_leastPaid 4 [.ref 3, .int 0, .int 1] [] h (qI P)) : MCi g yX8_leastPaid uX8_leastPaid [.ref 3] h P := by
  refine m_enter (by decide) rfl (Nat.le_of_ble_eq_true rfl) (lv := [.ref 3, .retAddr 0, .retAddr 0]) rfl ?_
  refine m_iconst (v := 0) dX8_leastPaid_0 (by decide) ?_
  refine m_istore_n (lv' := [.ref 3, .int 0, .retAddr 0]) dX8_leastPaid_1 (Nat.le_of_ble_eq_true rfl) rfl rfl ?_
  refine m_iconst (v := 1) dX8_leastPaid_2 (by decide) ?_
  refine m_istore_n (lv' := [.ref 3, .int 0, .int 1]) dX8_leastPaid_3 (Nat.le_of_ble_eq_true rfl) rfl rfl ?_
  exact q
set_option maxRecDepth 100000 in
theorem r_X8_leastPaid_4 {g : gT} {h : mh_T} {P : Int32 → mh_T → Prop} (l1 : Int32) (l2 : Int32) (q : MCi g yX8_hiddenAnswers uX8_hiddenAnswers [.ref 3] h (fun r2 h1 => (r2 ≤ l2 → P l1 h1) ∧ (¬ r2 ≤ l2 → MCi g yX8_pay uX8_pay [.ref 3, .int l2] h1 (fun r5 h4 => MCi g yX8_pay uX8_pay [.ref 3, .int l1] h4 (fun r7 h6 => (r7 ≤ r5 → ME g uX8_leastPaid 4 [.ref 3, .int l1, .int (l2 + 1)] [] h6 (qI P)) ∧ (¬ r7 ≤ r5 → ME g uX8_leastPaid 4 [.ref 3, .int l2, .int (l2 + 1)] [] h6 (qI P))))))) : ME g uX8_leastPaid 4 [.ref 3, .int l1, .int l2] [] h (qI P) := by
  refine m_iload_n dX8_leastPaid_4 rfl ?_
  refine m_aload_n dX8_leastPaid_5 rfl ?_
  refine cl_X8_68 rfl (by decide) dX8_leastPaid_6 (Nat.le_of_ble_eq_true rfl) (MCi_go q (fun r2 h1 q => ?_))
  refine m_icmp_ge 33 dX8_leastPaid_9 (by decide) (fun c3 => ?_) (fun c3 => ?_)
  · replace q := q.1 c3
    refine m_iload_n dX8_leastPaid_33 rfl ?_
    exact m_iret dX8_leastPaid_34 rfl q
  · replace q := q.2 c3
    refine m_aload_n dX8_leastPaid_12 rfl ?_
    refine m_iload_n dX8_leastPaid_13 rfl ?_
    refine cl_X8_78 rfl (by decide) dX8_leastPaid_14 (Nat.le_of_ble_eq_true rfl) (MCi_go q (fun r5 h4 q => ?_))
    refine m_aload_n dX8_leastPaid_17 rfl ?_
    refine m_iload_n dX8_leastPaid_18 rfl ?_
    refine cl_X8_78 rfl (by decide) dX8_leastPaid_19 (Nat.le_of_ble_eq_true rfl) (MCi_go q (fun r7 h6 q => ?_))
    refine m_icmp_ge 27 dX8_leastPaid_22 (by decide) (fun c8 => ?_) (fun c8 => ?_)
    · replace q := q.1 c8
      refine m_iinc (v := (l2 + 1)) (lv' := [.ref 3, .int l1, .int (l2 + 1)]) dX8_leastPaid_27 (Nat.le_of_ble_eq_true rfl) rfl (congrArg (fun z => l2 + z) (by decide : Int32.ofInt 1 = 1)) rfl rfl ?_
      refine m_goto 4 dX8_leastPaid_30 (by decide) ?_
      exact q
    · replace q := q.2 c8
      refine m_iload_n dX8_leastPaid_25 rfl ?_
      refine m_istore_n (lv' := [.ref 3, .int l2, .int l2]) dX8_leastPaid_26 (Nat.le_of_ble_eq_true rfl) rfl rfl ?_
      refine m_iinc (v := (l2 + 1)) (lv' := [.ref 3, .int l2, .int (l2 + 1)]) dX8_leastPaid_27 (Nat.le_of_ble_eq_true rfl) rfl (congrArg (fun z => l2 + z) (by decide : Int32.ofInt 1 = 1)) rfl rfl ?_
      refine m_goto 4 dX8_leastPaid_30 (by decide) ?_
      exact q
set_option maxRecDepth 100000 in
theorem e_X8_isLookedAt {g : gT} {h : mh_T} {P : Int32 → mh_T → Prop} (l1 : Int32) (q : ME g uX8_isLookedAt 2 [.ref 3, .int l1, .int 0] [] h (qI P)) : MCi g yX8_isLookedAt uX8_isLookedAt [.ref 3, .int l1] h P := by
  refine m_enter (by decide) rfl (Nat.le_of_ble_eq_true rfl) (lv := [.ref 3, .int l1, .retAddr 0]) rfl ?_
  refine m_iconst (v := 0) dX8_isLookedAt_0 (by decide) ?_
  refine m_istore_n (lv' := [.ref 3, .int l1, .int 0]) dX8_isLookedAt_1 (Nat.le_of_ble_eq_true rfl) rfl rfl ?_
  exact q
set_option maxRecDepth 100000 in
theorem r_X8_isLookedAt_2 {g : gT} {h : mh_T} {P : Int32 → mh_T → Prop} (l1 : Int32) (l2 : Int32) (q : ((mI h 3 2) ≤ l2 → P 0 h) ∧ (¬ (mI h 3 2) ≤ l2 → (vp_in l2 8) ∧ (((mI h 24 l2.toNatClampNeg) = l1 → P 1 h) ∧ (¬ (mI h 24 l2.toNatClampNeg) = l1 → (vp_in l2 8) ∧ ((¬ (mI h 25 l2.toNatClampNeg) = l1 → ME g uX8_isLookedAt 2 [.ref 3, .int l1, .int (l2 + 1)] [] h (qI P)) ∧ ((mI h 25 l2.toNatClampNeg) = l1 → P 1 h)))))) : ME g uX8_isLookedAt 2 [.ref 3, .int l1, .int l2] [] h (qI P) := by
  refine m_iload_n dX8_isLookedAt_2 rfl ?_
  refine m_aload_n dX8_isLookedAt_3 rfl ?_
  refine gf_X8_38 rfl dX8_isLookedAt_4 ?_
  refine m_icmp_ge 38 dX8_isLookedAt_7 (by decide) (fun c1 => ?_) (fun c1 => ?_)
  · replace q := q.1 c1
    refine m_iconst (v := 0) dX8_isLookedAt_38 (by decide) ?_
    exact m_zret dX8_isLookedAt_39 rfl (by decide) q
  · replace q := q.2 c1
    refine m_aload_n dX8_isLookedAt_10 rfl ?_
    refine gf_X8_9 rfl dX8_isLookedAt_11 ?_
    refine m_iload_n dX8_isLookedAt_14 rfl ?_
    obtain ⟨b2, q⟩ := q
    refine m_iaload dX8_isLookedAt_15 rfl (by decide) b2 ?_
    refine m_iload_n dX8_isLookedAt_16 rfl ?_
    refine m_icmp_eq 30 dX8_isLookedAt_17 (by decide) (fun c3 => ?_) (fun c3 => ?_)
    · replace q := q.1 c3
      refine m_iconst (v := 1) dX8_isLookedAt_30 (by decide) ?_
      exact m_zret dX8_isLookedAt_31 rfl (by decide) q
    · replace q := q.2 c3
      refine m_aload_n dX8_isLookedAt_20 rfl ?_
      refine gf_X8_15 rfl dX8_isLookedAt_21 ?_
      refine m_iload_n dX8_isLookedAt_24 rfl ?_
      obtain ⟨b4, q⟩ := q
      refine m_iaload dX8_isLookedAt_25 rfl (by decide) b4 ?_
      refine m_iload_n dX8_isLookedAt_26 rfl ?_
      refine m_icmp_ne 32 dX8_isLookedAt_27 (by decide) (fun c5 => ?_) (fun c5 => ?_)
      · replace q := q.1 c5
        refine m_iinc (v := (l2 + 1)) (lv' := [.ref 3, .int l1, .int (l2 + 1)]) dX8_isLookedAt_32 (Nat.le_of_ble_eq_true rfl) rfl (congrArg (fun z => l2 + z) (by decide : Int32.ofInt 1 = 1)) rfl rfl ?_
        refine m_goto 2 dX8_isLookedAt_35 (by decide) ?_
        exact q
      · replace q := q.2 c5
        refine m_iconst (v := 1) dX8_isLookedAt_30 (by decide) ?_
        exact m_zret dX8_isLookedAt_31 rfl (by decide) q
set_option maxRecDepth 100000 in
theorem e_X8_turn {g : gT} {h : mh_T} {P : mh_T → Prop} (l1 : Int32) (q : ME g uX8_turn 2 [.ref 3, .int l1, .int 0, .retAddr 0] [] h (qV P)) : MCv g yX8_turn uX8_turn [.ref 3, .int l1] h P := by
  refine m_enter (by decide) rfl (Nat.le_of_ble_eq_true rfl) (lv := [.ref 3, .int l1, .retAddr 0, .retAddr 0]) rfl ?_
  refine m_iconst (v := 0) dX8_turn_0 (by decide) ?_
  refine m_istore_n (lv' := [.ref 3, .int l1, .int 0, .retAddr 0]) dX8_turn_1 (Nat.le_of_ble_eq_true rfl) rfl rfl ?_
  exact q
set_option maxRecDepth 100000 in
theorem r_X8_turn_2 {g : gT} {h : mh_T} {P : mh_T → Prop} (l1 : Int32) (l2 : Int32) (q : ((mI h 3 2) ≤ l2 → P (wI h 3 3 ((mI h 3 3) + 1))) ∧ (¬ (mI h 3 2) ≤ l2 → ∀ x2 : Int32, x2 = (4 * l2) → (vp_in l2 8) ∧ ((0 ≤ (mI h 25 l2.toNatClampNeg) → (vp_in l2 8) ∧ ((¬ (mI h 24 l2.toNatClampNeg) = l1 → (vp_in l2 8) ∧ ((¬ (mI h 25 l2.toNatClampNeg) = l1 → ME g uX8_turn 2 [.ref 3, .int l1, .int (l2 + 1), .retAddr 0] [] h (qV P)) ∧ ((mI h 25 l2.toNatClampNeg) = l1 → MCv g yX8_swap uX8_swap [.ref 3, .int x2, .int (x2 + 1)] h (fun h9 => MCv g yX8_swap uX8_swap [.ref 3, .int (x2 + 2), .int (x2 + 3)] h9 (fun h10 => ME g uX8_turn 2 [.ref 3, .int l1, .int (l2 + 1), .retAddr 0] [] h10 (qV P)))))) ∧ ((mI h 24 l2.toNatClampNeg) = l1 → MCv g yX8_swap uX8_swap [.ref 3, .int x2, .int (x2 + 2)] h (fun h11 => MCv g yX8_swap uX8_swap [.ref 3, .int (x2 + 1), .int (x2 + 3)] h11 (fun h12 => ME g uX8_turn 2 [.ref 3, .int l1, .int (l2 + 1), .retAddr 0] [] h12 (qV P)))))) ∧ (¬ 0 ≤ (mI h 25 l2.toNatClampNeg) → (vp_in l2 8) ∧ ((¬ (mI h 24 l2.toNatClampNeg) = l1 → ME g uX8_turn 2 [.ref 3, .int l1, .int (l2 + 1), .retAddr 0] [] h (qV P)) ∧ ((mI h 24 l2.toNatClampNeg) = l1 → MCv g yX8_swap uX8_swap [.ref 3, .int x2, .int (x2 + 1)] h (fun h15 => ME g uX8_turn 2 [.ref 3, .int l1, .int (l2 + 1), .retAddr 0] [] h15 (qV P)))))))) : ME g uX8_turn 2 [.ref 3, .int l1, .int l2, .retAddr 0] [] h (qV P) := by
  refine m_iload_n dX8_turn_2 rfl ?_
  refine m_aload_n dX8_turn_3 rfl ?_
  refine gf_X8_38 rfl dX8_turn_4 ?_
  refine m_icmp_ge 109 dX8_turn_7 (by decide) (fun c1 => ?_) (fun c1 => ?_)
  · replace q := q.1 c1
    refine m_aload_n dX8_turn_109 rfl ?_
    refine m_dup dX8_turn_110 rfl ?_
    refine gf_X8_53 rfl dX8_turn_111 ?_
    refine m_iconst (v := 1) dX8_turn_114 (by decide) ?_
    refine m_iadd dX8_turn_115 ?_
    refine pf_X8_53 rfl dX8_turn_116 ?_
    exact m_vret dX8_turn_119 rfl q
  · replace q := q.2 c1
    refine m_iconst (v := 4) dX8_turn_10 (by decide) ?_
    refine m_iload_n dX8_turn_11 rfl ?_
    refine m_imul dX8_turn_12 ?_
    obtain ⟨x2, ex2⟩ : ∃ z, z = (4 * l2) := ⟨_, rfl⟩
    rw [← ex2]
    replace q := q x2 ex2
    refine m_istore_n (lv' := [.ref 3, .int l1, .int l2, .int x2]) dX8_turn_13 (Nat.le_of_ble_eq_true rfl) rfl rfl ?_
    refine m_aload_n dX8_turn_14 rfl ?_
    refine gf_X8_15 rfl dX8_turn_15 ?_
    refine m_iload_n dX8_turn_18 rfl ?_
    obtain ⟨b3, q⟩ := q
    refine m_iaload dX8_turn_19 rfl (by decide) b3 ?_
    refine m_if_ge 44 dX8_turn_20 (by decide) (fun c4 => ?_) (fun c4 => ?_)
    · replace q := q.1 c4
      refine m_aload_n dX8_turn_44 rfl ?_
      refine gf_X8_9 rfl dX8_turn_45 ?_
      refine m_iload_n dX8_turn_48 rfl ?_
      obtain ⟨b5, q⟩ := q
      refine m_iaload dX8_turn_49 rfl (by decide) b5 ?_
      refine m_iload_n dX8_turn_50 rfl ?_
      refine m_icmp_ne 75 dX8_turn_51 (by decide) (fun c6 => ?_) (fun c6 => ?_)
      · replace q := q.1 c6
        refine m_aload_n dX8_turn_75 rfl ?_
        refine gf_X8_15 rfl dX8_turn_76 ?_
        refine m_iload_n dX8_turn_79 rfl ?_
        obtain ⟨b7, q⟩ := q
        refine m_iaload dX8_turn_80 rfl (by decide) b7 ?_
        refine m_iload_n dX8_turn_81 rfl ?_
        refine m_icmp_ne 103 dX8_turn_82 (by decide) (fun c8 => ?_) (fun c8 => ?_)
        · replace q := q.1 c8
          refine m_iinc (v := (l2 + 1)) (lv' := [.ref 3, .int l1, .int (l2 + 1), .int x2]) dX8_turn_103 (Nat.le_of_ble_eq_true rfl) rfl (congrArg (fun z => l2 + z) (by decide : Int32.ofInt 1 = 1)) rfl rfl ?_
          refine m_goto 2 dX8_turn_106 (by decide) ?_
          refine m_dropK (lv' := [.ref 3, .int l1, .int (l2 + 1), .retAddr 0]) [3] rfl ?_
          exact q
        · replace q := q.2 c8
          refine m_aload_n dX8_turn_85 rfl ?_
          refine m_iload_n dX8_turn_86 rfl ?_
          refine m_iload_n dX8_turn_87 rfl ?_
          refine m_iconst (v := 1) dX8_turn_88 (by decide) ?_
          refine m_iadd dX8_turn_89 ?_
          refine cl_X8_81 rfl (by decide) dX8_turn_90 (Nat.le_of_ble_eq_true rfl) (MCv_go q (fun h9 q => ?_))
          refine m_aload_n dX8_turn_93 rfl ?_
          refine m_iload_n dX8_turn_94 rfl ?_
          refine m_iconst (v := 2) dX8_turn_95 (by decide) ?_
          refine m_iadd dX8_turn_96 ?_
          refine m_iload_n dX8_turn_97 rfl ?_
          refine m_iconst (v := 3) dX8_turn_98 (by decide) ?_
          refine m_iadd dX8_turn_99 ?_
          refine cl_X8_81 rfl (by decide) dX8_turn_100 (Nat.le_of_ble_eq_true rfl) (MCv_go q (fun h10 q => ?_))
          refine m_iinc (v := (l2 + 1)) (lv' := [.ref 3, .int l1, .int (l2 + 1), .int x2]) dX8_turn_103 (Nat.le_of_ble_eq_true rfl) rfl (congrArg (fun z => l2 + z) (by decide : Int32.ofInt 1 = 1)) rfl rfl ?_
          refine m_goto 2 dX8_turn_106 (by decide) ?_
          refine m_dropK (lv' := [.ref 3, .int l1, .int (l2 + 1), .retAddr 0]) [3] rfl ?_
          exact q
      · replace q := q.2 c6
        refine m_aload_n dX8_turn_54 rfl ?_
        refine m_iload_n dX8_turn_55 rfl ?_
        refine m_iload_n dX8_turn_56 rfl ?_
        refine m_iconst (v := 2) dX8_turn_57 (by decide) ?_
        refine m_iadd dX8_turn_58 ?_
        refine cl_X8_81 rfl (by decide) dX8_turn_59 (Nat.le_of_ble_eq_true rfl) (MCv_go q (fun h11 q => ?_))
        refine m_aload_n dX8_turn_62 rfl ?_
        refine m_iload_n dX8_turn_63 rfl ?_
        refine m_iconst (v := 1) dX8_turn_64 (by decide) ?_
        refine m_iadd dX8_turn_65 ?_
        refine m_iload_n dX8_turn_66 rfl ?_
        refine m_iconst (v := 3) dX8_turn_67 (by decide) ?_
        refine m_iadd dX8_turn_68 ?_
        refine cl_X8_81 rfl (by decide) dX8_turn_69 (Nat.le_of_ble_eq_true rfl) (MCv_go q (fun h12 q => ?_))
        refine m_goto 103 dX8_turn_72 (by decide) ?_
        refine m_iinc (v := (l2 + 1)) (lv' := [.ref 3, .int l1, .int (l2 + 1), .int x2]) dX8_turn_103 (Nat.le_of_ble_eq_true rfl) rfl (congrArg (fun z => l2 + z) (by decide : Int32.ofInt 1 = 1)) rfl rfl ?_
        refine m_goto 2 dX8_turn_106 (by decide) ?_
        refine m_dropK (lv' := [.ref 3, .int l1, .int (l2 + 1), .retAddr 0]) [3] rfl ?_
        exact q
    · replace q := q.2 c4
      refine m_aload_n dX8_turn_23 rfl ?_
      refine gf_X8_9 rfl dX8_turn_24 ?_
      refine m_iload_n dX8_turn_27 rfl ?_
      obtain ⟨b13, q⟩ := q
      refine m_iaload dX8_turn_28 rfl (by decide) b13 ?_
      refine m_iload_n dX8_turn_29 rfl ?_
      refine m_icmp_ne 103 dX8_turn_30 (by decide) (fun c14 => ?_) (fun c14 => ?_)
      · replace q := q.1 c14
        refine m_iinc (v := (l2 + 1)) (lv' := [.ref 3, .int l1, .int (l2 + 1), .int x2]) dX8_turn_103 (Nat.le_of_ble_eq_true rfl) rfl (congrArg (fun z => l2 + z) (by decide : Int32.ofInt 1 = 1)) rfl rfl ?_
        refine m_goto 2 dX8_turn_106 (by decide) ?_
        refine m_dropK (lv' := [.ref 3, .int l1, .int (l2 + 1), .retAddr 0]) [3] rfl ?_
        exact q
      · replace q := q.2 c14
        refine m_aload_n dX8_turn_33 rfl ?_
        refine m_iload_n dX8_turn_34 rfl ?_
        refine m_iload_n dX8_turn_35 rfl ?_
        refine m_iconst (v := 1) dX8_turn_36 (by decide) ?_
        refine m_iadd dX8_turn_37 ?_
        refine cl_X8_81 rfl (by decide) dX8_turn_38 (Nat.le_of_ble_eq_true rfl) (MCv_go q (fun h15 q => ?_))
        refine m_goto 103 dX8_turn_41 (by decide) ?_
        refine m_iinc (v := (l2 + 1)) (lv' := [.ref 3, .int l1, .int (l2 + 1), .int x2]) dX8_turn_103 (Nat.le_of_ble_eq_true rfl) rfl (congrArg (fun z => l2 + z) (by decide : Int32.ofInt 1 = 1)) rfl rfl ?_
        refine m_goto 2 dX8_turn_106 (by decide) ?_
        refine m_dropK (lv' := [.ref 3, .int l1, .int (l2 + 1), .retAddr 0]) [3] rfl ?_
        exact q
set_option maxRecDepth 100000 in
theorem e_X8_swap {g : gT} {h : mh_T} {P : mh_T → Prop} (l1 : Int32) (l2 : Int32) (q : (vp_in l1 32) ∧ (∀ x2 : Int32, x2 = (mI h 26 l1.toNatClampNeg) → (vp_in l2 32) ∧ ((vp_in l1 32) ∧ ((vp_in l2 32) ∧ ((vp_in l1 32) ∧ (∀ x7 : Int32, x7 = (mI (wI (wI h 26 l1.toNatClampNeg (mI h 26 l2.toNatClampNeg)) 26 l2.toNatClampNeg x2) 27 l1.toNatClampNeg) → (vp_in l2 32) ∧ ((vp_in l1 32) ∧ ((vp_in l2 32) ∧ (P (wI (wI (wI (wI h 26 l1.toNatClampNeg (mI h 26 l2.toNatClampNeg)) 26 l2.toNatClampNeg x2) 27 l1.toNatClampNeg (mI (wI (wI h 26 l1.toNatClampNeg (mI h 26 l2.toNatClampNeg)) 26 l2.toNatClampNeg x2) 27 l2.toNatClampNeg)) 27 l2.toNatClampNeg x7)))))))))) : MCv g yX8_swap uX8_swap [.ref 3, .int l1, .int l2] h P := by
  refine m_enter (by decide) rfl (Nat.le_of_ble_eq_true rfl) (lv := [.ref 3, .int l1, .int l2, .retAddr 0, .retAddr 0]) rfl ?_
  refine m_aload_n dX8_swap_0 rfl ?_
  refine gf_X8_18 rfl dX8_swap_1 ?_
  refine m_iload_n dX8_swap_4 rfl ?_
  obtain ⟨b1, q⟩ := q
  refine m_iaload dX8_swap_5 rfl (by decide) b1 ?_
  obtain ⟨x2, ex2⟩ : ∃ z, z = (mI h 26 l1.toNatClampNeg) := ⟨_, rfl⟩
  rw [← ex2]
  replace q := q x2 ex2
  refine m_istore_n (lv' := [.ref 3, .int l1, .int l2, .int x2, .retAddr 0]) dX8_swap_6 (Nat.le_of_ble_eq_true rfl) rfl rfl ?_
  refine m_aload_n dX8_swap_7 rfl ?_
  refine gf_X8_18 rfl dX8_swap_8 ?_
  refine m_iload_n dX8_swap_11 rfl ?_
  refine m_aload_n dX8_swap_12 rfl ?_
  refine gf_X8_18 rfl dX8_swap_13 ?_
  refine m_iload_n dX8_swap_16 rfl ?_
  obtain ⟨b3, q⟩ := q
  refine m_iaload dX8_swap_17 rfl (by decide) b3 ?_
  obtain ⟨b4, q⟩ := q
  refine m_iastore dX8_swap_18 rfl (by decide) b4 ?_
  refine m_aload_n dX8_swap_19 rfl ?_
  refine gf_X8_18 rfl dX8_swap_20 ?_
  refine m_iload_n dX8_swap_23 rfl ?_
  refine m_iload_n dX8_swap_24 rfl ?_
  obtain ⟨b5, q⟩ := q
  refine m_iastore dX8_swap_25 rfl (by decide) b5 ?_
  refine m_aload_n dX8_swap_26 rfl ?_
  refine gf_X8_21 rfl dX8_swap_27 ?_
  refine m_iload_n dX8_swap_30 rfl ?_
  obtain ⟨b6, q⟩ := q
  refine m_iaload dX8_swap_31 rfl (by decide) b6 ?_
  obtain ⟨x7, ex7⟩ : ∃ z, z = (mI (wI (wI h 26 l1.toNatClampNeg (mI h 26 l2.toNatClampNeg)) 26 l2.toNatClampNeg x2) 27 l1.toNatClampNeg) := ⟨_, rfl⟩
  rw [← ex7]
  replace q := q x7 ex7
  refine m_istore (lv' := [.ref 3, .int l1, .int l2, .int x2, .int x7]) dX8_swap_32 (Nat.le_of_ble_eq_true rfl) rfl rfl ?_
  refine m_aload_n dX8_swap_34 rfl ?_
  refine gf_X8_21 rfl dX8_swap_35 ?_
  refine m_iload_n dX8_swap_38 rfl ?_
  refine m_aload_n dX8_swap_39 rfl ?_
  refine gf_X8_21 rfl dX8_swap_40 ?_
  refine m_iload_n dX8_swap_43 rfl ?_
  obtain ⟨b8, q⟩ := q
  refine m_iaload dX8_swap_44 rfl (by decide) b8 ?_
  obtain ⟨b9, q⟩ := q
  refine m_iastore dX8_swap_45 rfl (by decide) b9 ?_
  refine m_aload_n dX8_swap_46 rfl ?_
  refine gf_X8_21 rfl dX8_swap_47 ?_
  refine m_iload_n dX8_swap_50 rfl ?_
  refine m_iload dX8_swap_51 rfl ?_
  obtain ⟨b10, q⟩ := q
  refine m_iastore dX8_swap_53 rfl (by decide) b10 ?_
  exact m_vret dX8_swap_54 rfl q
set_option maxRecDepth 100000 in
theorem e_X8_remove {g : gT} {h : mh_T} {P : mh_T → Prop} (l1 : Int32) (q : ME g uX8_remove 2 [.ref 3, .int l1, .int l1, .retAddr 0] [] h (qV P)) : MCv g yX8_remove uX8_remove [.ref 3, .int l1] h P := by
  refine m_enter (by decide) rfl (Nat.le_of_ble_eq_true rfl) (lv := [.ref 3, .int l1, .retAddr 0, .retAddr 0]) rfl ?_
  refine m_iload_n dX8_remove_0 rfl ?_
  refine m_istore_n (lv' := [.ref 3, .int l1, .int l1, .retAddr 0]) dX8_remove_1 (Nat.le_of_ble_eq_true rfl) rfl rfl ?_
  exact q
set_option maxRecDepth 100000 in
theorem r_X8_remove_2 {g : gT} {h : mh_T} {P : mh_T → Prop} (l1 : Int32) (l2 : Int32) (q : (((mI h 3 2) - 1) ≤ l2 → P (wI (wI h 3 2 ((mI h 3 2) - 1)) 3 3 ((mI (wI h 3 2 ((mI h 3 2) - 1)) 3 3) + 1))) ∧ (¬ ((mI h 3 2) - 1) ≤ l2 → (vp_in (l2 + 1) 8) ∧ ((vp_in l2 8) ∧ ((vp_in (l2 + 1) 8) ∧ ((vp_in l2 8) ∧ (ME g uX8_remove 42 [.ref 3, .int l1, .int l2, .int 0] [] (wI (wI h 24 l2.toNatClampNeg (mI h 24 (l2 + 1).toNatClampNeg)) 25 l2.toNatClampNeg (mI (wI h 24 l2.toNatClampNeg (mI h 24 (l2 + 1).toNatClampNeg)) 25 (l2 + 1).toNatClampNeg)) (qV P))))))) : ME g uX8_remove 2 [.ref 3, .int l1, .int l2, .retAddr 0] [] h (qV P) := by
  refine m_iload_n dX8_remove_2 rfl ?_
  refine m_aload_n dX8_remove_3 rfl ?_
  refine gf_X8_38 rfl dX8_remove_4 ?_
  refine m_iconst (v := 1) dX8_remove_7 (by decide) ?_
  refine m_isub dX8_remove_8 ?_
  refine m_icmp_ge 103 dX8_remove_9 (by decide) (fun c1 => ?_) (fun c1 => ?_)
  · replace q := q.1 c1
    refine m_aload_n dX8_remove_103 rfl ?_
    refine m_dup dX8_remove_104 rfl ?_
    refine gf_X8_38 rfl dX8_remove_105 ?_
    refine m_iconst (v := 1) dX8_remove_108 (by decide) ?_
    refine m_isub dX8_remove_109 ?_
    refine pf_X8_38 rfl dX8_remove_110 ?_
    refine m_aload_n dX8_remove_113 rfl ?_
    refine m_dup dX8_remove_114 rfl ?_
    refine gf_X8_53 rfl dX8_remove_115 ?_
    refine m_iconst (v := 1) dX8_remove_118 (by decide) ?_
    refine m_iadd dX8_remove_119 ?_
    refine pf_X8_53 rfl dX8_remove_120 ?_
    exact m_vret dX8_remove_123 rfl q
  · replace q := q.2 c1
    refine m_aload_n dX8_remove_12 rfl ?_
    refine gf_X8_9 rfl dX8_remove_13 ?_
    refine m_iload_n dX8_remove_16 rfl ?_
    refine m_aload_n dX8_remove_17 rfl ?_
    refine gf_X8_9 rfl dX8_remove_18 ?_
    refine m_iload_n dX8_remove_21 rfl ?_
    refine m_iconst (v := 1) dX8_remove_22 (by decide) ?_
    refine m_iadd dX8_remove_23 ?_
    obtain ⟨b2, q⟩ := q
    refine m_iaload dX8_remove_24 rfl (by decide) b2 ?_
    obtain ⟨b3, q⟩ := q
    refine m_iastore dX8_remove_25 rfl (by decide) b3 ?_
    refine m_aload_n dX8_remove_26 rfl ?_
    refine gf_X8_15 rfl dX8_remove_27 ?_
    refine m_iload_n dX8_remove_30 rfl ?_
    refine m_aload_n dX8_remove_31 rfl ?_
    refine gf_X8_15 rfl dX8_remove_32 ?_
    refine m_iload_n dX8_remove_35 rfl ?_
    refine m_iconst (v := 1) dX8_remove_36 (by decide) ?_
    refine m_iadd dX8_remove_37 ?_
    obtain ⟨b4, q⟩ := q
    refine m_iaload dX8_remove_38 rfl (by decide) b4 ?_
    obtain ⟨b5, q⟩ := q
    refine m_iastore dX8_remove_39 rfl (by decide) b5 ?_
    refine m_iconst (v := 0) dX8_remove_40 (by decide) ?_
    refine m_istore_n (lv' := [.ref 3, .int l1, .int l2, .int 0]) dX8_remove_41 (Nat.le_of_ble_eq_true rfl) rfl rfl ?_
    exact q
set_option maxRecDepth 100000 in
theorem r_X8_remove_42 {g : gT} {h : mh_T} {P : mh_T → Prop} (l1 : Int32) (l2 : Int32) (l3 : Int32) (q : (4 ≤ l3 → ME g uX8_remove 2 [.ref 3, .int l1, .int (l2 + 1), .retAddr 0] [] h (qV P)) ∧ (¬ 4 ≤ l3 → (vp_in (((4 * l2) + 4) + l3) 32) ∧ ((vp_in ((4 * l2) + l3) 32) ∧ ((vp_in (((4 * l2) + 4) + l3) 32) ∧ ((vp_in ((4 * l2) + l3) 32) ∧ (ME g uX8_remove 42 [.ref 3, .int l1, .int l2, .int (l3 + 1)] [] (wI (wI h 26 ((4 * l2) + l3).toNatClampNeg (mI h 26 (((4 * l2) + 4) + l3).toNatClampNeg)) 27 ((4 * l2) + l3).toNatClampNeg (mI (wI h 26 ((4 * l2) + l3).toNatClampNeg (mI h 26 (((4 * l2) + 4) + l3).toNatClampNeg)) 27 (((4 * l2) + 4) + l3).toNatClampNeg)) (qV P))))))) : ME g uX8_remove 42 [.ref 3, .int l1, .int l2, .int l3] [] h (qV P) := by
  refine m_iload_n dX8_remove_42 rfl ?_
  refine m_iconst (v := 4) dX8_remove_43 (by decide) ?_
  refine m_icmp_ge 97 dX8_remove_44 (by decide) (fun c1 => ?_) (fun c1 => ?_)
  · replace q := q.1 c1
    refine m_iinc (v := (l2 + 1)) (lv' := [.ref 3, .int l1, .int (l2 + 1), .int l3]) dX8_remove_97 (Nat.le_of_ble_eq_true rfl) rfl (congrArg (fun z => l2 + z) (by decide : Int32.ofInt 1 = 1)) rfl rfl ?_
    refine m_goto 2 dX8_remove_100 (by decide) ?_
    refine m_dropK (lv' := [.ref 3, .int l1, .int (l2 + 1), .retAddr 0]) [3] rfl ?_
    exact q
  · replace q := q.2 c1
    refine m_aload_n dX8_remove_47 rfl ?_
    refine gf_X8_18 rfl dX8_remove_48 ?_
    refine m_iconst (v := 4) dX8_remove_51 (by decide) ?_
    refine m_iload_n dX8_remove_52 rfl ?_
    refine m_imul dX8_remove_53 ?_
    refine m_iload_n dX8_remove_54 rfl ?_
    refine m_iadd dX8_remove_55 ?_
    refine m_aload_n dX8_remove_56 rfl ?_
    refine gf_X8_18 rfl dX8_remove_57 ?_
    refine m_iconst (v := 4) dX8_remove_60 (by decide) ?_
    refine m_iload_n dX8_remove_61 rfl ?_
    refine m_imul dX8_remove_62 ?_
    refine m_iconst (v := 4) dX8_remove_63 (by decide) ?_
    refine m_iadd dX8_remove_64 ?_
    refine m_iload_n dX8_remove_65 rfl ?_
    refine m_iadd dX8_remove_66 ?_
    obtain ⟨b2, q⟩ := q
    refine m_iaload dX8_remove_67 rfl (by decide) b2 ?_
    obtain ⟨b3, q⟩ := q
    refine m_iastore dX8_remove_68 rfl (by decide) b3 ?_
    refine m_aload_n dX8_remove_69 rfl ?_
    refine gf_X8_21 rfl dX8_remove_70 ?_
    refine m_iconst (v := 4) dX8_remove_73 (by decide) ?_
    refine m_iload_n dX8_remove_74 rfl ?_
    refine m_imul dX8_remove_75 ?_
    refine m_iload_n dX8_remove_76 rfl ?_
    refine m_iadd dX8_remove_77 ?_
    refine m_aload_n dX8_remove_78 rfl ?_
    refine gf_X8_21 rfl dX8_remove_79 ?_
    refine m_iconst (v := 4) dX8_remove_82 (by decide) ?_
    refine m_iload_n dX8_remove_83 rfl ?_
    refine m_imul dX8_remove_84 ?_
    refine m_iconst (v := 4) dX8_remove_85 (by decide) ?_
    refine m_iadd dX8_remove_86 ?_
    refine m_iload_n dX8_remove_87 rfl ?_
    refine m_iadd dX8_remove_88 ?_
    obtain ⟨b4, q⟩ := q
    refine m_iaload dX8_remove_89 rfl (by decide) b4 ?_
    obtain ⟨b5, q⟩ := q
    refine m_iastore dX8_remove_90 rfl (by decide) b5 ?_
    refine m_iinc (v := (l3 + 1)) (lv' := [.ref 3, .int l1, .int l2, .int (l3 + 1)]) dX8_remove_91 (Nat.le_of_ble_eq_true rfl) rfl (congrArg (fun z => l3 + z) (by decide : Int32.ofInt 1 = 1)) rfl rfl ?_
    refine m_goto 42 dX8_remove_94 (by decide) ?_
    exact q
set_option maxRecDepth 100000 in
theorem e_X8_merge {g : gT} {h : mh_T} {P : mh_T → Prop} (l1 : Int32) (q : ∀ x1 : Int32, x1 = ((mI h 3 2) - 1) → ME g uX8_merge 7 [.ref 3, .int l1, .int x1] [] h (qV P)) : MCv g yX8_merge uX8_merge [.ref 3, .int l1] h P := by
  refine m_enter (by decide) rfl (Nat.le_of_ble_eq_true rfl) (lv := [.ref 3, .int l1, .retAddr 0]) rfl ?_
  refine m_aload_n dX8_merge_0 rfl ?_
  refine gf_X8_38 rfl dX8_merge_1 ?_
  refine m_iconst (v := 1) dX8_merge_4 (by decide) ?_
  refine m_isub dX8_merge_5 ?_
  obtain ⟨x1, ex1⟩ : ∃ z, z = ((mI h 3 2) - 1) := ⟨_, rfl⟩
  rw [← ex1]
  replace q := q x1 ex1
  refine m_istore_n (lv' := [.ref 3, .int l1, .int x1]) dX8_merge_6 (Nat.le_of_ble_eq_true rfl) rfl rfl ?_
  exact q
set_option maxRecDepth 100000 in
theorem r_X8_merge_7 {g : gT} {h : mh_T} {P : mh_T → Prop} (l1 : Int32) (l2 : Int32) (q : (l2 < 0 → P (wI h 3 3 ((mI h 3 3) + 1))) ∧ (¬ l2 < 0 → (vp_in l2 8) ∧ ((0 ≤ (mI h 25 l2.toNatClampNeg) → (vp_in l2 8) ∧ ((¬ (mI h 24 l2.toNatClampNeg) = l1 → (vp_in l2 8) ∧ ((¬ (mI h 25 l2.toNatClampNeg) = l1 → ME g uX8_merge 7 [.ref 3, .int l1, .int (l2 + (-1))] [] h (qV P)) ∧ ((mI h 25 l2.toNatClampNeg) = l1 → MCv g yX8_putTogether uX8_putTogether [.ref 3, .int l2, .int 1, .int 2] h (fun h8 => ME g uX8_merge 7 [.ref 3, .int l1, .int (l2 + (-1))] [] h8 (qV P))))) ∧ ((mI h 24 l2.toNatClampNeg) = l1 → (vp_in l2 8) ∧ ((vp_in l2 8) ∧ (MCv g yX8_putTogether uX8_putTogether [.ref 3, .int l2, .int 2, .int 1] (wI h 24 l2.toNatClampNeg (mI h 25 l2.toNatClampNeg)) (fun h11 => ME g uX8_merge 7 [.ref 3, .int l1, .int (l2 + (-1))] [] h11 (qV P))))))) ∧ (¬ 0 ≤ (mI h 25 l2.toNatClampNeg) → (vp_in l2 8) ∧ ((¬ (mI h 24 l2.toNatClampNeg) = l1 → ME g uX8_merge 7 [.ref 3, .int l1, .int (l2 + (-1))] [] h (qV P)) ∧ ((mI h 24 l2.toNatClampNeg) = l1 → MCv g yX8_remove uX8_remove [.ref 3, .int l2] h (fun h14 => ME g uX8_merge 7 [.ref 3, .int l1, .int (l2 + (-1))] [] h14 (qV P)))))))) : ME g uX8_merge 7 [.ref 3, .int l1, .int l2] [] h (qV P) := by
  refine m_iload_n dX8_merge_7 rfl ?_
  refine m_if_lt 93 dX8_merge_8 (by decide) (fun c1 => ?_) (fun c1 => ?_)
  · replace q := q.1 c1
    refine m_aload_n dX8_merge_93 rfl ?_
    refine m_dup dX8_merge_94 rfl ?_
    refine gf_X8_53 rfl dX8_merge_95 ?_
    refine m_iconst (v := 1) dX8_merge_98 (by decide) ?_
    refine m_iadd dX8_merge_99 ?_
    refine pf_X8_53 rfl dX8_merge_100 ?_
    exact m_vret dX8_merge_103 rfl q
  · replace q := q.2 c1
    refine m_aload_n dX8_merge_11 rfl ?_
    refine gf_X8_15 rfl dX8_merge_12 ?_
    refine m_iload_n dX8_merge_15 rfl ?_
    obtain ⟨b2, q⟩ := q
    refine m_iaload dX8_merge_16 rfl (by decide) b2 ?_
    refine m_if_ge 38 dX8_merge_17 (by decide) (fun c3 => ?_) (fun c3 => ?_)
    · replace q := q.1 c3
      refine m_aload_n dX8_merge_38 rfl ?_
      refine gf_X8_9 rfl dX8_merge_39 ?_
      refine m_iload_n dX8_merge_42 rfl ?_
      obtain ⟨b4, q⟩ := q
      refine m_iaload dX8_merge_43 rfl (by decide) b4 ?_
      refine m_iload_n dX8_merge_44 rfl ?_
      refine m_icmp_ne 70 dX8_merge_45 (by decide) (fun c5 => ?_) (fun c5 => ?_)
      · replace q := q.1 c5
        refine m_aload_n dX8_merge_70 rfl ?_
        refine gf_X8_15 rfl dX8_merge_71 ?_
        refine m_iload_n dX8_merge_74 rfl ?_
        obtain ⟨b6, q⟩ := q
        refine m_iaload dX8_merge_75 rfl (by decide) b6 ?_
        refine m_iload_n dX8_merge_76 rfl ?_
        refine m_icmp_ne 87 dX8_merge_77 (by decide) (fun c7 => ?_) (fun c7 => ?_)
        · replace q := q.1 c7
          refine m_iinc (v := (l2 + (-1))) (lv' := [.ref 3, .int l1, .int (l2 + (-1))]) dX8_merge_87 (Nat.le_of_ble_eq_true rfl) rfl (congrArg (fun z => l2 + z) (by decide : Int32.ofInt (-1) = -1)) rfl rfl ?_
          refine m_goto 7 dX8_merge_90 (by decide) ?_
          exact q
        · replace q := q.2 c7
          refine m_aload_n dX8_merge_80 rfl ?_
          refine m_iload_n dX8_merge_81 rfl ?_
          refine m_iconst (v := 1) dX8_merge_82 (by decide) ?_
          refine m_iconst (v := 2) dX8_merge_83 (by decide) ?_
          refine cl_X8_89 rfl (by decide) dX8_merge_84 (Nat.le_of_ble_eq_true rfl) (MCv_go q (fun h8 q => ?_))
          refine m_iinc (v := (l2 + (-1))) (lv' := [.ref 3, .int l1, .int (l2 + (-1))]) dX8_merge_87 (Nat.le_of_ble_eq_true rfl) rfl (congrArg (fun z => l2 + z) (by decide : Int32.ofInt (-1) = -1)) rfl rfl ?_
          refine m_goto 7 dX8_merge_90 (by decide) ?_
          exact q
      · replace q := q.2 c5
        refine m_aload_n dX8_merge_48 rfl ?_
        refine gf_X8_9 rfl dX8_merge_49 ?_
        refine m_iload_n dX8_merge_52 rfl ?_
        refine m_aload_n dX8_merge_53 rfl ?_
        refine gf_X8_15 rfl dX8_merge_54 ?_
        refine m_iload_n dX8_merge_57 rfl ?_
        obtain ⟨b9, q⟩ := q
        refine m_iaload dX8_merge_58 rfl (by decide) b9 ?_
        obtain ⟨b10, q⟩ := q
        refine m_iastore dX8_merge_59 rfl (by decide) b10 ?_
        refine m_aload_n dX8_merge_60 rfl ?_
        refine m_iload_n dX8_merge_61 rfl ?_
        refine m_iconst (v := 2) dX8_merge_62 (by decide) ?_
        refine m_iconst (v := 1) dX8_merge_63 (by decide) ?_
        refine cl_X8_89 rfl (by decide) dX8_merge_64 (Nat.le_of_ble_eq_true rfl) (MCv_go q (fun h11 q => ?_))
        refine m_goto 87 dX8_merge_67 (by decide) ?_
        refine m_iinc (v := (l2 + (-1))) (lv' := [.ref 3, .int l1, .int (l2 + (-1))]) dX8_merge_87 (Nat.le_of_ble_eq_true rfl) rfl (congrArg (fun z => l2 + z) (by decide : Int32.ofInt (-1) = -1)) rfl rfl ?_
        refine m_goto 7 dX8_merge_90 (by decide) ?_
        exact q
    · replace q := q.2 c3
      refine m_aload_n dX8_merge_20 rfl ?_
      refine gf_X8_9 rfl dX8_merge_21 ?_
      refine m_iload_n dX8_merge_24 rfl ?_
      obtain ⟨b12, q⟩ := q
      refine m_iaload dX8_merge_25 rfl (by decide) b12 ?_
      refine m_iload_n dX8_merge_26 rfl ?_
      refine m_icmp_ne 87 dX8_merge_27 (by decide) (fun c13 => ?_) (fun c13 => ?_)
      · replace q := q.1 c13
        refine m_iinc (v := (l2 + (-1))) (lv' := [.ref 3, .int l1, .int (l2 + (-1))]) dX8_merge_87 (Nat.le_of_ble_eq_true rfl) rfl (congrArg (fun z => l2 + z) (by decide : Int32.ofInt (-1) = -1)) rfl rfl ?_
        refine m_goto 7 dX8_merge_90 (by decide) ?_
        exact q
      · replace q := q.2 c13
        refine m_aload_n dX8_merge_30 rfl ?_
        refine m_iload_n dX8_merge_31 rfl ?_
        refine cl_X8_85 rfl (by decide) dX8_merge_32 (Nat.le_of_ble_eq_true rfl) (MCv_go q (fun h14 q => ?_))
        refine m_goto 87 dX8_merge_35 (by decide) ?_
        refine m_iinc (v := (l2 + (-1))) (lv' := [.ref 3, .int l1, .int (l2 + (-1))]) dX8_merge_87 (Nat.le_of_ble_eq_true rfl) rfl (congrArg (fun z => l2 + z) (by decide : Int32.ofInt (-1) = -1)) rfl rfl ?_
        refine m_goto 7 dX8_merge_90 (by decide) ?_
        exact q
set_option maxRecDepth 100000 in
theorem e_X8_putTogether {g : gT} {h : mh_T} {P : mh_T → Prop} (l1 : Int32) (l2 : Int32) (l3 : Int32) (q : ∀ x1 : Int32, x1 = (4 * l1) → (vp_in x1 32) ∧ ((vp_in (x1 + l2) 32) ∧ (∀ x4 : Int32, x4 = ((mI h 26 x1.toNatClampNeg) + (mI h 26 (x1 + l2).toNatClampNeg)) → (vp_in (x1 + l3) 32) ∧ ((vp_in ((x1 + l3) + l2) 32) ∧ (∀ x7 : Int32, x7 = ((mI h 26 (x1 + l3).toNatClampNeg) + (mI h 26 ((x1 + l3) + l2).toNatClampNeg)) → (vp_in l1 8) ∧ ((vp_in x1 32) ∧ ((vp_in (x1 + 1) 32) ∧ ((vp_in (x1 + 2) 32) ∧ ((vp_in (x1 + 3) 32) ∧ (ME g uX8_putTogether 98 [.ref 3, .int l1, .int l2, .int l3, .int x1, .int x4, .int x7, .int 0] [] (wI (wI (wI (wI (wI h 25 l1.toNatClampNeg (-2)) 26 x1.toNatClampNeg x4) 26 (x1 + 1).toNatClampNeg x7) 26 (x1 + 2).toNatClampNeg 0) 26 (x1 + 3).toNatClampNeg 0) (qV P))))))))))) : MCv g yX8_putTogether uX8_putTogether [.ref 3, .int l1, .int l2, .int l3] h P := by
  refine m_enter (by decide) rfl (Nat.le_of_ble_eq_true rfl) (lv := [.ref 3, .int l1, .int l2, .int l3, .retAddr 0, .retAddr 0, .retAddr 0, .retAddr 0]) rfl ?_
  refine m_iconst (v := 4) dX8_putTogether_0 (by decide) ?_
  refine m_iload_n dX8_putTogether_1 rfl ?_
  refine m_imul dX8_putTogether_2 ?_
  obtain ⟨x1, ex1⟩ : ∃ z, z = (4 * l1) := ⟨_, rfl⟩
  rw [← ex1]
  replace q := q x1 ex1
  refine m_istore (lv' := [.ref 3, .int l1, .int l2, .int l3, .int x1, .retAddr 0, .retAddr 0, .retAddr 0]) dX8_putTogether_3 (Nat.le_of_ble_eq_true rfl) rfl rfl ?_
  refine m_aload_n dX8_putTogether_5 rfl ?_
  refine gf_X8_18 rfl dX8_putTogether_6 ?_
  refine m_iload dX8_putTogether_9 rfl ?_
  obtain ⟨b2, q⟩ := q
  refine m_iaload dX8_putTogether_11 rfl (by decide) b2 ?_
  refine m_aload_n dX8_putTogether_12 rfl ?_
  refine gf_X8_18 rfl dX8_putTogether_13 ?_
  refine m_iload dX8_putTogether_16 rfl ?_
  refine m_iload_n dX8_putTogether_18 rfl ?_
  refine m_iadd dX8_putTogether_19 ?_
  obtain ⟨b3, q⟩ := q
  refine m_iaload dX8_putTogether_20 rfl (by decide) b3 ?_
  refine m_iadd dX8_putTogether_21 ?_
  obtain ⟨x4, ex4⟩ : ∃ z, z = ((mI h 26 x1.toNatClampNeg) + (mI h 26 (x1 + l2).toNatClampNeg)) := ⟨_, rfl⟩
  rw [← ex4]
  replace q := q x4 ex4
  refine m_istore (lv' := [.ref 3, .int l1, .int l2, .int l3, .int x1, .int x4, .retAddr 0, .retAddr 0]) dX8_putTogether_22 (Nat.le_of_ble_eq_true rfl) rfl rfl ?_
  refine m_aload_n dX8_putTogether_24 rfl ?_
  refine gf_X8_18 rfl dX8_putTogether_25 ?_
  refine m_iload dX8_putTogether_28 rfl ?_
  refine m_iload_n dX8_putTogether_30 rfl ?_
  refine m_iadd dX8_putTogether_31 ?_
  obtain ⟨b5, q⟩ := q
  refine m_iaload dX8_putTogether_32 rfl (by decide) b5 ?_
  refine m_aload_n dX8_putTogether_33 rfl ?_
  refine gf_X8_18 rfl dX8_putTogether_34 ?_
  refine m_iload dX8_putTogether_37 rfl ?_
  refine m_iload_n dX8_putTogether_39 rfl ?_
  refine m_iadd dX8_putTogether_40 ?_
  refine m_iload_n dX8_putTogether_41 rfl ?_
  refine m_iadd dX8_putTogether_42 ?_
  obtain ⟨b6, q⟩ := q
  refine m_iaload dX8_putTogether_43 rfl (by decide) b6 ?_
  refine m_iadd dX8_putTogether_44 ?_
  obtain ⟨x7, ex7⟩ : ∃ z, z = ((mI h 26 (x1 + l3).toNatClampNeg) + (mI h 26 ((x1 + l3) + l2).toNatClampNeg)) := ⟨_, rfl⟩
  rw [← ex7]
  replace q := q x7 ex7
  refine m_istore (lv' := [.ref 3, .int l1, .int l2, .int l3, .int x1, .int x4, .int x7, .retAddr 0]) dX8_putTogether_45 (Nat.le_of_ble_eq_true rfl) rfl rfl ?_
  refine m_aload_n dX8_putTogether_47 rfl ?_
  refine gf_X8_15 rfl dX8_putTogether_48 ?_
  refine m_iload_n dX8_putTogether_51 rfl ?_
  refine m_bipush (v := (-2)) dX8_putTogether_52 (by decide) ?_
  obtain ⟨b8, q⟩ := q
  refine m_iastore dX8_putTogether_54 rfl (by decide) b8 ?_
  refine m_aload_n dX8_putTogether_55 rfl ?_
  refine gf_X8_18 rfl dX8_putTogether_56 ?_
  refine m_iload dX8_putTogether_59 rfl ?_
  refine m_iload dX8_putTogether_61 rfl ?_
  obtain ⟨b9, q⟩ := q
  refine m_iastore dX8_putTogether_63 rfl (by decide) b9 ?_
  refine m_aload_n dX8_putTogether_64 rfl ?_
  refine gf_X8_18 rfl dX8_putTogether_65 ?_
  refine m_iload dX8_putTogether_68 rfl ?_
  refine m_iconst (v := 1) dX8_putTogether_70 (by decide) ?_
  refine m_iadd dX8_putTogether_71 ?_
  refine m_iload dX8_putTogether_72 rfl ?_
  obtain ⟨b10, q⟩ := q
  refine m_iastore dX8_putTogether_74 rfl (by decide) b10 ?_
  refine m_aload_n dX8_putTogether_75 rfl ?_
  refine gf_X8_18 rfl dX8_putTogether_76 ?_
  refine m_iload dX8_putTogether_79 rfl ?_
  refine m_iconst (v := 2) dX8_putTogether_81 (by decide) ?_
  refine m_iadd dX8_putTogether_82 ?_
  refine m_iconst (v := 0) dX8_putTogether_83 (by decide) ?_
  obtain ⟨b11, q⟩ := q
  refine m_iastore dX8_putTogether_84 rfl (by decide) b11 ?_
  refine m_aload_n dX8_putTogether_85 rfl ?_
  refine gf_X8_18 rfl dX8_putTogether_86 ?_
  refine m_iload dX8_putTogether_89 rfl ?_
  refine m_iconst (v := 3) dX8_putTogether_91 (by decide) ?_
  refine m_iadd dX8_putTogether_92 ?_
  refine m_iconst (v := 0) dX8_putTogether_93 (by decide) ?_
  obtain ⟨b12, q⟩ := q
  refine m_iastore dX8_putTogether_94 rfl (by decide) b12 ?_
  refine m_iconst (v := 0) dX8_putTogether_95 (by decide) ?_
  refine m_istore (lv' := [.ref 3, .int l1, .int l2, .int l3, .int x1, .int x4, .int x7, .int 0]) dX8_putTogether_96 (Nat.le_of_ble_eq_true rfl) rfl rfl ?_
  exact q
set_option maxRecDepth 100000 in
theorem r_X8_putTogether_98 {g : gT} {h : mh_T} {P : mh_T → Prop} (l1 : Int32) (l2 : Int32) (l3 : Int32) (l4 : Int32) (l5 : Int32) (l6 : Int32) (l7 : Int32) (q : (4 ≤ l7 → P h) ∧ (¬ 4 ≤ l7 → (vp_in (l4 + l7) 32) ∧ (ME g uX8_putTogether 98 [.ref 3, .int l1, .int l2, .int l3, .int l4, .int l5, .int l6, .int (l7 + 1)] [] (wI h 27 (l4 + l7).toNatClampNeg 0) (qV P)))) : ME g uX8_putTogether 98 [.ref 3, .int l1, .int l2, .int l3, .int l4, .int l5, .int l6, .int l7] [] h (qV P) := by
  refine m_iload dX8_putTogether_98 rfl ?_
  refine m_iconst (v := 4) dX8_putTogether_100 (by decide) ?_
  refine m_icmp_ge 121 dX8_putTogether_101 (by decide) (fun c1 => ?_) (fun c1 => ?_)
  · replace q := q.1 c1
    exact m_vret dX8_putTogether_121 rfl q
  · replace q := q.2 c1
    refine m_aload_n dX8_putTogether_104 rfl ?_
    refine gf_X8_21 rfl dX8_putTogether_105 ?_
    refine m_iload dX8_putTogether_108 rfl ?_
    refine m_iload dX8_putTogether_110 rfl ?_
    refine m_iadd dX8_putTogether_112 ?_
    refine m_iconst (v := 0) dX8_putTogether_113 (by decide) ?_
    obtain ⟨b2, q⟩ := q
    refine m_iastore dX8_putTogether_114 rfl (by decide) b2 ?_
    refine m_iinc (v := (l7 + 1)) (lv' := [.ref 3, .int l1, .int l2, .int l3, .int l4, .int l5, .int l6, .int (l7 + 1)]) dX8_putTogether_115 (Nat.le_of_ble_eq_true rfl) rfl (congrArg (fun z => l7 + z) (by decide : Int32.ofInt 1 = 1)) rfl rfl ?_
    refine m_goto 98 dX8_putTogether_118 (by decide) ?_
    exact q
set_option maxRecDepth 100000 in
theorem e_X8_move {g : gT} {h : mh_T} {P : mh_T → Prop} (l1 : Int32) (l2 : Int32) (l3 : Int32) (q : (vp_in l1 32) ∧ ((vp_in l1 32) ∧ ((vp_in l2 32) ∧ ((vp_in l2 32) ∧ (P (wI (wI (wI h 26 l1.toNatClampNeg ((mI h 26 l1.toNatClampNeg) - l3)) 26 l2.toNatClampNeg ((mI (wI h 26 l1.toNatClampNeg ((mI h 26 l1.toNatClampNeg) - l3)) 26 l2.toNatClampNeg) + l3)) 3 3 ((mI (wI (wI h 26 l1.toNatClampNeg ((mI h 26 l1.toNatClampNeg) - l3)) 26 l2.toNatClampNeg ((mI (wI h 26 l1.toNatClampNeg ((mI h 26 l1.toNatClampNeg) - l3)) 26 l2.toNatClampNeg) + l3)) 3 3) + 1))))))) : MCv g yX8_move uX8_move [.ref 3, .int l1, .int l2, .int l3] h P := by
  refine m_enter (by decide) rfl (Nat.le_of_ble_eq_true rfl) (lv := [.ref 3, .int l1, .int l2, .int l3]) rfl ?_
  refine m_aload_n dX8_move_0 rfl ?_
  refine gf_X8_18 rfl dX8_move_1 ?_
  refine m_iload_n dX8_move_4 rfl ?_
  refine m_dup2 dX8_move_5 rfl rfl ?_
  obtain ⟨b1, q⟩ := q
  refine m_iaload dX8_move_6 rfl (by decide) b1 ?_
  refine m_iload_n dX8_move_7 rfl ?_
  refine m_isub dX8_move_8 ?_
  obtain ⟨b2, q⟩ := q
  refine m_iastore dX8_move_9 rfl (by decide) b2 ?_
  refine m_aload_n dX8_move_10 rfl ?_
  refine gf_X8_18 rfl dX8_move_11 ?_
  refine m_iload_n dX8_move_14 rfl ?_
  refine m_dup2 dX8_move_15 rfl rfl ?_
  obtain ⟨b3, q⟩ := q
  refine m_iaload dX8_move_16 rfl (by decide) b3 ?_
  refine m_iload_n dX8_move_17 rfl ?_
  refine m_iadd dX8_move_18 ?_
  obtain ⟨b4, q⟩ := q
  refine m_iastore dX8_move_19 rfl (by decide) b4 ?_
  refine m_aload_n dX8_move_20 rfl ?_
  refine m_dup dX8_move_21 rfl ?_
  refine gf_X8_53 rfl dX8_move_22 ?_
  refine m_iconst (v := 1) dX8_move_25 (by decide) ?_
  refine m_iadd dX8_move_26 ?_
  refine pf_X8_53 rfl dX8_move_27 ?_
  exact m_vret dX8_move_30 rfl q
set_option maxRecDepth 100000 in
theorem e_X2_set {g : gT} {h : mh_T} {P : mh_T → Prop} (l1 : Int64) (l3 : Int64) (q : MCl g yX2_commonPart uX2_commonPart [.long l1, .long l3] h (fun r2 h1 => (¬ (lg_cmp r2 0) = 0 → (¬ r2 = 0) ∧ ((¬ (lg_cmp r2 0) = 0 → (¬ r2 = 0) ∧ (P (wL (wL h1 5 0 (l1 / r2)) 5 1 (l3 / r2)))) ∧ ((lg_cmp r2 0) = 0 → P (wL (wL h1 5 0 (l1 / r2)) 5 1 l3)))) ∧ ((lg_cmp r2 0) = 0 → (¬ (lg_cmp r2 0) = 0 → (¬ r2 = 0) ∧ (P (wL (wL h1 5 0 l1) 5 1 (l3 / r2)))) ∧ ((lg_cmp r2 0) = 0 → P (wL (wL h1 5 0 l1) 5 1 l3))))) : MCv g yX2_set uX2_set [.ref 5, .long l1, .long l3] h P := by
  refine m_enter (by decide) rfl (Nat.le_of_ble_eq_true rfl) (lv := [.ref 5, .long l1, .retAddr 0, .long l3, .retAddr 0, .retAddr 0, .retAddr 0]) rfl ?_
  refine m_lload_n dX2_set_0 rfl ?_
  refine m_lload_n dX2_set_1 rfl ?_
  refine cl_X2_13 rfl (by decide) dX2_set_2 (Nat.le_of_ble_eq_true rfl) (MCl_go q (fun r2 h1 q => ?_))
  refine m_lstore (lv' := [.ref 5, .long l1, .retAddr 0, .long l3, .retAddr 0, .long r2, .retAddr 0]) dX2_set_5 (Nat.le_of_ble_eq_true rfl) rfl rfl ?_
  refine m_aload_n dX2_set_7 rfl ?_
  refine m_lload dX2_set_8 rfl ?_
  refine m_lconst (v := 0) dX2_set_10 (by decide) ?_
  refine m_lcmp dX2_set_11 ?_
  refine m_if_ne 19 dX2_set_12 (by decide) (fun c3 => ?_) (fun c3 => ?_)
  · replace q := q.1 c3
    refine m_lload_n dX2_set_19 rfl ?_
    refine m_lload dX2_set_20 rfl ?_
    obtain ⟨b4, q⟩ := q
    refine m_ldiv dX2_set_22 b4 ?_
    refine pf_X2_17 rfl dX2_set_23 ?_
    refine m_aload_n dX2_set_26 rfl ?_
    refine m_lload dX2_set_27 rfl ?_
    refine m_lconst (v := 0) dX2_set_29 (by decide) ?_
    refine m_lcmp dX2_set_30 ?_
    refine m_if_ne 38 dX2_set_31 (by decide) (fun c5 => ?_) (fun c5 => ?_)
    · replace q := q.1 c5
      refine m_lload_n dX2_set_38 rfl ?_
      refine m_lload dX2_set_39 rfl ?_
      obtain ⟨b6, q⟩ := q
      refine m_ldiv dX2_set_41 b6 ?_
      refine pf_X2_7 rfl dX2_set_42 ?_
      exact m_vret dX2_set_45 rfl q
    · replace q := q.2 c5
      refine m_lload_n dX2_set_34 rfl ?_
      refine m_goto 42 dX2_set_35 (by decide) ?_
      refine pf_X2_7 rfl dX2_set_42 ?_
      exact m_vret dX2_set_45 rfl q
  · replace q := q.2 c3
    refine m_lload_n dX2_set_15 rfl ?_
    refine m_goto 23 dX2_set_16 (by decide) ?_
    refine pf_X2_17 rfl dX2_set_23 ?_
    refine m_aload_n dX2_set_26 rfl ?_
    refine m_lload dX2_set_27 rfl ?_
    refine m_lconst (v := 0) dX2_set_29 (by decide) ?_
    refine m_lcmp dX2_set_30 ?_
    refine m_if_ne 38 dX2_set_31 (by decide) (fun c7 => ?_) (fun c7 => ?_)
    · replace q := q.1 c7
      refine m_lload_n dX2_set_38 rfl ?_
      refine m_lload dX2_set_39 rfl ?_
      obtain ⟨b8, q⟩ := q
      refine m_ldiv dX2_set_41 b8 ?_
      refine pf_X2_7 rfl dX2_set_42 ?_
      exact m_vret dX2_set_45 rfl q
    · replace q := q.2 c7
      refine m_lload_n dX2_set_34 rfl ?_
      refine m_goto 42 dX2_set_35 (by decide) ?_
      refine pf_X2_7 rfl dX2_set_42 ?_
      exact m_vret dX2_set_45 rfl q
set_option maxRecDepth 100000 in
theorem e_X2_part {g : gT} {h : mh_T} {P : Int32 → mh_T → Prop} (l1 : Int32) (q : (l1 = 0 → P (Int64.toInt32 (mL h 5 0)) h) ∧ (¬ l1 = 0 → P (Int64.toInt32 (mL h 5 1)) h)) : MCi g yX2_part uX2_part [.ref 5, .int l1] h P := by
  refine m_enter (by decide) rfl (Nat.le_of_ble_eq_true rfl) (lv := [.ref 5, .int l1]) rfl ?_
  refine m_iload_n dX2_part_0 rfl ?_
  refine m_if_eq 11 dX2_part_1 (by decide) (fun c1 => ?_) (fun c1 => ?_)
  · replace q := q.1 c1
    refine m_aload_n dX2_part_11 rfl ?_
    refine gf_X2_17 rfl dX2_part_12 ?_
    refine m_l2i dX2_part_15 ?_
    exact m_iret dX2_part_16 rfl q
  · replace q := q.2 c1
    refine m_aload_n dX2_part_4 rfl ?_
    refine gf_X2_7 rfl dX2_part_5 ?_
    refine m_goto 15 dX2_part_8 (by decide) ?_
    refine m_l2i dX2_part_15 ?_
    exact m_iret dX2_part_16 rfl q
set_option maxRecDepth 100000 in
theorem e_X2_commonPart {g : gT} {h : mh_T} {P : Int64 → mh_T → Prop} (l0 : Int64) (l2 : Int64) (q : ME g uX2_commonPart 9 [.long l0, .retAddr 0, .long l2, .retAddr 0, .long l0, .retAddr 0, .long l2, .retAddr 0, .int 0, .retAddr 0, .retAddr 0] [] h (qL P)) : MCl g yX2_commonPart uX2_commonPart [.long l0, .long l2] h P := by
  refine m_enter (by decide) rfl (Nat.le_of_ble_eq_true rfl) (lv := [.long l0, .retAddr 0, .long l2, .retAddr 0, .retAddr 0, .retAddr 0, .retAddr 0, .retAddr 0, .retAddr 0, .retAddr 0, .retAddr 0]) rfl ?_
  refine m_lload_n dX2_commonPart_0 rfl ?_
  refine m_lstore (lv' := [.long l0, .retAddr 0, .long l2, .retAddr 0, .long l0, .retAddr 0, .retAddr 0, .retAddr 0, .retAddr 0, .retAddr 0, .retAddr 0]) dX2_commonPart_1 (Nat.le_of_ble_eq_true rfl) rfl rfl ?_
  refine m_lload_n dX2_commonPart_3 rfl ?_
  refine m_lstore (lv' := [.long l0, .retAddr 0, .long l2, .retAddr 0, .long l0, .retAddr 0, .long l2, .retAddr 0, .retAddr 0, .retAddr 0, .retAddr 0]) dX2_commonPart_4 (Nat.le_of_ble_eq_true rfl) rfl rfl ?_
  refine m_iconst (v := 0) dX2_commonPart_6 (by decide) ?_
  refine m_istore (lv' := [.long l0, .retAddr 0, .long l2, .retAddr 0, .long l0, .retAddr 0, .long l2, .retAddr 0, .int 0, .retAddr 0, .retAddr 0]) dX2_commonPart_7 (Nat.le_of_ble_eq_true rfl) rfl rfl ?_
  exact q
set_option maxRecDepth 100000 in
theorem r_X2_commonPart_9 {g : gT} {h : mh_T} {P : Int64 → mh_T → Prop} (l0 : Int64) (l2 : Int64) (l4 : Int64) (l6 : Int64) (l8 : Int32) (q : (128 ≤ l8 → P l4 h) ∧ (¬ 128 ≤ l8 → ((lg_cmp l6 0) = 0 → P l4 h) ∧ (¬ (lg_cmp l6 0) = 0 → (¬ l6 = 0) ∧ (∀ x4 : Int64, x4 = (l4 - l4 / l6 * l6) → ME g uX2_commonPart 9 [.long l0, .retAddr 0, .long l2, .retAddr 0, .long l6, .retAddr 0, .long x4, .retAddr 0, .int (l8 + 1), .retAddr 0, .retAddr 0] [] h (qL P))))) : ME g uX2_commonPart 9 [.long l0, .retAddr 0, .long l2, .retAddr 0, .long l4, .retAddr 0, .long l6, .retAddr 0, .int l8, .retAddr 0, .retAddr 0] [] h (qL P) := by
  refine m_iload dX2_commonPart_9 rfl ?_
  refine m_sipush (v := 128) dX2_commonPart_11 (by decide) ?_
  refine m_icmp_ge 45 dX2_commonPart_14 (by decide) (fun c1 => ?_) (fun c1 => ?_)
  · replace q := q.1 c1
    refine m_lload dX2_commonPart_45 rfl ?_
    exact m_lret dX2_commonPart_47 rfl q
  · replace q := q.2 c1
    refine m_lload dX2_commonPart_17 rfl ?_
    refine m_lconst (v := 0) dX2_commonPart_19 (by decide) ?_
    refine m_lcmp dX2_commonPart_20 ?_
    refine m_if_eq 45 dX2_commonPart_21 (by decide) (fun c2 => ?_) (fun c2 => ?_)
    · replace q := q.1 c2
      refine m_lload dX2_commonPart_45 rfl ?_
      exact m_lret dX2_commonPart_47 rfl q
    · replace q := q.2 c2
      refine m_lload dX2_commonPart_24 rfl ?_
      refine m_lload dX2_commonPart_26 rfl ?_
      obtain ⟨b3, q⟩ := q
      refine m_lrem dX2_commonPart_28 b3 ?_
      obtain ⟨x4, ex4⟩ : ∃ z, z = (l4 - l4 / l6 * l6) := ⟨_, rfl⟩
      rw [← ex4]
      replace q := q x4 ex4
      refine m_lstore (lv' := [.long l0, .retAddr 0, .long l2, .retAddr 0, .long l4, .retAddr 0, .long l6, .retAddr 0, .int l8, .long x4, .retAddr 0]) dX2_commonPart_29 (Nat.le_of_ble_eq_true rfl) rfl rfl ?_
      refine m_lload dX2_commonPart_31 rfl ?_
      refine m_lstore (lv' := [.long l0, .retAddr 0, .long l2, .retAddr 0, .long l6, .retAddr 0, .long l6, .retAddr 0, .int l8, .long x4, .retAddr 0]) dX2_commonPart_33 (Nat.le_of_ble_eq_true rfl) rfl rfl ?_
      refine m_lload dX2_commonPart_35 rfl ?_
      refine m_lstore (lv' := [.long l0, .retAddr 0, .long l2, .retAddr 0, .long l6, .retAddr 0, .long x4, .retAddr 0, .int l8, .long x4, .retAddr 0]) dX2_commonPart_37 (Nat.le_of_ble_eq_true rfl) rfl rfl ?_
      refine m_iinc (v := (l8 + 1)) (lv' := [.long l0, .retAddr 0, .long l2, .retAddr 0, .long l6, .retAddr 0, .long x4, .retAddr 0, .int (l8 + 1), .long x4, .retAddr 0]) dX2_commonPart_39 (Nat.le_of_ble_eq_true rfl) rfl (congrArg (fun z => l8 + z) (by decide : Int32.ofInt 1 = 1)) rfl rfl ?_
      refine m_goto 9 dX2_commonPart_42 (by decide) ?_
      refine m_dropK (lv' := [.long l0, .retAddr 0, .long l2, .retAddr 0, .long l6, .retAddr 0, .long x4, .retAddr 0, .int (l8 + 1), .retAddr 0, .retAddr 0]) [9] rfl ?_
      exact q
set_option maxRecDepth 100000 in
theorem e_X7_isRing {g : gT} {h : mh_T} {P : Int32 → mh_T → Prop} (l1 : Int32) (q : (l1 < 0 → P 0 h) ∧ (¬ l1 < 0 → ((1 <<< ((mI h 3 2) &&& 31)) ≤ l1 → P 0 h) ∧ (¬ (1 <<< ((mI h 3 2) &&& 31)) ≤ l1 → MCi g yJ6_bitCount_0f7a4 uJ6_bitCount_0f7a4 [.int l1] h (fun r4 h3 => (3 ≤ r4 → ME g uX7_isRing 37 [.ref 4, .int l1, .int 0, .int 0, .int 0, .int 0, .retAddr 0] [] h3 (qI P)) ∧ (¬ 3 ≤ r4 → P 0 h3))))) : MCi g yX7_isRing uX7_isRing [.ref 4, .int l1] h P := by
  refine m_enter (by decide) rfl (Nat.le_of_ble_eq_true rfl) (lv := [.ref 4, .int l1, .retAddr 0, .retAddr 0, .retAddr 0, .retAddr 0, .retAddr 0]) rfl ?_
  refine m_iload_n dX7_isRing_0 rfl ?_
  refine m_if_lt 25 dX7_isRing_1 (by decide) (fun c1 => ?_) (fun c1 => ?_)
  · replace q := q.1 c1
    refine m_iconst (v := 0) dX7_isRing_25 (by decide) ?_
    exact m_zret dX7_isRing_26 rfl (by decide) q
  · replace q := q.2 c1
    refine m_iload_n dX7_isRing_4 rfl ?_
    refine m_iconst (v := 1) dX7_isRing_5 (by decide) ?_
    refine m_aload_n dX7_isRing_6 rfl ?_
    refine gf_X7_9 rfl dX7_isRing_7 ?_
    refine gf_X7_15 rfl dX7_isRing_10 ?_
    refine m_ishl dX7_isRing_13 ?_
    refine m_icmp_ge 25 dX7_isRing_14 (by decide) (fun c2 => ?_) (fun c2 => ?_)
    · replace q := q.1 c2
      refine m_iconst (v := 0) dX7_isRing_25 (by decide) ?_
      exact m_zret dX7_isRing_26 rfl (by decide) q
    · replace q := q.2 c2
      refine m_iload_n dX7_isRing_17 rfl ?_
      refine cl_X7_21 rfl (by decide) dX7_isRing_18 (Nat.le_of_ble_eq_true rfl) (MCi_go q (fun r4 h3 q => ?_))
      refine m_iconst (v := 3) dX7_isRing_21 (by decide) ?_
      refine m_icmp_ge 27 dX7_isRing_22 (by decide) (fun c5 => ?_) (fun c5 => ?_)
      · replace q := q.1 c5
        refine m_iconst (v := 0) dX7_isRing_27 (by decide) ?_
        refine m_istore_n (lv' := [.ref 4, .int l1, .int 0, .retAddr 0, .retAddr 0, .retAddr 0, .retAddr 0]) dX7_isRing_28 (Nat.le_of_ble_eq_true rfl) rfl rfl ?_
        refine m_iconst (v := 0) dX7_isRing_29 (by decide) ?_
        refine m_istore_n (lv' := [.ref 4, .int l1, .int 0, .int 0, .retAddr 0, .retAddr 0, .retAddr 0]) dX7_isRing_30 (Nat.le_of_ble_eq_true rfl) rfl rfl ?_
        refine m_iconst (v := 0) dX7_isRing_31 (by decide) ?_
        refine m_istore (lv' := [.ref 4, .int l1, .int 0, .int 0, .int 0, .retAddr 0, .retAddr 0]) dX7_isRing_32 (Nat.le_of_ble_eq_true rfl) rfl rfl ?_
        refine m_iconst (v := 0) dX7_isRing_34 (by decide) ?_
        refine m_istore (lv' := [.ref 4, .int l1, .int 0, .int 0, .int 0, .int 0, .retAddr 0]) dX7_isRing_35 (Nat.le_of_ble_eq_true rfl) rfl rfl ?_
        exact q
      · replace q := q.2 c5
        refine m_iconst (v := 0) dX7_isRing_25 (by decide) ?_
        exact m_zret dX7_isRing_26 rfl (by decide) q
set_option maxRecDepth 100000 in
theorem r_X7_isRing_37 {g : gT} {h : mh_T} {P : Int32 → mh_T → Prop} (l1 : Int32) (l2 : Int32) (l3 : Int32) (l4 : Int32) (l5 : Int32) (q : ((mI h 3 2) ≤ l5 → (¬ l4 = 0 → P 0 h) ∧ (l4 = 0 → (¬ l2 = l3 → P 0 h) ∧ (l2 = l3 → MCi g yX7_hangsTogether uX7_hangsTogether [.ref 4, .int l1, .int l2] h (fun r5 h4 => (r5 = 0 → P 0 h4) ∧ (¬ r5 = 0 → P 1 h4))))) ∧ (¬ (mI h 3 2) ≤ l5 → (((l1 >>> (l5 &&& 31)) &&& 1) = 0 → ME g uX7_isRing 37 [.ref 4, .int l1, .int l2, .int l3, .int l4, .int (l5 + 1), .retAddr 0] [] h (qI P)) ∧ (¬ ((l1 >>> (l5 &&& 31)) &&& 1) = 0 → MCi g yX8_hasPair uX8_hasPair [.ref 3, .int l5] h (fun r9 h8 => (¬ r9 = 0 → MCi g yX7_looksOf uX7_looksOf [.ref 4, .int l5] h8 (fun r12 h11 => ∀ x13 : Int32, x13 = (l4 ||| (l3 &&& r12)) → ∀ x14 : Int32, x14 = (l3 ||| (l2 &&& r12)) → ∀ x15 : Int32, x15 = (l2 ||| r12) → ME g uX7_isRing 37 [.ref 4, .int l1, .int x15, .int x14, .int x13, .int (l5 + 1), .retAddr 0] [] h11 (qI P))) ∧ (r9 = 0 → P 0 h8))))) : ME g uX7_isRing 37 [.ref 4, .int l1, .int l2, .int l3, .int l4, .int l5, .retAddr 0] [] h (qI P) := by
  refine m_iload dX7_isRing_37 rfl ?_
  refine m_aload_n dX7_isRing_39 rfl ?_
  refine gf_X7_9 rfl dX7_isRing_40 ?_
  refine gf_X7_15 rfl dX7_isRing_43 ?_
  refine m_icmp_ge 107 dX7_isRing_46 (by decide) (fun c1 => ?_) (fun c1 => ?_)
  · replace q := q.1 c1
    refine m_iload dX7_isRing_107 rfl ?_
    refine m_if_ne 130 dX7_isRing_109 (by decide) (fun c2 => ?_) (fun c2 => ?_)
    · replace q := q.1 c2
      refine m_iconst (v := 0) dX7_isRing_130 (by decide) ?_
      exact m_zret dX7_isRing_131 rfl (by decide) q
    · replace q := q.2 c2
      refine m_iload_n dX7_isRing_112 rfl ?_
      refine m_iload_n dX7_isRing_113 rfl ?_
      refine m_icmp_ne 130 dX7_isRing_114 (by decide) (fun c3 => ?_) (fun c3 => ?_)
      · replace q := q.1 c3
        refine m_iconst (v := 0) dX7_isRing_130 (by decide) ?_
        exact m_zret dX7_isRing_131 rfl (by decide) q
      · replace q := q.2 c3
        refine m_aload_n dX7_isRing_117 rfl ?_
        refine m_iload_n dX7_isRing_118 rfl ?_
        refine m_iload_n dX7_isRing_119 rfl ?_
        refine cl_X7_34 rfl (by decide) dX7_isRing_120 (Nat.le_of_ble_eq_true rfl) (MCi_go q (fun r5 h4 q => ?_))
        refine m_if_eq 130 dX7_isRing_123 (by decide) (fun c6 => ?_) (fun c6 => ?_)
        · replace q := q.1 c6
          refine m_iconst (v := 0) dX7_isRing_130 (by decide) ?_
          exact m_zret dX7_isRing_131 rfl (by decide) q
        · replace q := q.2 c6
          refine m_iconst (v := 1) dX7_isRing_126 (by decide) ?_
          refine m_goto 131 dX7_isRing_127 (by decide) ?_
          exact m_zret dX7_isRing_131 rfl (by decide) q
  · replace q := q.2 c1
    refine m_iload_n dX7_isRing_49 rfl ?_
    refine m_iload dX7_isRing_50 rfl ?_
    refine m_ishr dX7_isRing_52 ?_
    refine m_iconst (v := 1) dX7_isRing_53 (by decide) ?_
    refine m_iand dX7_isRing_54 ?_
    refine m_if_eq 101 dX7_isRing_55 (by decide) (fun c7 => ?_) (fun c7 => ?_)
    · replace q := q.1 c7
      refine m_iinc (v := (l5 + 1)) (lv' := [.ref 4, .int l1, .int l2, .int l3, .int l4, .int (l5 + 1), .retAddr 0]) dX7_isRing_101 (Nat.le_of_ble_eq_true rfl) rfl (congrArg (fun z => l5 + z) (by decide : Int32.ofInt 1 = 1)) rfl rfl ?_
      refine m_goto 37 dX7_isRing_104 (by decide) ?_
      exact q
    · replace q := q.2 c7
      refine m_aload_n dX7_isRing_58 rfl ?_
      refine gf_X7_9 rfl dX7_isRing_59 ?_
      refine m_iload dX7_isRing_62 rfl ?_
      refine cl_X7_27 rfl (by decide) dX7_isRing_64 (Nat.le_of_ble_eq_true rfl) (MCi_go q (fun r9 h8 q => ?_))
      refine m_if_ne 72 dX7_isRing_67 (by decide) (fun c10 => ?_) (fun c10 => ?_)
      · replace q := q.1 c10
        refine m_aload_n dX7_isRing_72 rfl ?_
        refine m_iload dX7_isRing_73 rfl ?_
        refine cl_X7_31 rfl (by decide) dX7_isRing_75 (Nat.le_of_ble_eq_true rfl) (MCi_go q (fun r12 h11 q => ?_))
        refine m_istore (lv' := [.ref 4, .int l1, .int l2, .int l3, .int l4, .int l5, .int r12]) dX7_isRing_78 (Nat.le_of_ble_eq_true rfl) rfl rfl ?_
        refine m_iload dX7_isRing_80 rfl ?_
        refine m_iload_n dX7_isRing_82 rfl ?_
        refine m_iload dX7_isRing_83 rfl ?_
        refine m_iand dX7_isRing_85 ?_
        refine m_ior dX7_isRing_86 ?_
        obtain ⟨x13, ex13⟩ : ∃ z, z = (l4 ||| (l3 &&& r12)) := ⟨_, rfl⟩
        rw [← ex13]
        replace q := q x13 ex13
        refine m_istore (lv' := [.ref 4, .int l1, .int l2, .int l3, .int x13, .int l5, .int r12]) dX7_isRing_87 (Nat.le_of_ble_eq_true rfl) rfl rfl ?_
        refine m_iload_n dX7_isRing_89 rfl ?_
        refine m_iload_n dX7_isRing_90 rfl ?_
        refine m_iload dX7_isRing_91 rfl ?_
        refine m_iand dX7_isRing_93 ?_
        refine m_ior dX7_isRing_94 ?_
        obtain ⟨x14, ex14⟩ : ∃ z, z = (l3 ||| (l2 &&& r12)) := ⟨_, rfl⟩
        rw [← ex14]
        replace q := q x14 ex14
        refine m_istore_n (lv' := [.ref 4, .int l1, .int l2, .int x14, .int x13, .int l5, .int r12]) dX7_isRing_95 (Nat.le_of_ble_eq_true rfl) rfl rfl ?_
        refine m_iload_n dX7_isRing_96 rfl ?_
        refine m_iload dX7_isRing_97 rfl ?_
        refine m_ior dX7_isRing_99 ?_
        obtain ⟨x15, ex15⟩ : ∃ z, z = (l2 ||| r12) := ⟨_, rfl⟩
        rw [← ex15]
        replace q := q x15 ex15
        refine m_istore_n (lv' := [.ref 4, .int l1, .int x15, .int x14, .int x13, .int l5, .int r12]) dX7_isRing_100 (Nat.le_of_ble_eq_true rfl) rfl rfl ?_
        refine m_iinc (v := (l5 + 1)) (lv' := [.ref 4, .int l1, .int x15, .int x14, .int x13, .int (l5 + 1), .int r12]) dX7_isRing_101 (Nat.le_of_ble_eq_true rfl) rfl (congrArg (fun z => l5 + z) (by decide : Int32.ofInt 1 = 1)) rfl rfl ?_
        refine m_goto 37 dX7_isRing_104 (by decide) ?_
        refine m_dropK (lv' := [.ref 4, .int l1, .int x15, .int x14, .int x13, .int (l5 + 1), .retAddr 0]) [6] rfl ?_
        exact q
      · replace q := q.2 c10
        refine m_iconst (v := 0) dX7_isRing_70 (by decide) ?_
        exact m_zret dX7_isRing_71 rfl (by decide) q
set_option maxRecDepth 100000 in
theorem e_X7_looksOf {g : gT} {h : mh_T} {P : Int32 → mh_T → Prop} (l1 : Int32) (q : (vp_in l1 8) ∧ ((vp_in l1 8) ∧ (P ((1 <<< ((mI h 24 l1.toNatClampNeg) &&& 31)) ||| (1 <<< ((mI h 25 l1.toNatClampNeg) &&& 31))) h))) : MCi g yX7_looksOf uX7_looksOf [.ref 4, .int l1] h P := by
  refine m_enter (by decide) rfl (Nat.le_of_ble_eq_true rfl) (lv := [.ref 4, .int l1]) rfl ?_
  refine m_iconst (v := 1) dX7_looksOf_0 (by decide) ?_
  refine m_aload_n dX7_looksOf_1 rfl ?_
  refine gf_X7_9 rfl dX7_looksOf_2 ?_
  refine gf_X7_38 rfl dX7_looksOf_5 ?_
  refine m_iload_n dX7_looksOf_8 rfl ?_
  obtain ⟨b1, q⟩ := q
  refine m_iaload dX7_looksOf_9 rfl (by decide) b1 ?_
  refine m_ishl dX7_looksOf_10 ?_
  refine m_iconst (v := 1) dX7_looksOf_11 (by decide) ?_
  refine m_aload_n dX7_looksOf_12 rfl ?_
  refine gf_X7_9 rfl dX7_looksOf_13 ?_
  refine gf_X7_42 rfl dX7_looksOf_16 ?_
  refine m_iload_n dX7_looksOf_19 rfl ?_
  obtain ⟨b2, q⟩ := q
  refine m_iaload dX7_looksOf_20 rfl (by decide) b2 ?_
  refine m_ishl dX7_looksOf_21 ?_
  refine m_ior dX7_looksOf_22 ?_
  exact m_iret dX7_looksOf_23 rfl q
set_option maxRecDepth 100000 in
theorem e_X7_hangsTogether {g : gT} {h : mh_T} {P : Int32 → mh_T → Prop} (l1 : Int32) (l2 : Int32) (q : ∀ x1 : Int32, x1 = (l2 &&& (-l2)) → ME g uX7_hangsTogether 8 [.ref 4, .int l1, .int l2, .int x1, .int 0, .retAddr 0] [] h (qI P)) : MCi g yX7_hangsTogether uX7_hangsTogether [.ref 4, .int l1, .int l2] h P := by
  refine m_enter (by decide) rfl (Nat.le_of_ble_eq_true rfl) (lv := [.ref 4, .int l1, .int l2, .retAddr 0, .retAddr 0, .retAddr 0]) rfl ?_
  refine m_iload_n dX7_hangsTogether_0 rfl ?_
  refine m_iload_n dX7_hangsTogether_1 rfl ?_
  refine m_ineg dX7_hangsTogether_2 ?_
  refine m_iand dX7_hangsTogether_3 ?_
  obtain ⟨x1, ex1⟩ : ∃ z, z = (l2 &&& (-l2)) := ⟨_, rfl⟩
  rw [← ex1]
  replace q := q x1 ex1
  refine m_istore_n (lv' := [.ref 4, .int l1, .int l2, .int x1, .retAddr 0, .retAddr 0]) dX7_hangsTogether_4 (Nat.le_of_ble_eq_true rfl) rfl rfl ?_
  refine m_iconst (v := 0) dX7_hangsTogether_5 (by decide) ?_
  refine m_istore (lv' := [.ref 4, .int l1, .int l2, .int x1, .int 0, .retAddr 0]) dX7_hangsTogether_6 (Nat.le_of_ble_eq_true rfl) rfl rfl ?_
  exact q
set_option maxRecDepth 100000 in
theorem r_X7_hangsTogether_8 {g : gT} {h : mh_T} {P : Int32 → mh_T → Prop} (l1 : Int32) (l2 : Int32) (l3 : Int32) (l4 : Int32) (q : (8 ≤ l4 → (¬ l3 = l2 → P 0 h) ∧ (l3 = l2 → P 1 h)) ∧ (¬ 8 ≤ l4 → ME g uX7_hangsTogether 18 [.ref 4, .int l1, .int l2, .int l3, .int l4, .int 0] [] h (qI P))) : ME g uX7_hangsTogether 8 [.ref 4, .int l1, .int l2, .int l3, .int l4, .retAddr 0] [] h (qI P) := by
  refine m_iload dX7_hangsTogether_8 rfl ?_
  refine m_bipush (v := 8) dX7_hangsTogether_10 (by decide) ?_
  refine m_icmp_ge 71 dX7_hangsTogether_12 (by decide) (fun c1 => ?_) (fun c1 => ?_)
  · replace q := q.1 c1
    refine m_iload_n dX7_hangsTogether_71 rfl ?_
    refine m_iload_n dX7_hangsTogether_72 rfl ?_
    refine m_icmp_ne 80 dX7_hangsTogether_73 (by decide) (fun c2 => ?_) (fun c2 => ?_)
    · replace q := q.1 c2
      refine m_iconst (v := 0) dX7_hangsTogether_80 (by decide) ?_
      exact m_zret dX7_hangsTogether_81 rfl (by decide) q
    · replace q := q.2 c2
      refine m_iconst (v := 1) dX7_hangsTogether_76 (by decide) ?_
      refine m_goto 81 dX7_hangsTogether_77 (by decide) ?_
      exact m_zret dX7_hangsTogether_81 rfl (by decide) q
  · replace q := q.2 c1
    refine m_iconst (v := 0) dX7_hangsTogether_15 (by decide) ?_
    refine m_istore (lv' := [.ref 4, .int l1, .int l2, .int l3, .int l4, .int 0]) dX7_hangsTogether_16 (Nat.le_of_ble_eq_true rfl) rfl rfl ?_
    exact q
set_option maxRecDepth 100000 in
theorem r_X7_hangsTogether_18 {g : gT} {h : mh_T} {P : Int32 → mh_T → Prop} (l1 : Int32) (l2 : Int32) (l3 : Int32) (l4 : Int32) (l5 : Int32) (q : ((mI h 3 2) ≤ l5 → ME g uX7_hangsTogether 8 [.ref 4, .int l1, .int l2, .int l3, .int (l4 + 1), .retAddr 0] [] h (qI P)) ∧ (¬ (mI h 3 2) ≤ l5 → (((l1 >>> (l5 &&& 31)) &&& 1) = 0 → ME g uX7_hangsTogether 18 [.ref 4, .int l1, .int l2, .int l3, .int l4, .int (l5 + 1)] [] h (qI P)) ∧ (¬ ((l1 >>> (l5 &&& 31)) &&& 1) = 0 → MCi g yX7_looksOf uX7_looksOf [.ref 4, .int l5] h (fun r4 h3 => ((r4 &&& l3) = 0 → ME g uX7_hangsTogether 18 [.ref 4, .int l1, .int l2, .int l3, .int l4, .int (l5 + 1)] [] h3 (qI P)) ∧ (¬ (r4 &&& l3) = 0 → MCi g yX7_looksOf uX7_looksOf [.ref 4, .int l5] h3 (fun r7 h6 => ∀ x8 : Int32, x8 = (l3 ||| r7) → ME g uX7_hangsTogether 18 [.ref 4, .int l1, .int l2, .int x8, .int l4, .int (l5 + 1)] [] h6 (qI P))))))) : ME g uX7_hangsTogether 18 [.ref 4, .int l1, .int l2, .int l3, .int l4, .int l5] [] h (qI P) := by
  refine m_iload dX7_hangsTogether_18 rfl ?_
  refine m_aload_n dX7_hangsTogether_20 rfl ?_
  refine gf_X7_9 rfl dX7_hangsTogether_21 ?_
  refine gf_X7_15 rfl dX7_hangsTogether_24 ?_
  refine m_icmp_ge 65 dX7_hangsTogether_27 (by decide) (fun c1 => ?_) (fun c1 => ?_)
  · replace q := q.1 c1
    refine m_iinc (v := (l4 + 1)) (lv' := [.ref 4, .int l1, .int l2, .int l3, .int (l4 + 1), .int l5]) dX7_hangsTogether_65 (Nat.le_of_ble_eq_true rfl) rfl (congrArg (fun z => l4 + z) (by decide : Int32.ofInt 1 = 1)) rfl rfl ?_
    refine m_goto 8 dX7_hangsTogether_68 (by decide) ?_
    refine m_dropK (lv' := [.ref 4, .int l1, .int l2, .int l3, .int (l4 + 1), .retAddr 0]) [5] rfl ?_
    exact q
  · replace q := q.2 c1
    refine m_iload_n dX7_hangsTogether_30 rfl ?_
    refine m_iload dX7_hangsTogether_31 rfl ?_
    refine m_ishr dX7_hangsTogether_33 ?_
    refine m_iconst (v := 1) dX7_hangsTogether_34 (by decide) ?_
    refine m_iand dX7_hangsTogether_35 ?_
    refine m_if_eq 59 dX7_hangsTogether_36 (by decide) (fun c2 => ?_) (fun c2 => ?_)
    · replace q := q.1 c2
      refine m_iinc (v := (l5 + 1)) (lv' := [.ref 4, .int l1, .int l2, .int l3, .int l4, .int (l5 + 1)]) dX7_hangsTogether_59 (Nat.le_of_ble_eq_true rfl) rfl (congrArg (fun z => l5 + z) (by decide : Int32.ofInt 1 = 1)) rfl rfl ?_
      refine m_goto 18 dX7_hangsTogether_62 (by decide) ?_
      exact q
    · replace q := q.2 c2
      refine m_aload_n dX7_hangsTogether_39 rfl ?_
      refine m_iload dX7_hangsTogether_40 rfl ?_
      refine cl_X7_31 rfl (by decide) dX7_hangsTogether_42 (Nat.le_of_ble_eq_true rfl) (MCi_go q (fun r4 h3 q => ?_))
      refine m_iload_n dX7_hangsTogether_45 rfl ?_
      refine m_iand dX7_hangsTogether_46 ?_
      refine m_if_eq 59 dX7_hangsTogether_47 (by decide) (fun c5 => ?_) (fun c5 => ?_)
      · replace q := q.1 c5
        refine m_iinc (v := (l5 + 1)) (lv' := [.ref 4, .int l1, .int l2, .int l3, .int l4, .int (l5 + 1)]) dX7_hangsTogether_59 (Nat.le_of_ble_eq_true rfl) rfl (congrArg (fun z => l5 + z) (by decide : Int32.ofInt 1 = 1)) rfl rfl ?_
        refine m_goto 18 dX7_hangsTogether_62 (by decide) ?_
        exact q
      · replace q := q.2 c5
        refine m_iload_n dX7_hangsTogether_50 rfl ?_
        refine m_aload_n dX7_hangsTogether_51 rfl ?_
        refine m_iload dX7_hangsTogether_52 rfl ?_
        refine cl_X7_31 rfl (by decide) dX7_hangsTogether_54 (Nat.le_of_ble_eq_true rfl) (MCi_go q (fun r7 h6 q => ?_))
        refine m_ior dX7_hangsTogether_57 ?_
        obtain ⟨x8, ex8⟩ : ∃ z, z = (l3 ||| r7) := ⟨_, rfl⟩
        rw [← ex8]
        replace q := q x8 ex8
        refine m_istore_n (lv' := [.ref 4, .int l1, .int l2, .int x8, .int l4, .int l5]) dX7_hangsTogether_58 (Nat.le_of_ble_eq_true rfl) rfl rfl ?_
        refine m_iinc (v := (l5 + 1)) (lv' := [.ref 4, .int l1, .int l2, .int x8, .int l4, .int (l5 + 1)]) dX7_hangsTogether_59 (Nat.le_of_ble_eq_true rfl) rfl (congrArg (fun z => l5 + z) (by decide : Int32.ofInt 1 = 1)) rfl rfl ?_
        refine m_goto 18 dX7_hangsTogether_62 (by decide) ?_
        exact q
set_option maxRecDepth 100000 in
theorem e_X7_number {g : gT} {h : mh_T} {P : Int32 → mh_T → Prop}  (q : ME g uX7_number 4 [.ref 4, .int 0, .int 0] [] h (qI P)) : MCi g yX7_number uX7_number [.ref 4] h P := by
  refine m_enter (by decide) rfl (Nat.le_of_ble_eq_true rfl) (lv := [.ref 4, .retAddr 0, .retAddr 0]) rfl ?_
  refine m_iconst (v := 0) dX7_number_0 (by decide) ?_
  refine m_istore_n (lv' := [.ref 4, .int 0, .retAddr 0]) dX7_number_1 (Nat.le_of_ble_eq_true rfl) rfl rfl ?_
  refine m_iconst (v := 0) dX7_number_2 (by decide) ?_
  refine m_istore_n (lv' := [.ref 4, .int 0, .int 0]) dX7_number_3 (Nat.le_of_ble_eq_true rfl) rfl rfl ?_
  exact q
set_option maxRecDepth 100000 in
theorem r_X7_number_4 {g : gT} {h : mh_T} {P : Int32 → mh_T → Prop} (l1 : Int32) (l2 : Int32) (q : ((1 <<< ((mI h 3 2) &&& 31)) ≤ l2 → P l1 h) ∧ (¬ (1 <<< ((mI h 3 2) &&& 31)) ≤ l2 → MCi g yX7_isRing uX7_isRing [.ref 4, .int l2] h (fun r3 h2 => (r3 = 0 → ME g uX7_number 4 [.ref 4, .int l1, .int (l2 + 1)] [] h2 (qI P)) ∧ (¬ r3 = 0 → ME g uX7_number 4 [.ref 4, .int (l1 + 1), .int (l2 + 1)] [] h2 (qI P))))) : ME g uX7_number 4 [.ref 4, .int l1, .int l2] [] h (qI P) := by
  refine m_iload_n dX7_number_4 rfl ?_
  refine m_iconst (v := 1) dX7_number_5 (by decide) ?_
  refine m_aload_n dX7_number_6 rfl ?_
  refine gf_X7_9 rfl dX7_number_7 ?_
  refine gf_X7_15 rfl dX7_number_10 ?_
  refine m_ishl dX7_number_13 ?_
  refine m_icmp_ge 34 dX7_number_14 (by decide) (fun c1 => ?_) (fun c1 => ?_)
  · replace q := q.1 c1
    refine m_iload_n dX7_number_34 rfl ?_
    exact m_iret dX7_number_35 rfl q
  · replace q := q.2 c1
    refine m_aload_n dX7_number_17 rfl ?_
    refine m_iload_n dX7_number_18 rfl ?_
    refine cl_X7_45 rfl (by decide) dX7_number_19 (Nat.le_of_ble_eq_true rfl) (MCi_go q (fun r3 h2 q => ?_))
    refine m_if_eq 28 dX7_number_22 (by decide) (fun c4 => ?_) (fun c4 => ?_)
    · replace q := q.1 c4
      refine m_iinc (v := (l2 + 1)) (lv' := [.ref 4, .int l1, .int (l2 + 1)]) dX7_number_28 (Nat.le_of_ble_eq_true rfl) rfl (congrArg (fun z => l2 + z) (by decide : Int32.ofInt 1 = 1)) rfl rfl ?_
      refine m_goto 4 dX7_number_31 (by decide) ?_
      exact q
    · replace q := q.2 c4
      refine m_iinc (v := (l1 + 1)) (lv' := [.ref 4, .int (l1 + 1), .int l2]) dX7_number_25 (Nat.le_of_ble_eq_true rfl) rfl (congrArg (fun z => l1 + z) (by decide : Int32.ofInt 1 = 1)) rfl rfl ?_
      refine m_iinc (v := (l2 + 1)) (lv' := [.ref 4, .int (l1 + 1), .int (l2 + 1)]) dX7_number_28 (Nat.le_of_ble_eq_true rfl) rfl (congrArg (fun z => l2 + z) (by decide : Int32.ofInt 1 = 1)) rfl rfl ?_
      refine m_goto 4 dX7_number_31 (by decide) ?_
      exact q
set_option maxRecDepth 100000 in
theorem e_X7_ringAt {g : gT} {h : mh_T} {P : Int32 → mh_T → Prop} (l1 : Int32) (q : ME g uX7_ringAt 4 [.ref 4, .int l1, .int 0, .int 0] [] h (qI P)) : MCi g yX7_ringAt uX7_ringAt [.ref 4, .int l1] h P := by
  refine m_enter (by decide) rfl (Nat.le_of_ble_eq_true rfl) (lv := [.ref 4, .int l1, .retAddr 0, .retAddr 0]) rfl ?_
  refine m_iconst (v := 0) dX7_ringAt_0 (by decide) ?_
  refine m_istore_n (lv' := [.ref 4, .int l1, .int 0, .retAddr 0]) dX7_ringAt_1 (Nat.le_of_ble_eq_true rfl) rfl rfl ?_
  refine m_iconst (v := 0) dX7_ringAt_2 (by decide) ?_
  refine m_istore_n (lv' := [.ref 4, .int l1, .int 0, .int 0]) dX7_ringAt_3 (Nat.le_of_ble_eq_true rfl) rfl rfl ?_
  exact q
set_option maxRecDepth 100000 in
theorem r_X7_ringAt_4 {g : gT} {h : mh_T} {P : Int32 → mh_T → Prop} (l1 : Int32) (l2 : Int32) (l3 : Int32) (q : ((1 <<< ((mI h 3 2) &&& 31)) ≤ l3 → P (-1) h) ∧ (¬ (1 <<< ((mI h 3 2) &&& 31)) ≤ l3 → MCi g yX7_isRing uX7_isRing [.ref 4, .int l3] h (fun r3 h2 => (r3 = 0 → ME g uX7_ringAt 4 [.ref 4, .int l1, .int l2, .int (l3 + 1)] [] h2 (qI P)) ∧ (¬ r3 = 0 → (¬ l2 = l1 → ME g uX7_ringAt 4 [.ref 4, .int l1, .int (l2 + 1), .int (l3 + 1)] [] h2 (qI P)) ∧ (l2 = l1 → P l3 h2))))) : ME g uX7_ringAt 4 [.ref 4, .int l1, .int l2, .int l3] [] h (qI P) := by
  refine m_iload_n dX7_ringAt_4 rfl ?_
  refine m_iconst (v := 1) dX7_ringAt_5 (by decide) ?_
  refine m_aload_n dX7_ringAt_6 rfl ?_
  refine gf_X7_9 rfl dX7_ringAt_7 ?_
  refine gf_X7_15 rfl dX7_ringAt_10 ?_
  refine m_ishl dX7_ringAt_13 ?_
  refine m_icmp_ge 41 dX7_ringAt_14 (by decide) (fun c1 => ?_) (fun c1 => ?_)
  · replace q := q.1 c1
    refine m_iconst (v := (-1)) dX7_ringAt_41 (by decide) ?_
    exact m_iret dX7_ringAt_42 rfl q
  · replace q := q.2 c1
    refine m_aload_n dX7_ringAt_17 rfl ?_
    refine m_iload_n dX7_ringAt_18 rfl ?_
    refine cl_X7_45 rfl (by decide) dX7_ringAt_19 (Nat.le_of_ble_eq_true rfl) (MCi_go q (fun r3 h2 q => ?_))
    refine m_if_eq 35 dX7_ringAt_22 (by decide) (fun c4 => ?_) (fun c4 => ?_)
    · replace q := q.1 c4
      refine m_iinc (v := (l3 + 1)) (lv' := [.ref 4, .int l1, .int l2, .int (l3 + 1)]) dX7_ringAt_35 (Nat.le_of_ble_eq_true rfl) rfl (congrArg (fun z => l3 + z) (by decide : Int32.ofInt 1 = 1)) rfl rfl ?_
      refine m_goto 4 dX7_ringAt_38 (by decide) ?_
      exact q
    · replace q := q.2 c4
      refine m_iload_n dX7_ringAt_25 rfl ?_
      refine m_iload_n dX7_ringAt_26 rfl ?_
      refine m_icmp_ne 32 dX7_ringAt_27 (by decide) (fun c5 => ?_) (fun c5 => ?_)
      · replace q := q.1 c5
        refine m_iinc (v := (l2 + 1)) (lv' := [.ref 4, .int l1, .int (l2 + 1), .int l3]) dX7_ringAt_32 (Nat.le_of_ble_eq_true rfl) rfl (congrArg (fun z => l2 + z) (by decide : Int32.ofInt 1 = 1)) rfl rfl ?_
        refine m_iinc (v := (l3 + 1)) (lv' := [.ref 4, .int l1, .int (l2 + 1), .int (l3 + 1)]) dX7_ringAt_35 (Nat.le_of_ble_eq_true rfl) rfl (congrArg (fun z => l3 + z) (by decide : Int32.ofInt 1 = 1)) rfl rfl ?_
        refine m_goto 4 dX7_ringAt_38 (by decide) ?_
        exact q
      · replace q := q.2 c5
        refine m_iload_n dX7_ringAt_30 rfl ?_
        exact m_iret dX7_ringAt_31 rfl q
set_option maxRecDepth 100000 in
theorem e_X7_surplus {g : gT} {h : mh_T} {P : Int32 → mh_T → Prop} (l1 : Int32) (q : ME g uX7_surplus 11 [.ref 4, .int l1, .int 0, .int 60, .int 0, .int 0, .retAddr 0] [] h (qI P)) : MCi g yX7_surplus uX7_surplus [.ref 4, .int l1] h P := by
  refine m_enter (by decide) rfl (Nat.le_of_ble_eq_true rfl) (lv := [.ref 4, .int l1, .retAddr 0, .retAddr 0, .retAddr 0, .retAddr 0, .retAddr 0]) rfl ?_
  refine m_iconst (v := 0) dX7_surplus_0 (by decide) ?_
  refine m_istore_n (lv' := [.ref 4, .int l1, .int 0, .retAddr 0, .retAddr 0, .retAddr 0, .retAddr 0]) dX7_surplus_1 (Nat.le_of_ble_eq_true rfl) rfl rfl ?_
  refine m_bipush (v := 60) dX7_surplus_2 (by decide) ?_
  refine m_istore_n (lv' := [.ref 4, .int l1, .int 0, .int 60, .retAddr 0, .retAddr 0, .retAddr 0]) dX7_surplus_4 (Nat.le_of_ble_eq_true rfl) rfl rfl ?_
  refine m_iconst (v := 0) dX7_surplus_5 (by decide) ?_
  refine m_istore (lv' := [.ref 4, .int l1, .int 0, .int 60, .int 0, .retAddr 0, .retAddr 0]) dX7_surplus_6 (Nat.le_of_ble_eq_true rfl) rfl rfl ?_
  refine m_iconst (v := 0) dX7_surplus_8 (by decide) ?_
  refine m_istore (lv' := [.ref 4, .int l1, .int 0, .int 60, .int 0, .int 0, .retAddr 0]) dX7_surplus_9 (Nat.le_of_ble_eq_true rfl) rfl rfl ?_
  exact q
set_option maxRecDepth 100000 in
theorem r_X7_surplus_11 {g : gT} {h : mh_T} {P : Int32 → mh_T → Prop} (l1 : Int32) (l2 : Int32) (l3 : Int32) (l4 : Int32) (l5 : Int32) (q : ((mI h 3 2) ≤ l5 → (¬ (l4 - l4 / 2 * 2) = 1 → ∀ x3 : Int32, x3 = (l2 - (2 * l3)) → MCi g yJ6_bitCount_0f7a4 uJ6_bitCount_0f7a4 [.int l1] h (fun r5 h4 => P (x3 - ((mI h 3 0) * (r5 - 2))) h4)) ∧ ((l4 - l4 / 2 * 2) = 1 → MCi g yJ6_bitCount_0f7a4 uJ6_bitCount_0f7a4 [.int l1] h (fun r7 h6 => P (l2 - ((mI h 3 0) * (r7 - 2))) h6))) ∧ (¬ (mI h 3 2) ≤ l5 → (((l1 >>> (l5 &&& 31)) &&& 1) = 0 → ME g uX7_surplus 11 [.ref 4, .int l1, .int l2, .int l3, .int l4, .int (l5 + 1), .retAddr 0] [] h (qI P)) ∧ (¬ ((l1 >>> (l5 &&& 31)) &&& 1) = 0 → MCi g yX8_alike uX8_alike [.ref 3, .int l5] h (fun r10 h9 => ∀ x11 : Int32, x11 = (l2 + (if 0 ≤ r10 then r10 else 0 - r10)) → ∀ x12 : Int32, x12 = (if (if 0 ≤ r10 then r10 else 0 - r10) < l3 then (if 0 ≤ r10 then r10 else 0 - r10) else l3) → (0 ≤ r10 → ∀ x14 : Int32, x14 = (l4 + 0) → ME g uX7_surplus 11 [.ref 4, .int l1, .int x11, .int x12, .int x14, .int (l5 + 1), .retAddr 0] [] h9 (qI P)) ∧ (¬ 0 ≤ r10 → ∀ x15 : Int32, x15 = (l4 + 1) → ME g uX7_surplus 11 [.ref 4, .int l1, .int x11, .int x12, .int x15, .int (l5 + 1), .retAddr 0] [] h9 (qI P)))))) : ME g uX7_surplus 11 [.ref 4, .int l1, .int l2, .int l3, .int l4, .int l5, .retAddr 0] [] h (qI P) := by
  refine m_iload dX7_surplus_11 rfl ?_
  refine m_aload_n dX7_surplus_13 rfl ?_
  refine gf_X7_9 rfl dX7_surplus_14 ?_
  refine gf_X7_15 rfl dX7_surplus_17 ?_
  refine m_icmp_ge 82 dX7_surplus_20 (by decide) (fun c1 => ?_) (fun c1 => ?_)
  · replace q := q.1 c1
    refine m_iload dX7_surplus_82 rfl ?_
    refine m_iconst (v := 2) dX7_surplus_84 (by decide) ?_
    refine m_irem dX7_surplus_85 (by decide) ?_
    refine m_iconst (v := 1) dX7_surplus_86 (by decide) ?_
    refine m_icmp_ne 94 dX7_surplus_87 (by decide) (fun c2 => ?_) (fun c2 => ?_)
    · replace q := q.1 c2
      refine m_iload_n dX7_surplus_94 rfl ?_
      refine m_iconst (v := 2) dX7_surplus_95 (by decide) ?_
      refine m_iload_n dX7_surplus_96 rfl ?_
      refine m_imul dX7_surplus_97 ?_
      refine m_isub dX7_surplus_98 ?_
      obtain ⟨x3, ex3⟩ : ∃ z, z = (l2 - (2 * l3)) := ⟨_, rfl⟩
      rw [← ex3]
      replace q := q x3 ex3
      refine m_istore (lv' := [.ref 4, .int l1, .int l2, .int l3, .int l4, .int x3, .retAddr 0]) dX7_surplus_99 (Nat.le_of_ble_eq_true rfl) rfl rfl ?_
      refine m_iload dX7_surplus_101 rfl ?_
      refine m_aload_n dX7_surplus_103 rfl ?_
      refine gf_X7_9 rfl dX7_surplus_104 ?_
      refine gf_X7_60 rfl dX7_surplus_107 ?_
      refine m_iload_n dX7_surplus_110 rfl ?_
      refine cl_X7_21 rfl (by decide) dX7_surplus_111 (Nat.le_of_ble_eq_true rfl) (MCi_go q (fun r5 h4 q => ?_))
      refine m_iconst (v := 2) dX7_surplus_114 (by decide) ?_
      refine m_isub dX7_surplus_115 ?_
      refine m_imul dX7_surplus_116 ?_
      refine m_isub dX7_surplus_117 ?_
      exact m_iret dX7_surplus_118 rfl q
    · replace q := q.2 c2
      refine m_iload_n dX7_surplus_90 rfl ?_
      refine m_goto 99 dX7_surplus_91 (by decide) ?_
      refine m_istore (lv' := [.ref 4, .int l1, .int l2, .int l3, .int l4, .int l2, .retAddr 0]) dX7_surplus_99 (Nat.le_of_ble_eq_true rfl) rfl rfl ?_
      refine m_iload dX7_surplus_101 rfl ?_
      refine m_aload_n dX7_surplus_103 rfl ?_
      refine gf_X7_9 rfl dX7_surplus_104 ?_
      refine gf_X7_60 rfl dX7_surplus_107 ?_
      refine m_iload_n dX7_surplus_110 rfl ?_
      refine cl_X7_21 rfl (by decide) dX7_surplus_111 (Nat.le_of_ble_eq_true rfl) (MCi_go q (fun r7 h6 q => ?_))
      refine m_iconst (v := 2) dX7_surplus_114 (by decide) ?_
      refine m_isub dX7_surplus_115 ?_
      refine m_imul dX7_surplus_116 ?_
      refine m_isub dX7_surplus_117 ?_
      exact m_iret dX7_surplus_118 rfl q
  · replace q := q.2 c1
    refine m_iload_n dX7_surplus_23 rfl ?_
    refine m_iload dX7_surplus_24 rfl ?_
    refine m_ishr dX7_surplus_26 ?_
    refine m_iconst (v := 1) dX7_surplus_27 (by decide) ?_
    refine m_iand dX7_surplus_28 ?_
    refine m_if_eq 76 dX7_surplus_29 (by decide) (fun c8 => ?_) (fun c8 => ?_)
    · replace q := q.1 c8
      refine m_iinc (v := (l5 + 1)) (lv' := [.ref 4, .int l1, .int l2, .int l3, .int l4, .int (l5 + 1), .retAddr 0]) dX7_surplus_76 (Nat.le_of_ble_eq_true rfl) rfl (congrArg (fun z => l5 + z) (by decide : Int32.ofInt 1 = 1)) rfl rfl ?_
      refine m_goto 11 dX7_surplus_79 (by decide) ?_
      exact q
    · replace q := q.2 c8
      refine m_aload_n dX7_surplus_32 rfl ?_
      refine gf_X7_9 rfl dX7_surplus_33 ?_
      refine m_iload dX7_surplus_36 rfl ?_
      refine cl_X7_48 rfl (by decide) dX7_surplus_38 (Nat.le_of_ble_eq_true rfl) (MCi_go q (fun r10 h9 q => ?_))
      refine m_istore (lv' := [.ref 4, .int l1, .int l2, .int l3, .int l4, .int l5, .int r10]) dX7_surplus_41 (Nat.le_of_ble_eq_true rfl) rfl rfl ?_
      refine m_iload_n dX7_surplus_43 rfl ?_
      refine m_iload dX7_surplus_44 rfl ?_
      refine m_mabs dX7_surplus_46 tw_126 tw_127 tw_128 tw_129 (by decide) (Nat.le_of_ble_eq_true rfl) ?_
      refine m_iadd dX7_surplus_49 ?_
      obtain ⟨x11, ex11⟩ : ∃ z, z = (l2 + (if 0 ≤ r10 then r10 else 0 - r10)) := ⟨_, rfl⟩
      rw [← ex11]
      replace q := q x11 ex11
      refine m_istore_n (lv' := [.ref 4, .int l1, .int x11, .int l3, .int l4, .int l5, .int r10]) dX7_surplus_50 (Nat.le_of_ble_eq_true rfl) rfl rfl ?_
      refine m_iload_n dX7_surplus_51 rfl ?_
      refine m_iload dX7_surplus_52 rfl ?_
      refine m_mabs dX7_surplus_54 tw_126 tw_127 tw_128 tw_129 (by decide) (Nat.le_of_ble_eq_true rfl) ?_
      refine m_mmin dX7_surplus_57 tw_130 tw_131 tw_128 tw_132 (by decide) (Nat.le_of_ble_eq_true rfl) ?_
      obtain ⟨x12, ex12⟩ : ∃ z, z = (if (if 0 ≤ r10 then r10 else 0 - r10) < l3 then (if 0 ≤ r10 then r10 else 0 - r10) else l3) := ⟨_, rfl⟩
      rw [← ex12]
      replace q := q x12 ex12
      refine m_istore_n (lv' := [.ref 4, .int l1, .int x11, .int x12, .int l4, .int l5, .int r10]) dX7_surplus_60 (Nat.le_of_ble_eq_true rfl) rfl rfl ?_
      refine m_iload dX7_surplus_61 rfl ?_
      refine m_iload dX7_surplus_63 rfl ?_
      refine m_if_ge 72 dX7_surplus_65 (by decide) (fun c13 => ?_) (fun c13 => ?_)
      · replace q := q.1 c13
        refine m_iconst (v := 0) dX7_surplus_72 (by decide) ?_
        refine m_iadd dX7_surplus_73 ?_
        obtain ⟨x14, ex14⟩ : ∃ z, z = (l4 + 0) := ⟨_, rfl⟩
        rw [← ex14]
        replace q := q x14 ex14
        refine m_istore (lv' := [.ref 4, .int l1, .int x11, .int x12, .int x14, .int l5, .int r10]) dX7_surplus_74 (Nat.le_of_ble_eq_true rfl) rfl rfl ?_
        refine m_iinc (v := (l5 + 1)) (lv' := [.ref 4, .int l1, .int x11, .int x12, .int x14, .int (l5 + 1), .int r10]) dX7_surplus_76 (Nat.le_of_ble_eq_true rfl) rfl (congrArg (fun z => l5 + z) (by decide : Int32.ofInt 1 = 1)) rfl rfl ?_
        refine m_goto 11 dX7_surplus_79 (by decide) ?_
        refine m_dropK (lv' := [.ref 4, .int l1, .int x11, .int x12, .int x14, .int (l5 + 1), .retAddr 0]) [6] rfl ?_
        exact q
      · replace q := q.2 c13
        refine m_iconst (v := 1) dX7_surplus_68 (by decide) ?_
        refine m_goto 73 dX7_surplus_69 (by decide) ?_
        refine m_iadd dX7_surplus_73 ?_
        obtain ⟨x15, ex15⟩ : ∃ z, z = (l4 + 1) := ⟨_, rfl⟩
        rw [← ex15]
        replace q := q x15 ex15
        refine m_istore (lv' := [.ref 4, .int l1, .int x11, .int x12, .int x15, .int l5, .int r10]) dX7_surplus_74 (Nat.le_of_ble_eq_true rfl) rfl rfl ?_
        refine m_iinc (v := (l5 + 1)) (lv' := [.ref 4, .int l1, .int x11, .int x12, .int x15, .int (l5 + 1), .int r10]) dX7_surplus_76 (Nat.le_of_ble_eq_true rfl) rfl (congrArg (fun z => l5 + z) (by decide : Int32.ofInt 1 = 1)) rfl rfl ?_
        refine m_goto 11 dX7_surplus_79 (by decide) ?_
        refine m_dropK (lv' := [.ref 4, .int l1, .int x11, .int x12, .int x15, .int (l5 + 1), .retAddr 0]) [6] rfl ?_
        exact q
set_option maxRecDepth 100000 in
theorem e_X7_greatest {g : gT} {h : mh_T} {P : Int32 → mh_T → Prop}  (q : ME g uX7_greatest 5 [.ref 4, .int (-2), .int 0] [] h (qI P)) : MCi g yX7_greatest uX7_greatest [.ref 4] h P := by
  refine m_enter (by decide) rfl (Nat.le_of_ble_eq_true rfl) (lv := [.ref 4, .retAddr 0, .retAddr 0]) rfl ?_
  refine m_bipush (v := (-2)) dX7_greatest_0 (by decide) ?_
  refine m_istore_n (lv' := [.ref 4, .int (-2), .retAddr 0]) dX7_greatest_2 (Nat.le_of_ble_eq_true rfl) rfl rfl ?_
  refine m_iconst (v := 0) dX7_greatest_3 (by decide) ?_
  refine m_istore_n (lv' := [.ref 4, .int (-2), .int 0]) dX7_greatest_4 (Nat.le_of_ble_eq_true rfl) rfl rfl ?_
  exact q
set_option maxRecDepth 100000 in
theorem r_X7_greatest_5 {g : gT} {h : mh_T} {P : Int32 → mh_T → Prop} (l1 : Int32) (l2 : Int32) (q : ((1 <<< ((mI h 3 2) &&& 31)) ≤ l2 → P l1 h) ∧ (¬ (1 <<< ((mI h 3 2) &&& 31)) ≤ l2 → MCi g yX7_isRing uX7_isRing [.ref 4, .int l2] h (fun r3 h2 => (r3 = 0 → ME g uX7_greatest 5 [.ref 4, .int l1, .int (l2 + 1)] [] h2 (qI P)) ∧ (¬ r3 = 0 → (l1 < 0 → ME g uX7_greatest 5 [.ref 4, .int l2, .int (l2 + 1)] [] h2 (qI P)) ∧ (¬ l1 < 0 → MCi g yX7_surplus uX7_surplus [.ref 4, .int l2] h2 (fun r7 h6 => MCi g yX7_surplus uX7_surplus [.ref 4, .int l1] h6 (fun r9 h8 => (r7 ≤ r9 → ME g uX7_greatest 5 [.ref 4, .int l1, .int (l2 + 1)] [] h8 (qI P)) ∧ (¬ r7 ≤ r9 → ME g uX7_greatest 5 [.ref 4, .int l2, .int (l2 + 1)] [] h8 (qI P))))))))) : ME g uX7_greatest 5 [.ref 4, .int l1, .int l2] [] h (qI P) := by
  refine m_iload_n dX7_greatest_5 rfl ?_
  refine m_iconst (v := 1) dX7_greatest_6 (by decide) ?_
  refine m_aload_n dX7_greatest_7 rfl ?_
  refine gf_X7_9 rfl dX7_greatest_8 ?_
  refine gf_X7_15 rfl dX7_greatest_11 ?_
  refine m_ishl dX7_greatest_14 ?_
  refine m_icmp_ge 51 dX7_greatest_15 (by decide) (fun c1 => ?_) (fun c1 => ?_)
  · replace q := q.1 c1
    refine m_iload_n dX7_greatest_51 rfl ?_
    exact m_iret dX7_greatest_52 rfl q
  · replace q := q.2 c1
    refine m_aload_n dX7_greatest_18 rfl ?_
    refine m_iload_n dX7_greatest_19 rfl ?_
    refine cl_X7_45 rfl (by decide) dX7_greatest_20 (Nat.le_of_ble_eq_true rfl) (MCi_go q (fun r3 h2 q => ?_))
    refine m_if_eq 45 dX7_greatest_23 (by decide) (fun c4 => ?_) (fun c4 => ?_)
    · replace q := q.1 c4
      refine m_iinc (v := (l2 + 1)) (lv' := [.ref 4, .int l1, .int (l2 + 1)]) dX7_greatest_45 (Nat.le_of_ble_eq_true rfl) rfl (congrArg (fun z => l2 + z) (by decide : Int32.ofInt 1 = 1)) rfl rfl ?_
      refine m_goto 5 dX7_greatest_48 (by decide) ?_
      exact q
    · replace q := q.2 c4
      refine m_iload_n dX7_greatest_26 rfl ?_
      refine m_if_lt 43 dX7_greatest_27 (by decide) (fun c5 => ?_) (fun c5 => ?_)
      · replace q := q.1 c5
        refine m_iload_n dX7_greatest_43 rfl ?_
        refine m_istore_n (lv' := [.ref 4, .int l2, .int l2]) dX7_greatest_44 (Nat.le_of_ble_eq_true rfl) rfl rfl ?_
        refine m_iinc (v := (l2 + 1)) (lv' := [.ref 4, .int l2, .int (l2 + 1)]) dX7_greatest_45 (Nat.le_of_ble_eq_true rfl) rfl (congrArg (fun z => l2 + z) (by decide : Int32.ofInt 1 = 1)) rfl rfl ?_
        refine m_goto 5 dX7_greatest_48 (by decide) ?_
        exact q
      · replace q := q.2 c5
        refine m_aload_n dX7_greatest_30 rfl ?_
        refine m_iload_n dX7_greatest_31 rfl ?_
        refine cl_X7_63 rfl (by decide) dX7_greatest_32 (Nat.le_of_ble_eq_true rfl) (MCi_go q (fun r7 h6 q => ?_))
        refine m_aload_n dX7_greatest_35 rfl ?_
        refine m_iload_n dX7_greatest_36 rfl ?_
        refine cl_X7_63 rfl (by decide) dX7_greatest_37 (Nat.le_of_ble_eq_true rfl) (MCi_go q (fun r9 h8 q => ?_))
        refine m_icmp_le 45 dX7_greatest_40 (by decide) (fun c10 => ?_) (fun c10 => ?_)
        · replace q := q.1 c10
          refine m_iinc (v := (l2 + 1)) (lv' := [.ref 4, .int l1, .int (l2 + 1)]) dX7_greatest_45 (Nat.le_of_ble_eq_true rfl) rfl (congrArg (fun z => l2 + z) (by decide : Int32.ofInt 1 = 1)) rfl rfl ?_
          refine m_goto 5 dX7_greatest_48 (by decide) ?_
          exact q
        · replace q := q.2 c10
          refine m_iload_n dX7_greatest_43 rfl ?_
          refine m_istore_n (lv' := [.ref 4, .int l2, .int l2]) dX7_greatest_44 (Nat.le_of_ble_eq_true rfl) rfl rfl ?_
          refine m_iinc (v := (l2 + 1)) (lv' := [.ref 4, .int l2, .int (l2 + 1)]) dX7_greatest_45 (Nat.le_of_ble_eq_true rfl) rfl (congrArg (fun z => l2 + z) (by decide : Int32.ofInt 1 = 1)) rfl rfl ?_
          refine m_goto 5 dX7_greatest_48 (by decide) ?_
          exact q
set_option maxRecDepth 100000 in
theorem e_X5_open {g : gT} {h : mh_T} {P : mh_T → Prop}  (q : ∀ x1 : Int32, x1 = ((1 <<< ((mI (wI (wI (wI (wI (wI h 7 0 (mI h 2 2)) 7 1 (mI (wI h 7 0 (mI h 2 2)) 2 4)) 7 2 0) 7 3 0) 7 4 0) 7 1) &&& 31)) - 1) → ME g uX5_open 42 [.ref 7, .ref 2, .int x1, .int 0, .retAddr 0] [] (wI (wI (wI (wI (wI h 7 0 (mI h 2 2)) 7 1 (mI (wI h 7 0 (mI h 2 2)) 2 4)) 7 2 0) 7 3 0) 7 4 0) (qV P)) : MCv g yX5_open uX5_open [.ref 7, .ref 2] h P := by
  refine m_enter (by decide) rfl (Nat.le_of_ble_eq_true rfl) (lv := [.ref 7, .ref 2, .retAddr 0, .retAddr 0, .retAddr 0]) rfl ?_
  refine m_aload_n dX5_open_0 rfl ?_
  refine m_aload_n dX5_open_1 rfl ?_
  refine gf_X5_19 rfl dX5_open_2 ?_
  refine pf_X5_24 rfl dX5_open_5 ?_
  refine m_aload_n dX5_open_8 rfl ?_
  refine m_aload_n dX5_open_9 rfl ?_
  refine gf_X5_25 rfl dX5_open_10 ?_
  refine pf_X5_28 rfl dX5_open_13 ?_
  refine m_aload_n dX5_open_16 rfl ?_
  refine m_iconst (v := 0) dX5_open_17 (by decide) ?_
  refine pf_X5_9 rfl dX5_open_18 ?_
  refine m_aload_n dX5_open_21 rfl ?_
  refine m_iconst (v := 0) dX5_open_22 (by decide) ?_
  refine pf_X5_29 rfl dX5_open_23 ?_
  refine m_aload_n dX5_open_26 rfl ?_
  refine m_iconst (v := 0) dX5_open_27 (by decide) ?_
  refine pf_X5_32 rfl dX5_open_28 ?_
  refine m_iconst (v := 1) dX5_open_31 (by decide) ?_
  refine m_aload_n dX5_open_32 rfl ?_
  refine gf_X5_28 rfl dX5_open_33 ?_
  refine m_ishl dX5_open_36 ?_
  refine m_iconst (v := 1) dX5_open_37 (by decide) ?_
  refine m_isub dX5_open_38 ?_
  obtain ⟨x1, ex1⟩ : ∃ z, z = ((1 <<< ((mI (wI (wI (wI (wI (wI h 7 0 (mI h 2 2)) 7 1 (mI (wI h 7 0 (mI h 2 2)) 2 4)) 7 2 0) 7 3 0) 7 4 0) 7 1) &&& 31)) - 1) := ⟨_, rfl⟩
  rw [← ex1]
  replace q := q x1 ex1
  refine m_istore_n (lv' := [.ref 7, .ref 2, .int x1, .retAddr 0, .retAddr 0]) dX5_open_39 (Nat.le_of_ble_eq_true rfl) rfl rfl ?_
  refine m_iconst (v := 0) dX5_open_40 (by decide) ?_
  refine m_istore_n (lv' := [.ref 7, .ref 2, .int x1, .int 0, .retAddr 0]) dX5_open_41 (Nat.le_of_ble_eq_true rfl) rfl rfl ?_
  exact q
set_option maxRecDepth 100000 in
theorem r_X5_open_42 {g : gT} {h : mh_T} {P : mh_T → Prop} (l2 : Int32) (l3 : Int32) (q : (l2 < l3 → ME g uX5_open 62 [.ref 7, .ref 2, .int l2, .int 0, .retAddr 0] [] h (qV P)) ∧ (¬ l2 < l3 → (vp_in l3 256) ∧ (ME g uX5_open 42 [.ref 7, .ref 2, .int l2, .int (l3 + 1), .retAddr 0] [] (wI h 31 l3.toNatClampNeg 0) (qV P)))) : ME g uX5_open 42 [.ref 7, .ref 2, .int l2, .int l3, .retAddr 0] [] h (qV P) := by
  refine m_iload_n dX5_open_42 rfl ?_
  refine m_iload_n dX5_open_43 rfl ?_
  refine m_icmp_gt 60 dX5_open_44 (by decide) (fun c1 => ?_) (fun c1 => ?_)
  · replace q := q.1 c1
    refine m_iconst (v := 0) dX5_open_60 (by decide) ?_
    refine m_istore_n (lv' := [.ref 7, .ref 2, .int l2, .int 0, .retAddr 0]) dX5_open_61 (Nat.le_of_ble_eq_true rfl) rfl rfl ?_
    exact q
  · replace q := q.2 c1
    refine m_aload_n dX5_open_47 rfl ?_
    refine gf_X5_15 rfl dX5_open_48 ?_
    refine m_iload_n dX5_open_51 rfl ?_
    refine m_iconst (v := 0) dX5_open_52 (by decide) ?_
    obtain ⟨b2, q⟩ := q
    refine m_zastore dX5_open_53 rfl (by decide) b2 (by decide) ?_
    refine m_iinc (v := (l3 + 1)) (lv' := [.ref 7, .ref 2, .int l2, .int (l3 + 1), .retAddr 0]) dX5_open_54 (Nat.le_of_ble_eq_true rfl) rfl (congrArg (fun z => l3 + z) (by decide : Int32.ofInt 1 = 1)) rfl rfl ?_
    refine m_goto 42 dX5_open_57 (by decide) ?_
    exact q
set_option maxRecDepth 100000 in
theorem r_X5_open_62 {g : gT} {h : mh_T} {P : mh_T → Prop} (l2 : Int32) (l3 : Int32) (q : ((1 <<< ((mI h 7 0) &&& 31)) ≤ l3 → MCv g yX5_spread uX5_spread [.ref 7] h (fun h2 => P h2)) ∧ (¬ (1 <<< ((mI h 7 0) &&& 31)) ≤ l3 → MCi g yX5_soLines uX5_soLines [.ref 7, .ref 2, .int l3] h (fun r4 h3 => (vp_in r4 256) ∧ ((¬ r4 = l2 → ME g uX5_open 62 [.ref 7, .ref 2, .int l2, .int (l3 + 1), .retAddr 0] [] (wI h3 31 r4.toNatClampNeg 1) (qV P)) ∧ (r4 = l2 → ME g uX5_open 62 [.ref 7, .ref 2, .int l2, .int (l3 + 1), .retAddr 0] [] (wI (wI (wI (wI h3 31 r4.toNatClampNeg 1) 7 2 ((mI (wI h3 31 r4.toNatClampNeg 1) 7 2) + 1)) 7 3 ((mI (wI (wI h3 31 r4.toNatClampNeg 1) 7 2 ((mI (wI h3 31 r4.toNatClampNeg 1) 7 2) + 1)) 7 3) ||| l3)) 7 4 ((mI (wI (wI (wI h3 31 r4.toNatClampNeg 1) 7 2 ((mI (wI h3 31 r4.toNatClampNeg 1) 7 2) + 1)) 7 3 ((mI (wI (wI h3 31 r4.toNatClampNeg 1) 7 2 ((mI (wI h3 31 r4.toNatClampNeg 1) 7 2) + 1)) 7 3) ||| l3)) 7 4) ||| (l3 ^^^ (-1)))) (qV P)))))) : ME g uX5_open 62 [.ref 7, .ref 2, .int l2, .int l3, .retAddr 0] [] h (qV P) := by
  refine m_iload_n dX5_open_62 rfl ?_
  refine m_iconst (v := 1) dX5_open_63 (by decide) ?_
  refine m_aload_n dX5_open_64 rfl ?_
  refine gf_X5_24 rfl dX5_open_65 ?_
  refine m_ishl dX5_open_68 ?_
  refine m_icmp_ge 132 dX5_open_69 (by decide) (fun c1 => ?_) (fun c1 => ?_)
  · replace q := q.1 c1
    refine m_aload_n dX5_open_132 rfl ?_
    refine cl_X5_39 rfl (by decide) dX5_open_133 (Nat.le_of_ble_eq_true rfl) (MCv_go q (fun h2 q => ?_))
    exact m_vret dX5_open_136 rfl q
  · replace q := q.2 c1
    refine m_aload_n dX5_open_72 rfl ?_
    refine m_aload_n dX5_open_73 rfl ?_
    refine m_iload_n dX5_open_74 rfl ?_
    refine cl_X5_35 rfl (by decide) dX5_open_75 (Nat.le_of_ble_eq_true rfl) (MCi_go q (fun r4 h3 q => ?_))
    refine m_istore (lv' := [.ref 7, .ref 2, .int l2, .int l3, .int r4]) dX5_open_78 (Nat.le_of_ble_eq_true rfl) rfl rfl ?_
    refine m_aload_n dX5_open_80 rfl ?_
    refine gf_X5_15 rfl dX5_open_81 ?_
    refine m_iload dX5_open_84 rfl ?_
    refine m_iconst (v := 1) dX5_open_86 (by decide) ?_
    obtain ⟨b5, q⟩ := q
    refine m_zastore dX5_open_87 rfl (by decide) b5 (by decide) ?_
    refine m_iload dX5_open_88 rfl ?_
    refine m_iload_n dX5_open_90 rfl ?_
    refine m_icmp_ne 126 dX5_open_91 (by decide) (fun c6 => ?_) (fun c6 => ?_)
    · replace q := q.1 c6
      refine m_iinc (v := (l3 + 1)) (lv' := [.ref 7, .ref 2, .int l2, .int (l3 + 1), .int r4]) dX5_open_126 (Nat.le_of_ble_eq_true rfl) rfl (congrArg (fun z => l3 + z) (by decide : Int32.ofInt 1 = 1)) rfl rfl ?_
      refine m_goto 62 dX5_open_129 (by decide) ?_
      refine m_dropK (lv' := [.ref 7, .ref 2, .int l2, .int (l3 + 1), .retAddr 0]) [4] rfl ?_
      exact q
    · replace q := q.2 c6
      refine m_aload_n dX5_open_94 rfl ?_
      refine m_dup dX5_open_95 rfl ?_
      refine gf_X5_9 rfl dX5_open_96 ?_
      refine m_iconst (v := 1) dX5_open_99 (by decide) ?_
      refine m_iadd dX5_open_100 ?_
      refine pf_X5_9 rfl dX5_open_101 ?_
      refine m_aload_n dX5_open_104 rfl ?_
      refine m_dup dX5_open_105 rfl ?_
      refine gf_X5_29 rfl dX5_open_106 ?_
      refine m_iload_n dX5_open_109 rfl ?_
      refine m_ior dX5_open_110 ?_
      refine pf_X5_29 rfl dX5_open_111 ?_
      refine m_aload_n dX5_open_114 rfl ?_
      refine m_dup dX5_open_115 rfl ?_
      refine gf_X5_32 rfl dX5_open_116 ?_
      refine m_iload_n dX5_open_119 rfl ?_
      refine m_iconst (v := (-1)) dX5_open_120 (by decide) ?_
      refine m_ixor dX5_open_121 ?_
      refine m_ior dX5_open_122 ?_
      refine pf_X5_32 rfl dX5_open_123 ?_
      refine m_iinc (v := (l3 + 1)) (lv' := [.ref 7, .ref 2, .int l2, .int (l3 + 1), .int r4]) dX5_open_126 (Nat.le_of_ble_eq_true rfl) rfl (congrArg (fun z => l3 + z) (by decide : Int32.ofInt 1 = 1)) rfl rfl ?_
      refine m_goto 62 dX5_open_129 (by decide) ?_
      refine m_dropK (lv' := [.ref 7, .ref 2, .int l2, .int (l3 + 1), .retAddr 0]) [4] rfl ?_
      exact q
set_option maxRecDepth 100000 in
theorem e_X5_soLines {g : gT} {h : mh_T} {P : Int32 → mh_T → Prop} (l2 : Int32) (q : ME g uX5_soLines 5 [.ref 7, .ref 2, .int l2, .int 0, .int 0] [] h (qI P)) : MCi g yX5_soLines uX5_soLines [.ref 7, .ref 2, .int l2] h P := by
  refine m_enter (by decide) rfl (Nat.le_of_ble_eq_true rfl) (lv := [.ref 7, .ref 2, .int l2, .retAddr 0, .retAddr 0]) rfl ?_
  refine m_iconst (v := 0) dX5_soLines_0 (by decide) ?_
  refine m_istore_n (lv' := [.ref 7, .ref 2, .int l2, .int 0, .retAddr 0]) dX5_soLines_1 (Nat.le_of_ble_eq_true rfl) rfl rfl ?_
  refine m_iconst (v := 0) dX5_soLines_2 (by decide) ?_
  refine m_istore (lv' := [.ref 7, .ref 2, .int l2, .int 0, .int 0]) dX5_soLines_3 (Nat.le_of_ble_eq_true rfl) rfl rfl ?_
  exact q
set_option maxRecDepth 100000 in
theorem r_X5_soLines_5 {g : gT} {h : mh_T} {P : Int32 → mh_T → Prop} (l2 : Int32) (l3 : Int32) (l4 : Int32) (q : ((mI h 7 1) ≤ l4 → P l3 h) ∧ (¬ (mI h 7 1) ≤ l4 → (vp_in l4 8) ∧ (MCi g yJ6_bitCount_0f7a4 uJ6_bitCount_0f7a4 [.int (l2 &&& (mI h 18 l4.toNatClampNeg))] h (fun r4 h3 => (vp_in l4 8) ∧ ((¬ (r4 - r4 / 2 * 2) = (mI h3 19 l4.toNatClampNeg) → ME g uX5_soLines 5 [.ref 7, .ref 2, .int l2, .int l3, .int (l4 + 1)] [] h3 (qI P)) ∧ ((r4 - r4 / 2 * 2) = (mI h3 19 l4.toNatClampNeg) → ∀ x7 : Int32, x7 = (l3 ||| (1 <<< (l4 &&& 31))) → ME g uX5_soLines 5 [.ref 7, .ref 2, .int l2, .int x7, .int (l4 + 1)] [] h3 (qI P))))))) : ME g uX5_soLines 5 [.ref 7, .ref 2, .int l2, .int l3, .int l4] [] h (qI P) := by
  refine m_iload dX5_soLines_5 rfl ?_
  refine m_aload_n dX5_soLines_7 rfl ?_
  refine gf_X5_28 rfl dX5_soLines_8 ?_
  refine m_icmp_ge 51 dX5_soLines_11 (by decide) (fun c1 => ?_) (fun c1 => ?_)
  · replace q := q.1 c1
    refine m_iload_n dX5_soLines_51 rfl ?_
    exact m_iret dX5_soLines_52 rfl q
  · replace q := q.2 c1
    refine m_iload_n dX5_soLines_14 rfl ?_
    refine m_aload_n dX5_soLines_15 rfl ?_
    refine gf_X5_42 rfl dX5_soLines_16 ?_
    refine m_iload dX5_soLines_19 rfl ?_
    obtain ⟨b2, q⟩ := q
    refine m_iaload dX5_soLines_21 rfl (by decide) b2 ?_
    refine m_iand dX5_soLines_22 ?_
    refine cl_X5_46 rfl (by decide) dX5_soLines_23 (Nat.le_of_ble_eq_true rfl) (MCi_go q (fun r4 h3 q => ?_))
    refine m_iconst (v := 2) dX5_soLines_26 (by decide) ?_
    refine m_irem dX5_soLines_27 (by decide) ?_
    refine m_aload_n dX5_soLines_28 rfl ?_
    refine gf_X5_52 rfl dX5_soLines_29 ?_
    refine m_iload dX5_soLines_32 rfl ?_
    obtain ⟨b5, q⟩ := q
    refine m_iaload dX5_soLines_34 rfl (by decide) b5 ?_
    refine m_icmp_ne 45 dX5_soLines_35 (by decide) (fun c6 => ?_) (fun c6 => ?_)
    · replace q := q.1 c6
      refine m_iinc (v := (l4 + 1)) (lv' := [.ref 7, .ref 2, .int l2, .int l3, .int (l4 + 1)]) dX5_soLines_45 (Nat.le_of_ble_eq_true rfl) rfl (congrArg (fun z => l4 + z) (by decide : Int32.ofInt 1 = 1)) rfl rfl ?_
      refine m_goto 5 dX5_soLines_48 (by decide) ?_
      exact q
    · replace q := q.2 c6
      refine m_iload_n dX5_soLines_38 rfl ?_
      refine m_iconst (v := 1) dX5_soLines_39 (by decide) ?_
      refine m_iload dX5_soLines_40 rfl ?_
      refine m_ishl dX5_soLines_42 ?_
      refine m_ior dX5_soLines_43 ?_
      obtain ⟨x7, ex7⟩ : ∃ z, z = (l3 ||| (1 <<< (l4 &&& 31))) := ⟨_, rfl⟩
      rw [← ex7]
      replace q := q x7 ex7
      refine m_istore_n (lv' := [.ref 7, .ref 2, .int l2, .int x7, .int l4]) dX5_soLines_44 (Nat.le_of_ble_eq_true rfl) rfl rfl ?_
      refine m_iinc (v := (l4 + 1)) (lv' := [.ref 7, .ref 2, .int l2, .int x7, .int (l4 + 1)]) dX5_soLines_45 (Nat.le_of_ble_eq_true rfl) rfl (congrArg (fun z => l4 + z) (by decide : Int32.ofInt 1 = 1)) rfl rfl ?_
      refine m_goto 5 dX5_soLines_48 (by decide) ?_
      exact q
set_option maxRecDepth 100000 in
theorem e_X5_spread {g : gT} {h : mh_T} {P : mh_T → Prop}  (q : ∀ x1 : Int32, x1 = ((1 <<< ((mI h 7 1) &&& 31)) - 1) → ME g uX5_spread 9 [.ref 7, .int x1, .retAddr 0] [] h (qV P)) : MCv g yX5_spread uX5_spread [.ref 7] h P := by
  refine m_enter (by decide) rfl (Nat.le_of_ble_eq_true rfl) (lv := [.ref 7, .retAddr 0, .retAddr 0]) rfl ?_
  refine m_iconst (v := 1) dX5_spread_0 (by decide) ?_
  refine m_aload_n dX5_spread_1 rfl ?_
  refine gf_X5_28 rfl dX5_spread_2 ?_
  refine m_ishl dX5_spread_5 ?_
  refine m_iconst (v := 1) dX5_spread_6 (by decide) ?_
  refine m_isub dX5_spread_7 ?_
  obtain ⟨x1, ex1⟩ : ∃ z, z = ((1 <<< ((mI h 7 1) &&& 31)) - 1) := ⟨_, rfl⟩
  rw [← ex1]
  replace q := q x1 ex1
  refine m_istore_n (lv' := [.ref 7, .int x1, .retAddr 0]) dX5_spread_8 (Nat.le_of_ble_eq_true rfl) rfl rfl ?_
  exact q
set_option maxRecDepth 100000 in
theorem r_X5_spread_9 {g : gT} {h : mh_T} {P : mh_T → Prop} (l1 : Int32) (q : (l1 ≤ 0 → P h) ∧ (¬ l1 ≤ 0 → ME g uX5_spread 15 [.ref 7, .int l1, .int 0] [] h (qV P))) : ME g uX5_spread 9 [.ref 7, .int l1, .retAddr 0] [] h (qV P) := by
  refine m_iload_n dX5_spread_9 rfl ?_
  refine m_if_le 57 dX5_spread_10 (by decide) (fun c1 => ?_) (fun c1 => ?_)
  · replace q := q.1 c1
    exact m_vret dX5_spread_57 rfl q
  · replace q := q.2 c1
    refine m_iconst (v := 0) dX5_spread_13 (by decide) ?_
    refine m_istore_n (lv' := [.ref 7, .int l1, .int 0]) dX5_spread_14 (Nat.le_of_ble_eq_true rfl) rfl rfl ?_
    exact q
set_option maxRecDepth 100000 in
theorem r_X5_spread_15 {g : gT} {h : mh_T} {P : mh_T → Prop} (l1 : Int32) (l2 : Int32) (q : (vp_in l1 256) ∧ (((mI h 31 l1.toNatClampNeg) = 0 → ME g uX5_spread 9 [.ref 7, .int (l1 + (-1)), .retAddr 0] [] h (qV P)) ∧ (¬ (mI h 31 l1.toNatClampNeg) = 0 → ((mI h 7 1) ≤ l2 → ME g uX5_spread 9 [.ref 7, .int (l1 + (-1)), .retAddr 0] [] h (qV P)) ∧ (¬ (mI h 7 1) ≤ l2 → (vp_in (l1 &&& ((1 <<< (l2 &&& 31)) ^^^ (-1))) 256) ∧ (ME g uX5_spread 15 [.ref 7, .int l1, .int (l2 + 1)] [] (wI h 31 (l1 &&& ((1 <<< (l2 &&& 31)) ^^^ (-1))).toNatClampNeg 1) (qV P)))))) : ME g uX5_spread 15 [.ref 7, .int l1, .int l2] [] h (qV P) := by
  refine m_aload_n dX5_spread_15 rfl ?_
  refine gf_X5_15 rfl dX5_spread_16 ?_
  refine m_iload_n dX5_spread_19 rfl ?_
  obtain ⟨b1, q⟩ := q
  refine m_zaload dX5_spread_20 rfl (by decide) b1 ?_
  refine m_if_eq 51 dX5_spread_21 (by decide) (fun c2 => ?_) (fun c2 => ?_)
  · replace q := q.1 c2
    refine m_iinc (v := (l1 + (-1))) (lv' := [.ref 7, .int (l1 + (-1)), .int l2]) dX5_spread_51 (Nat.le_of_ble_eq_true rfl) rfl (congrArg (fun z => l1 + z) (by decide : Int32.ofInt (-1) = -1)) rfl rfl ?_
    refine m_goto 9 dX5_spread_54 (by decide) ?_
    refine m_dropK (lv' := [.ref 7, .int (l1 + (-1)), .retAddr 0]) [2] rfl ?_
    exact q
  · replace q := q.2 c2
    refine m_iload_n dX5_spread_24 rfl ?_
    refine m_aload_n dX5_spread_25 rfl ?_
    refine gf_X5_28 rfl dX5_spread_26 ?_
    refine m_icmp_ge 51 dX5_spread_29 (by decide) (fun c3 => ?_) (fun c3 => ?_)
    · replace q := q.1 c3
      refine m_iinc (v := (l1 + (-1))) (lv' := [.ref 7, .int (l1 + (-1)), .int l2]) dX5_spread_51 (Nat.le_of_ble_eq_true rfl) rfl (congrArg (fun z => l1 + z) (by decide : Int32.ofInt (-1) = -1)) rfl rfl ?_
      refine m_goto 9 dX5_spread_54 (by decide) ?_
      refine m_dropK (lv' := [.ref 7, .int (l1 + (-1)), .retAddr 0]) [2] rfl ?_
      exact q
    · replace q := q.2 c3
      refine m_aload_n dX5_spread_32 rfl ?_
      refine gf_X5_15 rfl dX5_spread_33 ?_
      refine m_iload_n dX5_spread_36 rfl ?_
      refine m_iconst (v := 1) dX5_spread_37 (by decide) ?_
      refine m_iload_n dX5_spread_38 rfl ?_
      refine m_ishl dX5_spread_39 ?_
      refine m_iconst (v := (-1)) dX5_spread_40 (by decide) ?_
      refine m_ixor dX5_spread_41 ?_
      refine m_iand dX5_spread_42 ?_
      refine m_iconst (v := 1) dX5_spread_43 (by decide) ?_
      obtain ⟨b4, q⟩ := q
      refine m_zastore dX5_spread_44 rfl (by decide) b4 (by decide) ?_
      refine m_iinc (v := (l2 + 1)) (lv' := [.ref 7, .int l1, .int (l2 + 1)]) dX5_spread_45 (Nat.le_of_ble_eq_true rfl) rfl (congrArg (fun z => l2 + z) (by decide : Int32.ofInt 1 = 1)) rfl rfl ?_
      refine m_goto 15 dX5_spread_48 (by decide) ?_
      exact q
set_option maxRecDepth 100000 in
theorem e_X5_holds {g : gT} {h : mh_T} {P : Int32 → mh_T → Prop} (l1 : Int32) (q : (l1 < 0 → P 0 h) ∧ (¬ l1 < 0 → ((1 <<< ((mI h 7 1) &&& 31)) ≤ l1 → P 0 h) ∧ (¬ (1 <<< ((mI h 7 1) &&& 31)) ≤ l1 → (vp_in l1 256) ∧ (((mI h 31 l1.toNatClampNeg) = 0 → P 0 h) ∧ (¬ (mI h 31 l1.toNatClampNeg) = 0 → P 1 h))))) : MCi g yX5_holds uX5_holds [.ref 7, .int l1] h P := by
  refine m_enter (by decide) rfl (Nat.le_of_ble_eq_true rfl) (lv := [.ref 7, .int l1]) rfl ?_
  refine m_iload_n dX5_holds_0 rfl ?_
  refine m_if_lt 27 dX5_holds_1 (by decide) (fun c1 => ?_) (fun c1 => ?_)
  · replace q := q.1 c1
    refine m_iconst (v := 0) dX5_holds_27 (by decide) ?_
    exact m_zret dX5_holds_28 rfl (by decide) q
  · replace q := q.2 c1
    refine m_iload_n dX5_holds_4 rfl ?_
    refine m_iconst (v := 1) dX5_holds_5 (by decide) ?_
    refine m_aload_n dX5_holds_6 rfl ?_
    refine gf_X5_28 rfl dX5_holds_7 ?_
    refine m_ishl dX5_holds_10 ?_
    refine m_icmp_ge 27 dX5_holds_11 (by decide) (fun c2 => ?_) (fun c2 => ?_)
    · replace q := q.1 c2
      refine m_iconst (v := 0) dX5_holds_27 (by decide) ?_
      exact m_zret dX5_holds_28 rfl (by decide) q
    · replace q := q.2 c2
      refine m_aload_n dX5_holds_14 rfl ?_
      refine gf_X5_15 rfl dX5_holds_15 ?_
      refine m_iload_n dX5_holds_18 rfl ?_
      obtain ⟨b3, q⟩ := q
      refine m_zaload dX5_holds_19 rfl (by decide) b3 ?_
      refine m_if_eq 27 dX5_holds_20 (by decide) (fun c4 => ?_) (fun c4 => ?_)
      · replace q := q.1 c4
        refine m_iconst (v := 0) dX5_holds_27 (by decide) ?_
        exact m_zret dX5_holds_28 rfl (by decide) q
      · replace q := q.2 c4
        refine m_iconst (v := 1) dX5_holds_23 (by decide) ?_
        refine m_goto 28 dX5_holds_24 (by decide) ?_
        exact m_zret dX5_holds_28 rfl (by decide) q
set_option maxRecDepth 100000 in
theorem e_X5_valueOf {g : gT} {h : mh_T} {P : Int32 → mh_T → Prop} (l1 : Int32) (q : ((((mI h 7 3) >>> (l1 &&& 31)) &&& 1) = 0 → ((((mI h 7 4) >>> (l1 &&& 31)) &&& 1) = 0 → P 0 h) ∧ (¬ (((mI h 7 4) >>> (l1 &&& 31)) &&& 1) = 0 → P 0 h)) ∧ (¬ (((mI h 7 3) >>> (l1 &&& 31)) &&& 1) = 0 → ((((mI h 7 4) >>> (l1 &&& 31)) &&& 1) = 0 → P 1 h) ∧ (¬ (((mI h 7 4) >>> (l1 &&& 31)) &&& 1) = 0 → P (-2) h))) : MCi g yX5_valueOf uX5_valueOf [.ref 7, .int l1] h P := by
  refine m_enter (by decide) rfl (Nat.le_of_ble_eq_true rfl) (lv := [.ref 7, .int l1, .retAddr 0, .retAddr 0]) rfl ?_
  refine m_aload_n dX5_valueOf_0 rfl ?_
  refine gf_X5_29 rfl dX5_valueOf_1 ?_
  refine m_iload_n dX5_valueOf_4 rfl ?_
  refine m_ishr dX5_valueOf_5 ?_
  refine m_iconst (v := 1) dX5_valueOf_6 (by decide) ?_
  refine m_iand dX5_valueOf_7 ?_
  refine m_if_eq 15 dX5_valueOf_8 (by decide) (fun c1 => ?_) (fun c1 => ?_)
  · replace q := q.1 c1
    refine m_iconst (v := 0) dX5_valueOf_15 (by decide) ?_
    refine m_istore_n (lv' := [.ref 7, .int l1, .int 0, .retAddr 0]) dX5_valueOf_16 (Nat.le_of_ble_eq_true rfl) rfl rfl ?_
    refine m_aload_n dX5_valueOf_17 rfl ?_
    refine gf_X5_32 rfl dX5_valueOf_18 ?_
    refine m_iload_n dX5_valueOf_21 rfl ?_
    refine m_ishr dX5_valueOf_22 ?_
    refine m_iconst (v := 1) dX5_valueOf_23 (by decide) ?_
    refine m_iand dX5_valueOf_24 ?_
    refine m_if_eq 32 dX5_valueOf_25 (by decide) (fun c2 => ?_) (fun c2 => ?_)
    · replace q := q.1 c2
      refine m_iconst (v := 0) dX5_valueOf_32 (by decide) ?_
      refine m_istore_n (lv' := [.ref 7, .int l1, .int 0, .int 0]) dX5_valueOf_33 (Nat.le_of_ble_eq_true rfl) rfl rfl ?_
      refine m_iload_n dX5_valueOf_34 rfl ?_
      refine m_if_eq 45 dX5_valueOf_35 (by decide) (fun c3 => ?_) (fun c3 => absurd c3 (by decide))
      refine m_iload_n dX5_valueOf_45 rfl ?_
      refine m_if_eq 53 dX5_valueOf_46 (by decide) (fun c4 => ?_) (fun c4 => absurd c4 (by decide))
      refine m_iconst (v := 0) dX5_valueOf_53 (by decide) ?_
      exact m_iret dX5_valueOf_54 rfl q
    · replace q := q.2 c2
      refine m_iconst (v := 1) dX5_valueOf_28 (by decide) ?_
      refine m_goto 33 dX5_valueOf_29 (by decide) ?_
      refine m_istore_n (lv' := [.ref 7, .int l1, .int 0, .int 1]) dX5_valueOf_33 (Nat.le_of_ble_eq_true rfl) rfl rfl ?_
      refine m_iload_n dX5_valueOf_34 rfl ?_
      refine m_if_eq 45 dX5_valueOf_35 (by decide) (fun c5 => ?_) (fun c5 => absurd c5 (by decide))
      refine m_iload_n dX5_valueOf_45 rfl ?_
      refine m_if_eq 53 dX5_valueOf_46 (by decide) (fun c6 => ?_) (fun c6 => absurd c6 (by decide))
      refine m_iconst (v := 0) dX5_valueOf_53 (by decide) ?_
      exact m_iret dX5_valueOf_54 rfl q
  · replace q := q.2 c1
    refine m_iconst (v := 1) dX5_valueOf_11 (by decide) ?_
    refine m_goto 16 dX5_valueOf_12 (by decide) ?_
    refine m_istore_n (lv' := [.ref 7, .int l1, .int 1, .retAddr 0]) dX5_valueOf_16 (Nat.le_of_ble_eq_true rfl) rfl rfl ?_
    refine m_aload_n dX5_valueOf_17 rfl ?_
    refine gf_X5_32 rfl dX5_valueOf_18 ?_
    refine m_iload_n dX5_valueOf_21 rfl ?_
    refine m_ishr dX5_valueOf_22 ?_
    refine m_iconst (v := 1) dX5_valueOf_23 (by decide) ?_
    refine m_iand dX5_valueOf_24 ?_
    refine m_if_eq 32 dX5_valueOf_25 (by decide) (fun c7 => ?_) (fun c7 => ?_)
    · replace q := q.1 c7
      refine m_iconst (v := 0) dX5_valueOf_32 (by decide) ?_
      refine m_istore_n (lv' := [.ref 7, .int l1, .int 1, .int 0]) dX5_valueOf_33 (Nat.le_of_ble_eq_true rfl) rfl rfl ?_
      refine m_iload_n dX5_valueOf_34 rfl ?_
      refine m_if_eq 45 dX5_valueOf_35 (by decide) (fun c8 => absurd c8 (by decide)) (fun c8 => ?_)
      refine m_iload_n dX5_valueOf_38 rfl ?_
      refine m_if_eq 45 dX5_valueOf_39 (by decide) (fun c9 => ?_) (fun c9 => absurd c9 (by decide))
      refine m_iload_n dX5_valueOf_45 rfl ?_
      refine m_if_eq 53 dX5_valueOf_46 (by decide) (fun c10 => absurd c10 (by decide)) (fun c10 => ?_)
      refine m_iconst (v := 1) dX5_valueOf_49 (by decide) ?_
      refine m_goto 54 dX5_valueOf_50 (by decide) ?_
      exact m_iret dX5_valueOf_54 rfl q
    · replace q := q.2 c7
      refine m_iconst (v := 1) dX5_valueOf_28 (by decide) ?_
      refine m_goto 33 dX5_valueOf_29 (by decide) ?_
      refine m_istore_n (lv' := [.ref 7, .int l1, .int 1, .int 1]) dX5_valueOf_33 (Nat.le_of_ble_eq_true rfl) rfl rfl ?_
      refine m_iload_n dX5_valueOf_34 rfl ?_
      refine m_if_eq 45 dX5_valueOf_35 (by decide) (fun c11 => absurd c11 (by decide)) (fun c11 => ?_)
      refine m_iload_n dX5_valueOf_38 rfl ?_
      refine m_if_eq 45 dX5_valueOf_39 (by decide) (fun c12 => absurd c12 (by decide)) (fun c12 => ?_)
      refine m_bipush (v := (-2)) dX5_valueOf_42 (by decide) ?_
      exact m_iret dX5_valueOf_44 rfl q
set_option maxRecDepth 100000 in
theorem e_X5_leastBroken {g : gT} {h : mh_T} {P : Int32 → mh_T → Prop}  (q : ME g uX5_leastBroken 5 [.ref 7, .int (-2), .int 0] [] h (qI P)) : MCi g yX5_leastBroken uX5_leastBroken [.ref 7] h P := by
  refine m_enter (by decide) rfl (Nat.le_of_ble_eq_true rfl) (lv := [.ref 7, .retAddr 0, .retAddr 0]) rfl ?_
  refine m_bipush (v := (-2)) dX5_leastBroken_0 (by decide) ?_
  refine m_istore_n (lv' := [.ref 7, .int (-2), .retAddr 0]) dX5_leastBroken_2 (Nat.le_of_ble_eq_true rfl) rfl rfl ?_
  refine m_iconst (v := 0) dX5_leastBroken_3 (by decide) ?_
  refine m_istore_n (lv' := [.ref 7, .int (-2), .int 0]) dX5_leastBroken_4 (Nat.le_of_ble_eq_true rfl) rfl rfl ?_
  exact q
set_option maxRecDepth 100000 in
theorem r_X5_leastBroken_5 {g : gT} {h : mh_T} {P : Int32 → mh_T → Prop} (l1 : Int32) (l2 : Int32) (q : ((1 <<< ((mI h 7 1) &&& 31)) ≤ l2 → P l1 h) ∧ (¬ (1 <<< ((mI h 7 1) &&& 31)) ≤ l2 → (vp_in l2 256) ∧ ((¬ (mI h 31 l2.toNatClampNeg) = 0 → ME g uX5_leastBroken 5 [.ref 7, .int l1, .int (l2 + 1)] [] h (qI P)) ∧ ((mI h 31 l2.toNatClampNeg) = 0 → (l1 < 0 → ME g uX5_leastBroken 5 [.ref 7, .int l2, .int (l2 + 1)] [] h (qI P)) ∧ (¬ l1 < 0 → MCi g yJ6_bitCount_0f7a4 uJ6_bitCount_0f7a4 [.int l2] h (fun r6 h5 => MCi g yJ6_bitCount_0f7a4 uJ6_bitCount_0f7a4 [.int l1] h5 (fun r8 h7 => (r8 ≤ r6 → ME g uX5_leastBroken 5 [.ref 7, .int l1, .int (l2 + 1)] [] h7 (qI P)) ∧ (¬ r8 ≤ r6 → ME g uX5_leastBroken 5 [.ref 7, .int l2, .int (l2 + 1)] [] h7 (qI P))))))))) : ME g uX5_leastBroken 5 [.ref 7, .int l1, .int l2] [] h (qI P) := by
  refine m_iload_n dX5_leastBroken_5 rfl ?_
  refine m_iconst (v := 1) dX5_leastBroken_6 (by decide) ?_
  refine m_aload_n dX5_leastBroken_7 rfl ?_
  refine gf_X5_28 rfl dX5_leastBroken_8 ?_
  refine m_ishl dX5_leastBroken_11 ?_
  refine m_icmp_ge 47 dX5_leastBroken_12 (by decide) (fun c1 => ?_) (fun c1 => ?_)
  · replace q := q.1 c1
    refine m_iload_n dX5_leastBroken_47 rfl ?_
    exact m_iret dX5_leastBroken_48 rfl q
  · replace q := q.2 c1
    refine m_aload_n dX5_leastBroken_15 rfl ?_
    refine gf_X5_15 rfl dX5_leastBroken_16 ?_
    refine m_iload_n dX5_leastBroken_19 rfl ?_
    obtain ⟨b2, q⟩ := q
    refine m_zaload dX5_leastBroken_20 rfl (by decide) b2 ?_
    refine m_if_ne 41 dX5_leastBroken_21 (by decide) (fun c3 => ?_) (fun c3 => ?_)
    · replace q := q.1 c3
      refine m_iinc (v := (l2 + 1)) (lv' := [.ref 7, .int l1, .int (l2 + 1)]) dX5_leastBroken_41 (Nat.le_of_ble_eq_true rfl) rfl (congrArg (fun z => l2 + z) (by decide : Int32.ofInt 1 = 1)) rfl rfl ?_
      refine m_goto 5 dX5_leastBroken_44 (by decide) ?_
      exact q
    · replace q := q.2 c3
      refine m_iload_n dX5_leastBroken_24 rfl ?_
      refine m_if_lt 39 dX5_leastBroken_25 (by decide) (fun c4 => ?_) (fun c4 => ?_)
      · replace q := q.1 c4
        refine m_iload_n dX5_leastBroken_39 rfl ?_
        refine m_istore_n (lv' := [.ref 7, .int l2, .int l2]) dX5_leastBroken_40 (Nat.le_of_ble_eq_true rfl) rfl rfl ?_
        refine m_iinc (v := (l2 + 1)) (lv' := [.ref 7, .int l2, .int (l2 + 1)]) dX5_leastBroken_41 (Nat.le_of_ble_eq_true rfl) rfl (congrArg (fun z => l2 + z) (by decide : Int32.ofInt 1 = 1)) rfl rfl ?_
        refine m_goto 5 dX5_leastBroken_44 (by decide) ?_
        exact q
      · replace q := q.2 c4
        refine m_iload_n dX5_leastBroken_28 rfl ?_
        refine cl_X5_46 rfl (by decide) dX5_leastBroken_29 (Nat.le_of_ble_eq_true rfl) (MCi_go q (fun r6 h5 q => ?_))
        refine m_iload_n dX5_leastBroken_32 rfl ?_
        refine cl_X5_46 rfl (by decide) dX5_leastBroken_33 (Nat.le_of_ble_eq_true rfl) (MCi_go q (fun r8 h7 q => ?_))
        refine m_icmp_ge 41 dX5_leastBroken_36 (by decide) (fun c9 => ?_) (fun c9 => ?_)
        · replace q := q.1 c9
          refine m_iinc (v := (l2 + 1)) (lv' := [.ref 7, .int l1, .int (l2 + 1)]) dX5_leastBroken_41 (Nat.le_of_ble_eq_true rfl) rfl (congrArg (fun z => l2 + z) (by decide : Int32.ofInt 1 = 1)) rfl rfl ?_
          refine m_goto 5 dX5_leastBroken_44 (by decide) ?_
          exact q
        · replace q := q.2 c9
          refine m_iload_n dX5_leastBroken_39 rfl ?_
          refine m_istore_n (lv' := [.ref 7, .int l2, .int l2]) dX5_leastBroken_40 (Nat.le_of_ble_eq_true rfl) rfl rfl ?_
          refine m_iinc (v := (l2 + 1)) (lv' := [.ref 7, .int l2, .int (l2 + 1)]) dX5_leastBroken_41 (Nat.le_of_ble_eq_true rfl) rfl (congrArg (fun z => l2 + z) (by decide : Int32.ofInt 1 = 1)) rfl rfl ?_
          refine m_goto 5 dX5_leastBroken_44 (by decide) ?_
          exact q
set_option maxRecDepth 100000 in
theorem e_X5_mostHeld {g : gT} {h : mh_T} {P : Int32 → mh_T → Prop}  (q : ME g uX5_mostHeld 4 [.ref 7, .int 0, .int 0] [] h (qI P)) : MCi g yX5_mostHeld uX5_mostHeld [.ref 7] h P := by
  refine m_enter (by decide) rfl (Nat.le_of_ble_eq_true rfl) (lv := [.ref 7, .retAddr 0, .retAddr 0]) rfl ?_
  refine m_iconst (v := 0) dX5_mostHeld_0 (by decide) ?_
  refine m_istore_n (lv' := [.ref 7, .int 0, .retAddr 0]) dX5_mostHeld_1 (Nat.le_of_ble_eq_true rfl) rfl rfl ?_
  refine m_iconst (v := 0) dX5_mostHeld_2 (by decide) ?_
  refine m_istore_n (lv' := [.ref 7, .int 0, .int 0]) dX5_mostHeld_3 (Nat.le_of_ble_eq_true rfl) rfl rfl ?_
  exact q
set_option maxRecDepth 100000 in
theorem r_X5_mostHeld_4 {g : gT} {h : mh_T} {P : Int32 → mh_T → Prop} (l1 : Int32) (l2 : Int32) (q : ((1 <<< ((mI h 7 1) &&& 31)) ≤ l2 → P l1 h) ∧ (¬ (1 <<< ((mI h 7 1) &&& 31)) ≤ l2 → (vp_in l2 256) ∧ (((mI h 31 l2.toNatClampNeg) = 0 → ME g uX5_mostHeld 4 [.ref 7, .int l1, .int (l2 + 1)] [] h (qI P)) ∧ (¬ (mI h 31 l2.toNatClampNeg) = 0 → MCi g yJ6_bitCount_0f7a4 uJ6_bitCount_0f7a4 [.int l2] h (fun r5 h4 => ∀ x6 : Int32, x6 = (if l1 < r5 then r5 else l1) → ME g uX5_mostHeld 4 [.ref 7, .int x6, .int (l2 + 1)] [] h4 (qI P)))))) : ME g uX5_mostHeld 4 [.ref 7, .int l1, .int l2] [] h (qI P) := by
  refine m_iload_n dX5_mostHeld_4 rfl ?_
  refine m_iconst (v := 1) dX5_mostHeld_5 (by decide) ?_
  refine m_aload_n dX5_mostHeld_6 rfl ?_
  refine gf_X5_28 rfl dX5_mostHeld_7 ?_
  refine m_ishl dX5_mostHeld_10 ?_
  refine m_icmp_ge 38 dX5_mostHeld_11 (by decide) (fun c1 => ?_) (fun c1 => ?_)
  · replace q := q.1 c1
    refine m_iload_n dX5_mostHeld_38 rfl ?_
    exact m_iret dX5_mostHeld_39 rfl q
  · replace q := q.2 c1
    refine m_aload_n dX5_mostHeld_14 rfl ?_
    refine gf_X5_15 rfl dX5_mostHeld_15 ?_
    refine m_iload_n dX5_mostHeld_18 rfl ?_
    obtain ⟨b2, q⟩ := q
    refine m_zaload dX5_mostHeld_19 rfl (by decide) b2 ?_
    refine m_if_eq 32 dX5_mostHeld_20 (by decide) (fun c3 => ?_) (fun c3 => ?_)
    · replace q := q.1 c3
      refine m_iinc (v := (l2 + 1)) (lv' := [.ref 7, .int l1, .int (l2 + 1)]) dX5_mostHeld_32 (Nat.le_of_ble_eq_true rfl) rfl (congrArg (fun z => l2 + z) (by decide : Int32.ofInt 1 = 1)) rfl rfl ?_
      refine m_goto 4 dX5_mostHeld_35 (by decide) ?_
      exact q
    · replace q := q.2 c3
      refine m_iload_n dX5_mostHeld_23 rfl ?_
      refine m_iload_n dX5_mostHeld_24 rfl ?_
      refine cl_X5_46 rfl (by decide) dX5_mostHeld_25 (Nat.le_of_ble_eq_true rfl) (MCi_go q (fun r5 h4 q => ?_))
      refine m_mmax dX5_mostHeld_28 tw_157 tw_158 tw_128 tw_159 (by decide) (Nat.le_of_ble_eq_true rfl) ?_
      obtain ⟨x6, ex6⟩ : ∃ z, z = (if l1 < r5 then r5 else l1) := ⟨_, rfl⟩
      rw [← ex6]
      replace q := q x6 ex6
      refine m_istore_n (lv' := [.ref 7, .int x6, .int l2]) dX5_mostHeld_31 (Nat.le_of_ble_eq_true rfl) rfl rfl ?_
      refine m_iinc (v := (l2 + 1)) (lv' := [.ref 7, .int x6, .int (l2 + 1)]) dX5_mostHeld_32 (Nat.le_of_ble_eq_true rfl) rfl (congrArg (fun z => l2 + z) (by decide : Int32.ofInt 1 = 1)) rfl rfl ?_
      refine m_goto 4 dX5_mostHeld_35 (by decide) ?_
      exact q
