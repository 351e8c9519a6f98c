set_option maxRecDepth 100000 in
theorem e_J6_bitCount_0f7a4 {g : gT} {h : mh_T} {P : Int32 → mh_T → Prop} (l0 : Int32) (q : ∀ x1 : Int32, x1 = (l0 - (((l0.toUInt32 >>> (Int32.toUInt32 1 &&& Int32.toUInt32 31)).toInt32) &&& 1431655765)) → ∀ x2 : Int32, x2 = ((x1 &&& 858993459) + (((x1.toUInt32 >>> (Int32.toUInt32 2 &&& Int32.toUInt32 31)).toInt32) &&& 858993459)) → ∀ x3 : Int32, x3 = ((x2 + ((x2.toUInt32 >>> (Int32.toUInt32 4 &&& Int32.toUInt32 31)).toInt32)) &&& 252645135) → ∀ x4 : Int32, x4 = (x3 + ((x3.toUInt32 >>> (Int32.toUInt32 8 &&& Int32.toUInt32 31)).toInt32)) → ∀ x5 : Int32, x5 = (x4 + ((x4.toUInt32 >>> (Int32.toUInt32 16 &&& Int32.toUInt32 31)).toInt32)) → P (x5 &&& 63) h) : MCi g yJ6_bitCount_0f7a4 uJ6_bitCount_0f7a4 [.int l0] h P := by
  refine m_enter (by decide) rfl (Nat.le_of_ble_eq_true rfl) (lv := [.int l0]) rfl ?_
  refine m_iload_n dJ6_bitCount_0f7a4_0 rfl ?_
  refine m_iload_n dJ6_bitCount_0f7a4_1 rfl ?_
  refine m_iconst (v := 1) dJ6_bitCount_0f7a4_2 (by decide) ?_
  refine m_iushr dJ6_bitCount_0f7a4_3 ?_
  refine m_ldcw (v := 1431655765) dJ6_bitCount_0f7a4_4 tw_0 ?_
  refine m_iand dJ6_bitCount_0f7a4_7 ?_
  refine m_isub dJ6_bitCount_0f7a4_8 ?_
  obtain ⟨x1, ex1⟩ : ∃ z, z = (l0 - (((l0.toUInt32 >>> (Int32.toUInt32 1 &&& Int32.toUInt32 31)).toInt32) &&& 1431655765)) := ⟨_, rfl⟩
  rw [← ex1]
  replace q := q x1 ex1
  refine m_istore_n (lv' := [.int x1]) dJ6_bitCount_0f7a4_9 (Nat.le_of_ble_eq_true rfl) rfl rfl ?_
  refine m_iload_n dJ6_bitCount_0f7a4_10 rfl ?_
  refine m_ldcw (v := 858993459) dJ6_bitCount_0f7a4_11 tw_1 ?_
  refine m_iand dJ6_bitCount_0f7a4_14 ?_
  refine m_iload_n dJ6_bitCount_0f7a4_15 rfl ?_
  refine m_iconst (v := 2) dJ6_bitCount_0f7a4_16 (by decide) ?_
  refine m_iushr dJ6_bitCount_0f7a4_17 ?_
  refine m_ldcw (v := 858993459) dJ6_bitCount_0f7a4_18 tw_1 ?_
  refine m_iand dJ6_bitCount_0f7a4_21 ?_
  refine m_iadd dJ6_bitCount_0f7a4_22 ?_
  obtain ⟨x2, ex2⟩ : ∃ z, z = ((x1 &&& 858993459) + (((x1.toUInt32 >>> (Int32.toUInt32 2 &&& Int32.toUInt32 31)).toInt32) &&& 858993459)) := ⟨_, rfl⟩
  rw [← ex2]
  replace q := q x2 ex2
  refine m_istore_n (lv' := [.int x2]) dJ6_bitCount_0f7a4_23 (Nat.le_of_ble_eq_true rfl) rfl rfl ?_
  refine m_iload_n dJ6_bitCount_0f7a4_24 rfl ?_
  refine m_iload_n dJ6_bitCount_0f7a4_25 rfl ?_
  refine m_iconst (v := 4) dJ6_bitCount_0f7a4_26 (by decide) ?_
  refine m_iushr dJ6_bitCount_0f7a4_27 ?_
  refine m_iadd dJ6_bitCount_0f7a4_28 ?_
  refine m_ldcw (v := 252645135) dJ6_bitCount_0f7a4_29 tw_2 ?_
  refine m_iand dJ6_bitCount_0f7a4_32 ?_
  obtain ⟨x3, ex3⟩ : ∃ z, z = ((x2 + ((x2.toUInt32 >>> (Int32.toUInt32 4 &&& Int32.toUInt32 31)).toInt32)) &&& 252645135) := ⟨_, rfl⟩
  rw [← ex3]
  replace q := q x3 ex3
  refine m_istore_n (lv' := [.int x3]) dJ6_bitCount_0f7a4_33 (Nat.le_of_ble_eq_true rfl) rfl rfl ?_
  refine m_iload_n dJ6_bitCount_0f7a4_34 rfl ?_
  refine m_iload_n dJ6_bitCount_0f7a4_35 rfl ?_
  refine m_bipush (v := 8) dJ6_bitCount_0f7a4_36 (by decide) ?_
  refine m_iushr dJ6_bitCount_0f7a4_38 ?_
  refine m_iadd dJ6_bitCount_0f7a4_39 ?_
  obtain ⟨x4, ex4⟩ : ∃ z, z = (x3 + ((x3.toUInt32 >>> (Int32.toUInt32 8 &&& Int32.toUInt32 31)).toInt32)) := ⟨_, rfl⟩
  rw [← ex4]
  replace q := q x4 ex4
  refine m_istore_n (lv' := [.int x4]) dJ6_bitCount_0f7a4_40 (Nat.le_of_ble_eq_true rfl) rfl rfl ?_
  refine m_iload_n dJ6_bitCount_0f7a4_41 rfl ?_
  refine m_iload_n dJ6_bitCount_0f7a4_42 rfl ?_
  refine m_bipush (v := 16) dJ6_bitCount_0f7a4_43 (by decide) ?_
  refine m_iushr dJ6_bitCount_0f7a4_45 ?_
  refine m_iadd dJ6_bitCount_0f7a4_46 ?_
  obtain ⟨x5, ex5⟩ : ∃ z, z = (x4 + ((x4.toUInt32 >>> (Int32.toUInt32 16 &&& Int32.toUInt32 31)).toInt32)) := ⟨_, rfl⟩
  rw [← ex5]
  replace q := q x5 ex5
  refine m_istore_n (lv' := [.int x5]) dJ6_bitCount_0f7a4_47 (Nat.le_of_ble_eq_true rfl) rfl rfl ?_
  refine m_iload_n dJ6_bitCount_0f7a4_48 rfl ?_
  refine m_bipush (v := 63) dJ6_bitCount_0f7a4_49 (by decide) ?_
  refine m_iand dJ6_bitCount_0f7a4_51 ?_
  exact m_iret dJ6_bitCount_0f7a4_52 rfl q
