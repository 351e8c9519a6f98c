set_option maxRecDepth 100000 in
theorem e_X3_open {g : gT} {h : mh_T} {P : mh_T → Prop}  (q : ME g uX3_open 15 [.ref 8, .ref 2, .int 0, .retAddr 0] [] (wI (wI h 8 0 (mI h 2 5)) 8 8 0) (qV P)) : MCv g yX3_open uX3_open [.ref 8, .ref 2] h P := by
  refine m_enter (by decide) rfl (Nat.le_of_ble_eq_true rfl) (lv := [.ref 8, .ref 2, .retAddr 0, .retAddr 0]) rfl ?_
  refine m_aload_n dX3_open_0 rfl ?_
  refine m_aload_n dX3_open_1 rfl ?_
  refine gf_X3_18 rfl dX3_open_2 ?_
  refine pf_X3_24 rfl dX3_open_5 ?_
  refine m_aload_n dX3_open_8 rfl ?_
  refine m_iconst (v := 0) dX3_open_9 (by decide) ?_
  refine pf_X3_25 rfl dX3_open_10 (by decide) ?_
  refine m_iconst (v := 0) dX3_open_13 (by decide) ?_
  refine m_istore_n (lv' := [.ref 8, .ref 2, .int 0, .retAddr 0]) dX3_open_14 (Nat.le_of_ble_eq_true rfl) rfl rfl ?_
  exact q
set_option maxRecDepth 100000 in
theorem r_X3_open_15 {g : gT} {h : mh_T} {P : mh_T → Prop} (l2 : Int32) (q : ((mI h 8 0) ≤ l2 → MCv g yX3_findCorners uX3_findCorners [.ref 8] h (fun h2 => P h2)) ∧ (¬ (mI h 8 0) ≤ l2 → (vp_in l2 18) ∧ (ME g uX3_open 32 [.ref 8, .ref 2, .int l2, .int 0] [] (wI h 32 l2.toNatClampNeg 0) (qV P)))) : ME g uX3_open 15 [.ref 8, .ref 2, .int l2, .retAddr 0] [] h (qV P) := by
  refine m_iload_n dX3_open_15 rfl ?_
  refine m_aload_n dX3_open_16 rfl ?_
  refine gf_X3_24 rfl dX3_open_17 ?_
  refine m_icmp_ge 81 dX3_open_20 (by decide) (fun c1 => ?_) (fun c1 => ?_)
  · replace q := q.1 c1
    refine m_aload_n dX3_open_81 rfl ?_
    refine cl_X3_36 rfl (by decide) dX3_open_82 (Nat.le_of_ble_eq_true rfl) (MCv_go q (fun h2 q => ?_))
    exact m_vret dX3_open_85 rfl q
  · replace q := q.2 c1
    refine m_aload_n dX3_open_23 rfl ?_
    refine gf_X3_9 rfl dX3_open_24 ?_
    refine m_iload_n dX3_open_27 rfl ?_
    refine m_iconst (v := 0) dX3_open_28 (by decide) ?_
    obtain ⟨b3, q⟩ := q
    refine m_iastore dX3_open_29 rfl (by decide) b3 ?_
    refine m_iconst (v := 0) dX3_open_30 (by decide) ?_
    refine m_istore_n (lv' := [.ref 8, .ref 2, .int l2, .int 0]) dX3_open_31 (Nat.le_of_ble_eq_true rfl) rfl rfl ?_
    exact q
set_option maxRecDepth 100000 in
theorem r_X3_open_32 {g : gT} {h : mh_T} {P : mh_T → Prop} (l2 : Int32) (l3 : Int32) (q : ((mI h 8 0) ≤ l3 → ME g uX3_open 15 [.ref 8, .ref 2, .int (l2 + 1), .retAddr 0] [] h (qV P)) ∧ (¬ (mI h 8 0) ≤ l3 → (l3 = l2 → ME g uX3_open 32 [.ref 8, .ref 2, .int l2, .int (l3 + 1)] [] h (qV P)) ∧ (¬ l3 = l2 → MCi g yX3_product uX3_product [.ref 20, .int l2, .int l3] h (fun r4 h3 => (¬ r4 = 0 → ME g uX3_open 32 [.ref 8, .ref 2, .int l2, .int (l3 + 1)] [] h3 (qV P)) ∧ (r4 = 0 → (vp_in l2 18) ∧ ((vp_in l2 18) ∧ (ME g uX3_open 32 [.ref 8, .ref 2, .int l2, .int (l3 + 1)] [] (wI h3 32 l2.toNatClampNeg ((mI h3 32 l2.toNatClampNeg) ||| (1 <<< (l3 &&& 31)))) (qV P)))))))) : ME g uX3_open 32 [.ref 8, .ref 2, .int l2, .int l3] [] h (qV P) := by
  refine m_iload_n dX3_open_32 rfl ?_
  refine m_aload_n dX3_open_33 rfl ?_
  refine gf_X3_24 rfl dX3_open_34 ?_
  refine m_icmp_ge 75 dX3_open_37 (by decide) (fun c1 => ?_) (fun c1 => ?_)
  · replace q := q.1 c1
    refine m_iinc (v := (l2 + 1)) (lv' := [.ref 8, .ref 2, .int (l2 + 1), .int l3]) dX3_open_75 (Nat.le_of_ble_eq_true rfl) rfl (congrArg (fun z => l2 + z) (by decide : Int32.ofInt 1 = 1)) rfl rfl ?_
    refine m_goto 15 dX3_open_78 (by decide) ?_
    refine m_dropK (lv' := [.ref 8, .ref 2, .int (l2 + 1), .retAddr 0]) [3] rfl ?_
    exact q
  · replace q := q.2 c1
    refine m_iload_n dX3_open_40 rfl ?_
    refine m_iload_n dX3_open_41 rfl ?_
    refine m_icmp_eq 69 dX3_open_42 (by decide) (fun c2 => ?_) (fun c2 => ?_)
    · replace q := q.1 c2
      refine m_iinc (v := (l3 + 1)) (lv' := [.ref 8, .ref 2, .int l2, .int (l3 + 1)]) dX3_open_69 (Nat.le_of_ble_eq_true rfl) rfl (congrArg (fun z => l3 + z) (by decide : Int32.ofInt 1 = 1)) rfl rfl ?_
      refine m_goto 32 dX3_open_72 (by decide) ?_
      exact q
    · replace q := q.2 c2
      refine m_aload_n dX3_open_45 rfl ?_
      refine gf_X3_29 rfl dX3_open_46 ?_
      refine m_iload_n dX3_open_49 rfl ?_
      refine m_iload_n dX3_open_50 rfl ?_
      refine cl_X3_32 rfl (by decide) dX3_open_51 (Nat.le_of_ble_eq_true rfl) (MCi_go q (fun r4 h3 q => ?_))
      refine m_if_ne 69 dX3_open_54 (by decide) (fun c5 => ?_) (fun c5 => ?_)
      · replace q := q.1 c5
        refine m_iinc (v := (l3 + 1)) (lv' := [.ref 8, .ref 2, .int l2, .int (l3 + 1)]) dX3_open_69 (Nat.le_of_ble_eq_true rfl) rfl (congrArg (fun z => l3 + z) (by decide : Int32.ofInt 1 = 1)) rfl rfl ?_
        refine m_goto 32 dX3_open_72 (by decide) ?_
        exact q
      · replace q := q.2 c5
        refine m_aload_n dX3_open_57 rfl ?_
        refine gf_X3_9 rfl dX3_open_58 ?_
        refine m_iload_n dX3_open_61 rfl ?_
        refine m_dup2 dX3_open_62 rfl rfl ?_
        obtain ⟨b6, q⟩ := q
        refine m_iaload dX3_open_63 rfl (by decide) b6 ?_
        refine m_iconst (v := 1) dX3_open_64 (by decide) ?_
        refine m_iload_n dX3_open_65 rfl ?_
        refine m_ishl dX3_open_66 ?_
        refine m_ior dX3_open_67 ?_
        obtain ⟨b7, q⟩ := q
        refine m_iastore dX3_open_68 rfl (by decide) b7 ?_
        refine m_iinc (v := (l3 + 1)) (lv' := [.ref 8, .ref 2, .int l2, .int (l3 + 1)]) dX3_open_69 (Nat.le_of_ble_eq_true rfl) rfl (congrArg (fun z => l3 + z) (by decide : Int32.ofInt 1 = 1)) rfl rfl ?_
        refine m_goto 32 dX3_open_72 (by decide) ?_
        exact q
set_option maxRecDepth 100000 in
theorem e_X3_product {g : gT} {h : mh_T} {P : Int32 → mh_T → Prop} (l1 : Int32) (l2 : Int32) (q : ME g uX3_product 5 [.ref 20, .int l1, .int l2, .int 0, .int 0] [] h (qI P)) : MCi g yX3_product uX3_product [.ref 20, .int l1, .int l2] h P := by
  refine m_enter (by decide) rfl (Nat.le_of_ble_eq_true rfl) (lv := [.ref 20, .int l1, .int l2, .retAddr 0, .retAddr 0]) rfl ?_
  refine m_iconst (v := 0) dX3_product_0 (by decide) ?_
  refine m_istore_n (lv' := [.ref 20, .int l1, .int l2, .int 0, .retAddr 0]) dX3_product_1 (Nat.le_of_ble_eq_true rfl) rfl rfl ?_
  refine m_iconst (v := 0) dX3_product_2 (by decide) ?_
  refine m_istore (lv' := [.ref 20, .int l1, .int l2, .int 0, .int 0]) dX3_product_3 (Nat.le_of_ble_eq_true rfl) rfl rfl ?_
  exact q
set_option maxRecDepth 100000 in
theorem r_X3_product_5 {g : gT} {h : mh_T} {P : Int32 → mh_T → Prop} (l1 : Int32) (l2 : Int32) (l3 : Int32) (l4 : Int32) (q : (4 ≤ l4 → P l3 h) ∧ (¬ 4 ≤ l4 → (vp_in ((4 * l1) + l4) 72) ∧ ((vp_in ((4 * l2) + l4) 72) ∧ (∀ x4 : Int32, x4 = (l3 + ((mI h 20 ((4 * l1) + l4).toNatClampNeg) * (mI h 20 ((4 * l2) + l4).toNatClampNeg))) → ME g uX3_product 5 [.ref 20, .int l1, .int l2, .int x4, .int (l4 + 1)] [] h (qI P))))) : ME g uX3_product 5 [.ref 20, .int l1, .int l2, .int l3, .int l4] [] h (qI P) := by
  refine m_iload dX3_product_5 rfl ?_
  refine m_iconst (v := 4) dX3_product_7 (by decide) ?_
  refine m_icmp_ge 37 dX3_product_8 (by decide) (fun c1 => ?_) (fun c1 => ?_)
  · replace q := q.1 c1
    refine m_iload_n dX3_product_37 rfl ?_
    exact m_iret dX3_product_38 rfl q
  · replace q := q.2 c1
    refine m_iload_n dX3_product_11 rfl ?_
    refine m_aload_n dX3_product_12 rfl ?_
    refine m_iconst (v := 4) dX3_product_13 (by decide) ?_
    refine m_iload_n dX3_product_14 rfl ?_
    refine m_imul dX3_product_15 ?_
    refine m_iload dX3_product_16 rfl ?_
    refine m_iadd dX3_product_18 ?_
    obtain ⟨b2, q⟩ := q
    refine m_iaload dX3_product_19 rfl (by decide) b2 ?_
    refine m_aload_n dX3_product_20 rfl ?_
    refine m_iconst (v := 4) dX3_product_21 (by decide) ?_
    refine m_iload_n dX3_product_22 rfl ?_
    refine m_imul dX3_product_23 ?_
    refine m_iload dX3_product_24 rfl ?_
    refine m_iadd dX3_product_26 ?_
    obtain ⟨b3, q⟩ := q
    refine m_iaload dX3_product_27 rfl (by decide) b3 ?_
    refine m_imul dX3_product_28 ?_
    refine m_iadd dX3_product_29 ?_
    obtain ⟨x4, ex4⟩ : ∃ z, z = (l3 + ((mI h 20 ((4 * l1) + l4).toNatClampNeg) * (mI h 20 ((4 * l2) + l4).toNatClampNeg))) := ⟨_, rfl⟩
    rw [← ex4]
    replace q := q x4 ex4
    refine m_istore_n (lv' := [.ref 20, .int l1, .int l2, .int x4, .int l4]) dX3_product_30 (Nat.le_of_ble_eq_true rfl) rfl rfl ?_
    refine m_iinc (v := (l4 + 1)) (lv' := [.ref 20, .int l1, .int l2, .int x4, .int (l4 + 1)]) dX3_product_31 (Nat.le_of_ble_eq_true rfl) rfl (congrArg (fun z => l4 + z) (by decide : Int32.ofInt 1 = 1)) rfl rfl ?_
    refine m_goto 5 dX3_product_34 (by decide) ?_
    exact q
set_option maxRecDepth 100000 in
theorem e_X3_hasRay {g : gT} {h : mh_T} {P : Int32 → mh_T → Prop} (l1 : Int32) (q : (l1 < 0 → P 0 h) ∧ (¬ l1 < 0 → ((mI h 8 0) ≤ l1 → P 0 h) ∧ (¬ (mI h 8 0) ≤ l1 → P 1 h))) : MCi g yX3_hasRay uX3_hasRay [.ref 8, .int l1] h P := by
  refine m_enter (by decide) rfl (Nat.le_of_ble_eq_true rfl) (lv := [.ref 8, .int l1]) rfl ?_
  refine m_iload_n dX3_hasRay_0 rfl ?_
  refine m_if_lt 16 dX3_hasRay_1 (by decide) (fun c1 => ?_) (fun c1 => ?_)
  · replace q := q.1 c1
    refine m_iconst (v := 0) dX3_hasRay_16 (by decide) ?_
    exact m_zret dX3_hasRay_17 rfl (by decide) q
  · replace q := q.2 c1
    refine m_iload_n dX3_hasRay_4 rfl ?_
    refine m_aload_n dX3_hasRay_5 rfl ?_
    refine gf_X3_24 rfl dX3_hasRay_6 ?_
    refine m_icmp_ge 16 dX3_hasRay_9 (by decide) (fun c2 => ?_) (fun c2 => ?_)
    · replace q := q.1 c2
      refine m_iconst (v := 0) dX3_hasRay_16 (by decide) ?_
      exact m_zret dX3_hasRay_17 rfl (by decide) q
    · replace q := q.2 c2
      refine m_iconst (v := 1) dX3_hasRay_12 (by decide) ?_
      refine m_goto 17 dX3_hasRay_13 (by decide) ?_
      exact m_zret dX3_hasRay_17 rfl (by decide) q
set_option maxRecDepth 100000 in
theorem e_X3_findCorners {g : gT} {h : mh_T} {P : mh_T → Prop}  (q : ME g uX3_findCorners 7 [.ref 8, .int 0, .retAddr 0] [] (wI h 8 1 0) (qV P)) : MCv g yX3_findCorners uX3_findCorners [.ref 8] h P := by
  refine m_enter (by decide) rfl (Nat.le_of_ble_eq_true rfl) (lv := [.ref 8, .retAddr 0, .retAddr 0]) rfl ?_
  refine m_aload_n dX3_findCorners_0 rfl ?_
  refine m_iconst (v := 0) dX3_findCorners_1 (by decide) ?_
  refine pf_X3_39 rfl dX3_findCorners_2 ?_
  refine m_iconst (v := 0) dX3_findCorners_5 (by decide) ?_
  refine m_istore_n (lv' := [.ref 8, .int 0, .retAddr 0]) dX3_findCorners_6 (Nat.le_of_ble_eq_true rfl) rfl rfl ?_
  exact q
set_option maxRecDepth 100000 in
theorem r_X3_findCorners_7 {g : gT} {h : mh_T} {P : mh_T → Prop} (l1 : Int32) (q : ((mI h 8 0) ≤ l1 → P h) ∧ (¬ (mI h 8 0) ≤ l1 → ∀ x2 : Int32, x2 = (l1 + 1) → ME g uX3_findCorners 19 [.ref 8, .int l1, .int x2] [] h (qV P))) : ME g uX3_findCorners 7 [.ref 8, .int l1, .retAddr 0] [] h (qV P) := by
  refine m_iload_n dX3_findCorners_7 rfl ?_
  refine m_aload_n dX3_findCorners_8 rfl ?_
  refine gf_X3_24 rfl dX3_findCorners_9 ?_
  refine m_icmp_ge 58 dX3_findCorners_12 (by decide) (fun c1 => ?_) (fun c1 => ?_)
  · replace q := q.1 c1
    exact m_vret dX3_findCorners_58 rfl q
  · replace q := q.2 c1
    refine m_iload_n dX3_findCorners_15 rfl ?_
    refine m_iconst (v := 1) dX3_findCorners_16 (by decide) ?_
    refine m_iadd dX3_findCorners_17 ?_
    obtain ⟨x2, ex2⟩ : ∃ z, z = (l1 + 1) := ⟨_, rfl⟩
    rw [← ex2]
    replace q := q x2 ex2
    refine m_istore_n (lv' := [.ref 8, .int l1, .int x2]) dX3_findCorners_18 (Nat.le_of_ble_eq_true rfl) rfl rfl ?_
    exact q
set_option maxRecDepth 100000 in
theorem r_X3_findCorners_19 {g : gT} {h : mh_T} {P : mh_T → Prop} (l1 : Int32) (l2 : Int32) (q : ((mI h 8 0) ≤ l2 → ME g uX3_findCorners 7 [.ref 8, .int (l1 + 1), .retAddr 0] [] h (qV P)) ∧ (¬ (mI h 8 0) ≤ l2 → (vp_in l1 18) ∧ (((((mI h 32 l1.toNatClampNeg) >>> (l2 &&& 31)) &&& 1) = 0 → ME g uX3_findCorners 19 [.ref 8, .int l1, .int (l2 + 1)] [] h (qV P)) ∧ (¬ (((mI h 32 l1.toNatClampNeg) >>> (l2 &&& 31)) &&& 1) = 0 → MCv g yX3_findCornersOf uX3_findCornersOf [.ref 8, .int l1, .int l2] h (fun h4 => ME g uX3_findCorners 19 [.ref 8, .int l1, .int (l2 + 1)] [] h4 (qV P)))))) : ME g uX3_findCorners 19 [.ref 8, .int l1, .int l2] [] h (qV P) := by
  refine m_iload_n dX3_findCorners_19 rfl ?_
  refine m_aload_n dX3_findCorners_20 rfl ?_
  refine gf_X3_24 rfl dX3_findCorners_21 ?_
  refine m_icmp_ge 52 dX3_findCorners_24 (by decide) (fun c1 => ?_) (fun c1 => ?_)
  · replace q := q.1 c1
    refine m_iinc (v := (l1 + 1)) (lv' := [.ref 8, .int (l1 + 1), .int l2]) dX3_findCorners_52 (Nat.le_of_ble_eq_true rfl) rfl (congrArg (fun z => l1 + z) (by decide : Int32.ofInt 1 = 1)) rfl rfl ?_
    refine m_goto 7 dX3_findCorners_55 (by decide) ?_
    refine m_dropK (lv' := [.ref 8, .int (l1 + 1), .retAddr 0]) [2] rfl ?_
    exact q
  · replace q := q.2 c1
    refine m_aload_n dX3_findCorners_27 rfl ?_
    refine gf_X3_9 rfl dX3_findCorners_28 ?_
    refine m_iload_n dX3_findCorners_31 rfl ?_
    obtain ⟨b2, q⟩ := q
    refine m_iaload dX3_findCorners_32 rfl (by decide) b2 ?_
    refine m_iload_n dX3_findCorners_33 rfl ?_
    refine m_ishr dX3_findCorners_34 ?_
    refine m_iconst (v := 1) dX3_findCorners_35 (by decide) ?_
    refine m_iand dX3_findCorners_36 ?_
    refine m_if_eq 46 dX3_findCorners_37 (by decide) (fun c3 => ?_) (fun c3 => ?_)
    · replace q := q.1 c3
      refine m_iinc (v := (l2 + 1)) (lv' := [.ref 8, .int l1, .int (l2 + 1)]) dX3_findCorners_46 (Nat.le_of_ble_eq_true rfl) rfl (congrArg (fun z => l2 + z) (by decide : Int32.ofInt 1 = 1)) rfl rfl ?_
      refine m_goto 19 dX3_findCorners_49 (by decide) ?_
      exact q
    · replace q := q.2 c3
      refine m_aload_n dX3_findCorners_40 rfl ?_
      refine m_iload_n dX3_findCorners_41 rfl ?_
      refine m_iload_n dX3_findCorners_42 rfl ?_
      refine cl_X3_42 rfl (by decide) dX3_findCorners_43 (Nat.le_of_ble_eq_true rfl) (MCv_go q (fun h4 q => ?_))
      refine m_iinc (v := (l2 + 1)) (lv' := [.ref 8, .int l1, .int (l2 + 1)]) dX3_findCorners_46 (Nat.le_of_ble_eq_true rfl) rfl (congrArg (fun z => l2 + z) (by decide : Int32.ofInt 1 = 1)) rfl rfl ?_
      refine m_goto 19 dX3_findCorners_49 (by decide) ?_
      exact q
set_option maxRecDepth 100000 in
theorem e_X3_findCornersOf {g : gT} {h : mh_T} {P : mh_T → Prop} (l1 : Int32) (l2 : Int32) (q : (vp_in l1 18) ∧ ((vp_in l2 18) ∧ (∀ x3 : Int32, x3 = ((mI h 32 l1.toNatClampNeg) &&& (mI h 32 l2.toNatClampNeg)) → ∀ x4 : Int32, x4 = (l2 + 1) → ME g uX3_findCornersOf 19 [.ref 8, .int l1, .int l2, .int x3, .int x4, .retAddr 0, .retAddr 0] [] h (qV P)))) : MCv g yX3_findCornersOf uX3_findCornersOf [.ref 8, .int l1, .int l2] h P := by
  refine m_enter (by decide) rfl (Nat.le_of_ble_eq_true rfl) (lv := [.ref 8, .int l1, .int l2, .retAddr 0, .retAddr 0, .retAddr 0, .retAddr 0]) rfl ?_
  refine m_aload_n dX3_findCornersOf_0 rfl ?_
  refine gf_X3_9 rfl dX3_findCornersOf_1 ?_
  refine m_iload_n dX3_findCornersOf_4 rfl ?_
  obtain ⟨b1, q⟩ := q
  refine m_iaload dX3_findCornersOf_5 rfl (by decide) b1 ?_
  refine m_aload_n dX3_findCornersOf_6 rfl ?_
  refine gf_X3_9 rfl dX3_findCornersOf_7 ?_
  refine m_iload_n dX3_findCornersOf_10 rfl ?_
  obtain ⟨b2, q⟩ := q
  refine m_iaload dX3_findCornersOf_11 rfl (by decide) b2 ?_
  refine m_iand dX3_findCornersOf_12 ?_
  obtain ⟨x3, ex3⟩ : ∃ z, z = ((mI h 32 l1.toNatClampNeg) &&& (mI h 32 l2.toNatClampNeg)) := ⟨_, rfl⟩
  rw [← ex3]
  replace q := q x3 ex3
  refine m_istore_n (lv' := [.ref 8, .int l1, .int l2, .int x3, .retAddr 0, .retAddr 0, .retAddr 0]) dX3_findCornersOf_13 (Nat.le_of_ble_eq_true rfl) rfl rfl ?_
  refine m_iload_n dX3_findCornersOf_14 rfl ?_
  refine m_iconst (v := 1) dX3_findCornersOf_15 (by decide) ?_
  refine m_iadd dX3_findCornersOf_16 ?_
  obtain ⟨x4, ex4⟩ : ∃ z, z = (l2 + 1) := ⟨_, rfl⟩
  rw [← ex4]
  replace q := q x4 ex4
  refine m_istore (lv' := [.ref 8, .int l1, .int l2, .int x3, .int x4, .retAddr 0, .retAddr 0]) dX3_findCornersOf_17 (Nat.le_of_ble_eq_true rfl) rfl rfl ?_
  exact q
set_option maxRecDepth 100000 in
theorem r_X3_findCornersOf_19 {g : gT} {h : mh_T} {P : mh_T → Prop} (l1 : Int32) (l2 : Int32) (l3 : Int32) (l4 : Int32) (q : ((mI h 8 0) ≤ l4 → P h) ∧ (¬ (mI h 8 0) ≤ l4 → (((l3 >>> (l4 &&& 31)) &&& 1) = 0 → ∀ x3 : Int32, x3 = (l4 + 1) → ME g uX3_findCornersOf 58 [.ref 8, .int l1, .int l2, .int l3, .int l4, .int 0, .int x3] [] h (qV P)) ∧ (¬ ((l3 >>> (l4 &&& 31)) &&& 1) = 0 → (vp_in l4 18) ∧ (∀ x5 : Int32, x5 = (l3 &&& (mI h 32 l4.toNatClampNeg)) → ∀ x6 : Int32, x6 = (l4 + 1) → ME g uX3_findCornersOf 58 [.ref 8, .int l1, .int l2, .int l3, .int l4, .int x5, .int x6] [] h (qV P))))) : ME g uX3_findCornersOf 19 [.ref 8, .int l1, .int l2, .int l3, .int l4, .retAddr 0, .retAddr 0] [] h (qV P) := by
  refine m_iload dX3_findCornersOf_19 rfl ?_
  refine m_aload_n dX3_findCornersOf_21 rfl ?_
  refine gf_X3_24 rfl dX3_findCornersOf_22 ?_
  refine m_icmp_ge 135 dX3_findCornersOf_25 (by decide) (fun c1 => ?_) (fun c1 => ?_)
  · replace q := q.1 c1
    exact m_vret dX3_findCornersOf_135 rfl q
  · replace q := q.2 c1
    refine m_iload_n dX3_findCornersOf_28 rfl ?_
    refine m_iload dX3_findCornersOf_29 rfl ?_
    refine m_ishr dX3_findCornersOf_31 ?_
    refine m_iconst (v := 1) dX3_findCornersOf_32 (by decide) ?_
    refine m_iand dX3_findCornersOf_33 ?_
    refine m_if_eq 49 dX3_findCornersOf_34 (by decide) (fun c2 => ?_) (fun c2 => ?_)
    · replace q := q.1 c2
      refine m_iconst (v := 0) dX3_findCornersOf_49 (by decide) ?_
      refine m_istore (lv' := [.ref 8, .int l1, .int l2, .int l3, .int l4, .int 0, .retAddr 0]) dX3_findCornersOf_50 (Nat.le_of_ble_eq_true rfl) rfl rfl ?_
      refine m_iload dX3_findCornersOf_52 rfl ?_
      refine m_iconst (v := 1) dX3_findCornersOf_54 (by decide) ?_
      refine m_iadd dX3_findCornersOf_55 ?_
      obtain ⟨x3, ex3⟩ : ∃ z, z = (l4 + 1) := ⟨_, rfl⟩
      rw [← ex3]
      replace q := q x3 ex3
      refine m_istore (lv' := [.ref 8, .int l1, .int l2, .int l3, .int l4, .int 0, .int x3]) dX3_findCornersOf_56 (Nat.le_of_ble_eq_true rfl) rfl rfl ?_
      exact q
    · replace q := q.2 c2
      refine m_iload_n dX3_findCornersOf_37 rfl ?_
      refine m_aload_n dX3_findCornersOf_38 rfl ?_
      refine gf_X3_9 rfl dX3_findCornersOf_39 ?_
      refine m_iload dX3_findCornersOf_42 rfl ?_
      obtain ⟨b4, q⟩ := q
      refine m_iaload dX3_findCornersOf_44 rfl (by decide) b4 ?_
      refine m_iand dX3_findCornersOf_45 ?_
      refine m_goto 50 dX3_findCornersOf_46 (by decide) ?_
      obtain ⟨x5, ex5⟩ : ∃ z, z = (l3 &&& (mI h 32 l4.toNatClampNeg)) := ⟨_, rfl⟩
      rw [← ex5]
      replace q := q x5 ex5
      refine m_istore (lv' := [.ref 8, .int l1, .int l2, .int l3, .int l4, .int x5, .retAddr 0]) dX3_findCornersOf_50 (Nat.le_of_ble_eq_true rfl) rfl rfl ?_
      refine m_iload dX3_findCornersOf_52 rfl ?_
      refine m_iconst (v := 1) dX3_findCornersOf_54 (by decide) ?_
      refine m_iadd dX3_findCornersOf_55 ?_
      obtain ⟨x6, ex6⟩ : ∃ z, z = (l4 + 1) := ⟨_, rfl⟩
      rw [← ex6]
      replace q := q x6 ex6
      refine m_istore (lv' := [.ref 8, .int l1, .int l2, .int l3, .int l4, .int x5, .int x6]) dX3_findCornersOf_56 (Nat.le_of_ble_eq_true rfl) rfl rfl ?_
      exact q
set_option maxRecDepth 100000 in
theorem r_X3_findCornersOf_58 {g : gT} {h : mh_T} {P : mh_T → Prop} (l1 : Int32) (l2 : Int32) (l3 : Int32) (l4 : Int32) (l5 : Int32) (l6 : Int32) (q : ((mI h 8 0) ≤ l6 → ME g uX3_findCornersOf 19 [.ref 8, .int l1, .int l2, .int l3, .int (l4 + 1), .retAddr 0, .retAddr 0] [] h (qV P)) ∧ (¬ (mI h 8 0) ≤ l6 → (((l5 >>> (l6 &&& 31)) &&& 1) = 0 → ME g uX3_findCornersOf 58 [.ref 8, .int l1, .int l2, .int l3, .int l4, .int l5, .int (l6 + 1)] [] h (qV P)) ∧ (¬ ((l5 >>> (l6 &&& 31)) &&& 1) = 0 → (400 ≤ (mI h 8 1) → ME g uX3_findCornersOf 58 [.ref 8, .int l1, .int l2, .int l3, .int l4, .int l5, .int (l6 + 1)] [] h (qV P)) ∧ (¬ 400 ≤ (mI h 8 1) → (vp_in (mI h 8 1) 400) ∧ (ME g uX3_findCornersOf 58 [.ref 8, .int l1, .int l2, .int l3, .int l4, .int l5, .int (l6 + 1)] [] (wI (wI h 33 (mI h 8 1).toNatClampNeg ((((1 <<< (l1 &&& 31)) ||| (1 <<< (l2 &&& 31))) ||| (1 <<< (l4 &&& 31))) ||| (1 <<< (l6 &&& 31)))) 8 1 ((mI (wI h 33 (mI h 8 1).toNatClampNeg ((((1 <<< (l1 &&& 31)) ||| (1 <<< (l2 &&& 31))) ||| (1 <<< (l4 &&& 31))) ||| (1 <<< (l6 &&& 31)))) 8 1) + 1)) (qV P)))))) : ME g uX3_findCornersOf 58 [.ref 8, .int l1, .int l2, .int l3, .int l4, .int l5, .int l6] [] h (qV P) := by
  refine m_iload dX3_findCornersOf_58 rfl ?_
  refine m_aload_n dX3_findCornersOf_60 rfl ?_
  refine gf_X3_24 rfl dX3_findCornersOf_61 ?_
  refine m_icmp_ge 129 dX3_findCornersOf_64 (by decide) (fun c1 => ?_) (fun c1 => ?_)
  · replace q := q.1 c1
    refine m_iinc (v := (l4 + 1)) (lv' := [.ref 8, .int l1, .int l2, .int l3, .int (l4 + 1), .int l5, .int l6]) dX3_findCornersOf_129 (Nat.le_of_ble_eq_true rfl) rfl (congrArg (fun z => l4 + z) (by decide : Int32.ofInt 1 = 1)) rfl rfl ?_
    refine m_goto 19 dX3_findCornersOf_132 (by decide) ?_
    refine m_dropK (lv' := [.ref 8, .int l1, .int l2, .int l3, .int (l4 + 1), .retAddr 0, .retAddr 0]) [5, 6] rfl ?_
    exact q
  · replace q := q.2 c1
    refine m_iload dX3_findCornersOf_67 rfl ?_
    refine m_iload dX3_findCornersOf_69 rfl ?_
    refine m_ishr dX3_findCornersOf_71 ?_
    refine m_iconst (v := 1) dX3_findCornersOf_72 (by decide) ?_
    refine m_iand dX3_findCornersOf_73 ?_
    refine m_if_eq 123 dX3_findCornersOf_74 (by decide) (fun c2 => ?_) (fun c2 => ?_)
    · replace q := q.1 c2
      refine m_iinc (v := (l6 + 1)) (lv' := [.ref 8, .int l1, .int l2, .int l3, .int l4, .int l5, .int (l6 + 1)]) dX3_findCornersOf_123 (Nat.le_of_ble_eq_true rfl) rfl (congrArg (fun z => l6 + z) (by decide : Int32.ofInt 1 = 1)) rfl rfl ?_
      refine m_goto 58 dX3_findCornersOf_126 (by decide) ?_
      exact q
    · replace q := q.2 c2
      refine m_aload_n dX3_findCornersOf_77 rfl ?_
      refine gf_X3_39 rfl dX3_findCornersOf_78 ?_
      refine m_sipush (v := 400) dX3_findCornersOf_81 (by decide) ?_
      refine m_icmp_ge 123 dX3_findCornersOf_84 (by decide) (fun c3 => ?_) (fun c3 => ?_)
      · replace q := q.1 c3
        refine m_iinc (v := (l6 + 1)) (lv' := [.ref 8, .int l1, .int l2, .int l3, .int l4, .int l5, .int (l6 + 1)]) dX3_findCornersOf_123 (Nat.le_of_ble_eq_true rfl) rfl (congrArg (fun z => l6 + z) (by decide : Int32.ofInt 1 = 1)) rfl rfl ?_
        refine m_goto 58 dX3_findCornersOf_126 (by decide) ?_
        exact q
      · replace q := q.2 c3
        refine m_aload_n dX3_findCornersOf_87 rfl ?_
        refine gf_X3_15 rfl dX3_findCornersOf_88 ?_
        refine m_aload_n dX3_findCornersOf_91 rfl ?_
        refine gf_X3_39 rfl dX3_findCornersOf_92 ?_
        refine m_iconst (v := 1) dX3_findCornersOf_95 (by decide) ?_
        refine m_iload_n dX3_findCornersOf_96 rfl ?_
        refine m_ishl dX3_findCornersOf_97 ?_
        refine m_iconst (v := 1) dX3_findCornersOf_98 (by decide) ?_
        refine m_iload_n dX3_findCornersOf_99 rfl ?_
        refine m_ishl dX3_findCornersOf_100 ?_
        refine m_ior dX3_findCornersOf_101 ?_
        refine m_iconst (v := 1) dX3_findCornersOf_102 (by decide) ?_
        refine m_iload dX3_findCornersOf_103 rfl ?_
        refine m_ishl dX3_findCornersOf_105 ?_
        refine m_ior dX3_findCornersOf_106 ?_
        refine m_iconst (v := 1) dX3_findCornersOf_107 (by decide) ?_
        refine m_iload dX3_findCornersOf_108 rfl ?_
        refine m_ishl dX3_findCornersOf_110 ?_
        refine m_ior dX3_findCornersOf_111 ?_
        obtain ⟨b4, q⟩ := q
        refine m_iastore dX3_findCornersOf_112 rfl (by decide) b4 ?_
        refine m_aload_n dX3_findCornersOf_113 rfl ?_
        refine m_dup dX3_findCornersOf_114 rfl ?_
        refine gf_X3_39 rfl dX3_findCornersOf_115 ?_
        refine m_iconst (v := 1) dX3_findCornersOf_118 (by decide) ?_
        refine m_iadd dX3_findCornersOf_119 ?_
        refine pf_X3_39 rfl dX3_findCornersOf_120 ?_
        refine m_iinc (v := (l6 + 1)) (lv' := [.ref 8, .int l1, .int l2, .int l3, .int l4, .int l5, .int (l6 + 1)]) dX3_findCornersOf_123 (Nat.le_of_ble_eq_true rfl) rfl (congrArg (fun z => l6 + z) (by decide : Int32.ofInt 1 = 1)) rfl rfl ?_
        refine m_goto 58 dX3_findCornersOf_126 (by decide) ?_
        exact q
set_option maxRecDepth 100000 in
theorem e_X3_work {g : gT} {h : mh_T} {P : mh_T → Prop}  (q : ((mI h 8 8) = 0 → ∀ x2 : Int32, x2 = ((1 <<< ((mI (wI h 8 8 1) 8 0) &&& 31)) - 1) → MCi g yX3_countColours uX3_countColours [.ref 8, .int x2] (wI h 8 8 1) (fun r4 h3 => ME g uX3_work 51 [.ref 8, .int x2, .int 0] [] (wI (wI (wI (wI h3 8 2 r4) 8 3 (mI (wI h3 8 2 r4) 8 11)) 8 4 0) 8 5 x2) (qV P))) ∧ (¬ (mI h 8 8) = 0 → P h)) : MCv g yX3_work uX3_work [.ref 8] h P := by
  refine m_enter (by decide) rfl (Nat.le_of_ble_eq_true rfl) (lv := [.ref 8, .retAddr 0, .retAddr 0]) rfl ?_
  refine m_aload_n dX3_work_0 rfl ?_
  refine gf_X3_25 rfl dX3_work_1 ?_
  refine m_if_eq 8 dX3_work_4 (by decide) (fun c1 => ?_) (fun c1 => ?_)
  · replace q := q.1 c1
    refine m_aload_n dX3_work_8 rfl ?_
    refine m_iconst (v := 1) dX3_work_9 (by decide) ?_
    refine pf_X3_25 rfl dX3_work_10 (by decide) ?_
    refine m_iconst (v := 1) dX3_work_13 (by decide) ?_
    refine m_aload_n dX3_work_14 rfl ?_
    refine gf_X3_24 rfl dX3_work_15 ?_
    refine m_ishl dX3_work_18 ?_
    refine m_iconst (v := 1) dX3_work_19 (by decide) ?_
    refine m_isub dX3_work_20 ?_
    obtain ⟨x2, ex2⟩ : ∃ z, z = ((1 <<< ((mI (wI h 8 8 1) 8 0) &&& 31)) - 1) := ⟨_, rfl⟩
    rw [← ex2]
    replace q := q x2 ex2
    refine m_istore_n (lv' := [.ref 8, .int x2, .retAddr 0]) dX3_work_21 (Nat.le_of_ble_eq_true rfl) rfl rfl ?_
    refine m_aload_n dX3_work_22 rfl ?_
    refine m_aload_n dX3_work_23 rfl ?_
    refine m_iload_n dX3_work_24 rfl ?_
    refine cl_X3_46 rfl (by decide) dX3_work_25 (Nat.le_of_ble_eq_true rfl) (MCi_go q (fun r4 h3 q => ?_))
    refine pf_X3_50 rfl dX3_work_28 ?_
    refine m_aload_n dX3_work_31 rfl ?_
    refine m_aload_n dX3_work_32 rfl ?_
    refine gf_X3_53 rfl dX3_work_33 ?_
    refine pf_X3_56 rfl dX3_work_36 ?_
    refine m_aload_n dX3_work_39 rfl ?_
    refine m_iconst (v := 0) dX3_work_40 (by decide) ?_
    refine pf_X3_59 rfl dX3_work_41 ?_
    refine m_aload_n dX3_work_44 rfl ?_
    refine m_iload_n dX3_work_45 rfl ?_
    refine pf_X3_62 rfl dX3_work_46 ?_
    refine m_iconst (v := 0) dX3_work_49 (by decide) ?_
    refine m_istore_n (lv' := [.ref 8, .int x2, .int 0]) dX3_work_50 (Nat.le_of_ble_eq_true rfl) rfl rfl ?_
    exact q
  · replace q := q.2 c1
    exact m_vret dX3_work_7 rfl q
set_option maxRecDepth 100000 in
theorem r_X3_work_51 {g : gT} {h : mh_T} {P : mh_T → Prop} (l1 : Int32) (l2 : Int32) (q : (¬ (mI h 8 2) = 0 → P h) ∧ ((mI h 8 2) = 0 → ((mI h 8 0) ≤ l2 → P h) ∧ (¬ (mI h 8 0) ≤ l2 → MCi g yX3_countColours uX3_countColours [.ref 8, .int (l1 &&& ((1 <<< (l2 &&& 31)) ^^^ (-1)))] h (fun r4 h3 => (¬ r4 = 0 → MCi g yX3_countColours uX3_countColours [.ref 8, .int ((mI h3 8 5) &&& ((1 <<< (l2 &&& 31)) ^^^ (-1)))] h3 (fun r7 h6 => (¬ r7 = 0 → ME g uX3_work 51 [.ref 8, .int l1, .int (l2 + 1)] [] h6 (qV P)) ∧ (r7 = 0 → ME g uX3_work 51 [.ref 8, .int l1, .int (l2 + 1)] [] (wI h6 8 5 ((mI h6 8 5) &&& ((1 <<< (l2 &&& 31)) ^^^ (-1)))) (qV P)))) ∧ (r4 = 0 → MCi g yX3_countColours uX3_countColours [.ref 8, .int ((mI (wI h3 8 4 ((mI h3 8 4) ||| (1 <<< (l2 &&& 31)))) 8 5) &&& ((1 <<< (l2 &&& 31)) ^^^ (-1)))] (wI h3 8 4 ((mI h3 8 4) ||| (1 <<< (l2 &&& 31)))) (fun r10 h9 => (¬ r10 = 0 → ME g uX3_work 51 [.ref 8, .int l1, .int (l2 + 1)] [] h9 (qV P)) ∧ (r10 = 0 → ME g uX3_work 51 [.ref 8, .int l1, .int (l2 + 1)] [] (wI h9 8 5 ((mI h9 8 5) &&& ((1 <<< (l2 &&& 31)) ^^^ (-1)))) (qV P)))))))) : ME g uX3_work 51 [.ref 8, .int l1, .int l2] [] h (qV P) := by
  refine m_aload_n dX3_work_51 rfl ?_
  refine gf_X3_50 rfl dX3_work_52 ?_
  refine m_if_ne 129 dX3_work_55 (by decide) (fun c1 => ?_) (fun c1 => ?_)
  · replace q := q.1 c1
    exact m_vret dX3_work_129 rfl q
  · replace q := q.2 c1
    refine m_iload_n dX3_work_58 rfl ?_
    refine m_aload_n dX3_work_59 rfl ?_
    refine gf_X3_24 rfl dX3_work_60 ?_
    refine m_icmp_ge 129 dX3_work_63 (by decide) (fun c2 => ?_) (fun c2 => ?_)
    · replace q := q.1 c2
      exact m_vret dX3_work_129 rfl q
    · replace q := q.2 c2
      refine m_aload_n dX3_work_66 rfl ?_
      refine m_iload_n dX3_work_67 rfl ?_
      refine m_iconst (v := 1) dX3_work_68 (by decide) ?_
      refine m_iload_n dX3_work_69 rfl ?_
      refine m_ishl dX3_work_70 ?_
      refine m_iconst (v := (-1)) dX3_work_71 (by decide) ?_
      refine m_ixor dX3_work_72 ?_
      refine m_iand dX3_work_73 ?_
      refine cl_X3_46 rfl (by decide) dX3_work_74 (Nat.le_of_ble_eq_true rfl) (MCi_go q (fun r4 h3 q => ?_))
      refine m_if_ne 92 dX3_work_77 (by decide) (fun c5 => ?_) (fun c5 => ?_)
      · replace q := q.1 c5
        refine m_aload_n dX3_work_92 rfl ?_
        refine m_aload_n dX3_work_93 rfl ?_
        refine gf_X3_62 rfl dX3_work_94 ?_
        refine m_iconst (v := 1) dX3_work_97 (by decide) ?_
        refine m_iload_n dX3_work_98 rfl ?_
        refine m_ishl dX3_work_99 ?_
        refine m_iconst (v := (-1)) dX3_work_100 (by decide) ?_
        refine m_ixor dX3_work_101 ?_
        refine m_iand dX3_work_102 ?_
        refine cl_X3_46 rfl (by decide) dX3_work_103 (Nat.le_of_ble_eq_true rfl) (MCi_go q (fun r7 h6 q => ?_))
        refine m_if_ne 123 dX3_work_106 (by decide) (fun c8 => ?_) (fun c8 => ?_)
        · replace q := q.1 c8
          refine m_iinc (v := (l2 + 1)) (lv' := [.ref 8, .int l1, .int (l2 + 1)]) dX3_work_123 (Nat.le_of_ble_eq_true rfl) rfl (congrArg (fun z => l2 + z) (by decide : Int32.ofInt 1 = 1)) rfl rfl ?_
          refine m_goto 51 dX3_work_126 (by decide) ?_
          exact q
        · replace q := q.2 c8
          refine m_aload_n dX3_work_109 rfl ?_
          refine m_dup dX3_work_110 rfl ?_
          refine gf_X3_62 rfl dX3_work_111 ?_
          refine m_iconst (v := 1) dX3_work_114 (by decide) ?_
          refine m_iload_n dX3_work_115 rfl ?_
          refine m_ishl dX3_work_116 ?_
          refine m_iconst (v := (-1)) dX3_work_117 (by decide) ?_
          refine m_ixor dX3_work_118 ?_
          refine m_iand dX3_work_119 ?_
          refine pf_X3_62 rfl dX3_work_120 ?_
          refine m_iinc (v := (l2 + 1)) (lv' := [.ref 8, .int l1, .int (l2 + 1)]) dX3_work_123 (Nat.le_of_ble_eq_true rfl) rfl (congrArg (fun z => l2 + z) (by decide : Int32.ofInt 1 = 1)) rfl rfl ?_
          refine m_goto 51 dX3_work_126 (by decide) ?_
          exact q
      · replace q := q.2 c5
        refine m_aload_n dX3_work_80 rfl ?_
        refine m_dup dX3_work_81 rfl ?_
        refine gf_X3_59 rfl dX3_work_82 ?_
        refine m_iconst (v := 1) dX3_work_85 (by decide) ?_
        refine m_iload_n dX3_work_86 rfl ?_
        refine m_ishl dX3_work_87 ?_
        refine m_ior dX3_work_88 ?_
        refine pf_X3_59 rfl dX3_work_89 ?_
        refine m_aload_n dX3_work_92 rfl ?_
        refine m_aload_n dX3_work_93 rfl ?_
        refine gf_X3_62 rfl dX3_work_94 ?_
        refine m_iconst (v := 1) dX3_work_97 (by decide) ?_
        refine m_iload_n dX3_work_98 rfl ?_
        refine m_ishl dX3_work_99 ?_
        refine m_iconst (v := (-1)) dX3_work_100 (by decide) ?_
        refine m_ixor dX3_work_101 ?_
        refine m_iand dX3_work_102 ?_
        refine cl_X3_46 rfl (by decide) dX3_work_103 (Nat.le_of_ble_eq_true rfl) (MCi_go q (fun r10 h9 q => ?_))
        refine m_if_ne 123 dX3_work_106 (by decide) (fun c11 => ?_) (fun c11 => ?_)
        · replace q := q.1 c11
          refine m_iinc (v := (l2 + 1)) (lv' := [.ref 8, .int l1, .int (l2 + 1)]) dX3_work_123 (Nat.le_of_ble_eq_true rfl) rfl (congrArg (fun z => l2 + z) (by decide : Int32.ofInt 1 = 1)) rfl rfl ?_
          refine m_goto 51 dX3_work_126 (by decide) ?_
          exact q
        · replace q := q.2 c11
          refine m_aload_n dX3_work_109 rfl ?_
          refine m_dup dX3_work_110 rfl ?_
          refine gf_X3_62 rfl dX3_work_111 ?_
          refine m_iconst (v := 1) dX3_work_114 (by decide) ?_
          refine m_iload_n dX3_work_115 rfl ?_
          refine m_ishl dX3_work_116 ?_
          refine m_iconst (v := (-1)) dX3_work_117 (by decide) ?_
          refine m_ixor dX3_work_118 ?_
          refine m_iand dX3_work_119 ?_
          refine pf_X3_62 rfl dX3_work_120 ?_
          refine m_iinc (v := (l2 + 1)) (lv' := [.ref 8, .int l1, .int (l2 + 1)]) dX3_work_123 (Nat.le_of_ble_eq_true rfl) rfl (congrArg (fun z => l2 + z) (by decide : Int32.ofInt 1 = 1)) rfl rfl ?_
          refine m_goto 51 dX3_work_126 (by decide) ?_
          exact q
set_option maxRecDepth 100000 in
theorem e_X3_countColours {g : gT} {h : mh_T} {P : Int32 → mh_T → Prop} (l1 : Int32) (q : MCv g yX3_colour (uX3_colour 30) [.ref 8, .int l1, .int 0, .int 0] (wI (wI (wI h 8 9 l1) 8 10 0) 8 11 0) (fun h1 => P (mI h1 8 10) h1)) : MCi g yX3_countColours uX3_countColours [.ref 8, .int l1] h P := by
  refine m_enter (by decide) rfl (Nat.le_of_ble_eq_true rfl) (lv := [.ref 8, .int l1]) rfl ?_
  refine m_aload_n dX3_countColours_0 rfl ?_
  refine m_iload_n dX3_countColours_1 rfl ?_
  refine pf_X3_65 rfl dX3_countColours_2 ?_
  refine m_aload_n dX3_countColours_5 rfl ?_
  refine m_iconst (v := 0) dX3_countColours_6 (by decide) ?_
  refine pf_X3_68 rfl dX3_countColours_7 ?_
  refine m_aload_n dX3_countColours_10 rfl ?_
  refine m_iconst (v := 0) dX3_countColours_11 (by decide) ?_
  refine pf_X3_53 rfl dX3_countColours_12 ?_
  refine m_aload_n dX3_countColours_15 rfl ?_
  refine m_iload_n dX3_countColours_16 rfl ?_
  refine m_iconst (v := 0) dX3_countColours_17 (by decide) ?_
  refine m_iconst (v := 0) dX3_countColours_18 (by decide) ?_
  refine cl_X3_71 rfl (by decide) dX3_countColours_19 (Nat.le_of_ble_eq_true rfl) (MCv_go q (fun h1 q => ?_))
  refine m_aload_n dX3_countColours_22 rfl ?_
  refine gf_X3_68 rfl dX3_countColours_23 ?_
  exact m_iret dX3_countColours_26 rfl q
set_option maxRecDepth 100000 in
theorem e_X3_colour {g : gT} {h : mh_T} {K : Nat} {P : mh_T → Prop} (l1 : Int32) (l2 : Int32) (l3 : Int32) (q : (l3 ≤ 18 → (2 < K + 1) ∧ (MCi g yX3_mostMet uX3_mostMet [.ref 8, .int l1] h (fun r4 h2 => ME g (uX3_colour (K + 1)) 17 [.ref 8, .int l1, .int l2, .int l3, .int r4, .int 0, .retAddr 0, .retAddr 0, .retAddr 0] [] h2 (qV P)))) ∧ (¬ l3 ≤ 18 → P h)) : MCv g yX3_colour (uX3_colour (K + 1)) [.ref 8, .int l1, .int l2, .int l3] h P := by
  refine m_enter (by decide) rfl (Nat.le_of_ble_eq_true rfl) (lv := [.ref 8, .int l1, .int l2, .int l3, .retAddr 0, .retAddr 0, .retAddr 0, .retAddr 0, .retAddr 0]) rfl ?_
  refine m_iload_n dX3_colour_0 rfl ?_
  refine m_bipush (v := 18) dX3_colour_1 (by decide) ?_
  refine m_icmp_le 7 dX3_colour_3 (by decide) (fun c1 => ?_) (fun c1 => ?_)
  · replace q := q.1 c1
    refine m_aload_n dX3_colour_7 rfl ?_
    refine m_iload_n dX3_colour_8 rfl ?_
    obtain ⟨b3, q⟩ := q
    refine cl_X3_75 rfl b3 dX3_colour_9 (Nat.le_of_ble_eq_true rfl) (MCi_go q (fun r4 h2 q => ?_))
    refine m_istore (lv' := [.ref 8, .int l1, .int l2, .int l3, .int r4, .retAddr 0, .retAddr 0, .retAddr 0, .retAddr 0]) dX3_colour_12 (Nat.le_of_ble_eq_true rfl) rfl rfl ?_
    refine m_iconst (v := 0) dX3_colour_14 (by decide) ?_
    refine m_istore (lv' := [.ref 8, .int l1, .int l2, .int l3, .int r4, .int 0, .retAddr 0, .retAddr 0, .retAddr 0]) dX3_colour_15 (Nat.le_of_ble_eq_true rfl) rfl rfl ?_
    exact q
  · replace q := q.2 c1
    exact m_vret dX3_colour_6 rfl q
set_option maxRecDepth 100000 in
theorem r_X3_colour_17 {g : gT} {h : mh_T} {K : Nat} {P : mh_T → Prop} (l1 : Int32) (l2 : Int32) (l3 : Int32) (l4 : Int32) (l5 : Int32) (q : ((mI h 8 1) ≤ l5 → (0 ≤ l4 → (vp_in l4 18) ∧ (MCv g yX3_colour (uX3_colour K) [.ref 8, .int ((l1 &&& ((1 <<< (l4 &&& 31)) ^^^ (-1))) &&& ((mI h 32 l4.toNatClampNeg) ^^^ (-1))), .int (l2 ||| (1 <<< (l4 &&& 31))), .int (l3 + 1)] h (fun h4 => MCv g yX3_colour (uX3_colour K) [.ref 8, .int (l1 &&& ((1 <<< (l4 &&& 31)) ^^^ (-1))), .int l2, .int (l3 + 1)] h4 (fun h5 => P h5)))) ∧ (¬ 0 ≤ l4 → (1 < K + 1) ∧ (MCi g yJ6_bitCount_0f7a4 uJ6_bitCount_0f7a4 [.int l1] h (fun r8 h6 => (1 < K + 1) ∧ (MCi g yJ6_bitCount_0f7a4 uJ6_bitCount_0f7a4 [.int l2] (wI h6 8 10 ((mI h6 8 10) + (1 <<< (r8 &&& 31)))) (fun r11 h9 => P (wI h9 8 11 (if (mI (wI h6 8 10 ((mI h6 8 10) + (1 <<< (r8 &&& 31)))) 8 11) < (r11 + r8) then (r11 + r8) else (mI (wI h6 8 10 ((mI h6 8 10) + (1 <<< (r8 &&& 31)))) 8 11))))))))) ∧ (¬ (mI h 8 1) ≤ l5 → (vp_in l5 400) ∧ (∀ x13 : Int32, x13 = (mI h 33 l5.toNatClampNeg) → (¬ (x13 &&& ((mI h 8 9) ^^^ (-1))) = 0 → ME g (uX3_colour (K + 1)) 17 [.ref 8, .int l1, .int l2, .int l3, .int l4, .int (l5 + 1), .retAddr 0, .retAddr 0, .retAddr 0] [] h (qV P)) ∧ ((x13 &&& ((mI h 8 9) ^^^ (-1))) = 0 → (¬ (x13 &&& l2) = 0 → ME g (uX3_colour (K + 1)) 17 [.ref 8, .int l1, .int l2, .int l3, .int l4, .int (l5 + 1), .retAddr 0, .retAddr 0, .retAddr 0] [] h (qV P)) ∧ ((x13 &&& l2) = 0 → (1 < K + 1) ∧ (MCi g yJ6_bitCount_0f7a4 uJ6_bitCount_0f7a4 [.int (x13 &&& l1)] h (fun r18 h16 => (¬ r18 = 0 → (¬ r18 = 1 → ME g (uX3_colour (K + 1)) 17 [.ref 8, .int l1, .int l2, .int l3, .int l4, .int (l5 + 1), .retAddr 0, .retAddr 0, .retAddr 0] [] h16 (qV P)) ∧ (r18 = 1 → ∀ x21 : Int32, x21 = (x13 &&& l1) → (1 < K + 1) ∧ (MCi g yX10_bitAt uX10_bitAt [.int x21, .int 0] h16 (fun r24 h22 => (vp_in r24 18) ∧ (MCv g yX3_colour (uX3_colour K) [.ref 8, .int ((l1 &&& (x21 ^^^ (-1))) &&& ((mI h22 32 r24.toNatClampNeg) ^^^ (-1))), .int (l2 ||| x21), .int (l3 + 1)] h22 (fun h26 => P h26)))))) ∧ (r18 = 0 → P h16)))))))) : ME g (uX3_colour (K + 1)) 17 [.ref 8, .int l1, .int l2, .int l3, .int l4, .int l5, .retAddr 0, .retAddr 0, .retAddr 0] [] h (qV P) := by
  refine m_iload dX3_colour_17 rfl ?_
  refine m_aload_n dX3_colour_19 rfl ?_
  refine gf_X3_39 rfl dX3_colour_20 ?_
  refine m_icmp_ge 119 dX3_colour_23 (by decide) (fun c1 => ?_) (fun c1 => ?_)
  · replace q := q.1 c1
    refine m_iload dX3_colour_119 rfl ?_
    refine m_if_ge 162 dX3_colour_121 (by decide) (fun c2 => ?_) (fun c2 => ?_)
    · replace q := q.1 c2
      refine m_aload_n dX3_colour_162 rfl ?_
      refine m_iload_n dX3_colour_163 rfl ?_
      refine m_iconst (v := 1) dX3_colour_164 (by decide) ?_
      refine m_iload dX3_colour_165 rfl ?_
      refine m_ishl dX3_colour_167 ?_
      refine m_iconst (v := (-1)) dX3_colour_168 (by decide) ?_
      refine m_ixor dX3_colour_169 ?_
      refine m_iand dX3_colour_170 ?_
      refine m_aload_n dX3_colour_171 rfl ?_
      refine gf_X3_9 rfl dX3_colour_172 ?_
      refine m_iload dX3_colour_175 rfl ?_
      obtain ⟨b3, q⟩ := q
      refine m_iaload dX3_colour_177 rfl (by decide) b3 ?_
      refine m_iconst (v := (-1)) dX3_colour_178 (by decide) ?_
      refine m_ixor dX3_colour_179 ?_
      refine m_iand dX3_colour_180 ?_
      refine m_iload_n dX3_colour_181 rfl ?_
      refine m_iconst (v := 1) dX3_colour_182 (by decide) ?_
      refine m_iload dX3_colour_183 rfl ?_
      refine m_ishl dX3_colour_185 ?_
      refine m_ior dX3_colour_186 ?_
      refine m_iload_n dX3_colour_187 rfl ?_
      refine m_iconst (v := 1) dX3_colour_188 (by decide) ?_
      refine m_iadd dX3_colour_189 ?_
      refine cl_X3_71 rfl (Nat.lt_succ_self K) dX3_colour_190 (Nat.le_of_ble_eq_true rfl) (MCv_go q (fun h4 q => ?_))
      refine m_aload_n dX3_colour_193 rfl ?_
      refine m_iload_n dX3_colour_194 rfl ?_
      refine m_iconst (v := 1) dX3_colour_195 (by decide) ?_
      refine m_iload dX3_colour_196 rfl ?_
      refine m_ishl dX3_colour_198 ?_
      refine m_iconst (v := (-1)) dX3_colour_199 (by decide) ?_
      refine m_ixor dX3_colour_200 ?_
      refine m_iand dX3_colour_201 ?_
      refine m_iload_n dX3_colour_202 rfl ?_
      refine m_iload_n dX3_colour_203 rfl ?_
      refine m_iconst (v := 1) dX3_colour_204 (by decide) ?_
      refine m_iadd dX3_colour_205 ?_
      refine cl_X3_71 rfl (Nat.lt_succ_self K) dX3_colour_206 (Nat.le_of_ble_eq_true rfl) (MCv_go q (fun h5 q => ?_))
      exact m_vret dX3_colour_209 rfl q
    · replace q := q.2 c2
      refine m_iload_n dX3_colour_124 rfl ?_
      obtain ⟨b7, q⟩ := q
      refine cl_X3_78 rfl b7 dX3_colour_125 (Nat.le_of_ble_eq_true rfl) (MCi_go q (fun r8 h6 q => ?_))
      refine m_istore (lv' := [.ref 8, .int l1, .int l2, .int l3, .int l4, .int r8, .retAddr 0, .retAddr 0, .retAddr 0]) dX3_colour_128 (Nat.le_of_ble_eq_true rfl) rfl rfl ?_
      refine m_aload_n dX3_colour_130 rfl ?_
      refine m_dup dX3_colour_131 rfl ?_
      refine gf_X3_68 rfl dX3_colour_132 ?_
      refine m_iconst (v := 1) dX3_colour_135 (by decide) ?_
      refine m_iload dX3_colour_136 rfl ?_
      refine m_ishl dX3_colour_138 ?_
      refine m_iadd dX3_colour_139 ?_
      refine pf_X3_68 rfl dX3_colour_140 ?_
      refine m_aload_n dX3_colour_143 rfl ?_
      refine m_aload_n dX3_colour_144 rfl ?_
      refine gf_X3_53 rfl dX3_colour_145 ?_
      refine m_iload_n dX3_colour_148 rfl ?_
      obtain ⟨b10, q⟩ := q
      refine cl_X3_78 rfl b10 dX3_colour_149 (Nat.le_of_ble_eq_true rfl) (MCi_go q (fun r11 h9 q => ?_))
      refine m_iload dX3_colour_152 rfl ?_
      refine m_iadd dX3_colour_154 ?_
      refine m_mmax dX3_colour_155 tw_199 tw_158 tw_128 tw_159 (Nat.succ_pos K) (Nat.le_of_ble_eq_true rfl) ?_
      refine pf_X3_53 rfl dX3_colour_158 ?_
      exact m_vret dX3_colour_161 rfl q
  · replace q := q.2 c1
    refine m_aload_n dX3_colour_26 rfl ?_
    refine gf_X3_15 rfl dX3_colour_27 ?_
    refine m_iload dX3_colour_30 rfl ?_
    obtain ⟨b12, q⟩ := q
    refine m_iaload dX3_colour_32 rfl (by decide) b12 ?_
    obtain ⟨x13, ex13⟩ : ∃ z, z = (mI h 33 l5.toNatClampNeg) := ⟨_, rfl⟩
    rw [← ex13]
    replace q := q x13 ex13
    refine m_istore (lv' := [.ref 8, .int l1, .int l2, .int l3, .int l4, .int l5, .int x13, .retAddr 0, .retAddr 0]) dX3_colour_33 (Nat.le_of_ble_eq_true rfl) rfl rfl ?_
    refine m_iload dX3_colour_35 rfl ?_
    refine m_aload_n dX3_colour_37 rfl ?_
    refine gf_X3_65 rfl dX3_colour_38 ?_
    refine m_iconst (v := (-1)) dX3_colour_41 (by decide) ?_
    refine m_ixor dX3_colour_42 ?_
    refine m_iand dX3_colour_43 ?_
    refine m_if_ne 113 dX3_colour_44 (by decide) (fun c14 => ?_) (fun c14 => ?_)
    · replace q := q.1 c14
      refine m_iinc (v := (l5 + 1)) (lv' := [.ref 8, .int l1, .int l2, .int l3, .int l4, .int (l5 + 1), .int x13, .retAddr 0, .retAddr 0]) dX3_colour_113 (Nat.le_of_ble_eq_true rfl) rfl (congrArg (fun z => l5 + z) (by decide : Int32.ofInt 1 = 1)) rfl rfl ?_
      refine m_goto 17 dX3_colour_116 (by decide) ?_
      refine m_dropK (lv' := [.ref 8, .int l1, .int l2, .int l3, .int l4, .int (l5 + 1), .retAddr 0, .retAddr 0, .retAddr 0]) [6] rfl ?_
      exact q
    · replace q := q.2 c14
      refine m_iload dX3_colour_47 rfl ?_
      refine m_iload_n dX3_colour_49 rfl ?_
      refine m_iand dX3_colour_50 ?_
      refine m_if_ne 113 dX3_colour_51 (by decide) (fun c15 => ?_) (fun c15 => ?_)
      · replace q := q.1 c15
        refine m_iinc (v := (l5 + 1)) (lv' := [.ref 8, .int l1, .int l2, .int l3, .int l4, .int (l5 + 1), .int x13, .retAddr 0, .retAddr 0]) dX3_colour_113 (Nat.le_of_ble_eq_true rfl) rfl (congrArg (fun z => l5 + z) (by decide : Int32.ofInt 1 = 1)) rfl rfl ?_
        refine m_goto 17 dX3_colour_116 (by decide) ?_
        refine m_dropK (lv' := [.ref 8, .int l1, .int l2, .int l3, .int l4, .int (l5 + 1), .retAddr 0, .retAddr 0, .retAddr 0]) [6] rfl ?_
        exact q
      · replace q := q.2 c15
        refine m_iload dX3_colour_54 rfl ?_
        refine m_iload_n dX3_colour_56 rfl ?_
        refine m_iand dX3_colour_57 ?_
        obtain ⟨b17, q⟩ := q
        refine cl_X3_78 rfl b17 dX3_colour_58 (Nat.le_of_ble_eq_true rfl) (MCi_go q (fun r18 h16 q => ?_))
        refine m_istore (lv' := [.ref 8, .int l1, .int l2, .int l3, .int l4, .int l5, .int x13, .int r18, .retAddr 0]) dX3_colour_61 (Nat.le_of_ble_eq_true rfl) rfl rfl ?_
        refine m_iload dX3_colour_63 rfl ?_
        refine m_if_ne 69 dX3_colour_65 (by decide) (fun c19 => ?_) (fun c19 => ?_)
        · replace q := q.1 c19
          refine m_iload dX3_colour_69 rfl ?_
          refine m_iconst (v := 1) dX3_colour_71 (by decide) ?_
          refine m_icmp_ne 113 dX3_colour_72 (by decide) (fun c20 => ?_) (fun c20 => ?_)
          · replace q := q.1 c20
            refine m_iinc (v := (l5 + 1)) (lv' := [.ref 8, .int l1, .int l2, .int l3, .int l4, .int (l5 + 1), .int x13, .int r18, .retAddr 0]) dX3_colour_113 (Nat.le_of_ble_eq_true rfl) rfl (congrArg (fun z => l5 + z) (by decide : Int32.ofInt 1 = 1)) rfl rfl ?_
            refine m_goto 17 dX3_colour_116 (by decide) ?_
            refine m_dropK (lv' := [.ref 8, .int l1, .int l2, .int l3, .int l4, .int (l5 + 1), .retAddr 0, .retAddr 0, .retAddr 0]) [6, 7] rfl ?_
            exact q
          · replace q := q.2 c20
            refine m_iload dX3_colour_75 rfl ?_
            refine m_iload_n dX3_colour_77 rfl ?_
            refine m_iand dX3_colour_78 ?_
            obtain ⟨x21, ex21⟩ : ∃ z, z = (x13 &&& l1) := ⟨_, rfl⟩
            rw [← ex21]
            replace q := q x21 ex21
            refine m_istore (lv' := [.ref 8, .int l1, .int l2, .int l3, .int l4, .int l5, .int x13, .int r18, .int x21]) dX3_colour_79 (Nat.le_of_ble_eq_true rfl) rfl rfl ?_
            refine m_aload_n dX3_colour_81 rfl ?_
            refine m_iload_n dX3_colour_82 rfl ?_
            refine m_iload dX3_colour_83 rfl ?_
            refine m_iconst (v := (-1)) dX3_colour_85 (by decide) ?_
            refine m_ixor dX3_colour_86 ?_
            refine m_iand dX3_colour_87 ?_
            refine m_aload_n dX3_colour_88 rfl ?_
            refine gf_X3_9 rfl dX3_colour_89 ?_
            refine m_iload dX3_colour_92 rfl ?_
            refine m_iconst (v := 0) dX3_colour_94 (by decide) ?_
            obtain ⟨b23, q⟩ := q
            refine cl_X3_83 rfl b23 dX3_colour_95 (Nat.le_of_ble_eq_true rfl) (MCi_go q (fun r24 h22 q => ?_))
            obtain ⟨b25, q⟩ := q
            refine m_iaload dX3_colour_98 rfl (by decide) b25 ?_
            refine m_iconst (v := (-1)) dX3_colour_99 (by decide) ?_
            refine m_ixor dX3_colour_100 ?_
            refine m_iand dX3_colour_101 ?_
            refine m_iload_n dX3_colour_102 rfl ?_
            refine m_iload dX3_colour_103 rfl ?_
            refine m_ior dX3_colour_105 ?_
            refine m_iload_n dX3_colour_106 rfl ?_
            refine m_iconst (v := 1) dX3_colour_107 (by decide) ?_
            refine m_iadd dX3_colour_108 ?_
            refine cl_X3_71 rfl (Nat.lt_succ_self K) dX3_colour_109 (Nat.le_of_ble_eq_true rfl) (MCv_go q (fun h26 q => ?_))
            exact m_vret dX3_colour_112 rfl q
        · replace q := q.2 c19
          exact m_vret dX3_colour_68 rfl q
set_option maxRecDepth 100000 in
theorem e_X3_mostMet {g : gT} {h : mh_T} {P : Int32 → mh_T → Prop} (l1 : Int32) (q : ME g uX3_mostMet 7 [.ref 8, .int l1, .int (-1), .int 0, .int 0] [] h (qI P)) : MCi g yX3_mostMet uX3_mostMet [.ref 8, .int l1] h P := by
  refine m_enter (by decide) rfl (Nat.le_of_ble_eq_true rfl) (lv := [.ref 8, .int l1, .retAddr 0, .retAddr 0, .retAddr 0]) rfl ?_
  refine m_iconst (v := (-1)) dX3_mostMet_0 (by decide) ?_
  refine m_istore_n (lv' := [.ref 8, .int l1, .int (-1), .retAddr 0, .retAddr 0]) dX3_mostMet_1 (Nat.le_of_ble_eq_true rfl) rfl rfl ?_
  refine m_iconst (v := 0) dX3_mostMet_2 (by decide) ?_
  refine m_istore_n (lv' := [.ref 8, .int l1, .int (-1), .int 0, .retAddr 0]) dX3_mostMet_3 (Nat.le_of_ble_eq_true rfl) rfl rfl ?_
  refine m_iconst (v := 0) dX3_mostMet_4 (by decide) ?_
  refine m_istore (lv' := [.ref 8, .int l1, .int (-1), .int 0, .int 0]) dX3_mostMet_5 (Nat.le_of_ble_eq_true rfl) rfl rfl ?_
  exact q
set_option maxRecDepth 100000 in
theorem r_X3_mostMet_7 {g : gT} {h : mh_T} {P : Int32 → mh_T → Prop} (l1 : Int32) (l2 : Int32) (l3 : Int32) (l4 : Int32) (q : ((mI h 8 0) ≤ l4 → P l2 h) ∧ (¬ (mI h 8 0) ≤ l4 → (((l1 >>> (l4 &&& 31)) &&& 1) = 0 → ME g uX3_mostMet 7 [.ref 8, .int l1, .int l2, .int l3, .int (l4 + 1)] [] h (qI P)) ∧ (¬ ((l1 >>> (l4 &&& 31)) &&& 1) = 0 → (vp_in l4 18) ∧ (MCi g yJ6_bitCount_0f7a4 uJ6_bitCount_0f7a4 [.int (l1 &&& (mI h 32 l4.toNatClampNeg))] h (fun r5 h4 => (r5 ≤ l3 → ME g uX3_mostMet 7 [.ref 8, .int l1, .int l2, .int l3, .int (l4 + 1)] [] h4 (qI P)) ∧ (¬ r5 ≤ l3 → (vp_in l4 18) ∧ (MCi g yJ6_bitCount_0f7a4 uJ6_bitCount_0f7a4 [.int (l1 &&& (mI h4 32 l4.toNatClampNeg))] h4 (fun r9 h8 => ME g uX3_mostMet 7 [.ref 8, .int l1, .int l4, .int r9, .int (l4 + 1)] [] h8 (qI P))))))))) : ME g uX3_mostMet 7 [.ref 8, .int l1, .int l2, .int l3, .int l4] [] h (qI P) := by
  refine m_iload dX3_mostMet_7 rfl ?_
  refine m_aload_n dX3_mostMet_9 rfl ?_
  refine gf_X3_24 rfl dX3_mostMet_10 ?_
  refine m_icmp_ge 63 dX3_mostMet_13 (by decide) (fun c1 => ?_) (fun c1 => ?_)
  · replace q := q.1 c1
    refine m_iload_n dX3_mostMet_63 rfl ?_
    exact m_iret dX3_mostMet_64 rfl q
  · replace q := q.2 c1
    refine m_iload_n dX3_mostMet_16 rfl ?_
    refine m_iload dX3_mostMet_17 rfl ?_
    refine m_ishr dX3_mostMet_19 ?_
    refine m_iconst (v := 1) dX3_mostMet_20 (by decide) ?_
    refine m_iand dX3_mostMet_21 ?_
    refine m_if_eq 57 dX3_mostMet_22 (by decide) (fun c2 => ?_) (fun c2 => ?_)
    · replace q := q.1 c2
      refine m_iinc (v := (l4 + 1)) (lv' := [.ref 8, .int l1, .int l2, .int l3, .int (l4 + 1)]) dX3_mostMet_57 (Nat.le_of_ble_eq_true rfl) rfl (congrArg (fun z => l4 + z) (by decide : Int32.ofInt 1 = 1)) rfl rfl ?_
      refine m_goto 7 dX3_mostMet_60 (by decide) ?_
      exact q
    · replace q := q.2 c2
      refine m_iload_n dX3_mostMet_25 rfl ?_
      refine m_aload_n dX3_mostMet_26 rfl ?_
      refine gf_X3_9 rfl dX3_mostMet_27 ?_
      refine m_iload dX3_mostMet_30 rfl ?_
      obtain ⟨b3, q⟩ := q
      refine m_iaload dX3_mostMet_32 rfl (by decide) b3 ?_
      refine m_iand dX3_mostMet_33 ?_
      refine cl_X3_78 rfl (by decide) dX3_mostMet_34 (Nat.le_of_ble_eq_true rfl) (MCi_go q (fun r5 h4 q => ?_))
      refine m_iload_n dX3_mostMet_37 rfl ?_
      refine m_icmp_le 57 dX3_mostMet_38 (by decide) (fun c6 => ?_) (fun c6 => ?_)
      · replace q := q.1 c6
        refine m_iinc (v := (l4 + 1)) (lv' := [.ref 8, .int l1, .int l2, .int l3, .int (l4 + 1)]) dX3_mostMet_57 (Nat.le_of_ble_eq_true rfl) rfl (congrArg (fun z => l4 + z) (by decide : Int32.ofInt 1 = 1)) rfl rfl ?_
        refine m_goto 7 dX3_mostMet_60 (by decide) ?_
        exact q
      · replace q := q.2 c6
        refine m_iload dX3_mostMet_41 rfl ?_
        refine m_istore_n (lv' := [.ref 8, .int l1, .int l4, .int l3, .int l4]) dX3_mostMet_43 (Nat.le_of_ble_eq_true rfl) rfl rfl ?_
        refine m_iload_n dX3_mostMet_44 rfl ?_
        refine m_aload_n dX3_mostMet_45 rfl ?_
        refine gf_X3_9 rfl dX3_mostMet_46 ?_
        refine m_iload dX3_mostMet_49 rfl ?_
        obtain ⟨b7, q⟩ := q
        refine m_iaload dX3_mostMet_51 rfl (by decide) b7 ?_
        refine m_iand dX3_mostMet_52 ?_
        refine cl_X3_78 rfl (by decide) dX3_mostMet_53 (Nat.le_of_ble_eq_true rfl) (MCi_go q (fun r9 h8 q => ?_))
        refine m_istore_n (lv' := [.ref 8, .int l1, .int l4, .int r9, .int l4]) dX3_mostMet_56 (Nat.le_of_ble_eq_true rfl) rfl rfl ?_
        refine m_iinc (v := (l4 + 1)) (lv' := [.ref 8, .int l1, .int l4, .int r9, .int (l4 + 1)]) dX3_mostMet_57 (Nat.le_of_ble_eq_true rfl) rfl (congrArg (fun z => l4 + z) (by decide : Int32.ofInt 1 = 1)) rfl rfl ?_
        refine m_goto 7 dX3_mostMet_60 (by decide) ?_
        exact q
set_option maxRecDepth 100000 in
theorem e_X9_open {g : gT} {h : mh_T} {P : mh_T → Prop}  (q : ME g uX9_open 20 [.ref 9, .ref 2, .int 0, .retAddr 0, .retAddr 0] [] (wI (wI (wI h 9 0 (mI h 2 6)) 9 2 0) 9 3 0) (qV P)) : MCv g yX9_open uX9_open [.ref 9, .ref 2] h P := by
  refine m_enter (by decide) rfl (Nat.le_of_ble_eq_true rfl) (lv := [.ref 9, .ref 2, .retAddr 0, .retAddr 0, .retAddr 0]) rfl ?_
  refine m_aload_n dX9_open_0 rfl ?_
  refine m_aload_n dX9_open_1 rfl ?_
  refine gf_X9_31 rfl dX9_open_2 ?_
  refine pf_X9_37 rfl dX9_open_5 ?_
  refine m_aload_n dX9_open_8 rfl ?_
  refine m_iconst (v := 0) dX9_open_9 (by decide) ?_
  refine pf_X9_38 rfl dX9_open_10 ?_
  refine m_aload_n dX9_open_13 rfl ?_
  refine m_iconst (v := 0) dX9_open_14 (by decide) ?_
  refine pf_X9_41 rfl dX9_open_15 (by decide) ?_
  refine m_iconst (v := 0) dX9_open_18 (by decide) ?_
  refine m_istore_n (lv' := [.ref 9, .ref 2, .int 0, .retAddr 0, .retAddr 0]) dX9_open_19 (Nat.le_of_ble_eq_true rfl) rfl rfl ?_
  exact q
set_option maxRecDepth 100000 in
theorem r_X9_open_20 {g : gT} {h : mh_T} {P : mh_T → Prop} (l2 : Int32) (q : ((mI h 9 0) ≤ l2 → P h) ∧ (¬ (mI h 9 0) ≤ l2 → (vp_in l2 4) ∧ (∀ x3 : Int32, x3 = (mI h 21 l2.toNatClampNeg) → ME g uX9_open 38 [.ref 9, .ref 2, .int l2, .int x3, .int 0] [] h (qV P)))) : ME g uX9_open 20 [.ref 9, .ref 2, .int l2, .retAddr 0, .retAddr 0] [] h (qV P) := by
  refine m_iload_n dX9_open_20 rfl ?_
  refine m_aload_n dX9_open_21 rfl ?_
  refine gf_X9_37 rfl dX9_open_22 ?_
  refine m_icmp_ge 130 dX9_open_25 (by decide) (fun c1 => ?_) (fun c1 => ?_)
  · replace q := q.1 c1
    exact m_vret dX9_open_130 rfl q
  · replace q := q.2 c1
    refine m_aload_n dX9_open_28 rfl ?_
    refine gf_X9_45 rfl dX9_open_29 ?_
    refine m_iload_n dX9_open_32 rfl ?_
    obtain ⟨b2, q⟩ := q
    refine m_iaload dX9_open_33 rfl (by decide) b2 ?_
    obtain ⟨x3, ex3⟩ : ∃ z, z = (mI h 21 l2.toNatClampNeg) := ⟨_, rfl⟩
    rw [← ex3]
    replace q := q x3 ex3
    refine m_istore_n (lv' := [.ref 9, .ref 2, .int l2, .int x3, .retAddr 0]) dX9_open_34 (Nat.le_of_ble_eq_true rfl) rfl rfl ?_
    refine m_iconst (v := 0) dX9_open_35 (by decide) ?_
    refine m_istore (lv' := [.ref 9, .ref 2, .int l2, .int x3, .int 0]) dX9_open_36 (Nat.le_of_ble_eq_true rfl) rfl rfl ?_
    exact q
set_option maxRecDepth 100000 in
theorem r_X9_open_38 {g : gT} {h : mh_T} {P : mh_T → Prop} (l2 : Int32) (l3 : Int32) (l4 : Int32) (q : (l3 ≤ l4 → ME g uX9_open 20 [.ref 9, .ref 2, .int (l2 + 1), .retAddr 0, .retAddr 0] [] h (qV P)) ∧ (¬ l3 ≤ l4 → (vp_in ((6 * l2) + l4) 24) ∧ ((vp_in (mI h 9 2) 24) ∧ ((vp_in ((6 * l2) + l4) 24) ∧ ((vp_in (mI (wI h 34 (mI h 9 2).toNatClampNeg (mI h 22 ((6 * l2) + l4).toNatClampNeg)) 9 2) 24) ∧ ((¬ l4 = (l3 - 1) → (vp_in (mI (wI (wI h 34 (mI h 9 2).toNatClampNeg (mI h 22 ((6 * l2) + l4).toNatClampNeg)) 35 (mI (wI h 34 (mI h 9 2).toNatClampNeg (mI h 22 ((6 * l2) + l4).toNatClampNeg)) 9 2).toNatClampNeg (mI (wI h 34 (mI h 9 2).toNatClampNeg (mI h 22 ((6 * l2) + l4).toNatClampNeg)) 23 ((6 * l2) + l4).toNatClampNeg)) 9 2) 24) ∧ (ME g uX9_open 38 [.ref 9, .ref 2, .int l2, .int l3, .int (l4 + 1)] [] (wI (wI (wI (wI h 34 (mI h 9 2).toNatClampNeg (mI h 22 ((6 * l2) + l4).toNatClampNeg)) 35 (mI (wI h 34 (mI h 9 2).toNatClampNeg (mI h 22 ((6 * l2) + l4).toNatClampNeg)) 9 2).toNatClampNeg (mI (wI h 34 (mI h 9 2).toNatClampNeg (mI h 22 ((6 * l2) + l4).toNatClampNeg)) 23 ((6 * l2) + l4).toNatClampNeg)) 36 (mI (wI (wI h 34 (mI h 9 2).toNatClampNeg (mI h 22 ((6 * l2) + l4).toNatClampNeg)) 35 (mI (wI h 34 (mI h 9 2).toNatClampNeg (mI h 22 ((6 * l2) + l4).toNatClampNeg)) 9 2).toNatClampNeg (mI (wI h 34 (mI h 9 2).toNatClampNeg (mI h 22 ((6 * l2) + l4).toNatClampNeg)) 23 ((6 * l2) + l4).toNatClampNeg)) 9 2).toNatClampNeg 0) 9 2 ((mI (wI (wI (wI h 34 (mI h 9 2).toNatClampNeg (mI h 22 ((6 * l2) + l4).toNatClampNeg)) 35 (mI (wI h 34 (mI h 9 2).toNatClampNeg (mI h 22 ((6 * l2) + l4).toNatClampNeg)) 9 2).toNatClampNeg (mI (wI h 34 (mI h 9 2).toNatClampNeg (mI h 22 ((6 * l2) + l4).toNatClampNeg)) 23 ((6 * l2) + l4).toNatClampNeg)) 36 (mI (wI (wI h 34 (mI h 9 2).toNatClampNeg (mI h 22 ((6 * l2) + l4).toNatClampNeg)) 35 (mI (wI h 34 (mI h 9 2).toNatClampNeg (mI h 22 ((6 * l2) + l4).toNatClampNeg)) 9 2).toNatClampNeg (mI (wI h 34 (mI h 9 2).toNatClampNeg (mI h 22 ((6 * l2) + l4).toNatClampNeg)) 23 ((6 * l2) + l4).toNatClampNeg)) 9 2).toNatClampNeg 0) 9 2) + 1)) (qV P))) ∧ (l4 = (l3 - 1) → (vp_in (mI (wI (wI h 34 (mI h 9 2).toNatClampNeg (mI h 22 ((6 * l2) + l4).toNatClampNeg)) 35 (mI (wI h 34 (mI h 9 2).toNatClampNeg (mI h 22 ((6 * l2) + l4).toNatClampNeg)) 9 2).toNatClampNeg (mI (wI h 34 (mI h 9 2).toNatClampNeg (mI h 22 ((6 * l2) + l4).toNatClampNeg)) 23 ((6 * l2) + l4).toNatClampNeg)) 9 2) 24) ∧ (ME g uX9_open 38 [.ref 9, .ref 2, .int l2, .int l3, .int (l4 + 1)] [] (wI (wI (wI (wI h 34 (mI h 9 2).toNatClampNeg (mI h 22 ((6 * l2) + l4).toNatClampNeg)) 35 (mI (wI h 34 (mI h 9 2).toNatClampNeg (mI h 22 ((6 * l2) + l4).toNatClampNeg)) 9 2).toNatClampNeg (mI (wI h 34 (mI h 9 2).toNatClampNeg (mI h 22 ((6 * l2) + l4).toNatClampNeg)) 23 ((6 * l2) + l4).toNatClampNeg)) 36 (mI (wI (wI h 34 (mI h 9 2).toNatClampNeg (mI h 22 ((6 * l2) + l4).toNatClampNeg)) 35 (mI (wI h 34 (mI h 9 2).toNatClampNeg (mI h 22 ((6 * l2) + l4).toNatClampNeg)) 9 2).toNatClampNeg (mI (wI h 34 (mI h 9 2).toNatClampNeg (mI h 22 ((6 * l2) + l4).toNatClampNeg)) 23 ((6 * l2) + l4).toNatClampNeg)) 9 2).toNatClampNeg 1) 9 2 ((mI (wI (wI (wI h 34 (mI h 9 2).toNatClampNeg (mI h 22 ((6 * l2) + l4).toNatClampNeg)) 35 (mI (wI h 34 (mI h 9 2).toNatClampNeg (mI h 22 ((6 * l2) + l4).toNatClampNeg)) 9 2).toNatClampNeg (mI (wI h 34 (mI h 9 2).toNatClampNeg (mI h 22 ((6 * l2) + l4).toNatClampNeg)) 23 ((6 * l2) + l4).toNatClampNeg)) 36 (mI (wI (wI h 34 (mI h 9 2).toNatClampNeg (mI h 22 ((6 * l2) + l4).toNatClampNeg)) 35 (mI (wI h 34 (mI h 9 2).toNatClampNeg (mI h 22 ((6 * l2) + l4).toNatClampNeg)) 9 2).toNatClampNeg (mI (wI h 34 (mI h 9 2).toNatClampNeg (mI h 22 ((6 * l2) + l4).toNatClampNeg)) 23 ((6 * l2) + l4).toNatClampNeg)) 9 2).toNatClampNeg 1) 9 2) + 1)) (qV P))))))))) : ME g uX9_open 38 [.ref 9, .ref 2, .int l2, .int l3, .int l4] [] h (qV P) := by
  refine m_iload dX9_open_38 rfl ?_
  refine m_iload_n dX9_open_40 rfl ?_
  refine m_icmp_ge 124 dX9_open_41 (by decide) (fun c1 => ?_) (fun c1 => ?_)
  · replace q := q.1 c1
    refine m_iinc (v := (l2 + 1)) (lv' := [.ref 9, .ref 2, .int (l2 + 1), .int l3, .int l4]) dX9_open_124 (Nat.le_of_ble_eq_true rfl) rfl (congrArg (fun z => l2 + z) (by decide : Int32.ofInt 1 = 1)) rfl rfl ?_
    refine m_goto 20 dX9_open_127 (by decide) ?_
    refine m_dropK (lv' := [.ref 9, .ref 2, .int (l2 + 1), .retAddr 0, .retAddr 0]) [3, 4] rfl ?_
    exact q
  · replace q := q.2 c1
    refine m_aload_n dX9_open_44 rfl ?_
    refine gf_X9_9 rfl dX9_open_45 ?_
    refine m_aload_n dX9_open_48 rfl ?_
    refine gf_X9_38 rfl dX9_open_49 ?_
    refine m_aload_n dX9_open_52 rfl ?_
    refine gf_X9_48 rfl dX9_open_53 ?_
    refine m_bipush (v := 6) dX9_open_56 (by decide) ?_
    refine m_iload_n dX9_open_58 rfl ?_
    refine m_imul dX9_open_59 ?_
    refine m_iload dX9_open_60 rfl ?_
    refine m_iadd dX9_open_62 ?_
    obtain ⟨b2, q⟩ := q
    refine m_iaload dX9_open_63 rfl (by decide) b2 ?_
    obtain ⟨b3, q⟩ := q
    refine m_iastore dX9_open_64 rfl (by decide) b3 ?_
    refine m_aload_n dX9_open_65 rfl ?_
    refine gf_X9_15 rfl dX9_open_66 ?_
    refine m_aload_n dX9_open_69 rfl ?_
    refine gf_X9_38 rfl dX9_open_70 ?_
    refine m_aload_n dX9_open_73 rfl ?_
    refine gf_X9_49 rfl dX9_open_74 ?_
    refine m_bipush (v := 6) dX9_open_77 (by decide) ?_
    refine m_iload_n dX9_open_79 rfl ?_
    refine m_imul dX9_open_80 ?_
    refine m_iload dX9_open_81 rfl ?_
    refine m_iadd dX9_open_83 ?_
    obtain ⟨b4, q⟩ := q
    refine m_iaload dX9_open_84 rfl (by decide) b4 ?_
    obtain ⟨b5, q⟩ := q
    refine m_iastore dX9_open_85 rfl (by decide) b5 ?_
    refine m_aload_n dX9_open_86 rfl ?_
    refine gf_X9_18 rfl dX9_open_87 ?_
    refine m_aload_n dX9_open_90 rfl ?_
    refine gf_X9_38 rfl dX9_open_91 ?_
    refine m_iload dX9_open_94 rfl ?_
    refine m_iload_n dX9_open_96 rfl ?_
    refine m_iconst (v := 1) dX9_open_97 (by decide) ?_
    refine m_isub dX9_open_98 ?_
    refine m_icmp_ne 106 dX9_open_99 (by decide) (fun c6 => ?_) (fun c6 => ?_)
    · replace q := q.1 c6
      refine m_iconst (v := 0) dX9_open_106 (by decide) ?_
      obtain ⟨b7, q⟩ := q
      refine m_zastore dX9_open_107 rfl (by decide) b7 (by decide) ?_
      refine m_aload_n dX9_open_108 rfl ?_
      refine m_dup dX9_open_109 rfl ?_
      refine gf_X9_38 rfl dX9_open_110 ?_
      refine m_iconst (v := 1) dX9_open_113 (by decide) ?_
      refine m_iadd dX9_open_114 ?_
      refine pf_X9_38 rfl dX9_open_115 ?_
      refine m_iinc (v := (l4 + 1)) (lv' := [.ref 9, .ref 2, .int l2, .int l3, .int (l4 + 1)]) dX9_open_118 (Nat.le_of_ble_eq_true rfl) rfl (congrArg (fun z => l4 + z) (by decide : Int32.ofInt 1 = 1)) rfl rfl ?_
      refine m_goto 38 dX9_open_121 (by decide) ?_
      exact q
    · replace q := q.2 c6
      refine m_iconst (v := 1) dX9_open_102 (by decide) ?_
      refine m_goto 107 dX9_open_103 (by decide) ?_
      obtain ⟨b8, q⟩ := q
      refine m_zastore dX9_open_107 rfl (by decide) b8 (by decide) ?_
      refine m_aload_n dX9_open_108 rfl ?_
      refine m_dup dX9_open_109 rfl ?_
      refine gf_X9_38 rfl dX9_open_110 ?_
      refine m_iconst (v := 1) dX9_open_113 (by decide) ?_
      refine m_iadd dX9_open_114 ?_
      refine pf_X9_38 rfl dX9_open_115 ?_
      refine m_iinc (v := (l4 + 1)) (lv' := [.ref 9, .ref 2, .int l2, .int l3, .int (l4 + 1)]) dX9_open_118 (Nat.le_of_ble_eq_true rfl) rfl (congrArg (fun z => l4 + z) (by decide : Int32.ofInt 1 = 1)) rfl rfl ?_
      refine m_goto 38 dX9_open_121 (by decide) ?_
      exact q
set_option maxRecDepth 100000 in
theorem e_X9_work {g : gT} {h : mh_T} {P : mh_T → Prop}  (q : ((mI h 9 3) = 0 → ME g uX9_work 15 [.ref 9, .int 1, .retAddr 0] [] (wI h 9 3 1) (qV P)) ∧ (¬ (mI h 9 3) = 0 → P h)) : MCv g yX9_work uX9_work [.ref 9] h P := by
  refine m_enter (by decide) rfl (Nat.le_of_ble_eq_true rfl) (lv := [.ref 9, .retAddr 0, .retAddr 0]) rfl ?_
  refine m_aload_n dX9_work_0 rfl ?_
  refine gf_X9_41 rfl dX9_work_1 ?_
  refine m_if_eq 8 dX9_work_4 (by decide) (fun c1 => ?_) (fun c1 => ?_)
  · replace q := q.1 c1
    refine m_aload_n dX9_work_8 rfl ?_
    refine m_iconst (v := 1) dX9_work_9 (by decide) ?_
    refine pf_X9_41 rfl dX9_work_10 (by decide) ?_
    refine m_iconst (v := 1) dX9_work_13 (by decide) ?_
    refine m_istore_n (lv' := [.ref 9, .int 1, .retAddr 0]) dX9_work_14 (Nat.le_of_ble_eq_true rfl) rfl rfl ?_
    exact q
  · replace q := q.2 c1
    exact m_vret dX9_work_7 rfl q
set_option maxRecDepth 100000 in
theorem r_X9_work_15 {g : gT} {h : mh_T} {P : mh_T → Prop} (l1 : Int32) (q : (3 < l1 → P (wI h 9 1 0)) ∧ (¬ 3 < l1 → ME g uX9_work 27 [.ref 9, .int l1, .int 0] [] (wI h 9 1 l1) (qV P))) : ME g uX9_work 15 [.ref 9, .int l1, .retAddr 0] [] h (qV P) := by
  refine m_iload_n dX9_work_15 rfl ?_
  refine m_iconst (v := 3) dX9_work_16 (by decide) ?_
  refine m_icmp_gt 74 dX9_work_17 (by decide) (fun c1 => ?_) (fun c1 => ?_)
  · replace q := q.1 c1
    refine m_aload_n dX9_work_74 rfl ?_
    refine m_iconst (v := 0) dX9_work_75 (by decide) ?_
    refine pf_X9_50 rfl dX9_work_76 ?_
    exact m_vret dX9_work_79 rfl q
  · replace q := q.2 c1
    refine m_aload_n dX9_work_20 rfl ?_
    refine m_iload_n dX9_work_21 rfl ?_
    refine pf_X9_50 rfl dX9_work_22 ?_
    refine m_iconst (v := 0) dX9_work_25 (by decide) ?_
    refine m_istore_n (lv' := [.ref 9, .int l1, .int 0]) dX9_work_26 (Nat.le_of_ble_eq_true rfl) rfl rfl ?_
    exact q
set_option maxRecDepth 100000 in
theorem r_X9_work_27 {g : gT} {h : mh_T} {P : mh_T → Prop} (l1 : Int32) (l2 : Int32) (q : (18 ≤ l2 → MCi g yX9_tell (uX9_tell 70) [.ref 9, .int 0, .int 0, .int 0, .int 0] h (fun r3 h2 => (¬ r3 = (-1) → ME g uX9_work 15 [.ref 9, .int (l1 + 1), .retAddr 0] [] h2 (qV P)) ∧ (r3 = (-1) → P h2))) ∧ (¬ 18 ≤ l2 → (vp_in l2 18) ∧ ((vp_in l2 18) ∧ (ME g uX9_work 27 [.ref 9, .int l1, .int (l2 + 1)] [] (wI (wI h 37 l2.toNatClampNeg (-2)) 38 l2.toNatClampNeg (-2)) (qV P))))) : ME g uX9_work 27 [.ref 9, .int l1, .int l2] [] h (qV P) := by
  refine m_iload_n dX9_work_27 rfl ?_
  refine m_bipush (v := 18) dX9_work_28 (by decide) ?_
  refine m_icmp_ge 55 dX9_work_30 (by decide) (fun c1 => ?_) (fun c1 => ?_)
  · replace q := q.1 c1
    refine m_aload_n dX9_work_55 rfl ?_
    refine m_iconst (v := 0) dX9_work_56 (by decide) ?_
    refine m_iconst (v := 0) dX9_work_57 (by decide) ?_
    refine m_iconst (v := 0) dX9_work_58 (by decide) ?_
    refine m_iconst (v := 0) dX9_work_59 (by decide) ?_
    refine cl_X9_53 rfl (by decide) dX9_work_60 (Nat.le_of_ble_eq_true rfl) (MCi_go q (fun r3 h2 q => ?_))
    refine m_iconst (v := (-1)) dX9_work_63 (by decide) ?_
    refine m_icmp_ne 68 dX9_work_64 (by decide) (fun c4 => ?_) (fun c4 => ?_)
    · replace q := q.1 c4
      refine m_iinc (v := (l1 + 1)) (lv' := [.ref 9, .int (l1 + 1), .int l2]) dX9_work_68 (Nat.le_of_ble_eq_true rfl) rfl (congrArg (fun z => l1 + z) (by decide : Int32.ofInt 1 = 1)) rfl rfl ?_
      refine m_goto 15 dX9_work_71 (by decide) ?_
      refine m_dropK (lv' := [.ref 9, .int (l1 + 1), .retAddr 0]) [2] rfl ?_
      exact q
    · replace q := q.2 c4
      exact m_vret dX9_work_67 rfl q
  · replace q := q.2 c1
    refine m_aload_n dX9_work_33 rfl ?_
    refine gf_X9_22 rfl dX9_work_34 ?_
    refine m_iload_n dX9_work_37 rfl ?_
    refine m_bipush (v := (-2)) dX9_work_38 (by decide) ?_
    obtain ⟨b5, q⟩ := q
    refine m_iastore dX9_work_40 rfl (by decide) b5 ?_
    refine m_aload_n dX9_work_41 rfl ?_
    refine gf_X9_25 rfl dX9_work_42 ?_
    refine m_iload_n dX9_work_45 rfl ?_
    refine m_bipush (v := (-2)) dX9_work_46 (by decide) ?_
    obtain ⟨b6, q⟩ := q
    refine m_iastore dX9_work_48 rfl (by decide) b6 ?_
    refine m_iinc (v := (l2 + 1)) (lv' := [.ref 9, .int l1, .int (l2 + 1)]) dX9_work_49 (Nat.le_of_ble_eq_true rfl) rfl (congrArg (fun z => l2 + z) (by decide : Int32.ofInt 1 = 1)) rfl rfl ?_
    refine m_goto 27 dX9_work_52 (by decide) ?_
    exact q
set_option maxRecDepth 100000 in
theorem e_X9_entry {g : gT} {h : mh_T} {P : Int32 → mh_T → Prop} (l1 : Int32) (l2 : Int32) (l3 : Int32) (q : ∀ x1 : Int32, x1 = ((6 * l1) + l2) → (l3 = 0 → (vp_in x1 18) ∧ (P (mI h 37 x1.toNatClampNeg) h)) ∧ (¬ l3 = 0 → (vp_in x1 18) ∧ (P (mI h 38 x1.toNatClampNeg) h))) : MCi g yX9_entry uX9_entry [.ref 9, .int l1, .int l2, .int l3] h P := by
  refine m_enter (by decide) rfl (Nat.le_of_ble_eq_true rfl) (lv := [.ref 9, .int l1, .int l2, .int l3, .retAddr 0]) rfl ?_
  refine m_bipush (v := 6) dX9_entry_0 (by decide) ?_
  refine m_iload_n dX9_entry_2 rfl ?_
  refine m_imul dX9_entry_3 ?_
  refine m_iload_n dX9_entry_4 rfl ?_
  refine m_iadd dX9_entry_5 ?_
  obtain ⟨x1, ex1⟩ : ∃ z, z = ((6 * l1) + l2) := ⟨_, rfl⟩
  rw [← ex1]
  replace q := q x1 ex1
  refine m_istore (lv' := [.ref 9, .int l1, .int l2, .int l3, .int x1]) dX9_entry_6 (Nat.le_of_ble_eq_true rfl) rfl rfl ?_
  refine m_iload_n dX9_entry_8 rfl ?_
  refine m_if_eq 22 dX9_entry_9 (by decide) (fun c2 => ?_) (fun c2 => ?_)
  · replace q := q.1 c2
    refine m_aload_n dX9_entry_22 rfl ?_
    refine gf_X9_22 rfl dX9_entry_23 ?_
    refine m_iload dX9_entry_26 rfl ?_
    obtain ⟨b3, q⟩ := q
    refine m_iaload dX9_entry_28 rfl (by decide) b3 ?_
    exact m_iret dX9_entry_29 rfl q
  · replace q := q.2 c2
    refine m_aload_n dX9_entry_12 rfl ?_
    refine gf_X9_25 rfl dX9_entry_13 ?_
    refine m_iload dX9_entry_16 rfl ?_
    obtain ⟨b4, q⟩ := q
    refine m_iaload dX9_entry_18 rfl (by decide) b4 ?_
    refine m_goto 29 dX9_entry_19 (by decide) ?_
    exact m_iret dX9_entry_29 rfl q
set_option maxRecDepth 100000 in
theorem e_X9_tell {g : gT} {h : mh_T} {K : Nat} {P : Int32 → mh_T → Prop} (l1 : Int32) (l2 : Int32) (l3 : Int32) (l4 : Int32) (q : (l1 < (mI h 9 2) → (vp_in l1 24) ∧ (∀ x3 : Int32, x3 = ((6 * l2) + (mI h 34 l1.toNatClampNeg)) → (vp_in x3 18) ∧ (((mI h 37 x3.toNatClampNeg) < 0 → (vp_in l1 24) ∧ ((vp_in x3 18) ∧ ((vp_in x3 18) ∧ (∀ x9 : Int32, x9 = (if (l4 + 1) < ((mI (wI (wI h 37 x3.toNatClampNeg (mI h 35 l1.toNatClampNeg)) 39 x3.toNatClampNeg l3) 9 1) - 1) then (l4 + 1) else ((mI (wI (wI h 37 x3.toNatClampNeg (mI h 35 l1.toNatClampNeg)) 39 x3.toNatClampNeg l3) 9 1) - 1)) → ME g (uX9_tell (K + 1)) 115 [.ref 9, .int l1, .int l2, .int l3, .int l4, .int x3, .int 0, .int 1, .int x9, .int 0, .retAddr 0] [] (wI (wI h 37 x3.toNatClampNeg (mI h 35 l1.toNatClampNeg)) 39 x3.toNatClampNeg l3) (qI P))))) ∧ (¬ (mI h 37 x3.toNatClampNeg) < 0 → (vp_in x3 18) ∧ ((vp_in l1 24) ∧ (((mI h 37 x3.toNatClampNeg) = (mI h 35 l1.toNatClampNeg) → MCi g yX9_tellOn (uX9_tellOn K) [.ref 9, .int l1, .int x3, .int l3, .int l4] h (fun r14 h13 => P r14 h13)) ∧ (¬ (mI h 37 x3.toNatClampNeg) = (mI h 35 l1.toNatClampNeg) → (vp_in x3 18) ∧ (P (l3 ||| (mI h 39 x3.toNatClampNeg)) h)))))))) ∧ (¬ l1 < (mI h 9 2) → P (-1) h)) : MCi g yX9_tell (uX9_tell (K + 1)) [.ref 9, .int l1, .int l2, .int l3, .int l4] h P := by
  refine m_enter (by decide) rfl (Nat.le_of_ble_eq_true rfl) (lv := [.ref 9, .int l1, .int l2, .int l3, .int l4, .retAddr 0, .retAddr 0, .retAddr 0, .retAddr 0, .retAddr 0, .retAddr 0]) rfl ?_
  refine m_iload_n dX9_tell_0 rfl ?_
  refine m_aload_n dX9_tell_1 rfl ?_
  refine gf_X9_38 rfl dX9_tell_2 ?_
  refine m_icmp_lt 10 dX9_tell_5 (by decide) (fun c1 => ?_) (fun c1 => ?_)
  · replace q := q.1 c1
    refine m_bipush (v := 6) dX9_tell_10 (by decide) ?_
    refine m_iload_n dX9_tell_12 rfl ?_
    refine m_imul dX9_tell_13 ?_
    refine m_aload_n dX9_tell_14 rfl ?_
    refine gf_X9_9 rfl dX9_tell_15 ?_
    refine m_iload_n dX9_tell_18 rfl ?_
    obtain ⟨b2, q⟩ := q
    refine m_iaload dX9_tell_19 rfl (by decide) b2 ?_
    refine m_iadd dX9_tell_20 ?_
    obtain ⟨x3, ex3⟩ : ∃ z, z = ((6 * l2) + (mI h 34 l1.toNatClampNeg)) := ⟨_, rfl⟩
    rw [← ex3]
    replace q := q x3 ex3
    refine m_istore (lv' := [.ref 9, .int l1, .int l2, .int l3, .int l4, .int x3, .retAddr 0, .retAddr 0, .retAddr 0, .retAddr 0, .retAddr 0]) dX9_tell_21 (Nat.le_of_ble_eq_true rfl) rfl rfl ?_
    refine m_aload_n dX9_tell_23 rfl ?_
    refine gf_X9_22 rfl dX9_tell_24 ?_
    refine m_iload dX9_tell_27 rfl ?_
    obtain ⟨b4, q⟩ := q
    refine m_iaload dX9_tell_29 rfl (by decide) b4 ?_
    refine m_if_lt 70 dX9_tell_30 (by decide) (fun c5 => ?_) (fun c5 => ?_)
    · replace q := q.1 c5
      refine m_aload_n dX9_tell_70 rfl ?_
      refine gf_X9_22 rfl dX9_tell_71 ?_
      refine m_iload dX9_tell_74 rfl ?_
      refine m_aload_n dX9_tell_76 rfl ?_
      refine gf_X9_15 rfl dX9_tell_77 ?_
      refine m_iload_n dX9_tell_80 rfl ?_
      obtain ⟨b6, q⟩ := q
      refine m_iaload dX9_tell_81 rfl (by decide) b6 ?_
      obtain ⟨b7, q⟩ := q
      refine m_iastore dX9_tell_82 rfl (by decide) b7 ?_
      refine m_aload_n dX9_tell_83 rfl ?_
      refine gf_X9_28 rfl dX9_tell_84 ?_
      refine m_iload dX9_tell_87 rfl ?_
      refine m_iload_n dX9_tell_89 rfl ?_
      obtain ⟨b8, q⟩ := q
      refine m_iastore dX9_tell_90 rfl (by decide) b8 ?_
      refine m_iconst (v := 0) dX9_tell_91 (by decide) ?_
      refine m_istore (lv' := [.ref 9, .int l1, .int l2, .int l3, .int l4, .int x3, .int 0, .retAddr 0, .retAddr 0, .retAddr 0, .retAddr 0]) dX9_tell_92 (Nat.le_of_ble_eq_true rfl) rfl rfl ?_
      refine m_iconst (v := 1) dX9_tell_94 (by decide) ?_
      refine m_istore (lv' := [.ref 9, .int l1, .int l2, .int l3, .int l4, .int x3, .int 0, .int 1, .retAddr 0, .retAddr 0, .retAddr 0]) dX9_tell_95 (Nat.le_of_ble_eq_true rfl) rfl rfl ?_
      refine m_aload_n dX9_tell_97 rfl ?_
      refine gf_X9_50 rfl dX9_tell_98 ?_
      refine m_iconst (v := 1) dX9_tell_101 (by decide) ?_
      refine m_isub dX9_tell_102 ?_
      refine m_iload dX9_tell_103 rfl ?_
      refine m_iconst (v := 1) dX9_tell_105 (by decide) ?_
      refine m_iadd dX9_tell_106 ?_
      refine m_mmin dX9_tell_107 tw_222 tw_131 tw_128 tw_132 (Nat.succ_pos K) (Nat.le_of_ble_eq_true rfl) ?_
      obtain ⟨x9, ex9⟩ : ∃ z, z = (if (l4 + 1) < ((mI (wI (wI h 37 x3.toNatClampNeg (mI h 35 l1.toNatClampNeg)) 39 x3.toNatClampNeg l3) 9 1) - 1) then (l4 + 1) else ((mI (wI (wI h 37 x3.toNatClampNeg (mI h 35 l1.toNatClampNeg)) 39 x3.toNatClampNeg l3) 9 1) - 1)) := ⟨_, rfl⟩
      rw [← ex9]
      replace q := q x9 ex9
      refine m_istore (lv' := [.ref 9, .int l1, .int l2, .int l3, .int l4, .int x3, .int 0, .int 1, .int x9, .retAddr 0, .retAddr 0]) dX9_tell_110 (Nat.le_of_ble_eq_true rfl) rfl rfl ?_
      refine m_iconst (v := 0) dX9_tell_112 (by decide) ?_
      refine m_istore (lv' := [.ref 9, .int l1, .int l2, .int l3, .int l4, .int x3, .int 0, .int 1, .int x9, .int 0, .retAddr 0]) dX9_tell_113 (Nat.le_of_ble_eq_true rfl) rfl rfl ?_
      exact q
    · replace q := q.2 c5
      refine m_aload_n dX9_tell_33 rfl ?_
      refine gf_X9_22 rfl dX9_tell_34 ?_
      refine m_iload dX9_tell_37 rfl ?_
      obtain ⟨b10, q⟩ := q
      refine m_iaload dX9_tell_39 rfl (by decide) b10 ?_
      refine m_aload_n dX9_tell_40 rfl ?_
      refine gf_X9_15 rfl dX9_tell_41 ?_
      refine m_iload_n dX9_tell_44 rfl ?_
      obtain ⟨b11, q⟩ := q
      refine m_iaload dX9_tell_45 rfl (by decide) b11 ?_
      refine m_icmp_eq 59 dX9_tell_46 (by decide) (fun c12 => ?_) (fun c12 => ?_)
      · replace q := q.1 c12
        refine m_aload_n dX9_tell_59 rfl ?_
        refine m_iload_n dX9_tell_60 rfl ?_
        refine m_iload dX9_tell_61 rfl ?_
        refine m_iload_n dX9_tell_63 rfl ?_
        refine m_iload dX9_tell_64 rfl ?_
        refine cl_X9_57 rfl (Nat.lt_succ_self K) dX9_tell_66 (Nat.le_of_ble_eq_true rfl) (MCi_go q (fun r14 h13 q => ?_))
        exact m_iret dX9_tell_69 rfl q
      · replace q := q.2 c12
        refine m_iload_n dX9_tell_49 rfl ?_
        refine m_aload_n dX9_tell_50 rfl ?_
        refine gf_X9_28 rfl dX9_tell_51 ?_
        refine m_iload dX9_tell_54 rfl ?_
        obtain ⟨b15, q⟩ := q
        refine m_iaload dX9_tell_56 rfl (by decide) b15 ?_
        refine m_ior dX9_tell_57 ?_
        exact m_iret dX9_tell_58 rfl q
  · replace q := q.2 c1
    refine m_iconst (v := (-1)) dX9_tell_8 (by decide) ?_
    exact m_iret dX9_tell_9 rfl q
set_option maxRecDepth 100000 in
theorem r_X9_tell_115 {g : gT} {h : mh_T} {K : Nat} {P : Int32 → mh_T → Prop} (l1 : Int32) (l2 : Int32) (l3 : Int32) (l4 : Int32) (l5 : Int32) (l6 : Int32) (l7 : Int32) (l8 : Int32) (l9 : Int32) (q : (l7 = 0 → (vp_in l5 18) ∧ ((vp_in l5 18) ∧ (P l6 (wI (wI h 37 l5.toNatClampNeg (-2)) 38 l5.toNatClampNeg (-2))))) ∧ (¬ l7 = 0 → (l8 < l9 → (vp_in l5 18) ∧ ((vp_in l5 18) ∧ (P l6 (wI (wI h 37 l5.toNatClampNeg (-2)) 38 l5.toNatClampNeg (-2))))) ∧ (¬ l8 < l9 → (vp_in l5 18) ∧ (MCi g yX9_tellOn (uX9_tellOn K) [.ref 9, .int l1, .int l5, .int l3, .int (if l4 < l9 then l9 else l4)] (wI h 38 l5.toNatClampNeg l9) (fun r9 h8 => (¬ r9 = (-1) → (((r9 >>> (l5 &&& 31)) &&& 1) = 0 → ME g (uX9_tell (K + 1)) 115 [.ref 9, .int l1, .int l2, .int l3, .int l4, .int l5, .int r9, .int 0, .int l8, .int (l9 + 1), .retAddr 0] [] h8 (qI P)) ∧ (¬ ((r9 >>> (l5 &&& 31)) &&& 1) = 0 → ∀ x14 : Int32, x14 = (l6 ||| (r9 &&& ((1 <<< (l5 &&& 31)) ^^^ (-1)))) → ME g (uX9_tell (K + 1)) 115 [.ref 9, .int l1, .int l2, .int l3, .int l4, .int l5, .int x14, .int 1, .int l8, .int (l9 + 1), .retAddr 0] [] h8 (qI P))) ∧ (r9 = (-1) → P (-1) h8)))))) : ME g (uX9_tell (K + 1)) 115 [.ref 9, .int l1, .int l2, .int l3, .int l4, .int l5, .int l6, .int l7, .int l8, .int l9, .retAddr 0] [] h (qI P) := by
  refine m_iload dX9_tell_115 rfl ?_
  refine m_if_eq 208 dX9_tell_117 (by decide) (fun c1 => ?_) (fun c1 => ?_)
  · replace q := q.1 c1
    refine m_aload_n dX9_tell_208 rfl ?_
    refine gf_X9_22 rfl dX9_tell_209 ?_
    refine m_iload dX9_tell_212 rfl ?_
    refine m_bipush (v := (-2)) dX9_tell_214 (by decide) ?_
    obtain ⟨b2, q⟩ := q
    refine m_iastore dX9_tell_216 rfl (by decide) b2 ?_
    refine m_aload_n dX9_tell_217 rfl ?_
    refine gf_X9_25 rfl dX9_tell_218 ?_
    refine m_iload dX9_tell_221 rfl ?_
    refine m_bipush (v := (-2)) dX9_tell_223 (by decide) ?_
    obtain ⟨b3, q⟩ := q
    refine m_iastore dX9_tell_225 rfl (by decide) b3 ?_
    refine m_iload dX9_tell_226 rfl ?_
    exact m_iret dX9_tell_228 rfl q
  · replace q := q.2 c1
    refine m_iload dX9_tell_120 rfl ?_
    refine m_iload dX9_tell_122 rfl ?_
    refine m_icmp_gt 208 dX9_tell_124 (by decide) (fun c4 => ?_) (fun c4 => ?_)
    · replace q := q.1 c4
      refine m_aload_n dX9_tell_208 rfl ?_
      refine gf_X9_22 rfl dX9_tell_209 ?_
      refine m_iload dX9_tell_212 rfl ?_
      refine m_bipush (v := (-2)) dX9_tell_214 (by decide) ?_
      obtain ⟨b5, q⟩ := q
      refine m_iastore dX9_tell_216 rfl (by decide) b5 ?_
      refine m_aload_n dX9_tell_217 rfl ?_
      refine gf_X9_25 rfl dX9_tell_218 ?_
      refine m_iload dX9_tell_221 rfl ?_
      refine m_bipush (v := (-2)) dX9_tell_223 (by decide) ?_
      obtain ⟨b6, q⟩ := q
      refine m_iastore dX9_tell_225 rfl (by decide) b6 ?_
      refine m_iload dX9_tell_226 rfl ?_
      exact m_iret dX9_tell_228 rfl q
    · replace q := q.2 c4
      refine m_aload_n dX9_tell_127 rfl ?_
      refine gf_X9_25 rfl dX9_tell_128 ?_
      refine m_iload dX9_tell_131 rfl ?_
      refine m_iload dX9_tell_133 rfl ?_
      obtain ⟨b7, q⟩ := q
      refine m_iastore dX9_tell_135 rfl (by decide) b7 ?_
      refine m_aload_n dX9_tell_136 rfl ?_
      refine m_iload_n dX9_tell_137 rfl ?_
      refine m_iload dX9_tell_138 rfl ?_
      refine m_iload_n dX9_tell_140 rfl ?_
      refine m_iload dX9_tell_141 rfl ?_
      refine m_iload dX9_tell_143 rfl ?_
      refine m_mmax dX9_tell_145 tw_227 tw_158 tw_128 tw_159 (Nat.succ_pos K) (Nat.le_of_ble_eq_true rfl) ?_
      refine cl_X9_57 rfl (Nat.lt_succ_self K) dX9_tell_148 (Nat.le_of_ble_eq_true rfl) (MCi_go q (fun r9 h8 q => ?_))
      refine m_istore (lv' := [.ref 9, .int l1, .int l2, .int l3, .int l4, .int l5, .int l6, .int l7, .int l8, .int l9, .int r9]) dX9_tell_151 (Nat.le_of_ble_eq_true rfl) rfl rfl ?_
      refine m_iload dX9_tell_153 rfl ?_
      refine m_iconst (v := (-1)) dX9_tell_155 (by decide) ?_
      refine m_icmp_ne 161 dX9_tell_156 (by decide) (fun c10 => ?_) (fun c10 => ?_)
      · replace q := q.1 c10
        refine m_iload dX9_tell_161 rfl ?_
        refine m_iload dX9_tell_163 rfl ?_
        refine m_ishr dX9_tell_165 ?_
        refine m_iconst (v := 1) dX9_tell_166 (by decide) ?_
        refine m_iand dX9_tell_167 ?_
        refine m_if_eq 175 dX9_tell_168 (by decide) (fun c11 => ?_) (fun c11 => ?_)
        · replace q := q.1 c11
          refine m_iconst (v := 0) dX9_tell_175 (by decide) ?_
          refine m_istore (lv' := [.ref 9, .int l1, .int l2, .int l3, .int l4, .int l5, .int l6, .int 0, .int l8, .int l9, .int r9]) dX9_tell_176 (Nat.le_of_ble_eq_true rfl) rfl rfl ?_
          refine m_iload dX9_tell_178 rfl ?_
          refine m_if_eq 198 dX9_tell_180 (by decide) (fun c12 => ?_) (fun c12 => absurd c12 (by decide))
          refine m_iload dX9_tell_198 rfl ?_
          refine m_istore (lv' := [.ref 9, .int l1, .int l2, .int l3, .int l4, .int l5, .int r9, .int 0, .int l8, .int l9, .int r9]) dX9_tell_200 (Nat.le_of_ble_eq_true rfl) rfl rfl ?_
          refine m_iinc (v := (l9 + 1)) (lv' := [.ref 9, .int l1, .int l2, .int l3, .int l4, .int l5, .int r9, .int 0, .int l8, .int (l9 + 1), .int r9]) dX9_tell_202 (Nat.le_of_ble_eq_true rfl) rfl (congrArg (fun z => l9 + z) (by decide : Int32.ofInt 1 = 1)) rfl rfl ?_
          refine m_goto 115 dX9_tell_205 (by decide) ?_
          refine m_dropK (lv' := [.ref 9, .int l1, .int l2, .int l3, .int l4, .int l5, .int r9, .int 0, .int l8, .int (l9 + 1), .retAddr 0]) [10] rfl ?_
          exact q
        · replace q := q.2 c11
          refine m_iconst (v := 1) dX9_tell_171 (by decide) ?_
          refine m_goto 176 dX9_tell_172 (by decide) ?_
          refine m_istore (lv' := [.ref 9, .int l1, .int l2, .int l3, .int l4, .int l5, .int l6, .int 1, .int l8, .int l9, .int r9]) dX9_tell_176 (Nat.le_of_ble_eq_true rfl) rfl rfl ?_
          refine m_iload dX9_tell_178 rfl ?_
          refine m_if_eq 198 dX9_tell_180 (by decide) (fun c13 => absurd c13 (by decide)) (fun c13 => ?_)
          refine m_iload dX9_tell_183 rfl ?_
          refine m_iload dX9_tell_185 rfl ?_
          refine m_iconst (v := 1) dX9_tell_187 (by decide) ?_
          refine m_iload dX9_tell_188 rfl ?_
          refine m_ishl dX9_tell_190 ?_
          refine m_iconst (v := (-1)) dX9_tell_191 (by decide) ?_
          refine m_ixor dX9_tell_192 ?_
          refine m_iand dX9_tell_193 ?_
          refine m_ior dX9_tell_194 ?_
          refine m_goto 200 dX9_tell_195 (by decide) ?_
          obtain ⟨x14, ex14⟩ : ∃ z, z = (l6 ||| (r9 &&& ((1 <<< (l5 &&& 31)) ^^^ (-1)))) := ⟨_, rfl⟩
          rw [← ex14]
          replace q := q x14 ex14
          refine m_istore (lv' := [.ref 9, .int l1, .int l2, .int l3, .int l4, .int l5, .int x14, .int 1, .int l8, .int l9, .int r9]) dX9_tell_200 (Nat.le_of_ble_eq_true rfl) rfl rfl ?_
          refine m_iinc (v := (l9 + 1)) (lv' := [.ref 9, .int l1, .int l2, .int l3, .int l4, .int l5, .int x14, .int 1, .int l8, .int (l9 + 1), .int r9]) dX9_tell_202 (Nat.le_of_ble_eq_true rfl) rfl (congrArg (fun z => l9 + z) (by decide : Int32.ofInt 1 = 1)) rfl rfl ?_
          refine m_goto 115 dX9_tell_205 (by decide) ?_
          refine m_dropK (lv' := [.ref 9, .int l1, .int l2, .int l3, .int l4, .int l5, .int x14, .int 1, .int l8, .int (l9 + 1), .retAddr 0]) [10] rfl ?_
          exact q
      · replace q := q.2 c10
        refine m_iconst (v := (-1)) dX9_tell_159 (by decide) ?_
        exact m_iret dX9_tell_160 rfl q
set_option maxRecDepth 100000 in
theorem e_X9_tellOn {g : gT} {h : mh_T} {K : Nat} {P : Int32 → mh_T → Prop} (l1 : Int32) (l2 : Int32) (l3 : Int32) (l4 : Int32) (q : (vp_in l1 24) ∧ (((mI h 36 l1.toNatClampNeg) = 0 → (vp_in l2 18) ∧ (MCi g yX9_tell (uX9_tell K) [.ref 9, .int (l1 + 1), .int (mI h 38 l2.toNatClampNeg), .int (l3 ||| (1 <<< (l2 &&& 31))), .int l4] h (fun r5 h4 => P r5 h4))) ∧ (¬ (mI h 36 l1.toNatClampNeg) = 0 → MCi g yX9_tell (uX9_tell K) [.ref 9, .int (l1 + 1), .int 0, .int 0, .int l4] h (fun r7 h6 => P r7 h6)))) : MCi g yX9_tellOn (uX9_tellOn (K + 1)) [.ref 9, .int l1, .int l2, .int l3, .int l4] h P := by
  refine m_enter (by decide) rfl (Nat.le_of_ble_eq_true rfl) (lv := [.ref 9, .int l1, .int l2, .int l3, .int l4]) rfl ?_
  refine m_aload_n dX9_tellOn_0 rfl ?_
  refine gf_X9_18 rfl dX9_tellOn_1 ?_
  refine m_iload_n dX9_tellOn_4 rfl ?_
  obtain ⟨b1, q⟩ := q
  refine m_zaload dX9_tellOn_5 rfl (by decide) b1 ?_
  refine m_if_eq 21 dX9_tellOn_6 (by decide) (fun c2 => ?_) (fun c2 => ?_)
  · replace q := q.1 c2
    refine m_aload_n dX9_tellOn_21 rfl ?_
    refine m_iload_n dX9_tellOn_22 rfl ?_
    refine m_iconst (v := 1) dX9_tellOn_23 (by decide) ?_
    refine m_iadd dX9_tellOn_24 ?_
    refine m_aload_n dX9_tellOn_25 rfl ?_
    refine gf_X9_25 rfl dX9_tellOn_26 ?_
    refine m_iload_n dX9_tellOn_29 rfl ?_
    obtain ⟨b3, q⟩ := q
    refine m_iaload dX9_tellOn_30 rfl (by decide) b3 ?_
    refine m_iload_n dX9_tellOn_31 rfl ?_
    refine m_iconst (v := 1) dX9_tellOn_32 (by decide) ?_
    refine m_iload_n dX9_tellOn_33 rfl ?_
    refine m_ishl dX9_tellOn_34 ?_
    refine m_ior dX9_tellOn_35 ?_
    refine m_iload dX9_tellOn_36 rfl ?_
    refine cl_X9_53 rfl (Nat.lt_succ_self K) dX9_tellOn_38 (Nat.le_of_ble_eq_true rfl) (MCi_go q (fun r5 h4 q => ?_))
    exact m_iret dX9_tellOn_41 rfl q
  · replace q := q.2 c2
    refine m_aload_n dX9_tellOn_9 rfl ?_
    refine m_iload_n dX9_tellOn_10 rfl ?_
    refine m_iconst (v := 1) dX9_tellOn_11 (by decide) ?_
    refine m_iadd dX9_tellOn_12 ?_
    refine m_iconst (v := 0) dX9_tellOn_13 (by decide) ?_
    refine m_iconst (v := 0) dX9_tellOn_14 (by decide) ?_
    refine m_iload dX9_tellOn_15 rfl ?_
    refine cl_X9_53 rfl (Nat.lt_succ_self K) dX9_tellOn_17 (Nat.le_of_ble_eq_true rfl) (MCi_go q (fun r7 h6 q => ?_))
    exact m_iret dX9_tellOn_20 rfl q
set_option maxRecDepth 100000 in
theorem e_X4_open {g : gT} {h : mh_T} {P : mh_T → Prop}  (q : P (wI (wI (wI h 10 0 0) 10 1 0) 10 2 0)) : MCv g yX4_open uX4_open [.ref 10] h P := by
  refine m_enter (by decide) rfl (Nat.le_of_ble_eq_true rfl) (lv := [.ref 10]) rfl ?_
  refine m_aload_n dX4_open_0 rfl ?_
  refine m_iconst (v := 0) dX4_open_1 (by decide) ?_
  refine pf_X4_28 rfl dX4_open_2 ?_
  refine m_aload_n dX4_open_5 rfl ?_
  refine m_iconst (v := 0) dX4_open_6 (by decide) ?_
  refine pf_X4_32 rfl dX4_open_7 ?_
  refine m_aload_n dX4_open_10 rfl ?_
  refine m_iconst (v := 0) dX4_open_11 (by decide) ?_
  refine pf_X4_35 rfl dX4_open_12 ?_
  exact m_vret dX4_open_15 rfl q
set_option maxRecDepth 100000 in
theorem e_X4_begin {g : gT} {h : mh_T} {P : mh_T → Prop} (l1 : Int32) (l2 : Int32) (q : ((mI h 10 0) < 20 → (vp_in (mI h 10 0) 21) ∧ ((shp (mR h 41 (mI h 10 0).toNatClampNeg) = (20, 49, [])) ∧ (MCv g yX8_save uX8_save [.ref 3, .ref (mR h 41 (mI h 10 0).toNatClampNeg)] h (fun h4 => (vp_in (mI h4 10 0) 20) ∧ ((shp (mR h4 40 (mI h4 10 0).toNatClampNeg) = (20, 5, [])) ∧ ((vp_in 0 5) ∧ ((vp_in 1 5) ∧ ((vp_in 2 5) ∧ ((vp_in 3 5) ∧ ((vp_in 4 5) ∧ (P (wI (wI (wI (wI (wI (wI (wI h4 (mR h4 40 (mI h4 10 0).toNatClampNeg) (Int32.toNatClampNeg 0) l1) (mR h4 40 (mI h4 10 0).toNatClampNeg) (Int32.toNatClampNeg 1) l2) (mR h4 40 (mI h4 10 0).toNatClampNeg) (Int32.toNatClampNeg 2) (-2)) (mR h4 40 (mI h4 10 0).toNatClampNeg) (Int32.toNatClampNeg 3) (-2)) (mR h4 40 (mI h4 10 0).toNatClampNeg) (Int32.toNatClampNeg 4) (-2)) 10 0 ((mI (wI (wI (wI (wI (wI h4 (mR h4 40 (mI h4 10 0).toNatClampNeg) (Int32.toNatClampNeg 0) l1) (mR h4 40 (mI h4 10 0).toNatClampNeg) (Int32.toNatClampNeg 1) l2) (mR h4 40 (mI h4 10 0).toNatClampNeg) (Int32.toNatClampNeg 2) (-2)) (mR h4 40 (mI h4 10 0).toNatClampNeg) (Int32.toNatClampNeg 3) (-2)) (mR h4 40 (mI h4 10 0).toNatClampNeg) (Int32.toNatClampNeg 4) (-2)) 10 0) + 1)) 10 1 (mI (wI (wI (wI (wI (wI (wI h4 (mR h4 40 (mI h4 10 0).toNatClampNeg) (Int32.toNatClampNeg 0) l1) (mR h4 40 (mI h4 10 0).toNatClampNeg) (Int32.toNatClampNeg 1) l2) (mR h4 40 (mI h4 10 0).toNatClampNeg) (Int32.toNatClampNeg 2) (-2)) (mR h4 40 (mI h4 10 0).toNatClampNeg) (Int32.toNatClampNeg 3) (-2)) (mR h4 40 (mI h4 10 0).toNatClampNeg) (Int32.toNatClampNeg 4) (-2)) 10 0 ((mI (wI (wI (wI (wI (wI h4 (mR h4 40 (mI h4 10 0).toNatClampNeg) (Int32.toNatClampNeg 0) l1) (mR h4 40 (mI h4 10 0).toNatClampNeg) (Int32.toNatClampNeg 1) l2) (mR h4 40 (mI h4 10 0).toNatClampNeg) (Int32.toNatClampNeg 2) (-2)) (mR h4 40 (mI h4 10 0).toNatClampNeg) (Int32.toNatClampNeg 3) (-2)) (mR h4 40 (mI h4 10 0).toNatClampNeg) (Int32.toNatClampNeg 4) (-2)) 10 0) + 1)) 10 0))))))))))))) ∧ (¬ (mI h 10 0) < 20 → MCv g yX4_leaveOldest uX4_leaveOldest [.ref 10] h (fun h12 => (vp_in (mI h12 10 0) 21) ∧ ((shp (mR h12 41 (mI h12 10 0).toNatClampNeg) = (20, 49, [])) ∧ (MCv g yX8_save uX8_save [.ref 3, .ref (mR h12 41 (mI h12 10 0).toNatClampNeg)] h12 (fun h15 => (vp_in (mI h15 10 0) 20) ∧ ((shp (mR h15 40 (mI h15 10 0).toNatClampNeg) = (20, 5, [])) ∧ ((vp_in 0 5) ∧ ((vp_in 1 5) ∧ ((vp_in 2 5) ∧ ((vp_in 3 5) ∧ ((vp_in 4 5) ∧ (P (wI (wI (wI (wI (wI (wI (wI h15 (mR h15 40 (mI h15 10 0).toNatClampNeg) (Int32.toNatClampNeg 0) l1) (mR h15 40 (mI h15 10 0).toNatClampNeg) (Int32.toNatClampNeg 1) l2) (mR h15 40 (mI h15 10 0).toNatClampNeg) (Int32.toNatClampNeg 2) (-2)) (mR h15 40 (mI h15 10 0).toNatClampNeg) (Int32.toNatClampNeg 3) (-2)) (mR h15 40 (mI h15 10 0).toNatClampNeg) (Int32.toNatClampNeg 4) (-2)) 10 0 ((mI (wI (wI (wI (wI (wI h15 (mR h15 40 (mI h15 10 0).toNatClampNeg) (Int32.toNatClampNeg 0) l1) (mR h15 40 (mI h15 10 0).toNatClampNeg) (Int32.toNatClampNeg 1) l2) (mR h15 40 (mI h15 10 0).toNatClampNeg) (Int32.toNatClampNeg 2) (-2)) (mR h15 40 (mI h15 10 0).toNatClampNeg) (Int32.toNatClampNeg 3) (-2)) (mR h15 40 (mI h15 10 0).toNatClampNeg) (Int32.toNatClampNeg 4) (-2)) 10 0) + 1)) 10 1 (mI (wI (wI (wI (wI (wI (wI h15 (mR h15 40 (mI h15 10 0).toNatClampNeg) (Int32.toNatClampNeg 0) l1) (mR h15 40 (mI h15 10 0).toNatClampNeg) (Int32.toNatClampNeg 1) l2) (mR h15 40 (mI h15 10 0).toNatClampNeg) (Int32.toNatClampNeg 2) (-2)) (mR h15 40 (mI h15 10 0).toNatClampNeg) (Int32.toNatClampNeg 3) (-2)) (mR h15 40 (mI h15 10 0).toNatClampNeg) (Int32.toNatClampNeg 4) (-2)) 10 0 ((mI (wI (wI (wI (wI (wI h15 (mR h15 40 (mI h15 10 0).toNatClampNeg) (Int32.toNatClampNeg 0) l1) (mR h15 40 (mI h15 10 0).toNatClampNeg) (Int32.toNatClampNeg 1) l2) (mR h15 40 (mI h15 10 0).toNatClampNeg) (Int32.toNatClampNeg 2) (-2)) (mR h15 40 (mI h15 10 0).toNatClampNeg) (Int32.toNatClampNeg 3) (-2)) (mR h15 40 (mI h15 10 0).toNatClampNeg) (Int32.toNatClampNeg 4) (-2)) 10 0) + 1)) 10 0))))))))))))))) : MCv g yX4_begin uX4_begin [.ref 10, .int l1, .int l2] h P := by
  refine m_enter (by decide) rfl (Nat.le_of_ble_eq_true rfl) (lv := [.ref 10, .int l1, .int l2, .retAddr 0]) rfl ?_
  refine m_aload_n dX4_begin_0 rfl ?_
  refine gf_X4_28 rfl dX4_begin_1 ?_
  refine m_bipush (v := 20) dX4_begin_4 (by decide) ?_
  refine m_icmp_lt 13 dX4_begin_6 (by decide) (fun c1 => ?_) (fun c1 => ?_)
  · replace q := q.1 c1
    refine m_aload_n dX4_begin_13 rfl ?_
    refine gf_X4_24 rfl dX4_begin_14 ?_
    refine m_aload_n dX4_begin_17 rfl ?_
    refine gf_X4_18 rfl dX4_begin_18 ?_
    refine m_aload_n dX4_begin_21 rfl ?_
    refine gf_X4_28 rfl dX4_begin_22 ?_
    obtain ⟨b2, q⟩ := q
    obtain ⟨b3, q⟩ := q
    refine m_aaldD dX4_begin_25 (show shp 41 = (25, 21, []) from rfl) b2 b3 (by decide) ?_
    refine cl_X4_41 rfl (by decide) dX4_begin_26 (Nat.le_of_ble_eq_true rfl) (MCv_go q (fun h4 q => ?_))
    refine m_aload_n dX4_begin_29 rfl ?_
    refine gf_X4_13 rfl dX4_begin_30 ?_
    refine m_aload_n dX4_begin_33 rfl ?_
    refine gf_X4_28 rfl dX4_begin_34 ?_
    obtain ⟨b5, q⟩ := q
    obtain ⟨b6, q⟩ := q
    refine m_aaldD dX4_begin_37 (show shp 40 = (25, 20, []) from rfl) b5 b6 (by decide) ?_
    refine m_astore_n (lv' := [.ref 10, .int l1, .int l2, .ref (mR h4 40 (mI h4 10 0).toNatClampNeg)]) dX4_begin_38 (Nat.le_of_ble_eq_true rfl) rfl rfl ?_
    refine m_aload_n dX4_begin_39 rfl ?_
    refine m_iconst (v := 0) dX4_begin_40 (by decide) ?_
    refine m_iload_n dX4_begin_41 rfl ?_
    obtain ⟨b7, q⟩ := q
    refine m_iastore dX4_begin_42 b6 (shp_lt b6 (by decide)) b7 ?_
    refine m_aload_n dX4_begin_43 rfl ?_
    refine m_iconst (v := 1) dX4_begin_44 (by decide) ?_
    refine m_iload_n dX4_begin_45 rfl ?_
    obtain ⟨b8, q⟩ := q
    refine m_iastore dX4_begin_46 b6 (shp_lt b6 (by decide)) b8 ?_
    refine m_aload_n dX4_begin_47 rfl ?_
    refine m_iconst (v := 2) dX4_begin_48 (by decide) ?_
    refine m_bipush (v := (-2)) dX4_begin_49 (by decide) ?_
    obtain ⟨b9, q⟩ := q
    refine m_iastore dX4_begin_51 b6 (shp_lt b6 (by decide)) b9 ?_
    refine m_aload_n dX4_begin_52 rfl ?_
    refine m_iconst (v := 3) dX4_begin_53 (by decide) ?_
    refine m_bipush (v := (-2)) dX4_begin_54 (by decide) ?_
    obtain ⟨b10, q⟩ := q
    refine m_iastore dX4_begin_56 b6 (shp_lt b6 (by decide)) b10 ?_
    refine m_aload_n dX4_begin_57 rfl ?_
    refine m_iconst (v := 4) dX4_begin_58 (by decide) ?_
    refine m_bipush (v := (-2)) dX4_begin_59 (by decide) ?_
    obtain ⟨b11, q⟩ := q
    refine m_iastore dX4_begin_61 b6 (shp_lt b6 (by decide)) b11 ?_
    refine m_aload_n dX4_begin_62 rfl ?_
    refine m_dup dX4_begin_63 rfl ?_
    refine gf_X4_28 rfl dX4_begin_64 ?_
    refine m_iconst (v := 1) dX4_begin_67 (by decide) ?_
    refine m_iadd dX4_begin_68 ?_
    refine pf_X4_28 rfl dX4_begin_69 ?_
    refine m_aload_n dX4_begin_72 rfl ?_
    refine m_aload_n dX4_begin_73 rfl ?_
    refine gf_X4_28 rfl dX4_begin_74 ?_
    refine pf_X4_32 rfl dX4_begin_77 ?_
    exact m_vret dX4_begin_80 rfl q
  · replace q := q.2 c1
    refine m_aload_n dX4_begin_9 rfl ?_
    refine cl_X4_38 rfl (by decide) dX4_begin_10 (Nat.le_of_ble_eq_true rfl) (MCv_go q (fun h12 q => ?_))
    refine m_aload_n dX4_begin_13 rfl ?_
    refine gf_X4_24 rfl dX4_begin_14 ?_
    refine m_aload_n dX4_begin_17 rfl ?_
    refine gf_X4_18 rfl dX4_begin_18 ?_
    refine m_aload_n dX4_begin_21 rfl ?_
    refine gf_X4_28 rfl dX4_begin_22 ?_
    obtain ⟨b13, q⟩ := q
    obtain ⟨b14, q⟩ := q
    refine m_aaldD dX4_begin_25 (show shp 41 = (25, 21, []) from rfl) b13 b14 (by decide) ?_
    refine cl_X4_41 rfl (by decide) dX4_begin_26 (Nat.le_of_ble_eq_true rfl) (MCv_go q (fun h15 q => ?_))
    refine m_aload_n dX4_begin_29 rfl ?_
    refine gf_X4_13 rfl dX4_begin_30 ?_
    refine m_aload_n dX4_begin_33 rfl ?_
    refine gf_X4_28 rfl dX4_begin_34 ?_
    obtain ⟨b16, q⟩ := q
    obtain ⟨b17, q⟩ := q
    refine m_aaldD dX4_begin_37 (show shp 40 = (25, 20, []) from rfl) b16 b17 (by decide) ?_
    refine m_astore_n (lv' := [.ref 10, .int l1, .int l2, .ref (mR h15 40 (mI h15 10 0).toNatClampNeg)]) dX4_begin_38 (Nat.le_of_ble_eq_true rfl) rfl rfl ?_
    refine m_aload_n dX4_begin_39 rfl ?_
    refine m_iconst (v := 0) dX4_begin_40 (by decide) ?_
    refine m_iload_n dX4_begin_41 rfl ?_
    obtain ⟨b18, q⟩ := q
    refine m_iastore dX4_begin_42 b17 (shp_lt b17 (by decide)) b18 ?_
    refine m_aload_n dX4_begin_43 rfl ?_
    refine m_iconst (v := 1) dX4_begin_44 (by decide) ?_
    refine m_iload_n dX4_begin_45 rfl ?_
    obtain ⟨b19, q⟩ := q
    refine m_iastore dX4_begin_46 b17 (shp_lt b17 (by decide)) b19 ?_
    refine m_aload_n dX4_begin_47 rfl ?_
    refine m_iconst (v := 2) dX4_begin_48 (by decide) ?_
    refine m_bipush (v := (-2)) dX4_begin_49 (by decide) ?_
    obtain ⟨b20, q⟩ := q
    refine m_iastore dX4_begin_51 b17 (shp_lt b17 (by decide)) b20 ?_
    refine m_aload_n dX4_begin_52 rfl ?_
    refine m_iconst (v := 3) dX4_begin_53 (by decide) ?_
    refine m_bipush (v := (-2)) dX4_begin_54 (by decide) ?_
    obtain ⟨b21, q⟩ := q
    refine m_iastore dX4_begin_56 b17 (shp_lt b17 (by decide)) b21 ?_
    refine m_aload_n dX4_begin_57 rfl ?_
    refine m_iconst (v := 4) dX4_begin_58 (by decide) ?_
    refine m_bipush (v := (-2)) dX4_begin_59 (by decide) ?_
    obtain ⟨b22, q⟩ := q
    refine m_iastore dX4_begin_61 b17 (shp_lt b17 (by decide)) b22 ?_
    refine m_aload_n dX4_begin_62 rfl ?_
    refine m_dup dX4_begin_63 rfl ?_
    refine gf_X4_28 rfl dX4_begin_64 ?_
    refine m_iconst (v := 1) dX4_begin_67 (by decide) ?_
    refine m_iadd dX4_begin_68 ?_
    refine pf_X4_28 rfl dX4_begin_69 ?_
    refine m_aload_n dX4_begin_72 rfl ?_
    refine m_aload_n dX4_begin_73 rfl ?_
    refine gf_X4_28 rfl dX4_begin_74 ?_
    refine pf_X4_32 rfl dX4_begin_77 ?_
    exact m_vret dX4_begin_80 rfl q
set_option maxRecDepth 100000 in
theorem e_X4_tellMove {g : gT} {h : mh_T} {P : mh_T → Prop} (l1 : Int32) (l2 : Int32) (l3 : Int32) (q : ((mI h 10 0) ≤ 0 → P h) ∧ (¬ (mI h 10 0) ≤ 0 → (vp_in ((mI h 10 0) - 1) 20) ∧ ((shp (mR h 40 ((mI h 10 0) - 1).toNatClampNeg) = (20, 5, [])) ∧ ((vp_in 2 5) ∧ ((vp_in 3 5) ∧ ((vp_in 4 5) ∧ (P (wI (wI (wI h (mR h 40 ((mI h 10 0) - 1).toNatClampNeg) (Int32.toNatClampNeg 2) l1) (mR h 40 ((mI h 10 0) - 1).toNatClampNeg) (Int32.toNatClampNeg 3) l2) (mR h 40 ((mI h 10 0) - 1).toNatClampNeg) (Int32.toNatClampNeg 4) l3)))))))) : MCv g yX4_tellMove uX4_tellMove [.ref 10, .int l1, .int l2, .int l3] h P := by
  refine m_enter (by decide) rfl (Nat.le_of_ble_eq_true rfl) (lv := [.ref 10, .int l1, .int l2, .int l3, .retAddr 0]) rfl ?_
  refine m_aload_n dX4_tellMove_0 rfl ?_
  refine gf_X4_28 rfl dX4_tellMove_1 ?_
  refine m_if_le 35 dX4_tellMove_4 (by decide) (fun c1 => ?_) (fun c1 => ?_)
  · replace q := q.1 c1
    exact m_vret dX4_tellMove_35 rfl q
  · replace q := q.2 c1
    refine m_aload_n dX4_tellMove_7 rfl ?_
    refine gf_X4_13 rfl dX4_tellMove_8 ?_
    refine m_aload_n dX4_tellMove_11 rfl ?_
    refine gf_X4_28 rfl dX4_tellMove_12 ?_
    refine m_iconst (v := 1) dX4_tellMove_15 (by decide) ?_
    refine m_isub dX4_tellMove_16 ?_
    obtain ⟨b2, q⟩ := q
    obtain ⟨b3, q⟩ := q
    refine m_aaldD dX4_tellMove_17 (show shp 40 = (25, 20, []) from rfl) b2 b3 (by decide) ?_
    refine m_astore (lv' := [.ref 10, .int l1, .int l2, .int l3, .ref (mR h 40 ((mI h 10 0) - 1).toNatClampNeg)]) dX4_tellMove_18 (Nat.le_of_ble_eq_true rfl) rfl rfl ?_
    refine m_aload dX4_tellMove_20 rfl ?_
    refine m_iconst (v := 2) dX4_tellMove_22 (by decide) ?_
    refine m_iload_n dX4_tellMove_23 rfl ?_
    obtain ⟨b4, q⟩ := q
    refine m_iastore dX4_tellMove_24 b3 (shp_lt b3 (by decide)) b4 ?_
    refine m_aload dX4_tellMove_25 rfl ?_
    refine m_iconst (v := 3) dX4_tellMove_27 (by decide) ?_
    refine m_iload_n dX4_tellMove_28 rfl ?_
    obtain ⟨b5, q⟩ := q
    refine m_iastore dX4_tellMove_29 b3 (shp_lt b3 (by decide)) b5 ?_
    refine m_aload dX4_tellMove_30 rfl ?_
    refine m_iconst (v := 4) dX4_tellMove_32 (by decide) ?_
    refine m_iload_n dX4_tellMove_33 rfl ?_
    obtain ⟨b6, q⟩ := q
    refine m_iastore dX4_tellMove_34 b3 (shp_lt b3 (by decide)) b6 ?_
    exact m_vret dX4_tellMove_35 rfl q
set_option maxRecDepth 100000 in
theorem e_X4_leaveOldest {g : gT} {h : mh_T} {P : mh_T → Prop}  (q : (shp (mR h 40 (Int32.toNatClampNeg 0)) = (20, 5, [])) ∧ ((shp (mR h 41 (Int32.toNatClampNeg 0)) = (20, 49, [])) ∧ (ME g uX4_leaveOldest 16 [.ref 10, .ref (mR h 40 (Int32.toNatClampNeg 0)), .ref (mR h 41 (Int32.toNatClampNeg 0)), .int 0] [] h (qV P)))) : MCv g yX4_leaveOldest uX4_leaveOldest [.ref 10] h P := by
  refine m_enter (by decide) rfl (Nat.le_of_ble_eq_true rfl) (lv := [.ref 10, .retAddr 0, .retAddr 0, .retAddr 0]) rfl ?_
  refine m_aload_n dX4_leaveOldest_0 rfl ?_
  refine gf_X4_13 rfl dX4_leaveOldest_1 ?_
  refine m_iconst (v := 0) dX4_leaveOldest_4 (by decide) ?_
  obtain ⟨b1, q⟩ := q
  refine m_aaldD dX4_leaveOldest_5 (show shp 40 = (25, 20, []) from rfl) (by unfold vp_in; decide) b1 (by decide) ?_
  refine m_astore_n (lv' := [.ref 10, .ref (mR h 40 (Int32.toNatClampNeg 0)), .retAddr 0, .retAddr 0]) dX4_leaveOldest_6 (Nat.le_of_ble_eq_true rfl) rfl rfl ?_
  refine m_aload_n dX4_leaveOldest_7 rfl ?_
  refine gf_X4_18 rfl dX4_leaveOldest_8 ?_
  refine m_iconst (v := 0) dX4_leaveOldest_11 (by decide) ?_
  obtain ⟨b2, q⟩ := q
  refine m_aaldD dX4_leaveOldest_12 (show shp 41 = (25, 21, []) from rfl) (by unfold vp_in; decide) b2 (by decide) ?_
  refine m_astore_n (lv' := [.ref 10, .ref (mR h 40 (Int32.toNatClampNeg 0)), .ref (mR h 41 (Int32.toNatClampNeg 0)), .retAddr 0]) dX4_leaveOldest_13 (Nat.le_of_ble_eq_true rfl) rfl rfl ?_
  refine m_iconst (v := 0) dX4_leaveOldest_14 (by decide) ?_
  refine m_istore_n (lv' := [.ref 10, .ref (mR h 40 (Int32.toNatClampNeg 0)), .ref (mR h 41 (Int32.toNatClampNeg 0)), .int 0]) dX4_leaveOldest_15 (Nat.le_of_ble_eq_true rfl) rfl rfl ?_
  exact q
set_option maxRecDepth 100000 in
theorem r_X4_leaveOldest_16 {g : gT} {h : mh_T} {P : mh_T → Prop} (l1 : Nat) (l2 : Nat) (l3 : Int32) (sl1 : shp l1 = (20, 5, [])) (sl2 : shp l2 = (20, 49, [])) (q : (19 ≤ l3 → P (wI (wR (wR h 40 (Int32.toNatClampNeg 19) l1) 41 (Int32.toNatClampNeg 19) l2) 10 0 19)) ∧ (¬ 19 ≤ l3 → (vp_in (l3 + 1) 20) ∧ ((shp (mR h 40 (l3 + 1).toNatClampNeg) = (20, 5, [])) ∧ ((vp_in l3 20) ∧ ((vp_in (l3 + 1) 21) ∧ ((shp (mR (wR h 40 l3.toNatClampNeg (mR h 40 (l3 + 1).toNatClampNeg)) 41 (l3 + 1).toNatClampNeg) = (20, 49, [])) ∧ ((vp_in l3 21) ∧ (ME g uX4_leaveOldest 16 [.ref 10, .ref l1, .ref l2, .int (l3 + 1)] [] (wR (wR h 40 l3.toNatClampNeg (mR h 40 (l3 + 1).toNatClampNeg)) 41 l3.toNatClampNeg (mR (wR h 40 l3.toNatClampNeg (mR h 40 (l3 + 1).toNatClampNeg)) 41 (l3 + 1).toNatClampNeg)) (qV P))))))))) : ME g uX4_leaveOldest 16 [.ref 10, .ref l1, .ref l2, .int l3] [] h (qV P) := by
  refine m_iload_n dX4_leaveOldest_16 rfl ?_
  refine m_bipush (v := 19) dX4_leaveOldest_17 (by decide) ?_
  refine m_icmp_ge 56 dX4_leaveOldest_19 (by decide) (fun c1 => ?_) (fun c1 => ?_)
  · replace q := q.1 c1
    refine m_aload_n dX4_leaveOldest_56 rfl ?_
    refine gf_X4_13 rfl dX4_leaveOldest_57 ?_
    refine m_bipush (v := 19) dX4_leaveOldest_60 (by decide) ?_
    refine m_aload_n dX4_leaveOldest_62 rfl ?_
    refine m_aastore dX4_leaveOldest_63 (show shp 40 = (25, 20, []) from rfl) (by decide) (by unfold vp_in; decide) sl1 (shp_lt sl1 (by decide)) ?_
    refine m_aload_n dX4_leaveOldest_64 rfl ?_
    refine gf_X4_18 rfl dX4_leaveOldest_65 ?_
    refine m_bipush (v := 19) dX4_leaveOldest_68 (by decide) ?_
    refine m_aload_n dX4_leaveOldest_70 rfl ?_
    refine m_aastore dX4_leaveOldest_71 (show shp 41 = (25, 21, []) from rfl) (by decide) (by unfold vp_in; decide) sl2 (shp_lt sl2 (by decide)) ?_
    refine m_aload_n dX4_leaveOldest_72 rfl ?_
    refine m_bipush (v := 19) dX4_leaveOldest_73 (by decide) ?_
    refine pf_X4_28 rfl dX4_leaveOldest_75 ?_
    exact m_vret dX4_leaveOldest_78 rfl q
  · replace q := q.2 c1
    refine m_aload_n dX4_leaveOldest_22 rfl ?_
    refine gf_X4_13 rfl dX4_leaveOldest_23 ?_
    refine m_iload_n dX4_leaveOldest_26 rfl ?_
    refine m_aload_n dX4_leaveOldest_27 rfl ?_
    refine gf_X4_13 rfl dX4_leaveOldest_28 ?_
    refine m_iload_n dX4_leaveOldest_31 rfl ?_
    refine m_iconst (v := 1) dX4_leaveOldest_32 (by decide) ?_
    refine m_iadd dX4_leaveOldest_33 ?_
    obtain ⟨b2, q⟩ := q
    obtain ⟨b3, q⟩ := q
    refine m_aaldD dX4_leaveOldest_34 (show shp 40 = (25, 20, []) from rfl) b2 b3 (by decide) ?_
    obtain ⟨b4, q⟩ := q
    refine m_aastore dX4_leaveOldest_35 (show shp 40 = (25, 20, []) from rfl) (by decide) b4 b3 (shp_lt b3 (by decide)) ?_
    refine m_aload_n dX4_leaveOldest_36 rfl ?_
    refine gf_X4_18 rfl dX4_leaveOldest_37 ?_
    refine m_iload_n dX4_leaveOldest_40 rfl ?_
    refine m_aload_n dX4_leaveOldest_41 rfl ?_
    refine gf_X4_18 rfl dX4_leaveOldest_42 ?_
    refine m_iload_n dX4_leaveOldest_45 rfl ?_
    refine m_iconst (v := 1) dX4_leaveOldest_46 (by decide) ?_
    refine m_iadd dX4_leaveOldest_47 ?_
    obtain ⟨b5, q⟩ := q
    obtain ⟨b6, q⟩ := q
    refine m_aaldD dX4_leaveOldest_48 (show shp 41 = (25, 21, []) from rfl) b5 b6 (by decide) ?_
    obtain ⟨b7, q⟩ := q
    refine m_aastore dX4_leaveOldest_49 (show shp 41 = (25, 21, []) from rfl) (by decide) b7 b6 (shp_lt b6 (by decide)) ?_
    refine m_iinc (v := (l3 + 1)) (lv' := [.ref 10, .ref l1, .ref l2, .int (l3 + 1)]) dX4_leaveOldest_50 (Nat.le_of_ble_eq_true rfl) rfl (congrArg (fun z => l3 + z) (by decide : Int32.ofInt 1 = 1)) rfl rfl ?_
    refine m_goto 16 dX4_leaveOldest_53 (by decide) ?_
    exact q
set_option maxRecDepth 100000 in
theorem e_X4_takeBack {g : gT} {h : mh_T} {P : Int32 → mh_T → Prop}  (q : (¬ (mI h 10 0) = 0 → (vp_in (mI h 10 0) 21) ∧ ((shp (mR h 41 (mI h 10 0).toNatClampNeg) = (20, 49, [])) ∧ (MCv g yX8_save uX8_save [.ref 3, .ref (mR h 41 (mI h 10 0).toNatClampNeg)] h (fun h4 => (vp_in (mI (wI h4 10 0 ((mI h4 10 0) - 1)) 10 0) 21) ∧ ((shp (mR (wI h4 10 0 ((mI h4 10 0) - 1)) 41 (mI (wI h4 10 0 ((mI h4 10 0) - 1)) 10 0).toNatClampNeg) = (20, 49, [])) ∧ (MCv g yX8_restore uX8_restore [.ref 3, .ref (mR (wI h4 10 0 ((mI h4 10 0) - 1)) 41 (mI (wI h4 10 0 ((mI h4 10 0) - 1)) 10 0).toNatClampNeg)] (wI h4 10 0 ((mI h4 10 0) - 1)) (fun h7 => P 1 h7))))))) ∧ ((mI h 10 0) = 0 → P 0 h)) : MCi g yX4_takeBack uX4_takeBack [.ref 10] h P := by
  refine m_enter (by decide) rfl (Nat.le_of_ble_eq_true rfl) (lv := [.ref 10]) rfl ?_
  refine m_aload_n dX4_takeBack_0 rfl ?_
  refine gf_X4_28 rfl dX4_takeBack_1 ?_
  refine m_if_ne 9 dX4_takeBack_4 (by decide) (fun c1 => ?_) (fun c1 => ?_)
  · replace q := q.1 c1
    refine m_aload_n dX4_takeBack_9 rfl ?_
    refine gf_X4_24 rfl dX4_takeBack_10 ?_
    refine m_aload_n dX4_takeBack_13 rfl ?_
    refine gf_X4_18 rfl dX4_takeBack_14 ?_
    refine m_aload_n dX4_takeBack_17 rfl ?_
    refine gf_X4_28 rfl dX4_takeBack_18 ?_
    obtain ⟨b2, q⟩ := q
    obtain ⟨b3, q⟩ := q
    refine m_aaldD dX4_takeBack_21 (show shp 41 = (25, 21, []) from rfl) b2 b3 (by decide) ?_
    refine cl_X4_41 rfl (by decide) dX4_takeBack_22 (Nat.le_of_ble_eq_true rfl) (MCv_go q (fun h4 q => ?_))
    refine m_aload_n dX4_takeBack_25 rfl ?_
    refine m_dup dX4_takeBack_26 rfl ?_
    refine gf_X4_28 rfl dX4_takeBack_27 ?_
    refine m_iconst (v := 1) dX4_takeBack_30 (by decide) ?_
    refine m_isub dX4_takeBack_31 ?_
    refine pf_X4_28 rfl dX4_takeBack_32 ?_
    refine m_aload_n dX4_takeBack_35 rfl ?_
    refine gf_X4_24 rfl dX4_takeBack_36 ?_
    refine m_aload_n dX4_takeBack_39 rfl ?_
    refine gf_X4_18 rfl dX4_takeBack_40 ?_
    refine m_aload_n dX4_takeBack_43 rfl ?_
    refine gf_X4_28 rfl dX4_takeBack_44 ?_
    obtain ⟨b5, q⟩ := q
    obtain ⟨b6, q⟩ := q
    refine m_aaldD dX4_takeBack_47 (show shp 41 = (25, 21, []) from rfl) b5 b6 (by decide) ?_
    refine cl_X4_45 rfl (by decide) dX4_takeBack_48 (Nat.le_of_ble_eq_true rfl) (MCv_go q (fun h7 q => ?_))
    refine m_iconst (v := 1) dX4_takeBack_51 (by decide) ?_
    exact m_zret dX4_takeBack_52 rfl (by decide) q
  · replace q := q.2 c1
    refine m_iconst (v := 0) dX4_takeBack_7 (by decide) ?_
    exact m_zret dX4_takeBack_8 rfl (by decide) q
set_option maxRecDepth 100000 in
theorem e_X4_makeAgain {g : gT} {h : mh_T} {P : Int32 → mh_T → Prop}  (q : ((mI h 10 0) < (mI h 10 1) → (vp_in (mI (wI h 10 0 ((mI h 10 0) + 1)) 10 0) 21) ∧ ((shp (mR (wI h 10 0 ((mI h 10 0) + 1)) 41 (mI (wI h 10 0 ((mI h 10 0) + 1)) 10 0).toNatClampNeg) = (20, 49, [])) ∧ (MCv g yX8_restore uX8_restore [.ref 3, .ref (mR (wI h 10 0 ((mI h 10 0) + 1)) 41 (mI (wI h 10 0 ((mI h 10 0) + 1)) 10 0).toNatClampNeg)] (wI h 10 0 ((mI h 10 0) + 1)) (fun h4 => P 1 h4)))) ∧ (¬ (mI h 10 0) < (mI h 10 1) → P 0 h)) : MCi g yX4_makeAgain uX4_makeAgain [.ref 10] h P := by
  refine m_enter (by decide) rfl (Nat.le_of_ble_eq_true rfl) (lv := [.ref 10]) rfl ?_
  refine m_aload_n dX4_makeAgain_0 rfl ?_
  refine gf_X4_28 rfl dX4_makeAgain_1 ?_
  refine m_aload_n dX4_makeAgain_4 rfl ?_
  refine gf_X4_32 rfl dX4_makeAgain_5 ?_
  refine m_icmp_lt 13 dX4_makeAgain_8 (by decide) (fun c1 => ?_) (fun c1 => ?_)
  · replace q := q.1 c1
    refine m_aload_n dX4_makeAgain_13 rfl ?_
    refine m_dup dX4_makeAgain_14 rfl ?_
    refine gf_X4_28 rfl dX4_makeAgain_15 ?_
    refine m_iconst (v := 1) dX4_makeAgain_18 (by decide) ?_
    refine m_iadd dX4_makeAgain_19 ?_
    refine pf_X4_28 rfl dX4_makeAgain_20 ?_
    refine m_aload_n dX4_makeAgain_23 rfl ?_
    refine gf_X4_24 rfl dX4_makeAgain_24 ?_
    refine m_aload_n dX4_makeAgain_27 rfl ?_
    refine gf_X4_18 rfl dX4_makeAgain_28 ?_
    refine m_aload_n dX4_makeAgain_31 rfl ?_
    refine gf_X4_28 rfl dX4_makeAgain_32 ?_
    obtain ⟨b2, q⟩ := q
    obtain ⟨b3, q⟩ := q
    refine m_aaldD dX4_makeAgain_35 (show shp 41 = (25, 21, []) from rfl) b2 b3 (by decide) ?_
    refine cl_X4_45 rfl (by decide) dX4_makeAgain_36 (Nat.le_of_ble_eq_true rfl) (MCv_go q (fun h4 q => ?_))
    refine m_iconst (v := 1) dX4_makeAgain_39 (by decide) ?_
    exact m_zret dX4_makeAgain_40 rfl (by decide) q
  · replace q := q.2 c1
    refine m_iconst (v := 0) dX4_makeAgain_11 (by decide) ?_
    exact m_zret dX4_makeAgain_12 rfl (by decide) q
set_option maxRecDepth 100000 in
theorem e_X4_keep {g : gT} {h : mh_T} {P : Int32 → mh_T → Prop}  (q : (vp_in (mI h 10 2) 4) ∧ (MCv g yX8_save uX8_save [.ref 3, .ref (137 + (mI h 10 2).toNatClampNeg)] h (fun h2 => P ((mI (wI h2 10 2 ((mI h2 10 2) + 1)) 10 2) - 1) (wI h2 10 2 ((mI h2 10 2) + 1))))) : MCi g yX4_keep uX4_keep [.ref 10] h P := by
  refine m_enter (by decide) rfl (Nat.le_of_ble_eq_true rfl) (lv := [.ref 10]) rfl ?_
  refine m_aload_n dX4_keep_0 rfl ?_
  refine gf_X4_24 rfl dX4_keep_1 ?_
  refine m_aload_n dX4_keep_4 rfl ?_
  refine gf_X4_21 rfl dX4_keep_5 ?_
  refine m_aload_n dX4_keep_8 rfl ?_
  refine gf_X4_35 rfl dX4_keep_9 ?_
  obtain ⟨b1, q⟩ := q
  refine m_aald42 dX4_keep_12 b1 ?_
  refine cl_X4_41 rfl (by decide) dX4_keep_13 (Nat.le_of_ble_eq_true rfl) (MCv_go q (fun h2 q => ?_))
  refine m_aload_n dX4_keep_16 rfl ?_
  refine m_dup dX4_keep_17 rfl ?_
  refine gf_X4_35 rfl dX4_keep_18 ?_
  refine m_iconst (v := 1) dX4_keep_21 (by decide) ?_
  refine m_iadd dX4_keep_22 ?_
  refine pf_X4_35 rfl dX4_keep_23 ?_
  refine m_aload_n dX4_keep_26 rfl ?_
  refine gf_X4_35 rfl dX4_keep_27 ?_
  refine m_iconst (v := 1) dX4_keep_30 (by decide) ?_
  refine m_isub dX4_keep_31 ?_
  exact m_iret dX4_keep_32 rfl q
set_option maxRecDepth 100000 in
theorem e_X4_goBack {g : gT} {h : mh_T} {P : Int32 → mh_T → Prop} (l1 : Int32) (q : (l1 < 0 → P 0 h) ∧ (¬ l1 < 0 → (l1 < (mI h 10 2) → (vp_in l1 4) ∧ (MCv g yX8_restore uX8_restore [.ref 3, .ref (137 + l1.toNatClampNeg)] h (fun h4 => P 1 (wI (wI h4 10 0 0) 10 1 0)))) ∧ (¬ l1 < (mI h 10 2) → P 0 h))) : MCi g yX4_goBack uX4_goBack [.ref 10, .int l1] h P := by
  refine m_enter (by decide) rfl (Nat.le_of_ble_eq_true rfl) (lv := [.ref 10, .int l1]) rfl ?_
  refine m_iload_n dX4_goBack_0 rfl ?_
  refine m_if_lt 12 dX4_goBack_1 (by decide) (fun c1 => ?_) (fun c1 => ?_)
  · replace q := q.1 c1
    refine m_iconst (v := 0) dX4_goBack_12 (by decide) ?_
    exact m_zret dX4_goBack_13 rfl (by decide) q
  · replace q := q.2 c1
    refine m_iload_n dX4_goBack_4 rfl ?_
    refine m_aload_n dX4_goBack_5 rfl ?_
    refine gf_X4_35 rfl dX4_goBack_6 ?_
    refine m_icmp_lt 14 dX4_goBack_9 (by decide) (fun c2 => ?_) (fun c2 => ?_)
    · replace q := q.1 c2
      refine m_aload_n dX4_goBack_14 rfl ?_
      refine gf_X4_24 rfl dX4_goBack_15 ?_
      refine m_aload_n dX4_goBack_18 rfl ?_
      refine gf_X4_21 rfl dX4_goBack_19 ?_
      refine m_iload_n dX4_goBack_22 rfl ?_
      obtain ⟨b3, q⟩ := q
      refine m_aald42 dX4_goBack_23 b3 ?_
      refine cl_X4_45 rfl (by decide) dX4_goBack_24 (Nat.le_of_ble_eq_true rfl) (MCv_go q (fun h4 q => ?_))
      refine m_aload_n dX4_goBack_27 rfl ?_
      refine m_iconst (v := 0) dX4_goBack_28 (by decide) ?_
      refine pf_X4_28 rfl dX4_goBack_29 ?_
      refine m_aload_n dX4_goBack_32 rfl ?_
      refine m_iconst (v := 0) dX4_goBack_33 (by decide) ?_
      refine pf_X4_32 rfl dX4_goBack_34 ?_
      refine m_iconst (v := 1) dX4_goBack_37 (by decide) ?_
      exact m_zret dX4_goBack_38 rfl (by decide) q
    · replace q := q.2 c2
      refine m_iconst (v := 0) dX4_goBack_12 (by decide) ?_
      exact m_zret dX4_goBack_13 rfl (by decide) q
set_option maxRecDepth 100000 in
theorem e_X0_findShare {g : gT} {h : mh_T} {P : mh_T → Prop}  (q : (¬ (mI h 3 2) = 0 → MCv g yX0_solve uX0_solve [.ref 6] h (fun h2 => (vp_in (mI h2 6 6) 65) ∧ (MCv g yX2_set uX2_set [.ref 5, .long (mL h2 (62 + (Int32.toNatClampNeg 32)) (mI h2 6 6).toNatClampNeg), .long ((mL h2 6 7) * (Int32.toInt64 (mI h2 3 0)))] h2 (fun h4 => P h4)))) ∧ ((mI h 3 2) = 0 → MCv g yX2_set uX2_set [.ref 5, .long 1, .long 1] h (fun h5 => P h5))) : MCv g yX0_findShare uX0_findShare [.ref 6] h P := by
  refine m_enter (by decide) rfl (Nat.le_of_ble_eq_true rfl) (lv := [.ref 6]) rfl ?_
  refine m_aload_n dX0_findShare_0 rfl ?_
  refine gf_X0_27 rfl dX0_findShare_1 ?_
  refine gf_X0_44 rfl dX0_findShare_4 ?_
  refine m_if_ne 20 dX0_findShare_7 (by decide) (fun c1 => ?_) (fun c1 => ?_)
  · replace q := q.1 c1
    refine m_aload_n dX0_findShare_20 rfl ?_
    refine cl_X0_53 rfl (by decide) dX0_findShare_21 (Nat.le_of_ble_eq_true rfl) (MCv_go q (fun h2 q => ?_))
    refine m_aload_n dX0_findShare_24 rfl ?_
    refine gf_X0_31 rfl dX0_findShare_25 ?_
    refine m_aload_n dX0_findShare_28 rfl ?_
    refine gf_X0_13 rfl dX0_findShare_29 ?_
    refine m_bipush (v := 32) dX0_findShare_32 (by decide) ?_
    refine m_aald28 dX0_findShare_34 (by unfold vp_in; decide) ?_
    refine m_aload_n dX0_findShare_35 rfl ?_
    refine gf_X0_56 rfl dX0_findShare_36 ?_
    obtain ⟨b3, q⟩ := q
    refine m_laload dX0_findShare_39 (shp_62 _ (vp_lt (by unfold vp_in; decide))) (shp_lt (shp_62 _ (vp_lt (by unfold vp_in; decide))) (by decide)) b3 ?_
    refine m_aload_n dX0_findShare_40 rfl ?_
    refine gf_X0_23 rfl dX0_findShare_41 ?_
    refine m_aload_n dX0_findShare_44 rfl ?_
    refine gf_X0_27 rfl dX0_findShare_45 ?_
    refine gf_X0_59 rfl dX0_findShare_48 ?_
    refine m_i2l dX0_findShare_51 ?_
    refine m_lmul dX0_findShare_52 ?_
    refine cl_X0_47 rfl (by decide) dX0_findShare_53 (Nat.le_of_ble_eq_true rfl) (MCv_go q (fun h4 q => ?_))
    exact m_vret dX0_findShare_56 rfl q
  · replace q := q.2 c1
    refine m_aload_n dX0_findShare_10 rfl ?_
    refine gf_X0_31 rfl dX0_findShare_11 ?_
    refine m_lconst (v := 1) dX0_findShare_14 (by decide) ?_
    refine m_lconst (v := 1) dX0_findShare_15 (by decide) ?_
    refine cl_X0_47 rfl (by decide) dX0_findShare_16 (Nat.le_of_ble_eq_true rfl) (MCv_go q (fun h5 q => ?_))
    exact m_vret dX0_findShare_19 rfl q
set_option maxRecDepth 100000 in
theorem e_X0_isMixed {g : gT} {h : mh_T} {P : Int32 → mh_T → Prop}  (q : (¬ (mI h 3 2) = 0 → MCv g yX0_solve uX0_solve [.ref 6] h (fun h2 => (vp_in (mI h2 6 6) 65) ∧ ((¬ (lg_cmp (mL h2 (62 + (Int32.toNatClampNeg 32)) (mI h2 6 6).toNatClampNeg) ((mL h2 6 7) * (Int32.toInt64 (mI h2 3 0)))) = 0 → P 0 h2) ∧ ((lg_cmp (mL h2 (62 + (Int32.toNatClampNeg 32)) (mI h2 6 6).toNatClampNeg) ((mL h2 6 7) * (Int32.toInt64 (mI h2 3 0)))) = 0 → P 1 h2)))) ∧ ((mI h 3 2) = 0 → P 1 h)) : MCi g yX0_isMixed uX0_isMixed [.ref 6] h P := by
  refine m_enter (by decide) rfl (Nat.le_of_ble_eq_true rfl) (lv := [.ref 6]) rfl ?_
  refine m_aload_n dX0_isMixed_0 rfl ?_
  refine gf_X0_27 rfl dX0_isMixed_1 ?_
  refine gf_X0_44 rfl dX0_isMixed_4 ?_
  refine m_if_ne 12 dX0_isMixed_7 (by decide) (fun c1 => ?_) (fun c1 => ?_)
  · replace q := q.1 c1
    refine m_aload_n dX0_isMixed_12 rfl ?_
    refine cl_X0_53 rfl (by decide) dX0_isMixed_13 (Nat.le_of_ble_eq_true rfl) (MCv_go q (fun h2 q => ?_))
    refine m_aload_n dX0_isMixed_16 rfl ?_
    refine gf_X0_13 rfl dX0_isMixed_17 ?_
    refine m_bipush (v := 32) dX0_isMixed_20 (by decide) ?_
    refine m_aald28 dX0_isMixed_22 (by unfold vp_in; decide) ?_
    refine m_aload_n dX0_isMixed_23 rfl ?_
    refine gf_X0_56 rfl dX0_isMixed_24 ?_
    obtain ⟨b3, q⟩ := q
    refine m_laload dX0_isMixed_27 (shp_62 _ (vp_lt (by unfold vp_in; decide))) (shp_lt (shp_62 _ (vp_lt (by unfold vp_in; decide))) (by decide)) b3 ?_
    refine m_aload_n dX0_isMixed_28 rfl ?_
    refine gf_X0_23 rfl dX0_isMixed_29 ?_
    refine m_aload_n dX0_isMixed_32 rfl ?_
    refine gf_X0_27 rfl dX0_isMixed_33 ?_
    refine gf_X0_59 rfl dX0_isMixed_36 ?_
    refine m_i2l dX0_isMixed_39 ?_
    refine m_lmul dX0_isMixed_40 ?_
    refine m_lcmp dX0_isMixed_41 ?_
    refine m_if_ne 49 dX0_isMixed_42 (by decide) (fun c4 => ?_) (fun c4 => ?_)
    · replace q := q.1 c4
      refine m_iconst (v := 0) dX0_isMixed_49 (by decide) ?_
      exact m_zret dX0_isMixed_50 rfl (by decide) q
    · replace q := q.2 c4
      refine m_iconst (v := 1) dX0_isMixed_45 (by decide) ?_
      refine m_goto 50 dX0_isMixed_46 (by decide) ?_
      exact m_zret dX0_isMixed_50 rfl (by decide) q
  · replace q := q.2 c1
    refine m_iconst (v := 1) dX0_isMixed_10 (by decide) ?_
    exact m_zret dX0_isMixed_11 rfl (by decide) q
set_option maxRecDepth 100000 in
theorem e_X0_findTogether {g : gT} {h : mh_T} {P : mh_T → Prop} (l1 : Int32) (l2 : Int32) (l3 : Int32) (q : (¬ (mI h 3 2) = 0 → MCv g yX0_solve uX0_solve [.ref 6] h (fun h2 => (l3 = 0 → MCv g yX0_aim uX0_aim [.ref 6, .int l1, .int l2, .int (-1)] h2 (fun h4 => MCv g yX0_climb uX0_climb [.ref 6, .int 33] h4 (fun h5 => (vp_in (mI h5 6 6) 65) ∧ (MCv g yX2_set uX2_set [.ref 5, .long ((Int32.toInt64 (-1)) * (mL h5 (62 + (Int32.toNatClampNeg 33)) (mI h5 6 6).toNatClampNeg)), .long ((mL h5 6 7) * (Int32.toInt64 (mI h5 3 0)))] h5 (fun h7 => P h7))))) ∧ (¬ l3 = 0 → MCv g yX0_aim uX0_aim [.ref 6, .int l1, .int l2, .int 1] h2 (fun h8 => MCv g yX0_climb uX0_climb [.ref 6, .int 33] h8 (fun h9 => (vp_in (mI h9 6 6) 65) ∧ (MCv g yX2_set uX2_set [.ref 5, .long ((Int32.toInt64 1) * (mL h9 (62 + (Int32.toNatClampNeg 33)) (mI h9 6 6).toNatClampNeg)), .long ((mL h9 6 7) * (Int32.toInt64 (mI h9 3 0)))] h9 (fun h11 => P h11))))))) ∧ ((mI h 3 2) = 0 → (l3 = 0 → MCv g yX2_set uX2_set [.ref 5, .long 0, .long 1] h (fun h13 => P h13)) ∧ (¬ l3 = 0 → MCv g yX2_set uX2_set [.ref 5, .long 1, .long 1] h (fun h14 => P h14)))) : MCv g yX0_findTogether uX0_findTogether [.ref 6, .int l1, .int l2, .int l3] h P := by
  refine m_enter (by decide) rfl (Nat.le_of_ble_eq_true rfl) (lv := [.ref 6, .int l1, .int l2, .int l3, .retAddr 0]) rfl ?_
  refine m_aload_n dX0_findTogether_0 rfl ?_
  refine gf_X0_27 rfl dX0_findTogether_1 ?_
  refine gf_X0_44 rfl dX0_findTogether_4 ?_
  refine m_if_ne 28 dX0_findTogether_7 (by decide) (fun c1 => ?_) (fun c1 => ?_)
  · replace q := q.1 c1
    refine m_aload_n dX0_findTogether_28 rfl ?_
    refine cl_X0_53 rfl (by decide) dX0_findTogether_29 (Nat.le_of_ble_eq_true rfl) (MCv_go q (fun h2 q => ?_))
    refine m_iload_n dX0_findTogether_32 rfl ?_
    refine m_if_eq 40 dX0_findTogether_33 (by decide) (fun c3 => ?_) (fun c3 => ?_)
    · replace q := q.1 c3
      refine m_iconst (v := (-1)) dX0_findTogether_40 (by decide) ?_
      refine m_istore (lv' := [.ref 6, .int l1, .int l2, .int l3, .int (-1)]) dX0_findTogether_41 (Nat.le_of_ble_eq_true rfl) rfl rfl ?_
      refine m_aload_n dX0_findTogether_43 rfl ?_
      refine m_iload_n dX0_findTogether_44 rfl ?_
      refine m_iload_n dX0_findTogether_45 rfl ?_
      refine m_iload dX0_findTogether_46 rfl ?_
      refine cl_X0_62 rfl (by decide) dX0_findTogether_48 (Nat.le_of_ble_eq_true rfl) (MCv_go q (fun h4 q => ?_))
      refine m_aload_n dX0_findTogether_51 rfl ?_
      refine m_bipush (v := 33) dX0_findTogether_52 (by decide) ?_
      refine cl_X0_66 rfl (by decide) dX0_findTogether_54 (Nat.le_of_ble_eq_true rfl) (MCv_go q (fun h5 q => ?_))
      refine m_aload_n dX0_findTogether_57 rfl ?_
      refine gf_X0_31 rfl dX0_findTogether_58 ?_
      refine m_iload dX0_findTogether_61 rfl ?_
      refine m_i2l dX0_findTogether_63 ?_
      refine m_aload_n dX0_findTogether_64 rfl ?_
      refine gf_X0_13 rfl dX0_findTogether_65 ?_
      refine m_bipush (v := 33) dX0_findTogether_68 (by decide) ?_
      refine m_aald28 dX0_findTogether_70 (by unfold vp_in; decide) ?_
      refine m_aload_n dX0_findTogether_71 rfl ?_
      refine gf_X0_56 rfl dX0_findTogether_72 ?_
      obtain ⟨b6, q⟩ := q
      refine m_laload dX0_findTogether_75 (shp_62 _ (vp_lt (by unfold vp_in; decide))) (shp_lt (shp_62 _ (vp_lt (by unfold vp_in; decide))) (by decide)) b6 ?_
      refine m_lmul dX0_findTogether_76 ?_
      refine m_aload_n dX0_findTogether_77 rfl ?_
      refine gf_X0_23 rfl dX0_findTogether_78 ?_
      refine m_aload_n dX0_findTogether_81 rfl ?_
      refine gf_X0_27 rfl dX0_findTogether_82 ?_
      refine gf_X0_59 rfl dX0_findTogether_85 ?_
      refine m_i2l dX0_findTogether_88 ?_
      refine m_lmul dX0_findTogether_89 ?_
      refine cl_X0_47 rfl (by decide) dX0_findTogether_90 (Nat.le_of_ble_eq_true rfl) (MCv_go q (fun h7 q => ?_))
      exact m_vret dX0_findTogether_93 rfl q
    · replace q := q.2 c3
      refine m_iconst (v := 1) dX0_findTogether_36 (by decide) ?_
      refine m_goto 41 dX0_findTogether_37 (by decide) ?_
      refine m_istore (lv' := [.ref 6, .int l1, .int l2, .int l3, .int 1]) dX0_findTogether_41 (Nat.le_of_ble_eq_true rfl) rfl rfl ?_
      refine m_aload_n dX0_findTogether_43 rfl ?_
      refine m_iload_n dX0_findTogether_44 rfl ?_
      refine m_iload_n dX0_findTogether_45 rfl ?_
      refine m_iload dX0_findTogether_46 rfl ?_
      refine cl_X0_62 rfl (by decide) dX0_findTogether_48 (Nat.le_of_ble_eq_true rfl) (MCv_go q (fun h8 q => ?_))
      refine m_aload_n dX0_findTogether_51 rfl ?_
      refine m_bipush (v := 33) dX0_findTogether_52 (by decide) ?_
      refine cl_X0_66 rfl (by decide) dX0_findTogether_54 (Nat.le_of_ble_eq_true rfl) (MCv_go q (fun h9 q => ?_))
      refine m_aload_n dX0_findTogether_57 rfl ?_
      refine gf_X0_31 rfl dX0_findTogether_58 ?_
      refine m_iload dX0_findTogether_61 rfl ?_
      refine m_i2l dX0_findTogether_63 ?_
      refine m_aload_n dX0_findTogether_64 rfl ?_
      refine gf_X0_13 rfl dX0_findTogether_65 ?_
      refine m_bipush (v := 33) dX0_findTogether_68 (by decide) ?_
      refine m_aald28 dX0_findTogether_70 (by unfold vp_in; decide) ?_
      refine m_aload_n dX0_findTogether_71 rfl ?_
      refine gf_X0_56 rfl dX0_findTogether_72 ?_
      obtain ⟨b10, q⟩ := q
      refine m_laload dX0_findTogether_75 (shp_62 _ (vp_lt (by unfold vp_in; decide))) (shp_lt (shp_62 _ (vp_lt (by unfold vp_in; decide))) (by decide)) b10 ?_
      refine m_lmul dX0_findTogether_76 ?_
      refine m_aload_n dX0_findTogether_77 rfl ?_
      refine gf_X0_23 rfl dX0_findTogether_78 ?_
      refine m_aload_n dX0_findTogether_81 rfl ?_
      refine gf_X0_27 rfl dX0_findTogether_82 ?_
      refine gf_X0_59 rfl dX0_findTogether_85 ?_
      refine m_i2l dX0_findTogether_88 ?_
      refine m_lmul dX0_findTogether_89 ?_
      refine cl_X0_47 rfl (by decide) dX0_findTogether_90 (Nat.le_of_ble_eq_true rfl) (MCv_go q (fun h11 q => ?_))
      exact m_vret dX0_findTogether_93 rfl q
  · replace q := q.2 c1
    refine m_aload_n dX0_findTogether_10 rfl ?_
    refine gf_X0_31 rfl dX0_findTogether_11 ?_
    refine m_iload_n dX0_findTogether_14 rfl ?_
    refine m_if_eq 22 dX0_findTogether_15 (by decide) (fun c12 => ?_) (fun c12 => ?_)
    · replace q := q.1 c12
      refine m_lconst (v := 0) dX0_findTogether_22 (by decide) ?_
      refine m_lconst (v := 1) dX0_findTogether_23 (by decide) ?_
      refine cl_X0_47 rfl (by decide) dX0_findTogether_24 (Nat.le_of_ble_eq_true rfl) (MCv_go q (fun h13 q => ?_))
      exact m_vret dX0_findTogether_27 rfl q
    · replace q := q.2 c12
      refine m_lconst (v := 1) dX0_findTogether_18 (by decide) ?_
      refine m_goto 23 dX0_findTogether_19 (by decide) ?_
      refine m_lconst (v := 1) dX0_findTogether_23 (by decide) ?_
      refine cl_X0_47 rfl (by decide) dX0_findTogether_24 (Nat.le_of_ble_eq_true rfl) (MCv_go q (fun h14 q => ?_))
      exact m_vret dX0_findTogether_27 rfl q
set_option maxRecDepth 100000 in
theorem e_X0_solve {g : gT} {h : mh_T} {P : mh_T → Prop}  (q : (¬ (mI h 6 8) = (mI h 3 3) → MCv g yX0_nameColumns uX0_nameColumns [.ref 6] (wI h 6 8 (mI h 3 3)) (fun h2 => MCv g yX0_fillRows uX0_fillRows [.ref 6] h2 (fun h3 => ME g uX0_solve 36 [.ref 6, .int 0] [] h3 (qV P)))) ∧ ((mI h 6 8) = (mI h 3 3) → P h)) : MCv g yX0_solve uX0_solve [.ref 6] h P := by
  refine m_enter (by decide) rfl (Nat.le_of_ble_eq_true rfl) (lv := [.ref 6, .retAddr 0]) rfl ?_
  refine m_aload_n dX0_solve_0 rfl ?_
  refine gf_X0_41 rfl dX0_solve_1 ?_
  refine m_aload_n dX0_solve_4 rfl ?_
  refine gf_X0_27 rfl dX0_solve_5 ?_
  refine gf_X0_35 rfl dX0_solve_8 ?_
  refine m_icmp_ne 15 dX0_solve_11 (by decide) (fun c1 => ?_) (fun c1 => ?_)
  · replace q := q.1 c1
    refine m_aload_n dX0_solve_15 rfl ?_
    refine m_aload_n dX0_solve_16 rfl ?_
    refine gf_X0_27 rfl dX0_solve_17 ?_
    refine gf_X0_35 rfl dX0_solve_20 ?_
    refine pf_X0_41 rfl dX0_solve_23 ?_
    refine m_aload_n dX0_solve_26 rfl ?_
    refine cl_X0_70 rfl (by decide) dX0_solve_27 (Nat.le_of_ble_eq_true rfl) (MCv_go q (fun h2 q => ?_))
    refine m_aload_n dX0_solve_30 rfl ?_
    refine cl_X0_73 rfl (by decide) dX0_solve_31 (Nat.le_of_ble_eq_true rfl) (MCv_go q (fun h3 q => ?_))
    refine m_iconst (v := 0) dX0_solve_34 (by decide) ?_
    refine m_istore_n (lv' := [.ref 6, .int 0]) dX0_solve_35 (Nat.le_of_ble_eq_true rfl) rfl rfl ?_
    exact q
  · replace q := q.2 c1
    exact m_vret dX0_solve_14 rfl q
set_option maxRecDepth 100000 in
theorem r_X0_solve_36 {g : gT} {h : mh_T} {P : mh_T → Prop} (l1 : Int32) (q : ((mI h 6 6) ≤ l1 → (vp_in (mI h 6 6) 65) ∧ (MCv g yX0_climb uX0_climb [.ref 6, .int 32] (wL (wL h (62 + (Int32.toNatClampNeg 32)) (mI h 6 6).toNatClampNeg 0) 6 7 1) (fun h3 => P h3))) ∧ (¬ (mI h 6 6) ≤ l1 → (vp_in l1 65) ∧ (ME g uX0_solve 36 [.ref 6, .int (l1 + 1)] [] (wL h (62 + (Int32.toNatClampNeg 32)) l1.toNatClampNeg (-1)) (qV P)))) : ME g uX0_solve 36 [.ref 6, .int l1] [] h (qV P) := by
  refine m_iload_n dX0_solve_36 rfl ?_
  refine m_aload_n dX0_solve_37 rfl ?_
  refine gf_X0_56 rfl dX0_solve_38 ?_
  refine m_icmp_ge 62 dX0_solve_41 (by decide) (fun c1 => ?_) (fun c1 => ?_)
  · replace q := q.1 c1
    refine m_aload_n dX0_solve_62 rfl ?_
    refine gf_X0_13 rfl dX0_solve_63 ?_
    refine m_bipush (v := 32) dX0_solve_66 (by decide) ?_
    refine m_aald28 dX0_solve_68 (by unfold vp_in; decide) ?_
    refine m_aload_n dX0_solve_69 rfl ?_
    refine gf_X0_56 rfl dX0_solve_70 ?_
    refine m_lconst (v := 0) dX0_solve_73 (by decide) ?_
    obtain ⟨b2, q⟩ := q
    refine m_lastore dX0_solve_74 (shp_62 _ (vp_lt (by unfold vp_in; decide))) (shp_lt (shp_62 _ (vp_lt (by unfold vp_in; decide))) (by decide)) b2 ?_
    refine m_aload_n dX0_solve_75 rfl ?_
    refine m_lconst (v := 1) dX0_solve_76 (by decide) ?_
    refine pf_X0_23 rfl dX0_solve_77 ?_
    refine m_aload_n dX0_solve_80 rfl ?_
    refine m_bipush (v := 32) dX0_solve_81 (by decide) ?_
    refine cl_X0_66 rfl (by decide) dX0_solve_83 (Nat.le_of_ble_eq_true rfl) (MCv_go q (fun h3 q => ?_))
    exact m_vret dX0_solve_86 rfl q
  · replace q := q.2 c1
    refine m_aload_n dX0_solve_44 rfl ?_
    refine gf_X0_13 rfl dX0_solve_45 ?_
    refine m_bipush (v := 32) dX0_solve_48 (by decide) ?_
    refine m_aald28 dX0_solve_50 (by unfold vp_in; decide) ?_
    refine m_iload_n dX0_solve_51 rfl ?_
    refine m_ldc2 (v := (-1)) dX0_solve_52 tw_282 ?_
    obtain ⟨b4, q⟩ := q
    refine m_lastore dX0_solve_55 (shp_62 _ (vp_lt (by unfold vp_in; decide))) (shp_lt (shp_62 _ (vp_lt (by unfold vp_in; decide))) (by decide)) b4 ?_
    refine m_iinc (v := (l1 + 1)) (lv' := [.ref 6, .int (l1 + 1)]) dX0_solve_56 (Nat.le_of_ble_eq_true rfl) rfl (congrArg (fun z => l1 + z) (by decide : Int32.ofInt 1 = 1)) rfl rfl ?_
    refine m_goto 36 dX0_solve_59 (by decide) ?_
    exact q
set_option maxRecDepth 100000 in
theorem e_X0_nameColumns {g : gT} {h : mh_T} {P : mh_T → Prop}  (q : ME g uX0_nameColumns 7 [.ref 6, .int 0] [] (wI h 6 6 0) (qV P)) : MCv g yX0_nameColumns uX0_nameColumns [.ref 6] h P := by
  refine m_enter (by decide) rfl (Nat.le_of_ble_eq_true rfl) (lv := [.ref 6, .retAddr 0]) rfl ?_
  refine m_aload_n dX0_nameColumns_0 rfl ?_
  refine m_iconst (v := 0) dX0_nameColumns_1 (by decide) ?_
  refine pf_X0_56 rfl dX0_nameColumns_2 ?_
  refine m_iconst (v := 0) dX0_nameColumns_5 (by decide) ?_
  refine m_istore_n (lv' := [.ref 6, .int 0]) dX0_nameColumns_6 (Nat.le_of_ble_eq_true rfl) rfl rfl ?_
  exact q
set_option maxRecDepth 100000 in
theorem r_X0_nameColumns_7 {g : gT} {h : mh_T} {P : mh_T → Prop} (l1 : Int32) (q : MCi g yX8_hiddenAnswers uX8_hiddenAnswers [.ref 3] h (fun r2 h1 => (r2 ≤ l1 → P h1) ∧ (¬ r2 ≤ l1 → MCi g yX8_missed uX8_missed [.ref 3, .int l1] h1 (fun r5 h4 => (¬ r5 = 0 → ME g uX0_nameColumns 7 [.ref 6, .int (l1 + 1)] [] h4 (qV P)) ∧ (r5 = 0 → (vp_in (mI h4 6 6) 64) ∧ (ME g uX0_nameColumns 7 [.ref 6, .int (l1 + 1)] [] (wI (wI h4 30 (mI h4 6 6).toNatClampNeg l1) 6 6 ((mI (wI h4 30 (mI h4 6 6).toNatClampNeg l1) 6 6) + 1)) (qV P))))))) : ME g uX0_nameColumns 7 [.ref 6, .int l1] [] h (qV P) := by
  refine m_iload_n dX0_nameColumns_7 rfl ?_
  refine m_aload_n dX0_nameColumns_8 rfl ?_
  refine gf_X0_27 rfl dX0_nameColumns_9 ?_
  refine cl_X0_78 rfl (by decide) dX0_nameColumns_12 (Nat.le_of_ble_eq_true rfl) (MCi_go q (fun r2 h1 q => ?_))
  refine m_icmp_ge 55 dX0_nameColumns_15 (by decide) (fun c3 => ?_) (fun c3 => ?_)
  · replace q := q.1 c3
    exact m_vret dX0_nameColumns_55 rfl q
  · replace q := q.2 c3
    refine m_aload_n dX0_nameColumns_18 rfl ?_
    refine gf_X0_27 rfl dX0_nameColumns_19 ?_
    refine m_iload_n dX0_nameColumns_22 rfl ?_
    refine cl_X0_82 rfl (by decide) dX0_nameColumns_23 (Nat.le_of_ble_eq_true rfl) (MCi_go q (fun r5 h4 q => ?_))
    refine m_if_ne 49 dX0_nameColumns_26 (by decide) (fun c6 => ?_) (fun c6 => ?_)
    · replace q := q.1 c6
      refine m_iinc (v := (l1 + 1)) (lv' := [.ref 6, .int (l1 + 1)]) dX0_nameColumns_49 (Nat.le_of_ble_eq_true rfl) rfl (congrArg (fun z => l1 + z) (by decide : Int32.ofInt 1 = 1)) rfl rfl ?_
      refine m_goto 7 dX0_nameColumns_52 (by decide) ?_
      exact q
    · replace q := q.2 c6
      refine m_aload_n dX0_nameColumns_29 rfl ?_
      refine gf_X0_20 rfl dX0_nameColumns_30 ?_
      refine m_aload_n dX0_nameColumns_33 rfl ?_
      refine gf_X0_56 rfl dX0_nameColumns_34 ?_
      refine m_iload_n dX0_nameColumns_37 rfl ?_
      obtain ⟨b7, q⟩ := q
      refine m_iastore dX0_nameColumns_38 rfl (by decide) b7 ?_
      refine m_aload_n dX0_nameColumns_39 rfl ?_
      refine m_dup dX0_nameColumns_40 rfl ?_
      refine gf_X0_56 rfl dX0_nameColumns_41 ?_
      refine m_iconst (v := 1) dX0_nameColumns_44 (by decide) ?_
      refine m_iadd dX0_nameColumns_45 ?_
      refine pf_X0_56 rfl dX0_nameColumns_46 ?_
      refine m_iinc (v := (l1 + 1)) (lv' := [.ref 6, .int (l1 + 1)]) dX0_nameColumns_49 (Nat.le_of_ble_eq_true rfl) rfl (congrArg (fun z => l1 + z) (by decide : Int32.ofInt 1 = 1)) rfl rfl ?_
      refine m_goto 7 dX0_nameColumns_52 (by decide) ?_
      exact q
set_option maxRecDepth 100000 in
theorem e_X0_fillRows {g : gT} {h : mh_T} {P : mh_T → Prop}  (q : ME g uX0_fillRows 7 [.ref 6, .int 0, .retAddr 0] [] (wI h 6 5 0) (qV P)) : MCv g yX0_fillRows uX0_fillRows [.ref 6] h P := by
  refine m_enter (by decide) rfl (Nat.le_of_ble_eq_true rfl) (lv := [.ref 6, .retAddr 0, .retAddr 0]) rfl ?_
  refine m_aload_n dX0_fillRows_0 rfl ?_
  refine m_iconst (v := 0) dX0_fillRows_1 (by decide) ?_
  refine pf_X0_86 rfl dX0_fillRows_2 ?_
  refine m_iconst (v := 0) dX0_fillRows_5 (by decide) ?_
  refine m_istore_n (lv' := [.ref 6, .int 0, .retAddr 0]) dX0_fillRows_6 (Nat.le_of_ble_eq_true rfl) rfl rfl ?_
  exact q
set_option maxRecDepth 100000 in
theorem r_X0_fillRows_7 {g : gT} {h : mh_T} {P : mh_T → Prop} (l1 : Int32) (q : ((4 * (mI h 3 2)) ≤ l1 → P h) ∧ (¬ (4 * (mI h 3 2)) ≤ l1 → (vp_in l1 32) ∧ (((mI h 26 l1.toNatClampNeg) ≤ 0 → ME g uX0_fillRows 7 [.ref 6, .int (l1 + 1), .retAddr 0] [] h (qV P)) ∧ (¬ (mI h 26 l1.toNatClampNeg) ≤ 0 → ME g uX0_fillRows 34 [.ref 6, .int l1, .int 0] [] h (qV P))))) : ME g uX0_fillRows 7 [.ref 6, .int l1, .retAddr 0] [] h (qV P) := by
  refine m_iload_n dX0_fillRows_7 rfl ?_
  refine m_iconst (v := 4) dX0_fillRows_8 (by decide) ?_
  refine m_aload_n dX0_fillRows_9 rfl ?_
  refine gf_X0_27 rfl dX0_fillRows_10 ?_
  refine gf_X0_44 rfl dX0_fillRows_13 ?_
  refine m_imul dX0_fillRows_16 ?_
  refine m_icmp_ge 137 dX0_fillRows_17 (by decide) (fun c1 => ?_) (fun c1 => ?_)
  · replace q := q.1 c1
    exact m_vret dX0_fillRows_137 rfl q
  · replace q := q.2 c1
    refine m_aload_n dX0_fillRows_20 rfl ?_
    refine gf_X0_27 rfl dX0_fillRows_21 ?_
    refine gf_X0_89 rfl dX0_fillRows_24 ?_
    refine m_iload_n dX0_fillRows_27 rfl ?_
    obtain ⟨b2, q⟩ := q
    refine m_iaload dX0_fillRows_28 rfl (by decide) b2 ?_
    refine m_if_le 131 dX0_fillRows_29 (by decide) (fun c3 => ?_) (fun c3 => ?_)
    · replace q := q.1 c3
      refine m_iinc (v := (l1 + 1)) (lv' := [.ref 6, .int (l1 + 1), .retAddr 0]) dX0_fillRows_131 (Nat.le_of_ble_eq_true rfl) rfl (congrArg (fun z => l1 + z) (by decide : Int32.ofInt 1 = 1)) rfl rfl ?_
      refine m_goto 7 dX0_fillRows_134 (by decide) ?_
      exact q
    · replace q := q.2 c3
      refine m_iconst (v := 0) dX0_fillRows_32 (by decide) ?_
      refine m_istore_n (lv' := [.ref 6, .int l1, .int 0]) dX0_fillRows_33 (Nat.le_of_ble_eq_true rfl) rfl rfl ?_
      exact q
set_option maxRecDepth 100000 in
theorem r_X0_fillRows_34 {g : gT} {h : mh_T} {P : mh_T → Prop} (l1 : Int32) (l2 : Int32) (q : ((mI h 6 6) ≤ l2 → (vp_in (mI h 6 5) 34) ∧ ((vp_in l1 32) ∧ ((vp_in (mI h 6 6) 65) ∧ ((vp_in (mI (wL h (62 + (mI h 6 5).toNatClampNeg) (mI h 6 6).toNatClampNeg (Int32.toInt64 (mI h 26 l1.toNatClampNeg))) 6 5) 32) ∧ (ME g uX0_fillRows 7 [.ref 6, .int (l1 + 1), .retAddr 0] [] (wI (wI (wL h (62 + (mI h 6 5).toNatClampNeg) (mI h 6 6).toNatClampNeg (Int32.toInt64 (mI h 26 l1.toNatClampNeg))) 29 (mI (wL h (62 + (mI h 6 5).toNatClampNeg) (mI h 6 6).toNatClampNeg (Int32.toInt64 (mI h 26 l1.toNatClampNeg))) 6 5).toNatClampNeg (64 + l1)) 6 5 ((mI (wI (wL h (62 + (mI h 6 5).toNatClampNeg) (mI h 6 6).toNatClampNeg (Int32.toInt64 (mI h 26 l1.toNatClampNeg))) 29 (mI (wL h (62 + (mI h 6 5).toNatClampNeg) (mI h 6 6).toNatClampNeg (Int32.toInt64 (mI h 26 l1.toNatClampNeg))) 6 5).toNatClampNeg (64 + l1)) 6 5) + 1)) (qV P)))))) ∧ (¬ (mI h 6 6) ≤ l2 → (vp_in (mI h 6 5) 34) ∧ ((vp_in l2 64) ∧ (MCi g yX8_cellOf uX8_cellOf [.ref 3, .int (l1 / 4), .int (mI h 30 l2.toNatClampNeg)] h (fun r9 h8 => (¬ r9 = l1 → (vp_in l2 65) ∧ (ME g uX0_fillRows 34 [.ref 6, .int l1, .int (l2 + 1)] [] (wL h8 (62 + (mI h 6 5).toNatClampNeg) l2.toNatClampNeg 0) (qV P))) ∧ (r9 = l1 → (vp_in l2 65) ∧ (ME g uX0_fillRows 34 [.ref 6, .int l1, .int (l2 + 1)] [] (wL h8 (62 + (mI h 6 5).toNatClampNeg) l2.toNatClampNeg 1) (qV P)))))))) : ME g uX0_fillRows 34 [.ref 6, .int l1, .int l2] [] h (qV P) := by
  refine m_iload_n dX0_fillRows_34 rfl ?_
  refine m_aload_n dX0_fillRows_35 rfl ?_
  refine gf_X0_56 rfl dX0_fillRows_36 ?_
  refine m_icmp_ge 84 dX0_fillRows_39 (by decide) (fun c1 => ?_) (fun c1 => ?_)
  · replace q := q.1 c1
    refine m_aload_n dX0_fillRows_84 rfl ?_
    refine gf_X0_13 rfl dX0_fillRows_85 ?_
    refine m_aload_n dX0_fillRows_88 rfl ?_
    refine gf_X0_86 rfl dX0_fillRows_89 ?_
    obtain ⟨b2, q⟩ := q
    refine m_aald28 dX0_fillRows_92 b2 ?_
    refine m_aload_n dX0_fillRows_93 rfl ?_
    refine gf_X0_56 rfl dX0_fillRows_94 ?_
    refine m_aload_n dX0_fillRows_97 rfl ?_
    refine gf_X0_27 rfl dX0_fillRows_98 ?_
    refine gf_X0_89 rfl dX0_fillRows_101 ?_
    refine m_iload_n dX0_fillRows_104 rfl ?_
    obtain ⟨b3, q⟩ := q
    refine m_iaload dX0_fillRows_105 rfl (by decide) b3 ?_
    refine m_i2l dX0_fillRows_106 ?_
    obtain ⟨b4, q⟩ := q
    refine m_lastore dX0_fillRows_107 (shp_62 _ (vp_lt b2)) (shp_lt (shp_62 _ (vp_lt b2)) (by decide)) b4 ?_
    refine m_aload_n dX0_fillRows_108 rfl ?_
    refine gf_X0_16 rfl dX0_fillRows_109 ?_
    refine m_aload_n dX0_fillRows_112 rfl ?_
    refine gf_X0_86 rfl dX0_fillRows_113 ?_
    refine m_bipush (v := 64) dX0_fillRows_116 (by decide) ?_
    refine m_iload_n dX0_fillRows_118 rfl ?_
    refine m_iadd dX0_fillRows_119 ?_
    obtain ⟨b5, q⟩ := q
    refine m_iastore dX0_fillRows_120 rfl (by decide) b5 ?_
    refine m_aload_n dX0_fillRows_121 rfl ?_
    refine m_dup dX0_fillRows_122 rfl ?_
    refine gf_X0_86 rfl dX0_fillRows_123 ?_
    refine m_iconst (v := 1) dX0_fillRows_126 (by decide) ?_
    refine m_iadd dX0_fillRows_127 ?_
    refine pf_X0_86 rfl dX0_fillRows_128 ?_
    refine m_iinc (v := (l1 + 1)) (lv' := [.ref 6, .int (l1 + 1), .int l2]) dX0_fillRows_131 (Nat.le_of_ble_eq_true rfl) rfl (congrArg (fun z => l1 + z) (by decide : Int32.ofInt 1 = 1)) rfl rfl ?_
    refine m_goto 7 dX0_fillRows_134 (by decide) ?_
    refine m_dropK (lv' := [.ref 6, .int (l1 + 1), .retAddr 0]) [2] rfl ?_
    exact q
  · replace q := q.2 c1
    refine m_aload_n dX0_fillRows_42 rfl ?_
    refine gf_X0_13 rfl dX0_fillRows_43 ?_
    refine m_aload_n dX0_fillRows_46 rfl ?_
    refine gf_X0_86 rfl dX0_fillRows_47 ?_
    obtain ⟨b6, q⟩ := q
    refine m_aald28 dX0_fillRows_50 b6 ?_
    refine m_iload_n dX0_fillRows_51 rfl ?_
    refine m_aload_n dX0_fillRows_52 rfl ?_
    refine gf_X0_27 rfl dX0_fillRows_53 ?_
    refine m_iload_n dX0_fillRows_56 rfl ?_
    refine m_iconst (v := 4) dX0_fillRows_57 (by decide) ?_
    refine m_idiv dX0_fillRows_58 (by decide) ?_
    refine m_aload_n dX0_fillRows_59 rfl ?_
    refine gf_X0_20 rfl dX0_fillRows_60 ?_
    refine m_iload_n dX0_fillRows_63 rfl ?_
    obtain ⟨b7, q⟩ := q
    refine m_iaload dX0_fillRows_64 rfl (by decide) b7 ?_
    refine cl_X0_92 rfl (by decide) dX0_fillRows_65 (Nat.le_of_ble_eq_true rfl) (MCi_go q (fun r9 h8 q => ?_))
    refine m_iload_n dX0_fillRows_68 rfl ?_
    refine m_icmp_ne 76 dX0_fillRows_69 (by decide) (fun c10 => ?_) (fun c10 => ?_)
    · replace q := q.1 c10
      refine m_lconst (v := 0) dX0_fillRows_76 (by decide) ?_
      obtain ⟨b11, q⟩ := q
      refine m_lastore dX0_fillRows_77 (shp_62 _ (vp_lt b6)) (shp_lt (shp_62 _ (vp_lt b6)) (by decide)) b11 ?_
      refine m_iinc (v := (l2 + 1)) (lv' := [.ref 6, .int l1, .int (l2 + 1)]) dX0_fillRows_78 (Nat.le_of_ble_eq_true rfl) rfl (congrArg (fun z => l2 + z) (by decide : Int32.ofInt 1 = 1)) rfl rfl ?_
      refine m_goto 34 dX0_fillRows_81 (by decide) ?_
      exact q
    · replace q := q.2 c10
      refine m_lconst (v := 1) dX0_fillRows_72 (by decide) ?_
      refine m_goto 77 dX0_fillRows_73 (by decide) ?_
      obtain ⟨b12, q⟩ := q
      refine m_lastore dX0_fillRows_77 (shp_62 _ (vp_lt b6)) (shp_lt (shp_62 _ (vp_lt b6)) (by decide)) b12 ?_
      refine m_iinc (v := (l2 + 1)) (lv' := [.ref 6, .int l1, .int (l2 + 1)]) dX0_fillRows_78 (Nat.le_of_ble_eq_true rfl) rfl (congrArg (fun z => l2 + z) (by decide : Int32.ofInt 1 = 1)) rfl rfl ?_
      refine m_goto 34 dX0_fillRows_81 (by decide) ?_
      exact q
set_option maxRecDepth 100000 in
theorem e_X0_aim {g : gT} {h : mh_T} {P : mh_T → Prop} (l1 : Int32) (l2 : Int32) (l3 : Int32) (q : ME g uX0_aim 3 [.ref 6, .int l1, .int l2, .int l3, .int 0, .retAddr 0, .retAddr 0, .retAddr 0] [] h (qV P)) : MCv g yX0_aim uX0_aim [.ref 6, .int l1, .int l2, .int l3] h P := by
  refine m_enter (by decide) rfl (Nat.le_of_ble_eq_true rfl) (lv := [.ref 6, .int l1, .int l2, .int l3, .retAddr 0, .retAddr 0, .retAddr 0, .retAddr 0]) rfl ?_
  refine m_iconst (v := 0) dX0_aim_0 (by decide) ?_
  refine m_istore (lv' := [.ref 6, .int l1, .int l2, .int l3, .int 0, .retAddr 0, .retAddr 0, .retAddr 0]) dX0_aim_1 (Nat.le_of_ble_eq_true rfl) rfl rfl ?_
  exact q
set_option maxRecDepth 100000 in
theorem r_X0_aim_3 {g : gT} {h : mh_T} {P : mh_T → Prop} (l1 : Int32) (l2 : Int32) (l3 : Int32) (l4 : Int32) (q : ((mI h 6 6) < l4 → P h) ∧ (¬ (mI h 6 6) < l4 → ME g uX0_aim 18 [.ref 6, .int l1, .int l2, .int l3, .int l4, .long 0, .retAddr 0, .int 0] [] h (qV P))) : ME g uX0_aim 3 [.ref 6, .int l1, .int l2, .int l3, .int l4, .retAddr 0, .retAddr 0, .retAddr 0] [] h (qV P) := by
  refine m_iload dX0_aim_3 rfl ?_
  refine m_aload_n dX0_aim_5 rfl ?_
  refine gf_X0_56 rfl dX0_aim_6 ?_
  refine m_icmp_gt 117 dX0_aim_9 (by decide) (fun c1 => ?_) (fun c1 => ?_)
  · replace q := q.1 c1
    exact m_vret dX0_aim_117 rfl q
  · replace q := q.2 c1
    refine m_lconst (v := 0) dX0_aim_12 (by decide) ?_
    refine m_lstore (lv' := [.ref 6, .int l1, .int l2, .int l3, .int l4, .long 0, .retAddr 0, .retAddr 0]) dX0_aim_13 (Nat.le_of_ble_eq_true rfl) rfl rfl ?_
    refine m_iconst (v := 0) dX0_aim_15 (by decide) ?_
    refine m_istore (lv' := [.ref 6, .int l1, .int l2, .int l3, .int l4, .long 0, .retAddr 0, .int 0]) dX0_aim_16 (Nat.le_of_ble_eq_true rfl) rfl rfl ?_
    exact q
set_option maxRecDepth 100000 in
theorem r_X0_aim_18 {g : gT} {h : mh_T} {P : mh_T → Prop} (l1 : Int32) (l2 : Int32) (l3 : Int32) (l4 : Int32) (l5 : Int64) (l7 : Int32) (q : ((mI h 6 5) ≤ l7 → ((mI h 6 6) ≤ l4 → (vp_in l4 65) ∧ (ME g uX0_aim 3 [.ref 6, .int l1, .int l2, .int l3, .int (l4 + 1), .retAddr 0, .retAddr 0, .retAddr 0] [] (wL h (62 + (Int32.toNatClampNeg 33)) l4.toNatClampNeg ((Int32.toInt64 l3) * l5)) (qV P))) ∧ (¬ (mI h 6 6) ≤ l4 → (vp_in l4 64) ∧ (MCi g yX0_isMeant uX0_isMeant [.int (mI h 30 l4.toNatClampNeg), .int l1, .int l2] h (fun r6 h5 => (r6 = 0 → (vp_in l4 65) ∧ (ME g uX0_aim 3 [.ref 6, .int l1, .int l2, .int l3, .int (l4 + 1), .retAddr 0, .retAddr 0, .retAddr 0] [] (wL h5 (62 + (Int32.toNatClampNeg 33)) l4.toNatClampNeg ((Int32.toInt64 l3) * l5)) (qV P))) ∧ (¬ r6 = 0 → ∀ x9 : Int64, x9 = (l5 - (mL h5 6 7)) → (vp_in l4 65) ∧ (ME g uX0_aim 3 [.ref 6, .int l1, .int l2, .int l3, .int (l4 + 1), .retAddr 0, .retAddr 0, .retAddr 0] [] (wL h5 (62 + (Int32.toNatClampNeg 33)) l4.toNatClampNeg ((Int32.toInt64 l3) * x9)) (qV P))))))) ∧ (¬ (mI h 6 5) ≤ l7 → (vp_in l7 32) ∧ (MCi g yX0_isMeant uX0_isMeant [.int (mI h 29 l7.toNatClampNeg), .int l1, .int l2] h (fun r13 h12 => (r13 = 0 → ME g uX0_aim 18 [.ref 6, .int l1, .int l2, .int l3, .int l4, .long l5, .retAddr 0, .int (l7 + 1)] [] h12 (qV P)) ∧ (¬ r13 = 0 → (vp_in l7 34) ∧ ((vp_in l4 65) ∧ (∀ x17 : Int64, x17 = (l5 + (mL h12 (62 + l7.toNatClampNeg) l4.toNatClampNeg)) → ME g uX0_aim 18 [.ref 6, .int l1, .int l2, .int l3, .int l4, .long x17, .retAddr 0, .int (l7 + 1)] [] h12 (qV P)))))))) : ME g uX0_aim 18 [.ref 6, .int l1, .int l2, .int l3, .int l4, .long l5, .retAddr 0, .int l7] [] h (qV P) := by
  refine m_iload dX0_aim_18 rfl ?_
  refine m_aload_n dX0_aim_20 rfl ?_
  refine gf_X0_86 rfl dX0_aim_21 ?_
  refine m_icmp_ge 63 dX0_aim_24 (by decide) (fun c1 => ?_) (fun c1 => ?_)
  · replace q := q.1 c1
    refine m_iload dX0_aim_63 rfl ?_
    refine m_aload_n dX0_aim_65 rfl ?_
    refine gf_X0_56 rfl dX0_aim_66 ?_
    refine m_icmp_ge 96 dX0_aim_69 (by decide) (fun c2 => ?_) (fun c2 => ?_)
    · replace q := q.1 c2
      refine m_aload_n dX0_aim_96 rfl ?_
      refine gf_X0_13 rfl dX0_aim_97 ?_
      refine m_bipush (v := 33) dX0_aim_100 (by decide) ?_
      refine m_aald28 dX0_aim_102 (by unfold vp_in; decide) ?_
      refine m_iload dX0_aim_103 rfl ?_
      refine m_iload_n dX0_aim_105 rfl ?_
      refine m_i2l dX0_aim_106 ?_
      refine m_lload dX0_aim_107 rfl ?_
      refine m_lmul dX0_aim_109 ?_
      obtain ⟨b3, q⟩ := q
      refine m_lastore dX0_aim_110 (shp_62 _ (vp_lt (by unfold vp_in; decide))) (shp_lt (shp_62 _ (vp_lt (by unfold vp_in; decide))) (by decide)) b3 ?_
      refine m_iinc (v := (l4 + 1)) (lv' := [.ref 6, .int l1, .int l2, .int l3, .int (l4 + 1), .long l5, .retAddr 0, .int l7]) dX0_aim_111 (Nat.le_of_ble_eq_true rfl) rfl (congrArg (fun z => l4 + z) (by decide : Int32.ofInt 1 = 1)) rfl rfl ?_
      refine m_goto 3 dX0_aim_114 (by decide) ?_
      refine m_dropK (lv' := [.ref 6, .int l1, .int l2, .int l3, .int (l4 + 1), .retAddr 0, .retAddr 0, .retAddr 0]) [5, 7] rfl ?_
      exact q
    · replace q := q.2 c2
      refine m_aload_n dX0_aim_72 rfl ?_
      refine gf_X0_20 rfl dX0_aim_73 ?_
      refine m_iload dX0_aim_76 rfl ?_
      obtain ⟨b4, q⟩ := q
      refine m_iaload dX0_aim_78 rfl (by decide) b4 ?_
      refine m_iload_n dX0_aim_79 rfl ?_
      refine m_iload_n dX0_aim_80 rfl ?_
      refine cl_X0_96 rfl (by decide) dX0_aim_81 (Nat.le_of_ble_eq_true rfl) (MCi_go q (fun r6 h5 q => ?_))
      refine m_if_eq 96 dX0_aim_84 (by decide) (fun c7 => ?_) (fun c7 => ?_)
      · replace q := q.1 c7
        refine m_aload_n dX0_aim_96 rfl ?_
        refine gf_X0_13 rfl dX0_aim_97 ?_
        refine m_bipush (v := 33) dX0_aim_100 (by decide) ?_
        refine m_aald28 dX0_aim_102 (by unfold vp_in; decide) ?_
        refine m_iload dX0_aim_103 rfl ?_
        refine m_iload_n dX0_aim_105 rfl ?_
        refine m_i2l dX0_aim_106 ?_
        refine m_lload dX0_aim_107 rfl ?_
        refine m_lmul dX0_aim_109 ?_
        obtain ⟨b8, q⟩ := q
        refine m_lastore dX0_aim_110 (shp_62 _ (vp_lt (by unfold vp_in; decide))) (shp_lt (shp_62 _ (vp_lt (by unfold vp_in; decide))) (by decide)) b8 ?_
        refine m_iinc (v := (l4 + 1)) (lv' := [.ref 6, .int l1, .int l2, .int l3, .int (l4 + 1), .long l5, .retAddr 0, .int l7]) dX0_aim_111 (Nat.le_of_ble_eq_true rfl) rfl (congrArg (fun z => l4 + z) (by decide : Int32.ofInt 1 = 1)) rfl rfl ?_
        refine m_goto 3 dX0_aim_114 (by decide) ?_
        refine m_dropK (lv' := [.ref 6, .int l1, .int l2, .int l3, .int (l4 + 1), .retAddr 0, .retAddr 0, .retAddr 0]) [5, 7] rfl ?_
        exact q
      · replace q := q.2 c7
        refine m_lload dX0_aim_87 rfl ?_
        refine m_aload_n dX0_aim_89 rfl ?_
        refine gf_X0_23 rfl dX0_aim_90 ?_
        refine m_lsub dX0_aim_93 ?_
        obtain ⟨x9, ex9⟩ : ∃ z, z = (l5 - (mL h5 6 7)) := ⟨_, rfl⟩
        rw [← ex9]
        replace q := q x9 ex9
        refine m_lstore (lv' := [.ref 6, .int l1, .int l2, .int l3, .int l4, .long x9, .retAddr 0, .int l7]) dX0_aim_94 (Nat.le_of_ble_eq_true rfl) rfl rfl ?_
        refine m_aload_n dX0_aim_96 rfl ?_
        refine gf_X0_13 rfl dX0_aim_97 ?_
        refine m_bipush (v := 33) dX0_aim_100 (by decide) ?_
        refine m_aald28 dX0_aim_102 (by unfold vp_in; decide) ?_
        refine m_iload dX0_aim_103 rfl ?_
        refine m_iload_n dX0_aim_105 rfl ?_
        refine m_i2l dX0_aim_106 ?_
        refine m_lload dX0_aim_107 rfl ?_
        refine m_lmul dX0_aim_109 ?_
        obtain ⟨b10, q⟩ := q
        refine m_lastore dX0_aim_110 (shp_62 _ (vp_lt (by unfold vp_in; decide))) (shp_lt (shp_62 _ (vp_lt (by unfold vp_in; decide))) (by decide)) b10 ?_
        refine m_iinc (v := (l4 + 1)) (lv' := [.ref 6, .int l1, .int l2, .int l3, .int (l4 + 1), .long x9, .retAddr 0, .int l7]) dX0_aim_111 (Nat.le_of_ble_eq_true rfl) rfl (congrArg (fun z => l4 + z) (by decide : Int32.ofInt 1 = 1)) rfl rfl ?_
        refine m_goto 3 dX0_aim_114 (by decide) ?_
        refine m_dropK (lv' := [.ref 6, .int l1, .int l2, .int l3, .int (l4 + 1), .retAddr 0, .retAddr 0, .retAddr 0]) [5, 7] rfl ?_
        exact q
  · replace q := q.2 c1
    refine m_aload_n dX0_aim_27 rfl ?_
    refine gf_X0_16 rfl dX0_aim_28 ?_
    refine m_iload dX0_aim_31 rfl ?_
    obtain ⟨b11, q⟩ := q
    refine m_iaload dX0_aim_33 rfl (by decide) b11 ?_
    refine m_iload_n dX0_aim_34 rfl ?_
    refine m_iload_n dX0_aim_35 rfl ?_
    refine cl_X0_96 rfl (by decide) dX0_aim_36 (Nat.le_of_ble_eq_true rfl) (MCi_go q (fun r13 h12 q => ?_))
    refine m_if_eq 57 dX0_aim_39 (by decide) (fun c14 => ?_) (fun c14 => ?_)
    · replace q := q.1 c14
      refine m_iinc (v := (l7 + 1)) (lv' := [.ref 6, .int l1, .int l2, .int l3, .int l4, .long l5, .retAddr 0, .int (l7 + 1)]) dX0_aim_57 (Nat.le_of_ble_eq_true rfl) rfl (congrArg (fun z => l7 + z) (by decide : Int32.ofInt 1 = 1)) rfl rfl ?_
      refine m_goto 18 dX0_aim_60 (by decide) ?_
      exact q
    · replace q := q.2 c14
      refine m_lload dX0_aim_42 rfl ?_
      refine m_aload_n dX0_aim_44 rfl ?_
      refine gf_X0_13 rfl dX0_aim_45 ?_
      refine m_iload dX0_aim_48 rfl ?_
      obtain ⟨b15, q⟩ := q
      refine m_aald28 dX0_aim_50 b15 ?_
      refine m_iload dX0_aim_51 rfl ?_
      obtain ⟨b16, q⟩ := q
      refine m_laload dX0_aim_53 (shp_62 _ (vp_lt b15)) (shp_lt (shp_62 _ (vp_lt b15)) (by decide)) b16 ?_
      refine m_ladd dX0_aim_54 ?_
      obtain ⟨x17, ex17⟩ : ∃ z, z = (l5 + (mL h12 (62 + l7.toNatClampNeg) l4.toNatClampNeg)) := ⟨_, rfl⟩
      rw [← ex17]
      replace q := q x17 ex17
      refine m_lstore (lv' := [.ref 6, .int l1, .int l2, .int l3, .int l4, .long x17, .retAddr 0, .int l7]) dX0_aim_55 (Nat.le_of_ble_eq_true rfl) rfl rfl ?_
      refine m_iinc (v := (l7 + 1)) (lv' := [.ref 6, .int l1, .int l2, .int l3, .int l4, .long x17, .retAddr 0, .int (l7 + 1)]) dX0_aim_57 (Nat.le_of_ble_eq_true rfl) rfl (congrArg (fun z => l7 + z) (by decide : Int32.ofInt 1 = 1)) rfl rfl ?_
      refine m_goto 18 dX0_aim_60 (by decide) ?_
      exact q
set_option maxRecDepth 100000 in
theorem e_X0_isMeant {g : gT} {h : mh_T} {P : Int32 → mh_T → Prop} (l0 : Int32) (l1 : Int32) (l2 : Int32) (q : (64 ≤ l0 → P 0 h) ∧ (¬ 64 ≤ l0 → (¬ (l0 &&& l1) = l2 → P 0 h) ∧ ((l0 &&& l1) = l2 → P 1 h))) : MCi g yX0_isMeant uX0_isMeant [.int l0, .int l1, .int l2] h P := by
  refine m_enter (by decide) rfl (Nat.le_of_ble_eq_true rfl) (lv := [.int l0, .int l1, .int l2]) rfl ?_
  refine m_iload_n dX0_isMeant_0 rfl ?_
  refine m_bipush (v := 64) dX0_isMeant_1 (by decide) ?_
  refine m_icmp_ge 17 dX0_isMeant_3 (by decide) (fun c1 => ?_) (fun c1 => ?_)
  · replace q := q.1 c1
    refine m_iconst (v := 0) dX0_isMeant_17 (by decide) ?_
    exact m_zret dX0_isMeant_18 rfl (by decide) q
  · replace q := q.2 c1
    refine m_iload_n dX0_isMeant_6 rfl ?_
    refine m_iload_n dX0_isMeant_7 rfl ?_
    refine m_iand dX0_isMeant_8 ?_
    refine m_iload_n dX0_isMeant_9 rfl ?_
    refine m_icmp_ne 17 dX0_isMeant_10 (by decide) (fun c2 => ?_) (fun c2 => ?_)
    · replace q := q.1 c2
      refine m_iconst (v := 0) dX0_isMeant_17 (by decide) ?_
      exact m_zret dX0_isMeant_18 rfl (by decide) q
    · replace q := q.2 c2
      refine m_iconst (v := 1) dX0_isMeant_13 (by decide) ?_
      refine m_goto 18 dX0_isMeant_14 (by decide) ?_
      exact m_zret dX0_isMeant_18 rfl (by decide) q
set_option maxRecDepth 100000 in
theorem e_X0_climb {g : gT} {h : mh_T} {P : mh_T → Prop} (l1 : Int32) (q : ME g uX0_climb 2 [.ref 6, .int l1, .int 0, .retAddr 0, .retAddr 0] [] h (qV P)) : MCv g yX0_climb uX0_climb [.ref 6, .int l1] h P := by
  refine m_enter (by decide) rfl (Nat.le_of_ble_eq_true rfl) (lv := [.ref 6, .int l1, .retAddr 0, .retAddr 0, .retAddr 0]) rfl ?_
  refine m_iconst (v := 0) dX0_climb_0 (by decide) ?_
  refine m_istore_n (lv' := [.ref 6, .int l1, .int 0, .retAddr 0, .retAddr 0]) dX0_climb_1 (Nat.le_of_ble_eq_true rfl) rfl rfl ?_
  exact q
set_option maxRecDepth 100000 in
theorem r_X0_climb_2 {g : gT} {h : mh_T} {P : mh_T → Prop} (l1 : Int32) (l2 : Int32) (q : (1000000 ≤ l2 → P h) ∧ (¬ 1000000 ≤ l2 → MCi g yX0_entering uX0_entering [.ref 6, .int l1] h (fun r3 h2 => (0 ≤ r3 → MCi g yX0_leaving uX0_leaving [.ref 6, .int r3] h2 (fun r6 h5 => (0 ≤ r6 → MCv g yX0_pivot uX0_pivot [.ref 6, .int r6, .int r3, .int l1] h5 (fun h8 => ME g uX0_climb 2 [.ref 6, .int l1, .int (l2 + 1), .retAddr 0, .retAddr 0] [] h8 (qV P))) ∧ (¬ 0 ≤ r6 → P h5))) ∧ (¬ 0 ≤ r3 → P h2)))) : ME g uX0_climb 2 [.ref 6, .int l1, .int l2, .retAddr 0, .retAddr 0] [] h (qV P) := by
  refine m_iload_n dX0_climb_2 rfl ?_
  refine m_ldc (v := 1000000) dX0_climb_3 tw_293 ?_
  refine m_icmp_ge 46 dX0_climb_5 (by decide) (fun c1 => ?_) (fun c1 => ?_)
  · replace q := q.1 c1
    exact m_vret dX0_climb_46 rfl q
  · replace q := q.2 c1
    refine m_aload_n dX0_climb_8 rfl ?_
    refine m_iload_n dX0_climb_9 rfl ?_
    refine cl_X0_101 rfl (by decide) dX0_climb_10 (Nat.le_of_ble_eq_true rfl) (MCi_go q (fun r3 h2 q => ?_))
    refine m_istore_n (lv' := [.ref 6, .int l1, .int l2, .int r3, .retAddr 0]) dX0_climb_13 (Nat.le_of_ble_eq_true rfl) rfl rfl ?_
    refine m_iload_n dX0_climb_14 rfl ?_
    refine m_if_ge 19 dX0_climb_15 (by decide) (fun c4 => ?_) (fun c4 => ?_)
    · replace q := q.1 c4
      refine m_aload_n dX0_climb_19 rfl ?_
      refine m_iload_n dX0_climb_20 rfl ?_
      refine cl_X0_104 rfl (by decide) dX0_climb_21 (Nat.le_of_ble_eq_true rfl) (MCi_go q (fun r6 h5 q => ?_))
      refine m_istore (lv' := [.ref 6, .int l1, .int l2, .int r3, .int r6]) dX0_climb_24 (Nat.le_of_ble_eq_true rfl) rfl rfl ?_
      refine m_iload dX0_climb_26 rfl ?_
      refine m_if_ge 32 dX0_climb_28 (by decide) (fun c7 => ?_) (fun c7 => ?_)
      · replace q := q.1 c7
        refine m_aload_n dX0_climb_32 rfl ?_
        refine m_iload dX0_climb_33 rfl ?_
        refine m_iload_n dX0_climb_35 rfl ?_
        refine m_iload_n dX0_climb_36 rfl ?_
        refine cl_X0_107 rfl (by decide) dX0_climb_37 (Nat.le_of_ble_eq_true rfl) (MCv_go q (fun h8 q => ?_))
        refine m_iinc (v := (l2 + 1)) (lv' := [.ref 6, .int l1, .int (l2 + 1), .int r3, .int r6]) dX0_climb_40 (Nat.le_of_ble_eq_true rfl) rfl (congrArg (fun z => l2 + z) (by decide : Int32.ofInt 1 = 1)) rfl rfl ?_
        refine m_goto 2 dX0_climb_43 (by decide) ?_
        refine m_dropK (lv' := [.ref 6, .int l1, .int (l2 + 1), .retAddr 0, .retAddr 0]) [3, 4] rfl ?_
        exact q
      · replace q := q.2 c7
        exact m_vret dX0_climb_31 rfl q
    · replace q := q.2 c4
      exact m_vret dX0_climb_18 rfl q
set_option maxRecDepth 100000 in
theorem e_X0_entering {g : gT} {h : mh_T} {P : Int32 → mh_T → Prop} (l1 : Int32) (q : ME g uX0_entering 4 [.ref 6, .int l1, .int (-1), .int 0, .retAddr 0] [] h (qI P)) : MCi g yX0_entering uX0_entering [.ref 6, .int l1] h P := by
  refine m_enter (by decide) rfl (Nat.le_of_ble_eq_true rfl) (lv := [.ref 6, .int l1, .retAddr 0, .retAddr 0, .retAddr 0]) rfl ?_
  refine m_iconst (v := (-1)) dX0_entering_0 (by decide) ?_
  refine m_istore_n (lv' := [.ref 6, .int l1, .int (-1), .retAddr 0, .retAddr 0]) dX0_entering_1 (Nat.le_of_ble_eq_true rfl) rfl rfl ?_
  refine m_iconst (v := 0) dX0_entering_2 (by decide) ?_
  refine m_istore_n (lv' := [.ref 6, .int l1, .int (-1), .int 0, .retAddr 0]) dX0_entering_3 (Nat.le_of_ble_eq_true rfl) rfl rfl ?_
  exact q
set_option maxRecDepth 100000 in
theorem r_X0_entering_4 {g : gT} {h : mh_T} {P : Int32 → mh_T → Prop} (l1 : Int32) (l2 : Int32) (l3 : Int32) (q : ((mI h 6 6) ≤ l3 → P l2 h) ∧ (¬ (mI h 6 6) ≤ l3 → (l1 = 32 → (vp_in l1 34) ∧ ((vp_in l3 65) ∧ ((0 ≤ (lg_cmp (mL h (62 + l1.toNatClampNeg) l3.toNatClampNeg) 0) → ME g uX0_entering 4 [.ref 6, .int l1, .int l2, .int (l3 + 1), .retAddr 0] [] h (qI P)) ∧ (¬ 0 ≤ (lg_cmp (mL h (62 + l1.toNatClampNeg) l3.toNatClampNeg) 0) → (l2 < 0 → ME g uX0_entering 4 [.ref 6, .int l1, .int l3, .int (l3 + 1), .retAddr 0] [] h (qI P)) ∧ (¬ l2 < 0 → (vp_in l3 64) ∧ ((vp_in l2 64) ∧ (((mI h 30 l2.toNatClampNeg) ≤ (mI h 30 l3.toNatClampNeg) → ME g uX0_entering 4 [.ref 6, .int l1, .int l2, .int (l3 + 1), .retAddr 0] [] h (qI P)) ∧ (¬ (mI h 30 l2.toNatClampNeg) ≤ (mI h 30 l3.toNatClampNeg) → ME g uX0_entering 4 [.ref 6, .int l1, .int l3, .int (l3 + 1), .retAddr 0] [] h (qI P))))))))) ∧ (¬ l1 = 32 → (vp_in l3 65) ∧ ((¬ (lg_cmp (mL h (62 + (Int32.toNatClampNeg 32)) l3.toNatClampNeg) 0) = 0 → ME g uX0_entering 4 [.ref 6, .int l1, .int l2, .int (l3 + 1), .retAddr 0] [] h (qI P)) ∧ ((lg_cmp (mL h (62 + (Int32.toNatClampNeg 32)) l3.toNatClampNeg) 0) = 0 → (vp_in l1 34) ∧ ((vp_in l3 65) ∧ ((0 ≤ (lg_cmp (mL h (62 + l1.toNatClampNeg) l3.toNatClampNeg) 0) → ME g uX0_entering 4 [.ref 6, .int l1, .int l2, .int (l3 + 1), .retAddr 0] [] h (qI P)) ∧ (¬ 0 ≤ (lg_cmp (mL h (62 + l1.toNatClampNeg) l3.toNatClampNeg) 0) → (l2 < 0 → ME g uX0_entering 4 [.ref 6, .int l1, .int l3, .int (l3 + 1), .retAddr 0] [] h (qI P)) ∧ (¬ l2 < 0 → (vp_in l3 64) ∧ ((vp_in l2 64) ∧ (((mI h 30 l2.toNatClampNeg) ≤ (mI h 30 l3.toNatClampNeg) → ME g uX0_entering 4 [.ref 6, .int l1, .int l2, .int (l3 + 1), .retAddr 0] [] h (qI P)) ∧ (¬ (mI h 30 l2.toNatClampNeg) ≤ (mI h 30 l3.toNatClampNeg) → ME g uX0_entering 4 [.ref 6, .int l1, .int l3, .int (l3 + 1), .retAddr 0] [] h (qI P))))))))))))) : ME g uX0_entering 4 [.ref 6, .int l1, .int l2, .int l3, .retAddr 0] [] h (qI P) := by
  refine m_iload_n dX0_entering_4 rfl ?_
  refine m_aload_n dX0_entering_5 rfl ?_
  refine gf_X0_56 rfl dX0_entering_6 ?_
  refine m_icmp_ge 84 dX0_entering_9 (by decide) (fun c1 => ?_) (fun c1 => ?_)
  · replace q := q.1 c1
    refine m_iload_n dX0_entering_84 rfl ?_
    exact m_iret dX0_entering_85 rfl q
  · replace q := q.2 c1
    refine m_iload_n dX0_entering_12 rfl ?_
    refine m_bipush (v := 32) dX0_entering_13 (by decide) ?_
    refine m_icmp_eq 32 dX0_entering_15 (by decide) (fun c2 => ?_) (fun c2 => ?_)
    · replace q := q.1 c2
      refine m_iconst (v := 1) dX0_entering_32 (by decide) ?_
      refine m_goto 37 dX0_entering_33 (by decide) ?_
      refine m_istore (lv' := [.ref 6, .int l1, .int l2, .int l3, .int 1]) dX0_entering_37 (Nat.le_of_ble_eq_true rfl) rfl rfl ?_
      refine m_iload dX0_entering_39 rfl ?_
      refine m_if_eq 78 dX0_entering_41 (by decide) (fun c3 => absurd c3 (by decide)) (fun c3 => ?_)
      refine m_aload_n dX0_entering_44 rfl ?_
      refine gf_X0_13 rfl dX0_entering_45 ?_
      refine m_iload_n dX0_entering_48 rfl ?_
      obtain ⟨b4, q⟩ := q
      refine m_aald28 dX0_entering_49 b4 ?_
      refine m_iload_n dX0_entering_50 rfl ?_
      obtain ⟨b5, q⟩ := q
      refine m_laload dX0_entering_51 (shp_62 _ (vp_lt b4)) (shp_lt (shp_62 _ (vp_lt b4)) (by decide)) b5 ?_
      refine m_lconst (v := 0) dX0_entering_52 (by decide) ?_
      refine m_lcmp dX0_entering_53 ?_
      refine m_if_ge 78 dX0_entering_54 (by decide) (fun c6 => ?_) (fun c6 => ?_)
      · replace q := q.1 c6
        refine m_iinc (v := (l3 + 1)) (lv' := [.ref 6, .int l1, .int l2, .int (l3 + 1), .int 1]) dX0_entering_78 (Nat.le_of_ble_eq_true rfl) rfl (congrArg (fun z => l3 + z) (by decide : Int32.ofInt 1 = 1)) rfl rfl ?_
        refine m_goto 4 dX0_entering_81 (by decide) ?_
        refine m_dropK (lv' := [.ref 6, .int l1, .int l2, .int (l3 + 1), .retAddr 0]) [4] rfl ?_
        exact q
      · replace q := q.2 c6
        refine m_iload_n dX0_entering_57 rfl ?_
        refine m_if_lt 76 dX0_entering_58 (by decide) (fun c7 => ?_) (fun c7 => ?_)
        · replace q := q.1 c7
          refine m_iload_n dX0_entering_76 rfl ?_
          refine m_istore_n (lv' := [.ref 6, .int l1, .int l3, .int l3, .int 1]) dX0_entering_77 (Nat.le_of_ble_eq_true rfl) rfl rfl ?_
          refine m_iinc (v := (l3 + 1)) (lv' := [.ref 6, .int l1, .int l3, .int (l3 + 1), .int 1]) dX0_entering_78 (Nat.le_of_ble_eq_true rfl) rfl (congrArg (fun z => l3 + z) (by decide : Int32.ofInt 1 = 1)) rfl rfl ?_
          refine m_goto 4 dX0_entering_81 (by decide) ?_
          refine m_dropK (lv' := [.ref 6, .int l1, .int l3, .int (l3 + 1), .retAddr 0]) [4] rfl ?_
          exact q
        · replace q := q.2 c7
          refine m_aload_n dX0_entering_61 rfl ?_
          refine gf_X0_20 rfl dX0_entering_62 ?_
          refine m_iload_n dX0_entering_65 rfl ?_
          obtain ⟨b8, q⟩ := q
          refine m_iaload dX0_entering_66 rfl (by decide) b8 ?_
          refine m_aload_n dX0_entering_67 rfl ?_
          refine gf_X0_20 rfl dX0_entering_68 ?_
          refine m_iload_n dX0_entering_71 rfl ?_
          obtain ⟨b9, q⟩ := q
          refine m_iaload dX0_entering_72 rfl (by decide) b9 ?_
          refine m_icmp_ge 78 dX0_entering_73 (by decide) (fun c10 => ?_) (fun c10 => ?_)
          · replace q := q.1 c10
            refine m_iinc (v := (l3 + 1)) (lv' := [.ref 6, .int l1, .int l2, .int (l3 + 1), .int 1]) dX0_entering_78 (Nat.le_of_ble_eq_true rfl) rfl (congrArg (fun z => l3 + z) (by decide : Int32.ofInt 1 = 1)) rfl rfl ?_
            refine m_goto 4 dX0_entering_81 (by decide) ?_
            refine m_dropK (lv' := [.ref 6, .int l1, .int l2, .int (l3 + 1), .retAddr 0]) [4] rfl ?_
            exact q
          · replace q := q.2 c10
            refine m_iload_n dX0_entering_76 rfl ?_
            refine m_istore_n (lv' := [.ref 6, .int l1, .int l3, .int l3, .int 1]) dX0_entering_77 (Nat.le_of_ble_eq_true rfl) rfl rfl ?_
            refine m_iinc (v := (l3 + 1)) (lv' := [.ref 6, .int l1, .int l3, .int (l3 + 1), .int 1]) dX0_entering_78 (Nat.le_of_ble_eq_true rfl) rfl (congrArg (fun z => l3 + z) (by decide : Int32.ofInt 1 = 1)) rfl rfl ?_
            refine m_goto 4 dX0_entering_81 (by decide) ?_
            refine m_dropK (lv' := [.ref 6, .int l1, .int l3, .int (l3 + 1), .retAddr 0]) [4] rfl ?_
            exact q
    · replace q := q.2 c2
      refine m_aload_n dX0_entering_18 rfl ?_
      refine gf_X0_13 rfl dX0_entering_19 ?_
      refine m_bipush (v := 32) dX0_entering_22 (by decide) ?_
      refine m_aald28 dX0_entering_24 (by unfold vp_in; decide) ?_
      refine m_iload_n dX0_entering_25 rfl ?_
      obtain ⟨b11, q⟩ := q
      refine m_laload dX0_entering_26 (shp_62 _ (vp_lt (by unfold vp_in; decide))) (shp_lt (shp_62 _ (vp_lt (by unfold vp_in; decide))) (by decide)) b11 ?_
      refine m_lconst (v := 0) dX0_entering_27 (by decide) ?_
      refine m_lcmp dX0_entering_28 ?_
      refine m_if_ne 36 dX0_entering_29 (by decide) (fun c12 => ?_) (fun c12 => ?_)
      · replace q := q.1 c12
        refine m_iconst (v := 0) dX0_entering_36 (by decide) ?_
        refine m_istore (lv' := [.ref 6, .int l1, .int l2, .int l3, .int 0]) dX0_entering_37 (Nat.le_of_ble_eq_true rfl) rfl rfl ?_
        refine m_iload dX0_entering_39 rfl ?_
        refine m_if_eq 78 dX0_entering_41 (by decide) (fun c13 => ?_) (fun c13 => absurd c13 (by decide))
        refine m_iinc (v := (l3 + 1)) (lv' := [.ref 6, .int l1, .int l2, .int (l3 + 1), .int 0]) dX0_entering_78 (Nat.le_of_ble_eq_true rfl) rfl (congrArg (fun z => l3 + z) (by decide : Int32.ofInt 1 = 1)) rfl rfl ?_
        refine m_goto 4 dX0_entering_81 (by decide) ?_
        refine m_dropK (lv' := [.ref 6, .int l1, .int l2, .int (l3 + 1), .retAddr 0]) [4] rfl ?_
        exact q
      · replace q := q.2 c12
        refine m_iconst (v := 1) dX0_entering_32 (by decide) ?_
        refine m_goto 37 dX0_entering_33 (by decide) ?_
        refine m_istore (lv' := [.ref 6, .int l1, .int l2, .int l3, .int 1]) dX0_entering_37 (Nat.le_of_ble_eq_true rfl) rfl rfl ?_
        refine m_iload dX0_entering_39 rfl ?_
        refine m_if_eq 78 dX0_entering_41 (by decide) (fun c14 => absurd c14 (by decide)) (fun c14 => ?_)
        refine m_aload_n dX0_entering_44 rfl ?_
        refine gf_X0_13 rfl dX0_entering_45 ?_
        refine m_iload_n dX0_entering_48 rfl ?_
        obtain ⟨b15, q⟩ := q
        refine m_aald28 dX0_entering_49 b15 ?_
        refine m_iload_n dX0_entering_50 rfl ?_
        obtain ⟨b16, q⟩ := q
        refine m_laload dX0_entering_51 (shp_62 _ (vp_lt b15)) (shp_lt (shp_62 _ (vp_lt b15)) (by decide)) b16 ?_
        refine m_lconst (v := 0) dX0_entering_52 (by decide) ?_
        refine m_lcmp dX0_entering_53 ?_
        refine m_if_ge 78 dX0_entering_54 (by decide) (fun c17 => ?_) (fun c17 => ?_)
        · replace q := q.1 c17
          refine m_iinc (v := (l3 + 1)) (lv' := [.ref 6, .int l1, .int l2, .int (l3 + 1), .int 1]) dX0_entering_78 (Nat.le_of_ble_eq_true rfl) rfl (congrArg (fun z => l3 + z) (by decide : Int32.ofInt 1 = 1)) rfl rfl ?_
          refine m_goto 4 dX0_entering_81 (by decide) ?_
          refine m_dropK (lv' := [.ref 6, .int l1, .int l2, .int (l3 + 1), .retAddr 0]) [4] rfl ?_
          exact q
        · replace q := q.2 c17
          refine m_iload_n dX0_entering_57 rfl ?_
          refine m_if_lt 76 dX0_entering_58 (by decide) (fun c18 => ?_) (fun c18 => ?_)
          · replace q := q.1 c18
            refine m_iload_n dX0_entering_76 rfl ?_
            refine m_istore_n (lv' := [.ref 6, .int l1, .int l3, .int l3, .int 1]) dX0_entering_77 (Nat.le_of_ble_eq_true rfl) rfl rfl ?_
            refine m_iinc (v := (l3 + 1)) (lv' := [.ref 6, .int l1, .int l3, .int (l3 + 1), .int 1]) dX0_entering_78 (Nat.le_of_ble_eq_true rfl) rfl (congrArg (fun z => l3 + z) (by decide : Int32.ofInt 1 = 1)) rfl rfl ?_
            refine m_goto 4 dX0_entering_81 (by decide) ?_
            refine m_dropK (lv' := [.ref 6, .int l1, .int l3, .int (l3 + 1), .retAddr 0]) [4] rfl ?_
            exact q
          · replace q := q.2 c18
            refine m_aload_n dX0_entering_61 rfl ?_
            refine gf_X0_20 rfl dX0_entering_62 ?_
            refine m_iload_n dX0_entering_65 rfl ?_
            obtain ⟨b19, q⟩ := q
            refine m_iaload dX0_entering_66 rfl (by decide) b19 ?_
            refine m_aload_n dX0_entering_67 rfl ?_
            refine gf_X0_20 rfl dX0_entering_68 ?_
            refine m_iload_n dX0_entering_71 rfl ?_
            obtain ⟨b20, q⟩ := q
            refine m_iaload dX0_entering_72 rfl (by decide) b20 ?_
            refine m_icmp_ge 78 dX0_entering_73 (by decide) (fun c21 => ?_) (fun c21 => ?_)
            · replace q := q.1 c21
              refine m_iinc (v := (l3 + 1)) (lv' := [.ref 6, .int l1, .int l2, .int (l3 + 1), .int 1]) dX0_entering_78 (Nat.le_of_ble_eq_true rfl) rfl (congrArg (fun z => l3 + z) (by decide : Int32.ofInt 1 = 1)) rfl rfl ?_
              refine m_goto 4 dX0_entering_81 (by decide) ?_
              refine m_dropK (lv' := [.ref 6, .int l1, .int l2, .int (l3 + 1), .retAddr 0]) [4] rfl ?_
              exact q
            · replace q := q.2 c21
              refine m_iload_n dX0_entering_76 rfl ?_
              refine m_istore_n (lv' := [.ref 6, .int l1, .int l3, .int l3, .int 1]) dX0_entering_77 (Nat.le_of_ble_eq_true rfl) rfl rfl ?_
              refine m_iinc (v := (l3 + 1)) (lv' := [.ref 6, .int l1, .int l3, .int (l3 + 1), .int 1]) dX0_entering_78 (Nat.le_of_ble_eq_true rfl) rfl (congrArg (fun z => l3 + z) (by decide : Int32.ofInt 1 = 1)) rfl rfl ?_
              refine m_goto 4 dX0_entering_81 (by decide) ?_
              refine m_dropK (lv' := [.ref 6, .int l1, .int l3, .int (l3 + 1), .retAddr 0]) [4] rfl ?_
              exact q
set_option maxRecDepth 100000 in
theorem e_X0_leaving {g : gT} {h : mh_T} {P : Int32 → mh_T → Prop} (l1 : Int32) (q : ME g uX0_leaving 4 [.ref 6, .int l1, .int (-1), .int 0] [] h (qI P)) : MCi g yX0_leaving uX0_leaving [.ref 6, .int l1] h P := by
  refine m_enter (by decide) rfl (Nat.le_of_ble_eq_true rfl) (lv := [.ref 6, .int l1, .retAddr 0, .retAddr 0]) rfl ?_
  refine m_iconst (v := (-1)) dX0_leaving_0 (by decide) ?_
  refine m_istore_n (lv' := [.ref 6, .int l1, .int (-1), .retAddr 0]) dX0_leaving_1 (Nat.le_of_ble_eq_true rfl) rfl rfl ?_
  refine m_iconst (v := 0) dX0_leaving_2 (by decide) ?_
  refine m_istore_n (lv' := [.ref 6, .int l1, .int (-1), .int 0]) dX0_leaving_3 (Nat.le_of_ble_eq_true rfl) rfl rfl ?_
  exact q
set_option maxRecDepth 100000 in
theorem r_X0_leaving_4 {g : gT} {h : mh_T} {P : Int32 → mh_T → Prop} (l1 : Int32) (l2 : Int32) (l3 : Int32) (q : ((mI h 6 5) ≤ l3 → P l2 h) ∧ (¬ (mI h 6 5) ≤ l3 → (vp_in l3 34) ∧ ((vp_in l1 65) ∧ (((lg_cmp (mL h (62 + l3.toNatClampNeg) l1.toNatClampNeg) 0) ≤ 0 → ME g uX0_leaving 4 [.ref 6, .int l1, .int l2, .int (l3 + 1)] [] h (qI P)) ∧ (¬ (lg_cmp (mL h (62 + l3.toNatClampNeg) l1.toNatClampNeg) 0) ≤ 0 → (l2 < 0 → ME g uX0_leaving 4 [.ref 6, .int l1, .int l3, .int (l3 + 1)] [] h (qI P)) ∧ (¬ l2 < 0 → MCi g yX0_comesFirst uX0_comesFirst [.ref 6, .int l3, .int l2, .int l1] h (fun r7 h6 => (r7 = 0 → ME g uX0_leaving 4 [.ref 6, .int l1, .int l2, .int (l3 + 1)] [] h6 (qI P)) ∧ (¬ r7 = 0 → ME g uX0_leaving 4 [.ref 6, .int l1, .int l3, .int (l3 + 1)] [] h6 (qI P))))))))) : ME g uX0_leaving 4 [.ref 6, .int l1, .int l2, .int l3] [] h (qI P) := by
  refine m_iload_n dX0_leaving_4 rfl ?_
  refine m_aload_n dX0_leaving_5 rfl ?_
  refine gf_X0_86 rfl dX0_leaving_6 ?_
  refine m_icmp_ge 47 dX0_leaving_9 (by decide) (fun c1 => ?_) (fun c1 => ?_)
  · replace q := q.1 c1
    refine m_iload_n dX0_leaving_47 rfl ?_
    exact m_iret dX0_leaving_48 rfl q
  · replace q := q.2 c1
    refine m_aload_n dX0_leaving_12 rfl ?_
    refine gf_X0_13 rfl dX0_leaving_13 ?_
    refine m_iload_n dX0_leaving_16 rfl ?_
    obtain ⟨b2, q⟩ := q
    refine m_aald28 dX0_leaving_17 b2 ?_
    refine m_iload_n dX0_leaving_18 rfl ?_
    obtain ⟨b3, q⟩ := q
    refine m_laload dX0_leaving_19 (shp_62 _ (vp_lt b2)) (shp_lt (shp_62 _ (vp_lt b2)) (by decide)) b3 ?_
    refine m_lconst (v := 0) dX0_leaving_20 (by decide) ?_
    refine m_lcmp dX0_leaving_21 ?_
    refine m_if_le 41 dX0_leaving_22 (by decide) (fun c4 => ?_) (fun c4 => ?_)
    · replace q := q.1 c4
      refine m_iinc (v := (l3 + 1)) (lv' := [.ref 6, .int l1, .int l2, .int (l3 + 1)]) dX0_leaving_41 (Nat.le_of_ble_eq_true rfl) rfl (congrArg (fun z => l3 + z) (by decide : Int32.ofInt 1 = 1)) rfl rfl ?_
      refine m_goto 4 dX0_leaving_44 (by decide) ?_
      exact q
    · replace q := q.2 c4
      refine m_iload_n dX0_leaving_25 rfl ?_
      refine m_if_lt 39 dX0_leaving_26 (by decide) (fun c5 => ?_) (fun c5 => ?_)
      · replace q := q.1 c5
        refine m_iload_n dX0_leaving_39 rfl ?_
        refine m_istore_n (lv' := [.ref 6, .int l1, .int l3, .int l3]) dX0_leaving_40 (Nat.le_of_ble_eq_true rfl) rfl rfl ?_
        refine m_iinc (v := (l3 + 1)) (lv' := [.ref 6, .int l1, .int l3, .int (l3 + 1)]) dX0_leaving_41 (Nat.le_of_ble_eq_true rfl) rfl (congrArg (fun z => l3 + z) (by decide : Int32.ofInt 1 = 1)) rfl rfl ?_
        refine m_goto 4 dX0_leaving_44 (by decide) ?_
        exact q
      · replace q := q.2 c5
        refine m_aload_n dX0_leaving_29 rfl ?_
        refine m_iload_n dX0_leaving_30 rfl ?_
        refine m_iload_n dX0_leaving_31 rfl ?_
        refine m_iload_n dX0_leaving_32 rfl ?_
        refine cl_X0_110 rfl (by decide) dX0_leaving_33 (Nat.le_of_ble_eq_true rfl) (MCi_go q (fun r7 h6 q => ?_))
        refine m_if_eq 41 dX0_leaving_36 (by decide) (fun c8 => ?_) (fun c8 => ?_)
        · replace q := q.1 c8
          refine m_iinc (v := (l3 + 1)) (lv' := [.ref 6, .int l1, .int l2, .int (l3 + 1)]) dX0_leaving_41 (Nat.le_of_ble_eq_true rfl) rfl (congrArg (fun z => l3 + z) (by decide : Int32.ofInt 1 = 1)) rfl rfl ?_
          refine m_goto 4 dX0_leaving_44 (by decide) ?_
          exact q
        · replace q := q.2 c8
          refine m_iload_n dX0_leaving_39 rfl ?_
          refine m_istore_n (lv' := [.ref 6, .int l1, .int l3, .int l3]) dX0_leaving_40 (Nat.le_of_ble_eq_true rfl) rfl rfl ?_
          refine m_iinc (v := (l3 + 1)) (lv' := [.ref 6, .int l1, .int l3, .int (l3 + 1)]) dX0_leaving_41 (Nat.le_of_ble_eq_true rfl) rfl (congrArg (fun z => l3 + z) (by decide : Int32.ofInt 1 = 1)) rfl rfl ?_
          refine m_goto 4 dX0_leaving_44 (by decide) ?_
          exact q
set_option maxRecDepth 100000 in
theorem e_X0_comesFirst {g : gT} {h : mh_T} {P : Int32 → mh_T → Prop} (l1 : Int32) (l2 : Int32) (l3 : Int32) (q : (vp_in l1 34) ∧ ((vp_in (mI h 6 6) 65) ∧ ((vp_in l2 34) ∧ ((vp_in l3 65) ∧ (∀ x5 : Int64, x5 = ((mL h (62 + l1.toNatClampNeg) (mI h 6 6).toNatClampNeg) * (mL h (62 + l2.toNatClampNeg) l3.toNatClampNeg)) → (vp_in l2 34) ∧ ((vp_in (mI h 6 6) 65) ∧ ((vp_in l1 34) ∧ ((vp_in l3 65) ∧ (∀ x10 : Int64, x10 = ((mL h (62 + l2.toNatClampNeg) (mI h 6 6).toNatClampNeg) * (mL h (62 + l1.toNatClampNeg) l3.toNatClampNeg)) → ((lg_cmp x5 x10) < 0 → P 1 h) ∧ (¬ (lg_cmp x5 x10) < 0 → (¬ (lg_cmp x5 x10) = 0 → P 0 h) ∧ ((lg_cmp x5 x10) = 0 → (vp_in l1 32) ∧ ((vp_in l2 32) ∧ (((mI h 29 l2.toNatClampNeg) ≤ (mI h 29 l1.toNatClampNeg) → P 0 h) ∧ (¬ (mI h 29 l2.toNatClampNeg) ≤ (mI h 29 l1.toNatClampNeg) → P 1 h)))))))))))))) : MCi g yX0_comesFirst uX0_comesFirst [.ref 6, .int l1, .int l2, .int l3] h P := by
  refine m_enter (by decide) rfl (Nat.le_of_ble_eq_true rfl) (lv := [.ref 6, .int l1, .int l2, .int l3, .retAddr 0, .retAddr 0, .retAddr 0, .retAddr 0]) rfl ?_
  refine m_aload_n dX0_comesFirst_0 rfl ?_
  refine gf_X0_13 rfl dX0_comesFirst_1 ?_
  refine m_iload_n dX0_comesFirst_4 rfl ?_
  obtain ⟨b1, q⟩ := q
  refine m_aald28 dX0_comesFirst_5 b1 ?_
  refine m_aload_n dX0_comesFirst_6 rfl ?_
  refine gf_X0_56 rfl dX0_comesFirst_7 ?_
  obtain ⟨b2, q⟩ := q
  refine m_laload dX0_comesFirst_10 (shp_62 _ (vp_lt b1)) (shp_lt (shp_62 _ (vp_lt b1)) (by decide)) b2 ?_
  refine m_aload_n dX0_comesFirst_11 rfl ?_
  refine gf_X0_13 rfl dX0_comesFirst_12 ?_
  refine m_iload_n dX0_comesFirst_15 rfl ?_
  obtain ⟨b3, q⟩ := q
  refine m_aald28 dX0_comesFirst_16 b3 ?_
  refine m_iload_n dX0_comesFirst_17 rfl ?_
  obtain ⟨b4, q⟩ := q
  refine m_laload dX0_comesFirst_18 (shp_62 _ (vp_lt b3)) (shp_lt (shp_62 _ (vp_lt b3)) (by decide)) b4 ?_
  refine m_lmul dX0_comesFirst_19 ?_
  obtain ⟨x5, ex5⟩ : ∃ z, z = ((mL h (62 + l1.toNatClampNeg) (mI h 6 6).toNatClampNeg) * (mL h (62 + l2.toNatClampNeg) l3.toNatClampNeg)) := ⟨_, rfl⟩
  rw [← ex5]
  replace q := q x5 ex5
  refine m_lstore (lv' := [.ref 6, .int l1, .int l2, .int l3, .long x5, .retAddr 0, .retAddr 0, .retAddr 0]) dX0_comesFirst_20 (Nat.le_of_ble_eq_true rfl) rfl rfl ?_
  refine m_aload_n dX0_comesFirst_22 rfl ?_
  refine gf_X0_13 rfl dX0_comesFirst_23 ?_
  refine m_iload_n dX0_comesFirst_26 rfl ?_
  obtain ⟨b6, q⟩ := q
  refine m_aald28 dX0_comesFirst_27 b6 ?_
  refine m_aload_n dX0_comesFirst_28 rfl ?_
  refine gf_X0_56 rfl dX0_comesFirst_29 ?_
  obtain ⟨b7, q⟩ := q
  refine m_laload dX0_comesFirst_32 (shp_62 _ (vp_lt b6)) (shp_lt (shp_62 _ (vp_lt b6)) (by decide)) b7 ?_
  refine m_aload_n dX0_comesFirst_33 rfl ?_
  refine gf_X0_13 rfl dX0_comesFirst_34 ?_
  refine m_iload_n dX0_comesFirst_37 rfl ?_
  obtain ⟨b8, q⟩ := q
  refine m_aald28 dX0_comesFirst_38 b8 ?_
  refine m_iload_n dX0_comesFirst_39 rfl ?_
  obtain ⟨b9, q⟩ := q
  refine m_laload dX0_comesFirst_40 (shp_62 _ (vp_lt b8)) (shp_lt (shp_62 _ (vp_lt b8)) (by decide)) b9 ?_
  refine m_lmul dX0_comesFirst_41 ?_
  obtain ⟨x10, ex10⟩ : ∃ z, z = ((mL h (62 + l2.toNatClampNeg) (mI h 6 6).toNatClampNeg) * (mL h (62 + l1.toNatClampNeg) l3.toNatClampNeg)) := ⟨_, rfl⟩
  rw [← ex10]
  replace q := q x10 ex10
  refine m_lstore (lv' := [.ref 6, .int l1, .int l2, .int l3, .long x5, .retAddr 0, .long x10, .retAddr 0]) dX0_comesFirst_42 (Nat.le_of_ble_eq_true rfl) rfl rfl ?_
  refine m_lload dX0_comesFirst_44 rfl ?_
  refine m_lload dX0_comesFirst_46 rfl ?_
  refine m_lcmp dX0_comesFirst_48 ?_
  refine m_if_lt 75 dX0_comesFirst_49 (by decide) (fun c11 => ?_) (fun c11 => ?_)
  · replace q := q.1 c11
    refine m_iconst (v := 1) dX0_comesFirst_75 (by decide) ?_
    refine m_goto 80 dX0_comesFirst_76 (by decide) ?_
    exact m_zret dX0_comesFirst_80 rfl (by decide) q
  · replace q := q.2 c11
    refine m_lload dX0_comesFirst_52 rfl ?_
    refine m_lload dX0_comesFirst_54 rfl ?_
    refine m_lcmp dX0_comesFirst_56 ?_
    refine m_if_ne 79 dX0_comesFirst_57 (by decide) (fun c12 => ?_) (fun c12 => ?_)
    · replace q := q.1 c12
      refine m_iconst (v := 0) dX0_comesFirst_79 (by decide) ?_
      exact m_zret dX0_comesFirst_80 rfl (by decide) q
    · replace q := q.2 c12
      refine m_aload_n dX0_comesFirst_60 rfl ?_
      refine gf_X0_16 rfl dX0_comesFirst_61 ?_
      refine m_iload_n dX0_comesFirst_64 rfl ?_
      obtain ⟨b13, q⟩ := q
      refine m_iaload dX0_comesFirst_65 rfl (by decide) b13 ?_
      refine m_aload_n dX0_comesFirst_66 rfl ?_
      refine gf_X0_16 rfl dX0_comesFirst_67 ?_
      refine m_iload_n dX0_comesFirst_70 rfl ?_
      obtain ⟨b14, q⟩ := q
      refine m_iaload dX0_comesFirst_71 rfl (by decide) b14 ?_
      refine m_icmp_ge 79 dX0_comesFirst_72 (by decide) (fun c15 => ?_) (fun c15 => ?_)
      · replace q := q.1 c15
        refine m_iconst (v := 0) dX0_comesFirst_79 (by decide) ?_
        exact m_zret dX0_comesFirst_80 rfl (by decide) q
      · replace q := q.2 c15
        refine m_iconst (v := 1) dX0_comesFirst_75 (by decide) ?_
        refine m_goto 80 dX0_comesFirst_76 (by decide) ?_
        exact m_zret dX0_comesFirst_80 rfl (by decide) q
set_option maxRecDepth 100000 in
theorem e_X0_pivot {g : gT} {h : mh_T} {P : mh_T → Prop} (l1 : Int32) (l2 : Int32) (l3 : Int32) (q : (vp_in l1 34) ∧ ((vp_in l2 65) ∧ (∀ x3 : Int64, x3 = (mL h (62 + l1.toNatClampNeg) l2.toNatClampNeg) → ((lg_cmp x3 0) = 0 → P h) ∧ (¬ (lg_cmp x3 0) = 0 → (¬ (lg_cmp (mL h 6 7) 0) = 0 → ME g uX0_pivot 30 [.ref 6, .int l1, .int l2, .int l3, .long x3, .retAddr 0, .int 0] [] h (qV P)) ∧ ((lg_cmp (mL h 6 7) 0) = 0 → P h))))) : MCv g yX0_pivot uX0_pivot [.ref 6, .int l1, .int l2, .int l3] h P := by
  refine m_enter (by decide) rfl (Nat.le_of_ble_eq_true rfl) (lv := [.ref 6, .int l1, .int l2, .int l3, .retAddr 0, .retAddr 0, .retAddr 0]) rfl ?_
  refine m_aload_n dX0_pivot_0 rfl ?_
  refine gf_X0_13 rfl dX0_pivot_1 ?_
  refine m_iload_n dX0_pivot_4 rfl ?_
  obtain ⟨b1, q⟩ := q
  refine m_aald28 dX0_pivot_5 b1 ?_
  refine m_iload_n dX0_pivot_6 rfl ?_
  obtain ⟨b2, q⟩ := q
  refine m_laload dX0_pivot_7 (shp_62 _ (vp_lt b1)) (shp_lt (shp_62 _ (vp_lt b1)) (by decide)) b2 ?_
  obtain ⟨x3, ex3⟩ : ∃ z, z = (mL h (62 + l1.toNatClampNeg) l2.toNatClampNeg) := ⟨_, rfl⟩
  rw [← ex3]
  replace q := q x3 ex3
  refine m_lstore (lv' := [.ref 6, .int l1, .int l2, .int l3, .long x3, .retAddr 0, .retAddr 0]) dX0_pivot_8 (Nat.le_of_ble_eq_true rfl) rfl rfl ?_
  refine m_lload dX0_pivot_10 rfl ?_
  refine m_lconst (v := 0) dX0_pivot_12 (by decide) ?_
  refine m_lcmp dX0_pivot_13 ?_
  refine m_if_eq 26 dX0_pivot_14 (by decide) (fun c4 => ?_) (fun c4 => ?_)
  · replace q := q.1 c4
    exact m_vret dX0_pivot_26 rfl q
  · replace q := q.2 c4
    refine m_aload_n dX0_pivot_17 rfl ?_
    refine gf_X0_23 rfl dX0_pivot_18 ?_
    refine m_lconst (v := 0) dX0_pivot_21 (by decide) ?_
    refine m_lcmp dX0_pivot_22 ?_
    refine m_if_ne 27 dX0_pivot_23 (by decide) (fun c5 => ?_) (fun c5 => ?_)
    · replace q := q.1 c5
      refine m_iconst (v := 0) dX0_pivot_27 (by decide) ?_
      refine m_istore (lv' := [.ref 6, .int l1, .int l2, .int l3, .long x3, .retAddr 0, .int 0]) dX0_pivot_28 (Nat.le_of_ble_eq_true rfl) rfl rfl ?_
      exact q
    · replace q := q.2 c5
      exact m_vret dX0_pivot_26 rfl q
set_option maxRecDepth 100000 in
theorem r_X0_pivot_30 {g : gT} {h : mh_T} {P : mh_T → Prop} (l1 : Int32) (l2 : Int32) (l3 : Int32) (l4 : Int64) (l6 : Int32) (q : ((mI h 6 5) ≤ l6 → MCv g yX0_clearFrom uX0_clearFrom [.ref 6, .int 32, .int l1, .int l2] h (fun h2 => (¬ l3 = 33 → (vp_in l1 34) ∧ ((vp_in l2 65) ∧ ((vp_in l1 32) ∧ (∀ x7 : Int32, x7 = (mI (wL (wL h2 (62 + l1.toNatClampNeg) l2.toNatClampNeg (mL h2 6 7)) 6 7 l4) 29 l1.toNatClampNeg) → (vp_in l2 64) ∧ ((vp_in l1 32) ∧ ((vp_in l2 64) ∧ (P (wI (wI (wL (wL h2 (62 + l1.toNatClampNeg) l2.toNatClampNeg (mL h2 6 7)) 6 7 l4) 29 l1.toNatClampNeg (mI (wL (wL h2 (62 + l1.toNatClampNeg) l2.toNatClampNeg (mL h2 6 7)) 6 7 l4) 30 l2.toNatClampNeg)) 30 l2.toNatClampNeg x7)))))))) ∧ (l3 = 33 → MCv g yX0_clearFrom uX0_clearFrom [.ref 6, .int 33, .int l1, .int l2] h2 (fun h11 => (vp_in l1 34) ∧ ((vp_in l2 65) ∧ ((vp_in l1 32) ∧ (∀ x15 : Int32, x15 = (mI (wL (wL h11 (62 + l1.toNatClampNeg) l2.toNatClampNeg (mL h11 6 7)) 6 7 l4) 29 l1.toNatClampNeg) → (vp_in l2 64) ∧ ((vp_in l1 32) ∧ ((vp_in l2 64) ∧ (P (wI (wI (wL (wL h11 (62 + l1.toNatClampNeg) l2.toNatClampNeg (mL h11 6 7)) 6 7 l4) 29 l1.toNatClampNeg (mI (wL (wL h11 (62 + l1.toNatClampNeg) l2.toNatClampNeg (mL h11 6 7)) 6 7 l4) 30 l2.toNatClampNeg)) 30 l2.toNatClampNeg x15))))))))))) ∧ (¬ (mI h 6 5) ≤ l6 → (l6 = l1 → ME g uX0_pivot 30 [.ref 6, .int l1, .int l2, .int l3, .long l4, .retAddr 0, .int (l6 + 1)] [] h (qV P)) ∧ (¬ l6 = l1 → MCv g yX0_clearFrom uX0_clearFrom [.ref 6, .int l6, .int l1, .int l2] h (fun h20 => ME g uX0_pivot 30 [.ref 6, .int l1, .int l2, .int l3, .long l4, .retAddr 0, .int (l6 + 1)] [] h20 (qV P))))) : ME g uX0_pivot 30 [.ref 6, .int l1, .int l2, .int l3, .long l4, .retAddr 0, .int l6] [] h (qV P) := by
  refine m_iload dX0_pivot_30 rfl ?_
  refine m_aload_n dX0_pivot_32 rfl ?_
  refine gf_X0_86 rfl dX0_pivot_33 ?_
  refine m_icmp_ge 59 dX0_pivot_36 (by decide) (fun c1 => ?_) (fun c1 => ?_)
  · replace q := q.1 c1
    refine m_aload_n dX0_pivot_59 rfl ?_
    refine m_bipush (v := 32) dX0_pivot_60 (by decide) ?_
    refine m_iload_n dX0_pivot_62 rfl ?_
    refine m_iload_n dX0_pivot_63 rfl ?_
    refine cl_X0_113 rfl (by decide) dX0_pivot_64 (Nat.le_of_ble_eq_true rfl) (MCv_go q (fun h2 q => ?_))
    refine m_iload_n dX0_pivot_67 rfl ?_
    refine m_bipush (v := 33) dX0_pivot_68 (by decide) ?_
    refine m_icmp_ne 81 dX0_pivot_70 (by decide) (fun c3 => ?_) (fun c3 => ?_)
    · replace q := q.1 c3
      refine m_aload_n dX0_pivot_81 rfl ?_
      refine gf_X0_13 rfl dX0_pivot_82 ?_
      refine m_iload_n dX0_pivot_85 rfl ?_
      obtain ⟨b4, q⟩ := q
      refine m_aald28 dX0_pivot_86 b4 ?_
      refine m_iload_n dX0_pivot_87 rfl ?_
      refine m_aload_n dX0_pivot_88 rfl ?_
      refine gf_X0_23 rfl dX0_pivot_89 ?_
      obtain ⟨b5, q⟩ := q
      refine m_lastore dX0_pivot_92 (shp_62 _ (vp_lt b4)) (shp_lt (shp_62 _ (vp_lt b4)) (by decide)) b5 ?_
      refine m_aload_n dX0_pivot_93 rfl ?_
      refine m_lload dX0_pivot_94 rfl ?_
      refine pf_X0_23 rfl dX0_pivot_96 ?_
      refine m_aload_n dX0_pivot_99 rfl ?_
      refine gf_X0_16 rfl dX0_pivot_100 ?_
      refine m_iload_n dX0_pivot_103 rfl ?_
      obtain ⟨b6, q⟩ := q
      refine m_iaload dX0_pivot_104 rfl (by decide) b6 ?_
      obtain ⟨x7, ex7⟩ : ∃ z, z = (mI (wL (wL h2 (62 + l1.toNatClampNeg) l2.toNatClampNeg (mL h2 6 7)) 6 7 l4) 29 l1.toNatClampNeg) := ⟨_, rfl⟩
      rw [← ex7]
      replace q := q x7 ex7
      refine m_istore (lv' := [.ref 6, .int l1, .int l2, .int l3, .long l4, .retAddr 0, .int x7]) dX0_pivot_105 (Nat.le_of_ble_eq_true rfl) rfl rfl ?_
      refine m_aload_n dX0_pivot_107 rfl ?_
      refine gf_X0_16 rfl dX0_pivot_108 ?_
      refine m_iload_n dX0_pivot_111 rfl ?_
      refine m_aload_n dX0_pivot_112 rfl ?_
      refine gf_X0_20 rfl dX0_pivot_113 ?_
      refine m_iload_n dX0_pivot_116 rfl ?_
      obtain ⟨b8, q⟩ := q
      refine m_iaload dX0_pivot_117 rfl (by decide) b8 ?_
      obtain ⟨b9, q⟩ := q
      refine m_iastore dX0_pivot_118 rfl (by decide) b9 ?_
      refine m_aload_n dX0_pivot_119 rfl ?_
      refine gf_X0_20 rfl dX0_pivot_120 ?_
      refine m_iload_n dX0_pivot_123 rfl ?_
      refine m_iload dX0_pivot_124 rfl ?_
      obtain ⟨b10, q⟩ := q
      refine m_iastore dX0_pivot_126 rfl (by decide) b10 ?_
      exact m_vret dX0_pivot_127 rfl q
    · replace q := q.2 c3
      refine m_aload_n dX0_pivot_73 rfl ?_
      refine m_bipush (v := 33) dX0_pivot_74 (by decide) ?_
      refine m_iload_n dX0_pivot_76 rfl ?_
      refine m_iload_n dX0_pivot_77 rfl ?_
      refine cl_X0_113 rfl (by decide) dX0_pivot_78 (Nat.le_of_ble_eq_true rfl) (MCv_go q (fun h11 q => ?_))
      refine m_aload_n dX0_pivot_81 rfl ?_
      refine gf_X0_13 rfl dX0_pivot_82 ?_
      refine m_iload_n dX0_pivot_85 rfl ?_
      obtain ⟨b12, q⟩ := q
      refine m_aald28 dX0_pivot_86 b12 ?_
      refine m_iload_n dX0_pivot_87 rfl ?_
      refine m_aload_n dX0_pivot_88 rfl ?_
      refine gf_X0_23 rfl dX0_pivot_89 ?_
      obtain ⟨b13, q⟩ := q
      refine m_lastore dX0_pivot_92 (shp_62 _ (vp_lt b12)) (shp_lt (shp_62 _ (vp_lt b12)) (by decide)) b13 ?_
      refine m_aload_n dX0_pivot_93 rfl ?_
      refine m_lload dX0_pivot_94 rfl ?_
      refine pf_X0_23 rfl dX0_pivot_96 ?_
      refine m_aload_n dX0_pivot_99 rfl ?_
      refine gf_X0_16 rfl dX0_pivot_100 ?_
      refine m_iload_n dX0_pivot_103 rfl ?_
      obtain ⟨b14, q⟩ := q
      refine m_iaload dX0_pivot_104 rfl (by decide) b14 ?_
      obtain ⟨x15, ex15⟩ : ∃ z, z = (mI (wL (wL h11 (62 + l1.toNatClampNeg) l2.toNatClampNeg (mL h11 6 7)) 6 7 l4) 29 l1.toNatClampNeg) := ⟨_, rfl⟩
      rw [← ex15]
      replace q := q x15 ex15
      refine m_istore (lv' := [.ref 6, .int l1, .int l2, .int l3, .long l4, .retAddr 0, .int x15]) dX0_pivot_105 (Nat.le_of_ble_eq_true rfl) rfl rfl ?_
      refine m_aload_n dX0_pivot_107 rfl ?_
      refine gf_X0_16 rfl dX0_pivot_108 ?_
      refine m_iload_n dX0_pivot_111 rfl ?_
      refine m_aload_n dX0_pivot_112 rfl ?_
      refine gf_X0_20 rfl dX0_pivot_113 ?_
      refine m_iload_n dX0_pivot_116 rfl ?_
      obtain ⟨b16, q⟩ := q
      refine m_iaload dX0_pivot_117 rfl (by decide) b16 ?_
      obtain ⟨b17, q⟩ := q
      refine m_iastore dX0_pivot_118 rfl (by decide) b17 ?_
      refine m_aload_n dX0_pivot_119 rfl ?_
      refine gf_X0_20 rfl dX0_pivot_120 ?_
      refine m_iload_n dX0_pivot_123 rfl ?_
      refine m_iload dX0_pivot_124 rfl ?_
      obtain ⟨b18, q⟩ := q
      refine m_iastore dX0_pivot_126 rfl (by decide) b18 ?_
      exact m_vret dX0_pivot_127 rfl q
  · replace q := q.2 c1
    refine m_iload dX0_pivot_39 rfl ?_
    refine m_iload_n dX0_pivot_41 rfl ?_
    refine m_icmp_eq 53 dX0_pivot_42 (by decide) (fun c19 => ?_) (fun c19 => ?_)
    · replace q := q.1 c19
      refine m_iinc (v := (l6 + 1)) (lv' := [.ref 6, .int l1, .int l2, .int l3, .long l4, .retAddr 0, .int (l6 + 1)]) dX0_pivot_53 (Nat.le_of_ble_eq_true rfl) rfl (congrArg (fun z => l6 + z) (by decide : Int32.ofInt 1 = 1)) rfl rfl ?_
      refine m_goto 30 dX0_pivot_56 (by decide) ?_
      exact q
    · replace q := q.2 c19
      refine m_aload_n dX0_pivot_45 rfl ?_
      refine m_iload dX0_pivot_46 rfl ?_
      refine m_iload_n dX0_pivot_48 rfl ?_
      refine m_iload_n dX0_pivot_49 rfl ?_
      refine cl_X0_113 rfl (by decide) dX0_pivot_50 (Nat.le_of_ble_eq_true rfl) (MCv_go q (fun h20 q => ?_))
      refine m_iinc (v := (l6 + 1)) (lv' := [.ref 6, .int l1, .int l2, .int l3, .long l4, .retAddr 0, .int (l6 + 1)]) dX0_pivot_53 (Nat.le_of_ble_eq_true rfl) rfl (congrArg (fun z => l6 + z) (by decide : Int32.ofInt 1 = 1)) rfl rfl ?_
      refine m_goto 30 dX0_pivot_56 (by decide) ?_
      exact q
set_option maxRecDepth 100000 in
theorem e_X0_clearFrom {g : gT} {h : mh_T} {P : mh_T → Prop} (l1 : Int32) (l2 : Int32) (l3 : Int32) (q : (vp_in l1 34) ∧ ((vp_in l2 34) ∧ ((vp_in l3 65) ∧ (∀ x4 : Int64, x4 = (mL h (62 + l2.toNatClampNeg) l3.toNatClampNeg) → (vp_in l3 65) ∧ (∀ x6 : Int64, x6 = (mL h (62 + l1.toNatClampNeg) l3.toNatClampNeg) → (¬ (lg_cmp x6 0) = 0 → ME g uX0_clearFrom 49 [.ref 6, .int l1, .int l2, .int l3, .ref (62 + l1.toNatClampNeg), .ref (62 + l2.toNatClampNeg), .long x4, .retAddr 0, .long x6, .retAddr 0, .int 0] [] h (qV P)) ∧ ((lg_cmp x6 0) = 0 → (¬ (lg_cmp x4 (mL h 6 7)) = 0 → ME g uX0_clearFrom 49 [.ref 6, .int l1, .int l2, .int l3, .ref (62 + l1.toNatClampNeg), .ref (62 + l2.toNatClampNeg), .long x4, .retAddr 0, .long x6, .retAddr 0, .int 0] [] h (qV P)) ∧ ((lg_cmp x4 (mL h 6 7)) = 0 → P h))))))) : MCv g yX0_clearFrom uX0_clearFrom [.ref 6, .int l1, .int l2, .int l3] h P := by
  refine m_enter (by decide) rfl (Nat.le_of_ble_eq_true rfl) (lv := [.ref 6, .int l1, .int l2, .int l3, .retAddr 0, .retAddr 0, .retAddr 0, .retAddr 0, .retAddr 0, .retAddr 0, .retAddr 0]) rfl ?_
  refine m_aload_n dX0_clearFrom_0 rfl ?_
  refine gf_X0_13 rfl dX0_clearFrom_1 ?_
  refine m_iload_n dX0_clearFrom_4 rfl ?_
  obtain ⟨b1, q⟩ := q
  refine m_aald28 dX0_clearFrom_5 b1 ?_
  refine m_astore (lv' := [.ref 6, .int l1, .int l2, .int l3, .ref (62 + l1.toNatClampNeg), .retAddr 0, .retAddr 0, .retAddr 0, .retAddr 0, .retAddr 0, .retAddr 0]) dX0_clearFrom_6 (Nat.le_of_ble_eq_true rfl) rfl rfl ?_
  refine m_aload_n dX0_clearFrom_8 rfl ?_
  refine gf_X0_13 rfl dX0_clearFrom_9 ?_
  refine m_iload_n dX0_clearFrom_12 rfl ?_
  obtain ⟨b2, q⟩ := q
  refine m_aald28 dX0_clearFrom_13 b2 ?_
  refine m_astore (lv' := [.ref 6, .int l1, .int l2, .int l3, .ref (62 + l1.toNatClampNeg), .ref (62 + l2.toNatClampNeg), .retAddr 0, .retAddr 0, .retAddr 0, .retAddr 0, .retAddr 0]) dX0_clearFrom_14 (Nat.le_of_ble_eq_true rfl) rfl rfl ?_
  refine m_aload dX0_clearFrom_16 rfl ?_
  refine m_iload_n dX0_clearFrom_18 rfl ?_
  obtain ⟨b3, q⟩ := q
  refine m_laload dX0_clearFrom_19 (shp_62 _ (vp_lt b2)) (shp_lt (shp_62 _ (vp_lt b2)) (by decide)) b3 ?_
  obtain ⟨x4, ex4⟩ : ∃ z, z = (mL h (62 + l2.toNatClampNeg) l3.toNatClampNeg) := ⟨_, rfl⟩
  rw [← ex4]
  replace q := q x4 ex4
  refine m_lstore (lv' := [.ref 6, .int l1, .int l2, .int l3, .ref (62 + l1.toNatClampNeg), .ref (62 + l2.toNatClampNeg), .long x4, .retAddr 0, .retAddr 0, .retAddr 0, .retAddr 0]) dX0_clearFrom_20 (Nat.le_of_ble_eq_true rfl) rfl rfl ?_
  refine m_aload dX0_clearFrom_22 rfl ?_
  refine m_iload_n dX0_clearFrom_24 rfl ?_
  obtain ⟨b5, q⟩ := q
  refine m_laload dX0_clearFrom_25 (shp_62 _ (vp_lt b1)) (shp_lt (shp_62 _ (vp_lt b1)) (by decide)) b5 ?_
  obtain ⟨x6, ex6⟩ : ∃ z, z = (mL h (62 + l1.toNatClampNeg) l3.toNatClampNeg) := ⟨_, rfl⟩
  rw [← ex6]
  replace q := q x6 ex6
  refine m_lstore (lv' := [.ref 6, .int l1, .int l2, .int l3, .ref (62 + l1.toNatClampNeg), .ref (62 + l2.toNatClampNeg), .long x4, .retAddr 0, .long x6, .retAddr 0, .retAddr 0]) dX0_clearFrom_26 (Nat.le_of_ble_eq_true rfl) rfl rfl ?_
  refine m_lload dX0_clearFrom_28 rfl ?_
  refine m_lconst (v := 0) dX0_clearFrom_30 (by decide) ?_
  refine m_lcmp dX0_clearFrom_31 ?_
  refine m_if_ne 46 dX0_clearFrom_32 (by decide) (fun c7 => ?_) (fun c7 => ?_)
  · replace q := q.1 c7
    refine m_iconst (v := 0) dX0_clearFrom_46 (by decide) ?_
    refine m_istore (lv' := [.ref 6, .int l1, .int l2, .int l3, .ref (62 + l1.toNatClampNeg), .ref (62 + l2.toNatClampNeg), .long x4, .retAddr 0, .long x6, .retAddr 0, .int 0]) dX0_clearFrom_47 (Nat.le_of_ble_eq_true rfl) rfl rfl ?_
    exact q
  · replace q := q.2 c7
    refine m_lload dX0_clearFrom_35 rfl ?_
    refine m_aload_n dX0_clearFrom_37 rfl ?_
    refine gf_X0_23 rfl dX0_clearFrom_38 ?_
    refine m_lcmp dX0_clearFrom_41 ?_
    refine m_if_ne 46 dX0_clearFrom_42 (by decide) (fun c8 => ?_) (fun c8 => ?_)
    · replace q := q.1 c8
      refine m_iconst (v := 0) dX0_clearFrom_46 (by decide) ?_
      refine m_istore (lv' := [.ref 6, .int l1, .int l2, .int l3, .ref (62 + l1.toNatClampNeg), .ref (62 + l2.toNatClampNeg), .long x4, .retAddr 0, .long x6, .retAddr 0, .int 0]) dX0_clearFrom_47 (Nat.le_of_ble_eq_true rfl) rfl rfl ?_
      exact q
    · replace q := q.2 c8
      exact m_vret dX0_clearFrom_45 rfl q
set_option maxRecDepth 100000 in
theorem r_X0_clearFrom_49 {g : gT} {h : mh_T} {P : mh_T → Prop} (l1 : Int32) (l2 : Int32) (l3 : Int32) (l4 : Nat) (l5 : Nat) (l6 : Int64) (l8 : Int64) (l10 : Int32) (sl4 : shp l4 = (22, 65, [])) (sl5 : shp l5 = (22, 65, [])) (q : ((mI h 6 6) < l10 → (vp_in l3 65) ∧ (P (wL h l4 l3.toNatClampNeg (-l8)))) ∧ (¬ (mI h 6 6) < l10 → (l10 = l3 → ME g uX0_clearFrom 49 [.ref 6, .int l1, .int l2, .int l3, .ref l4, .ref l5, .long l6, .retAddr 0, .long l8, .retAddr 0, .int (l10 + 1)] [] h (qV P)) ∧ (¬ l10 = l3 → (vp_in l10 65) ∧ ((vp_in l10 65) ∧ ((¬ (mL h 6 7) = 0) ∧ ((vp_in l10 65) ∧ (ME g uX0_clearFrom 49 [.ref 6, .int l1, .int l2, .int l3, .ref l4, .ref l5, .long l6, .retAddr 0, .long l8, .retAddr 0, .int (l10 + 1)] [] (wL h l4 l10.toNatClampNeg ((((mL h l4 l10.toNatClampNeg) * l6) - (l8 * (mL h l5 l10.toNatClampNeg))) / (mL h 6 7))) (qV P)))))))) : ME g uX0_clearFrom 49 [.ref 6, .int l1, .int l2, .int l3, .ref l4, .ref l5, .long l6, .retAddr 0, .long l8, .retAddr 0, .int l10] [] h (qV P) := by
  refine m_iload dX0_clearFrom_49 rfl ?_
  refine m_aload_n dX0_clearFrom_51 rfl ?_
  refine gf_X0_56 rfl dX0_clearFrom_52 ?_
  refine m_icmp_gt 97 dX0_clearFrom_55 (by decide) (fun c1 => ?_) (fun c1 => ?_)
  · replace q := q.1 c1
    refine m_aload dX0_clearFrom_97 rfl ?_
    refine m_iload_n dX0_clearFrom_99 rfl ?_
    refine m_lload dX0_clearFrom_100 rfl ?_
    refine m_lneg dX0_clearFrom_102 ?_
    obtain ⟨b2, q⟩ := q
    refine m_lastore dX0_clearFrom_103 sl4 (shp_lt sl4 (by decide)) b2 ?_
    exact m_vret dX0_clearFrom_104 rfl q
  · replace q := q.2 c1
    refine m_iload dX0_clearFrom_58 rfl ?_
    refine m_iload_n dX0_clearFrom_60 rfl ?_
    refine m_icmp_eq 91 dX0_clearFrom_61 (by decide) (fun c3 => ?_) (fun c3 => ?_)
    · replace q := q.1 c3
      refine m_iinc (v := (l10 + 1)) (lv' := [.ref 6, .int l1, .int l2, .int l3, .ref l4, .ref l5, .long l6, .retAddr 0, .long l8, .retAddr 0, .int (l10 + 1)]) dX0_clearFrom_91 (Nat.le_of_ble_eq_true rfl) rfl (congrArg (fun z => l10 + z) (by decide : Int32.ofInt 1 = 1)) rfl rfl ?_
      refine m_goto 49 dX0_clearFrom_94 (by decide) ?_
      exact q
    · replace q := q.2 c3
      refine m_aload dX0_clearFrom_64 rfl ?_
      refine m_iload dX0_clearFrom_66 rfl ?_
      refine m_aload dX0_clearFrom_68 rfl ?_
      refine m_iload dX0_clearFrom_70 rfl ?_
      obtain ⟨b4, q⟩ := q
      refine m_laload dX0_clearFrom_72 sl4 (shp_lt sl4 (by decide)) b4 ?_
      refine m_lload dX0_clearFrom_73 rfl ?_
      refine m_lmul dX0_clearFrom_75 ?_
      refine m_lload dX0_clearFrom_76 rfl ?_
      refine m_aload dX0_clearFrom_78 rfl ?_
      refine m_iload dX0_clearFrom_80 rfl ?_
      obtain ⟨b5, q⟩ := q
      refine m_laload dX0_clearFrom_82 sl5 (shp_lt sl5 (by decide)) b5 ?_
      refine m_lmul dX0_clearFrom_83 ?_
      refine m_lsub dX0_clearFrom_84 ?_
      refine m_aload_n dX0_clearFrom_85 rfl ?_
      refine gf_X0_23 rfl dX0_clearFrom_86 ?_
      obtain ⟨b6, q⟩ := q
      refine m_ldiv dX0_clearFrom_89 b6 ?_
      obtain ⟨b7, q⟩ := q
      refine m_lastore dX0_clearFrom_90 sl4 (shp_lt sl4 (by decide)) b7 ?_
      refine m_iinc (v := (l10 + 1)) (lv' := [.ref 6, .int l1, .int l2, .int l3, .ref l4, .ref l5, .long l6, .retAddr 0, .long l8, .retAddr 0, .int (l10 + 1)]) dX0_clearFrom_91 (Nat.le_of_ble_eq_true rfl) rfl (congrArg (fun z => l10 + z) (by decide : Int32.ofInt 1 = 1)) rfl rfl ?_
      refine m_goto 49 dX0_clearFrom_94 (by decide) ?_
      exact q
