set_option maxRecDepth 100000 in
theorem e_X3_open {g : gT} {h : mh_T} {P : mh_T → Prop}  (q : ME g uX3_open 15 [.ref 8, .ref 2, .int 0, .retAddr 0] [] (wI (wI h 8 0 (mI h 2 5)) 8 8 0) (qV P)) : MCv g yX3_open uX3_open [.ref 8, .ref 2] h P := by
  refine m_enter (by decide) rfl (Nat.le_of_ble_eq_true rfl) (lv := [.ref 8, .ref 2, .retAddr 0, .retAddr 0]) rfl ?_
  refine m_aload_n dX3_open_0 rfl ?_
  refine m_aload_n dX3_open_1 rfl ?_
  refine gf_X3_18 rfl dX3_open_2 ?_
  refine pf_X3_24 rfl dX3_open_5 ?_
  refine m_aload_n dX3_open_8 rfl ?_
  refine m_iconst (v := 0) dX3_open_9 (by decide) ?_
  refine pf_X3_25 rfl dX3_open_10 (by decide) ?_
  refine m_iconst (v := 0) dX3_open_13 (by decide) ?_
  refine m_istore_n (lv' := [.ref 8, .ref 2, .int 0, .retAddr 0]) dX3_open_14 (Nat.le_of_ble_eq_true rfl) rfl rfl ?_
  exact q
set_option maxRecDepth 100000 in
theorem r_X3_open_15 {g : gT} {h : mh_T} {P : mh_T → Prop} (l2 : Int32) (q : ((mI h 8 0) ≤ l2 → MCv g yX3_findCorners uX3_findCorners [.ref 8] h (fun h2 => P h2)) ∧ (¬ (mI h 8 0) ≤ l2 → (vp_in l2 18) ∧ (ME g uX3_open 32 [.ref 8, .ref 2, .int l2, .int 0] [] (wI h 32 l2.toNatClampNeg 0) (qV P)))) : ME g uX3_open 15 [.ref 8, .ref 2, .int l2, .retAddr 0] [] h (qV P) := by
  refine m_iload_n dX3_open_15 rfl ?_
  refine m_aload_n dX3_open_16 rfl ?_
  refine gf_X3_24 rfl dX3_open_17 ?_
  refine m_icmp_ge 81 dX3_open_20 (by decide) (fun c1 => ?_) (fun c1 => ?_)
  · replace q := q.1 c1
    refine m_aload_n dX3_open_81 rfl ?_
    refine cl_X3_36 rfl (by decide) dX3_open_82 (Nat.le_of_ble_eq_true rfl) (MCv_go q (fun h2 q => ?_))
    exact m_vret dX3_open_85 rfl q
  · replace q := q.2 c1
    refine m_aload_n dX3_open_23 rfl ?_
    refine gf_X3_9 rfl dX3_open_24 ?_
    refine m_iload_n dX3_open_27 rfl ?_
    refine m_iconst (v := 0) dX3_open_28 (by decide) ?_
    obtain ⟨b3, q⟩ := q
    refine m_iastore dX3_open_29 rfl (by decide) b3 ?_
    refine m_iconst (v := 0) dX3_open_30 (by decide) ?_
    refine m_istore_n (lv' := [.ref 8, .ref 2, .int l2, .int 0]) dX3_open_31 (Nat.le_of_ble_eq_true rfl) rfl rfl ?_
    exact q
set_option maxRecDepth 100000 in
theorem r_X3_open_32 {g : gT} {h : mh_T} {P : mh_T → Prop} (l2 : Int32) (l3 : Int32) (q : ((mI h 8 0) ≤ l3 → ME g uX3_open 15 [.ref 8, .ref 2, .int (l2 + 1), .retAddr 0] [] h (qV P)) ∧ (¬ (mI h 8 0) ≤ l3 → (l3 = l2 → ME g uX3_open 32 [.ref 8, .ref 2, .int l2, .int (l3 + 1)] [] h (qV P)) ∧ (¬ l3 = l2 → MCi g yX3_product uX3_product [.ref 20, .int l2, .int l3] h (fun r4 h3 => (¬ r4 = 0 → ME g uX3_open 32 [.ref 8, .ref 2, .int l2, .int (l3 + 1)] [] h3 (qV P)) ∧ (r4 = 0 → (vp_in l2 18) ∧ ((vp_in l2 18) ∧ (ME g uX3_open 32 [.ref 8, .ref 2, .int l2, .int (l3 + 1)] [] (wI h3 32 l2.toNatClampNeg ((mI h3 32 l2.toNatClampNeg) ||| (1 <<< (l3 &&& 31)))) (qV P)))))))) : ME g uX3_open 32 [.ref 8, .ref 2, .int l2, .int l3] [] h (qV P) := by
  refine m_iload_n dX3_open_32 rfl ?_
  refine m_aload_n dX3_open_33 rfl ?_
  refine gf_X3_24 rfl dX3_open_34 ?_
  refine m_icmp_ge 75 dX3_open_37 (by decide) (fun c1 => ?_) (fun c1 => ?_)
  · replace q := q.1 c1
    refine m_iinc (v := (l2 + 1)) (lv' := [.ref 8, .ref 2, .int (l2 + 1), .int l3]) dX3_open_75 (Nat.le_of_ble_eq_true rfl) rfl (congrArg (fun z => l2 + z) (by decide : Int32.ofInt 1 = 1)) rfl rfl ?_
    refine m_goto 15 dX3_open_78 (by decide) ?_
    refine m_dropK (lv' := [.ref 8, .ref 2, .int (l2 + 1), .retAddr 0]) [3] rfl ?_
    exact q
  · replace q := q.2 c1
    refine m_iload_n dX3_open_40 rfl ?_
    refine m_iload_n dX3_open_41 rfl ?_
    refine m_icmp_eq 69 dX3_open_42 (by decide) (fun c2 => ?_) (fun c2 => ?_)
    · replace q := q.1 c2
      refine m_iinc (v := (l3 + 1)) (lv' := [.ref 8, .ref 2, .int l2, .int (l3 + 1)]) dX3_open_69 (Nat.le_of_ble_eq_true rfl) rfl (congrArg (fun z => l3 + z) (by decide : Int32.ofInt 1 = 1)) rfl rfl ?_
      refine m_goto 32 dX3_open_72 (by decide) ?_
      exact q
    · replace q := q.2 c2
      refine m_aload_n dX3_open_45 rfl ?_
      refine gf_X3_29 rfl dX3_open_46 ?_
      refine m_iload_n dX3_open_49 rfl ?_
      refine m_iload_n dX3_open_50 rfl ?_
      refine cl_X3_32 rfl (by decide) dX3_open_51 (Nat.le_of_ble_eq_true rfl) (MCi_go q (fun r4 h3 q => ?_))
      refine m_if_ne 69 dX3_open_54 (by decide) (fun c5 => ?_) (fun c5 => ?_)
      · replace q := q.1 c5
        refine m_iinc (v := (l3 + 1)) (lv' := [.ref 8, .ref 2, .int l2, .int (l3 + 1)]) dX3_open_69 (Nat.le_of_ble_eq_true rfl) rfl (congrArg (fun z => l3 + z) (by decide : Int32.ofInt 1 = 1)) rfl rfl ?_
        refine m_goto 32 dX3_open_72 (by decide) ?_
        exact q
      · replace q := q.2 c5
        refine m_aload_n dX3_open_57 rfl ?_
        refine gf_X3_9 rfl dX3_open_58 ?_
        refine m_iload_n dX3_open_61 rfl ?_
        refine m_dup2 dX3_open_62 rfl rfl ?_
        obtain ⟨b6, q⟩ := q
        refine m_iaload dX3_open_63 rfl (by decide) b6 ?_
        refine m_iconst (v := 1) dX3_open_64 (by decide) ?_
        refine m_iload_n dX3_open_65 rfl ?_
        refine m_ishl dX3_open_66 ?_
        refine m_ior dX3_open_67 ?_
        obtain ⟨b7, q⟩ := q
        refine m_iastore dX3_open_68 rfl (by decide) b7 ?_
        refine m_iinc (v := (l3 + 1)) (lv' := [.ref 8, .ref 2, .int l2, .int (l3 + 1)]) dX3_open_69 (Nat.le_of_ble_eq_true rfl) rfl (congrArg (fun z => l3 + z) (by decide : Int32.ofInt 1 = 1)) rfl rfl ?_
        refine m_goto 32 dX3_open_72 (by decide) ?_
        exact q
set_option maxRecDepth 100000 in
theorem e_X3_product {g : gT} {h : mh_T} {P : Int32 → mh_T → Prop} (l1 : Int32) (l2 : Int32) (q : ME g uX3_product 5 [.ref 20, .int l1, .int l2, .int 0, .int 0] [] h (qI P)) : MCi g yX3_product uX3_product [.ref 20, .int l1, .int l2] h P := by
  refine m_enter (by decide) rfl (Nat.le_of_ble_eq_true rfl) (lv := [.ref 20, .int l1, .int l2, .retAddr 0, .retAddr 0]) rfl ?_
  refine m_iconst (v := 0) dX3_product_0 (by decide) ?_
  refine m_istore_n (lv' := [.ref 20, .int l1, .int l2, .int 0, .retAddr 0]) dX3_product_1 (Nat.le_of_ble_eq_true rfl) rfl rfl ?_
  refine m_iconst (v := 0) dX3_product_2 (by decide) ?_
  refine m_istore (lv' := [.ref 20, .int l1, .int l2, .int 0, .int 0]) dX3_product_3 (Nat.le_of_ble_eq_true rfl) rfl rfl ?_
  exact q
set_option maxRecDepth 100000 in
theorem r_X3_product_5 {g : gT} {h : mh_T} {P : Int32 → mh_T → Prop} (l1 : Int32) (l2 : Int32) (l3 : Int32) (l4 : Int32) (q : (4 ≤ l4 → P l3 h) ∧ (¬ 4 ≤ l4 → (vp_in ((4 * l1) + l4) 72) ∧ ((vp_in ((4 * l2) + l4) 72) ∧ (∀ x4 : Int32, x4 = (l3 + ((mI h 20 ((4 * l1) + l4).toNatClampNeg) * (mI h 20 ((4 * l2) + l4).toNatClampNeg))) → ME g uX3_product 5 [.ref 20, .int l1, .int l2, .int x4, .int (l4 + 1)] [] h (qI P))))) : ME g uX3_product 5 [.ref 20, .int l1, .int l2, .int l3, .int l4] [] h (qI P) := by
  refine m_iload dX3_product_5 rfl ?_
  refine m_iconst (v := 4) dX3_product_7 (by decide) ?_
  refine m_icmp_ge 37 dX3_product_8 (by decide) (fun c1 => ?_) (fun c1 => ?_)
  · replace q := q.1 c1
    refine m_iload_n dX3_product_37 rfl ?_
    exact m_iret dX3_product_38 rfl q
  · replace q := q.2 c1
    refine m_iload_n dX3_product_11 rfl ?_
    refine m_aload_n dX3_product_12 rfl ?_
    refine m_iconst (v := 4) dX3_product_13 (by decide) ?_
    refine m_iload_n dX3_product_14 rfl ?_
    refine m_imul dX3_product_15 ?_
    refine m_iload dX3_product_16 rfl ?_
    refine m_iadd dX3_product_18 ?_
    obtain ⟨b2, q⟩ := q
    refine m_iaload dX3_product_19 rfl (by decide) b2 ?_
    refine m_aload_n dX3_product_20 rfl ?_
    refine m_iconst (v := 4) dX3_product_21 (by decide) ?_
    refine m_iload_n dX3_product_22 rfl ?_
    refine m_imul dX3_product_23 ?_
    refine m_iload dX3_product_24 rfl ?_
    refine m_iadd dX3_product_26 ?_
    obtain ⟨b3, q⟩ := q
    refine m_iaload dX3_product_27 rfl (by decide) b3 ?_
    refine m_imul dX3_product_28 ?_
    refine m_iadd dX3_product_29 ?_
    obtain ⟨x4, ex4⟩ : ∃ z, z = (l3 + ((mI h 20 ((4 * l1) + l4).toNatClampNeg) * (mI h 20 ((4 * l2) + l4).toNatClampNeg))) := ⟨_, rfl⟩
    rw [← ex4]
    replace q := q x4 ex4
    refine m_istore_n (lv' := [.ref 20, .int l1, .int l2, .int x4, .int l4]) dX3_product_30 (Nat.le_of_ble_eq_true rfl) rfl rfl ?_
    refine m_iinc (v := (l4 + 1)) (lv' := [.ref 20, .int l1, .int l2, .int x4, .int (l4 + 1)]) dX3_product_31 (Nat.le_of_ble_eq_true rfl) rfl (congrArg (fun z => l4 + z) (by decide : Int32.ofInt 1 = 1)) rfl rfl ?_
    refine m_goto 5 dX3_product_34 (by decide) ?_
    exact q
set_option maxRecDepth 100000 in
theorem e_X3_hasRay {g : gT} {h : mh_T} {P : Int32 → mh_T → Prop} (l1 : Int32) (q : (l1 < 0 → P 0 h) ∧ (¬ l1 < 0 → ((mI h 8 0) ≤ l1 → P 0 h) ∧ (¬ (mI h 8 0) ≤ l1 → P 1 h))) : MCi g yX3_hasRay uX3_hasRay [.ref 8, .int l1] h P := by
  refine m_enter (by decide) rfl (Nat.le_of_ble_eq_true rfl) (lv := [.ref 8, .int l1]) rfl ?_
  refine m_iload_n dX3_hasRay_0 rfl ?_
  refine m_if_lt 16 dX3_hasRay_1 (by decide) (fun c1 => ?_) (fun c1 => ?_)
  · replace q := q.1 c1
    refine m_iconst (v := 0) dX3_hasRay_16 (by decide) ?_
    exact m_zret dX3_hasRay_17 rfl (by decide) q
  · replace q := q.2 c1
    refine m_iload_n dX3_hasRay_4 rfl ?_
    refine m_aload_n dX3_hasRay_5 rfl ?_
    refine gf_X3_24 rfl dX3_hasRay_6 ?_
    refine m_icmp_ge 16 dX3_hasRay_9 (by decide) (fun c2 => ?_) (fun c2 => ?_)
    · replace q := q.1 c2
      refine m_iconst (v := 0) dX3_hasRay_16 (by decide) ?_
      exact m_zret dX3_hasRay_17 rfl (by decide) q
    · replace q := q.2 c2
      refine m_iconst (v := 1) dX3_hasRay_12 (by decide) ?_
      refine m_goto 17 dX3_hasRay_13 (by decide) ?_
      exact m_zret dX3_hasRay_17 rfl (by decide) q
set_option maxRecDepth 100000 in
theorem e_X3_findCorners {g : gT} {h : mh_T} {P : mh_T → Prop}  (q : ME g uX3_findCorners 7 [.ref 8, .int 0, .retAddr 0] [] (wI h 8 1 0) (qV P)) : MCv g yX3_findCorners uX3_findCorners [.ref 8] h P := by
  refine m_enter (by decide) rfl (Nat.le_of_ble_eq_true rfl) (lv := [.ref 8, .retAddr 0, .retAddr 0]) rfl ?_
  refine m_aload_n dX3_findCorners_0 rfl ?_
  refine m_iconst (v := 0) dX3_findCorners_1 (by decide) ?_
  refine pf_X3_39 rfl dX3_findCorners_2 ?_
  refine m_iconst (v := 0) dX3_findCorners_5 (by decide) ?_
  refine m_istore_n (lv' := [.ref 8, .int 0, .retAddr 0]) dX3_findCorners_6 (Nat.le_of_ble_eq_true rfl) rfl rfl ?_
  exact q
set_option maxRecDepth 100000 in
theorem r_X3_findCorners_7 {g : gT} {h : mh_T} {P : mh_T → Prop} (l1 : Int32) (q : ((mI h 8 0) ≤ l1 → P h) ∧ (¬ (mI h 8 0) ≤ l1 → ∀ x2 : Int32, x2 = (l1 + 1) → ME g uX3_findCorners 19 [.ref 8, .int l1, .int x2] [] h (qV P))) : ME g uX3_findCorners 7 [.ref 8, .int l1, .retAddr 0] [] h (qV P) := by
  refine m_iload_n dX3_findCorners_7 rfl ?_
  refine m_aload_n dX3_findCorners_8 rfl ?_
  refine gf_X3_24 rfl dX3_findCorners_9 ?_
  refine m_icmp_ge 58 dX3_findCorners_12 (by decide) (fun c1 => ?_) (fun c1 => ?_)
  · replace q := q.1 c1
    exact m_vret dX3_findCorners_58 rfl q
  · replace q := q.2 c1
    refine m_iload_n dX3_findCorners_15 rfl ?_
    refine m_iconst (v := 1) dX3_findCorners_16 (by decide) ?_
    refine m_iadd dX3_findCorners_17 ?_
    obtain ⟨x2, ex2⟩ : ∃ z, z = (l1 + 1) := ⟨_, rfl⟩
    rw [← ex2]
    replace q := q x2 ex2
    refine m_istore_n (lv' := [.ref 8, .int l1, .int x2]) dX3_findCorners_18 (Nat.le_of_ble_eq_true rfl) rfl rfl ?_
    exact q
set_option maxRecDepth 100000 in
theorem r_X3_findCorners_19 {g : gT} {h : mh_T} {P : mh_T → Prop} (l1 : Int32) (l2 : Int32) (q : ((mI h 8 0) ≤ l2 → ME g uX3_findCorners 7 [.ref 8, .int (l1 + 1), .retAddr 0] [] h (qV P)) ∧ (¬ (mI h 8 0) ≤ l2 → (vp_in l1 18) ∧ (((((mI h 32 l1.toNatClampNeg) >>> (l2 &&& 31)) &&& 1) = 0 → ME g uX3_findCorners 19 [.ref 8, .int l1, .int (l2 + 1)] [] h (qV P)) ∧ (¬ (((mI h 32 l1.toNatClampNeg) >>> (l2 &&& 31)) &&& 1) = 0 → MCv g yX3_findCornersOf uX3_findCornersOf [.ref 8, .int l1, .int l2] h (fun h4 => ME g uX3_findCorners 19 [.ref 8, .int l1, .int (l2 + 1)] [] h4 (qV P)))))) : ME g uX3_findCorners 19 [.ref 8, .int l1, .int l2] [] h (qV P) := by
  refine m_iload_n dX3_findCorners_19 rfl ?_
  refine m_aload_n dX3_findCorners_20 rfl ?_
  refine gf_X3_24 rfl dX3_findCorners_21 ?_
  refine m_icmp_ge 52 dX3_findCorners_24 (by decide) (fun c1 => ?_) (fun c1 => ?_)
  · replace q := q.1 c1
    refine m_iinc (v := (l1 + 1)) (lv' := [.ref 8, .int (l1 + 1), .int l2]) dX3_findCorners_52 (Nat.le_of_ble_eq_true rfl) rfl (congrArg (fun z => l1 + z) (by decide : Int32.ofInt 1 = 1)) rfl rfl ?_
    refine m_goto 7 dX3_findCorners_55 (by decide) ?_
    refine m_dropK (lv' := [.ref 8, .int (l1 + 1), .retAddr 0]) [2] rfl ?_
    exact q
  · replace q := q.2 c1
    refine m_aload_n dX3_findCorners_27 rfl ?_
    refine gf_X3_9 rfl dX3_findCorners_28 ?_
    refine m_iload_n dX3_findCorners_31 rfl ?_
    obtain ⟨b2, q⟩ := q
    refine m_iaload dX3_findCorners_32 rfl (by decide) b2 ?_
    refine m_iload_n dX3_findCorners_33 rfl ?_
    refine m_ishr dX3_findCorners_34 ?_
    refine m_iconst (v := 1) dX3_findCorners_35 (by decide) ?_
    refine m_iand dX3_findCorners_36 ?_
    refine m_if_eq 46 dX3_findCorners_37 (by decide) (fun c3 => ?_) (fun c3 => ?_)
    · replace q := q.1 c3
      refine m_iinc (v := (l2 + 1)) (lv' := [.ref 8, .int l1, .int (l2 + 1)]) dX3_findCorners_46 (Nat.le_of_ble_eq_true rfl) rfl (congrArg (fun z => l2 + z) (by decide : Int32.ofInt 1 = 1)) rfl rfl ?_
      refine m_goto 19 dX3_findCorners_49 (by decide) ?_
      exact q
    · replace q := q.2 c3
      refine m_aload_n dX3_findCorners_40 rfl ?_
      refine m_iload_n dX3_findCorners_41 rfl ?_
      refine m_iload_n dX3_findCorners_42 rfl ?_
      refine cl_X3_42 rfl (by decide) dX3_findCorners_43 (Nat.le_of_ble_eq_true rfl) (MCv_go q (fun h4 q => ?_))
      refine m_iinc (v := (l2 + 1)) (lv' := [.ref 8, .int l1, .int (l2 + 1)]) dX3_findCorners_46 (Nat.le_of_ble_eq_true rfl) rfl (congrArg (fun z => l2 + z) (by decide : Int32.ofInt 1 = 1)) rfl rfl ?_
      refine m_goto 19 dX3_findCorners_49 (by decide) ?_
      exact q
set_option maxRecDepth 100000 in
theorem e_X3_findCornersOf {g : gT} {h : mh_T} {P : mh_T → Prop} (l1 : Int32) (l2 : Int32) (q : (vp_in l1 18) ∧ ((vp_in l2 18) ∧ (∀ x3 : Int32, x3 = ((mI h 32 l1.toNatClampNeg) &&& (mI h 32 l2.toNatClampNeg)) → ∀ x4 : Int32, x4 = (l2 + 1) → ME g uX3_findCornersOf 19 [.ref 8, .int l1, .int l2, .int x3, .int x4, .retAddr 0, .retAddr 0] [] h (qV P)))) : MCv g yX3_findCornersOf uX3_findCornersOf [.ref 8, .int l1, .int l2] h P := by
  refine m_enter (by decide) rfl (Nat.le_of_ble_eq_true rfl) (lv := [.ref 8, .int l1, .int l2, .retAddr 0, .retAddr 0, .retAddr 0, .retAddr 0]) rfl ?_
  refine m_aload_n dX3_findCornersOf_0 rfl ?_
  refine gf_X3_9 rfl dX3_findCornersOf_1 ?_
  refine m_iload_n dX3_findCornersOf_4 rfl ?_
  obtain ⟨b1, q⟩ := q
  refine m_iaload dX3_findCornersOf_5 rfl (by decide) b1 ?_
  refine m_aload_n dX3_findCornersOf_6 rfl ?_
  refine gf_X3_9 rfl dX3_findCornersOf_7 ?_
  refine m_iload_n dX3_findCornersOf_10 rfl ?_
  obtain ⟨b2, q⟩ := q
  refine m_iaload dX3_findCornersOf_11 rfl (by decide) b2 ?_
  refine m_iand dX3_findCornersOf_12 ?_
  obtain ⟨x3, ex3⟩ : ∃ z, z = ((mI h 32 l1.toNatClampNeg) &&& (mI h 32 l2.toNatClampNeg)) := ⟨_, rfl⟩
  rw [← ex3]
  replace q := q x3 ex3
  refine m_istore_n (lv' := [.ref 8, .int l1, .int l2, .int x3, .retAddr 0, .retAddr 0, .retAddr 0]) dX3_findCornersOf_13 (Nat.le_of_ble_eq_true rfl) rfl rfl ?_
  refine m_iload_n dX3_findCornersOf_14 rfl ?_
  refine m_iconst (v := 1) dX3_findCornersOf_15 (by decide) ?_
  refine m_iadd dX3_findCornersOf_16 ?_
  obtain ⟨x4, ex4⟩ : ∃ z, z = (l2 + 1) := ⟨_, rfl⟩
  rw [← ex4]
  replace q := q x4 ex4
  refine m_istore (lv' := [.ref 8, .int l1, .int l2, .int x3, .int x4, .retAddr 0, .retAddr 0]) dX3_findCornersOf_17 (Nat.le_of_ble_eq_true rfl) rfl rfl ?_
  exact q
set_option maxRecDepth 100000 in
theorem r_X3_findCornersOf_19 {g : gT} {h : mh_T} {P : mh_T → Prop} (l1 : Int32) (l2 : Int32) (l3 : Int32) (l4 : Int32) (q : ((mI h 8 0) ≤ l4 → P h) ∧ (¬ (mI h 8 0) ≤ l4 → (((l3 >>> (l4 &&& 31)) &&& 1) = 0 → ∀ x3 : Int32, x3 = (l4 + 1) → ME g uX3_findCornersOf 58 [.ref 8, .int l1, .int l2, .int l3, .int l4, .int 0, .int x3] [] h (qV P)) ∧ (¬ ((l3 >>> (l4 &&& 31)) &&& 1) = 0 → (vp_in l4 18) ∧ (∀ x5 : Int32, x5 = (l3 &&& (mI h 32 l4.toNatClampNeg)) → ∀ x6 : Int32, x6 = (l4 + 1) → ME g uX3_findCornersOf 58 [.ref 8, .int l1, .int l2, .int l3, .int l4, .int x5, .int x6] [] h (qV P))))) : ME g uX3_findCornersOf 19 [.ref 8, .int l1, .int l2, .int l3, .int l4, .retAddr 0, .retAddr 0] [] h (qV P) := by
  refine m_iload dX3_findCornersOf_19 rfl ?_
  refine m_aload_n dX3_findCornersOf_21 rfl ?_
  refine gf_X3_24 rfl dX3_findCornersOf_22 ?_
  refine m_icmp_ge 135 dX3_findCornersOf_25 (by decide) (fun c1 => ?_) (fun c1 => ?_)
  · replace q := q.1 c1
    exact m_vret dX3_findCornersOf_135 rfl q
  · replace q := q.2 c1
    refine m_iload_n dX3_findCornersOf_28 rfl ?_
    refine m_iload dX3_findCornersOf_29 rfl ?_
    refine m_ishr dX3_findCornersOf_31 ?_
    refine m_iconst (v := 1) dX3_findCornersOf_32 (by decide) ?_
    refine m_iand dX3_findCornersOf_33 ?_
    refine m_if_eq 49 dX3_findCornersOf_34 (by decide) (fun c2 => ?_) (fun c2 => ?_)
    · replace q := q.1 c2
      refine m_iconst (v := 0) dX3_findCornersOf_49 (by decide) ?_
      refine m_istore (lv' := [.ref 8, .int l1, .int l2, .int l3, .int l4, .int 0, .retAddr 0]) dX3_findCornersOf_50 (Nat.le_of_ble_eq_true rfl) rfl rfl ?_
      refine m_iload dX3_findCornersOf_52 rfl ?_
      refine m_iconst (v := 1) dX3_findCornersOf_54 (by decide) ?_
      refine m_iadd dX3_findCornersOf_55 ?_
      obtain ⟨x3, ex3⟩ : ∃ z, z = (l4 + 1) := ⟨_, rfl⟩
      rw [← ex3]
      replace q := q x3 ex3
      refine m_istore (lv' := [.ref 8, .int l1, .int l2, .int l3, .int l4, .int 0, .int x3]) dX3_findCornersOf_56 (Nat.le_of_ble_eq_true rfl) rfl rfl ?_
      exact q
    · replace q := q.2 c2
      refine m_iload_n dX3_findCornersOf_37 rfl ?_
      refine m_aload_n dX3_findCornersOf_38 rfl ?_
      refine gf_X3_9 rfl dX3_findCornersOf_39 ?_
      refine m_iload dX3_findCornersOf_42 rfl ?_
      obtain ⟨b4, q⟩ := q
      refine m_iaload dX3_findCornersOf_44 rfl (by decide) b4 ?_
      refine m_iand dX3_findCornersOf_45 ?_
      refine m_goto 50 dX3_findCornersOf_46 (by decide) ?_
      obtain ⟨x5, ex5⟩ : ∃ z, z = (l3 &&& (mI h 32 l4.toNatClampNeg)) := ⟨_, rfl⟩
      rw [← ex5]
      replace q := q x5 ex5
      refine m_istore (lv' := [.ref 8, .int l1, .int l2, .int l3, .int l4, .int x5, .retAddr 0]) dX3_findCornersOf_50 (Nat.le_of_ble_eq_true rfl) rfl rfl ?_
      refine m_iload dX3_findCornersOf_52 rfl ?_
      refine m_iconst (v := 1) dX3_findCornersOf_54 (by decide) ?_
      refine m_iadd dX3_findCornersOf_55 ?_
      obtain ⟨x6, ex6⟩ : ∃ z, z = (l4 + 1) := ⟨_, rfl⟩
      rw [← ex6]
      replace q := q x6 ex6
      refine m_istore (lv' := [.ref 8, .int l1, .int l2, .int l3, .int l4, .int x5, .int x6]) dX3_findCornersOf_56 (Nat.le_of_ble_eq_true rfl) rfl rfl ?_
      exact q
set_option maxRecDepth 100000 in
theorem r_X3_findCornersOf_58 {g : gT} {h : mh_T} {P : mh_T → Prop} (l1 : Int32) (l2 : Int32) (l3 : Int32) (l4 : Int32) (l5 : Int32) (l6 : Int32) (q : ((mI h 8 0) ≤ l6 → ME g uX3_findCornersOf 19 [.ref 8, .int l1, .int l2, .int l3, .int (l4 + 1), .retAddr 0, .retAddr 0] [] h (qV P)) ∧ (¬ (mI h 8 0) ≤ l6 → (((l5 >>> (l6 &&& 31)) &&& 1) = 0 → ME g uX3_findCornersOf 58 [.ref 8, .int l1, .int l2, .int l3, .int l4, .int l5, .int (l6 + 1)] [] h (qV P)) ∧ (¬ ((l5 >>> (l6 &&& 31)) &&& 1) = 0 → (400 ≤ (mI h 8 1) → ME g uX3_findCornersOf 58 [.ref 8, .int l1, .int l2, .int l3, .int l4, .int l5, .int (l6 + 1)] [] h (qV P)) ∧ (¬ 400 ≤ (mI h 8 1) → (vp_in (mI h 8 1) 400) ∧ (ME g uX3_findCornersOf 58 [.ref 8, .int l1, .int l2, .int l3, .int l4, .int l5, .int (l6 + 1)] [] (wI (wI h 33 (mI h 8 1).toNatClampNeg ((((1 <<< (l1 &&& 31)) ||| (1 <<< (l2 &&& 31))) ||| (1 <<< (l4 &&& 31))) ||| (1 <<< (l6 &&& 31)))) 8 1 ((mI (wI h 33 (mI h 8 1).toNatClampNeg ((((1 <<< (l1 &&& 31)) ||| (1 <<< (l2 &&& 31))) ||| (1 <<< (l4 &&& 31))) ||| (1 <<< (l6 &&& 31)))) 8 1) + 1)) (qV P)))))) : ME g uX3_findCornersOf 58 [.ref 8, .int l1, .int l2, .int l3, .int l4, .int l5, .int l6] [] h (qV P) := by
  refine m_iload dX3_findCornersOf_58 rfl ?_
  refine m_aload_n dX3_findCornersOf_60 rfl ?_
  refine gf_X3_24 rfl dX3_findCornersOf_61 ?_
  refine m_icmp_ge 129 dX3_findCornersOf_64 (by decide) (fun c1 => ?_) (fun c1 => ?_)
  · replace q := q.1 c1
    refine m_iinc (v := (l4 + 1)) (lv' := [.ref 8, .int l1, .int l2, .int l3, .int (l4 + 1), .int l5, .int l6]) dX3_findCornersOf_129 (Nat.le_of_ble_eq_true rfl) rfl (congrArg (fun z => l4 + z) (by decide : Int32.ofInt 1 = 1)) rfl rfl ?_
    refine m_goto 19 dX3_findCornersOf_132 (by decide) ?_
    refine m_dropK (lv' := [.ref 8, .int l1, .int l2, .int l3, .int (l4 + 1), .retAddr 0, .retAddr 0]) [5, 6] rfl ?_
    exact q
  · replace q := q.2 c1
    refine m_iload dX3_findCornersOf_67 rfl ?_
    refine m_iload dX3_findCornersOf_69 rfl ?_
    refine m_ishr dX3_findCornersOf_71 ?_
    refine m_iconst (v := 1) dX3_findCornersOf_72 (by decide) ?_
    refine m_iand dX3_findCornersOf_73 ?_
    refine m_if_eq 123 dX3_findCornersOf_74 (by decide) (fun c2 => ?_) (fun c2 => ?_)
    · replace q := q.1 c2
      refine m_iinc (v := (l6 + 1)) (lv' := [.ref 8, .int l1, .int l2, .int l3, .int l4, .int l5, .int (l6 + 1)]) dX3_findCornersOf_123 (Nat.le_of_ble_eq_true rfl) rfl (congrArg (fun z => l6 + z) (by decide : Int32.ofInt 1 = 1)) rfl rfl ?_
      refine m_goto 58 dX3_findCornersOf_126 (by decide) ?_
      exact q
    · replace q := q.2 c2
      refine m_aload_n dX3_findCornersOf_77 rfl ?_
      refine gf_X3_39 rfl dX3_findCornersOf_78 ?_
      refine m_sipush (v := 400) dX3_findCornersOf_81 (by decide) ?_
      refine m_icmp_ge 123 dX3_findCornersOf_84 (by decide) (fun c3 => ?_) (fun c3 => ?_)
      · replace q := q.1 c3
        refine m_iinc (v := (l6 + 1)) (lv' := [.ref 8, .int l1, .int l2, .int l3, .int l4, .int l5, .int (l6 + 1)]) dX3_findCornersOf_123 (Nat.le_of_ble_eq_true rfl) rfl (congrArg (fun z => l6 + z) (by decide : Int32.ofInt 1 = 1)) rfl rfl ?_
        refine m_goto 58 dX3_findCornersOf_126 (by decide) ?_
        exact q
      · replace q := q.2 c3
        refine m_aload_n dX3_findCornersOf_87 rfl ?_
        refine gf_X3_15 rfl dX3_findCornersOf_88 ?_
        refine m_aload_n dX3_findCornersOf_91 rfl ?_
        refine gf_X3_39 rfl dX3_findCornersOf_92 ?_
        refine m_iconst (v := 1) dX3_findCornersOf_95 (by decide) ?_
        refine m_iload_n dX3_findCornersOf_96 rfl ?_
        refine m_ishl dX3_findCornersOf_97 ?_
        refine m_iconst (v := 1) dX3_findCornersOf_98 (by decide) ?_
        refine m_iload_n dX3_findCornersOf_99 rfl ?_
        refine m_ishl dX3_findCornersOf_100 ?_
        refine m_ior dX3_findCornersOf_101 ?_
        refine m_iconst (v := 1) dX3_findCornersOf_102 (by decide) ?_
        refine m_iload dX3_findCornersOf_103 rfl ?_
        refine m_ishl dX3_findCornersOf_105 ?_
        refine m_ior dX3_findCornersOf_106 ?_
        refine m_iconst (v := 1) dX3_findCornersOf_107 (by decide) ?_
        refine m_iload dX3_findCornersOf_108 rfl ?_
        refine m_ishl dX3_findCornersOf_110 ?_
        refine m_ior dX3_findCornersOf_111 ?_
        obtain ⟨b4, q⟩ := q
        refine m_iastore dX3_findCornersOf_112 rfl (by decide) b4 ?_
        refine m_aload_n dX3_findCornersOf_113 rfl ?_
        refine m_dup dX3_findCornersOf_114 rfl ?_
        refine gf_X3_39 rfl dX3_findCornersOf_115 ?_
        refine m_iconst (v := 1) dX3_findCornersOf_118 (by decide) ?_
        refine m_iadd dX3_findCornersOf_119 ?_
        refine pf_X3_39 rfl dX3_findCornersOf_120 ?_
        refine m_iinc (v := (l6 + 1)) (lv' := [.ref 8, .int l1, .int l2, .int l3, .int l4, .int l5, .int (l6 + 1)]) dX3_findCornersOf_123 (Nat.le_of_ble_eq_true rfl) rfl (congrArg (fun z => l6 + z) (by decide : Int32.ofInt 1 = 1)) rfl rfl ?_
        refine m_goto 58 dX3_findCornersOf_126 (by decide) ?_
        exact q
set_option maxRecDepth 100000 in
theorem e_X3_work {g : gT} {h : mh_T} {P : mh_T → Prop}  (q : ((mI h 8 8) = 0 → ∀ x2 : Int32, x2 = ((1 <<< ((mI (wI h 8 8 1) 8 0) &&& 31)) - 1) → MCi g yX3_countColours uX3_countColours [.ref 8, .int x2] (wI h 8 8 1) (fun r4 h3 => ME g uX3_work 51 [.ref 8, .int x2, .int 0] [] (wI (wI (wI (wI h3 8 2 r4) 8 3 (mI (wI h3 8 2 r4) 8 11)) 8 4 0) 8 5 x2) (qV P))) ∧ (¬ (mI h 8 8) = 0 → P h)) : MCv g yX3_work uX3_work [.ref 8] h P := by
  refine m_enter (by decide) rfl (Nat.le_of_ble_eq_true rfl) (lv := [.ref 8, .retAddr 0, .retAddr 0]) rfl ?_
  refine m_aload_n dX3_work_0 rfl ?_
  refine gf_X3_25 rfl dX3_work_1 ?_
  refine m_if_eq 8 dX3_work_4 (by decide) (fun c1 => ?_) (fun c1 => ?_)
  · replace q := q.1 c1
    refine m_aload_n dX3_work_8 rfl ?_
    refine m_iconst (v := 1) dX3_work_9 (by decide) ?_
    refine pf_X3_25 rfl dX3_work_10 (by decide) ?_
    refine m_iconst (v := 1) dX3_work_13 (by decide) ?_
    refine m_aload_n dX3_work_14 rfl ?_
    refine gf_X3_24 rfl dX3_work_15 ?_
    refine m_ishl dX3_work_18 ?_
    refine m_iconst (v := 1) dX3_work_19 (by decide) ?_
    refine m_isub dX3_work_20 ?_
    obtain ⟨x2, ex2⟩ : ∃ z, z = ((1 <<< ((mI (wI h 8 8 1) 8 0) &&& 31)) - 1) := ⟨_, rfl⟩
    rw [← ex2]
    replace q := q x2 ex2
    refine m_istore_n (lv' := [.ref 8, .int x2, .retAddr 0]) dX3_work_21 (Nat.le_of_ble_eq_true rfl) rfl rfl ?_
    refine m_aload_n dX3_work_22 rfl ?_
    refine m_aload_n dX3_work_23 rfl ?_
    refine m_iload_n dX3_work_24 rfl ?_
    refine cl_X3_46 rfl (by decide) dX3_work_25 (Nat.le_of_ble_eq_true rfl) (MCi_go q (fun r4 h3 q => ?_))
    refine pf_X3_50 rfl dX3_work_28 ?_
    refine m_aload_n dX3_work_31 rfl ?_
    refine m_aload_n dX3_work_32 rfl ?_
    refine gf_X3_53 rfl dX3_work_33 ?_
    refine pf_X3_56 rfl dX3_work_36 ?_
    refine m_aload_n dX3_work_39 rfl ?_
    refine m_iconst (v := 0) dX3_work_40 (by decide) ?_
    refine pf_X3_59 rfl dX3_work_41 ?_
    refine m_aload_n dX3_work_44 rfl ?_
    refine m_iload_n dX3_work_45 rfl ?_
    refine pf_X3_62 rfl dX3_work_46 ?_
    refine m_iconst (v := 0) dX3_work_49 (by decide) ?_
    refine m_istore_n (lv' := [.ref 8, .int x2, .int 0]) dX3_work_50 (Nat.le_of_ble_eq_true rfl) rfl rfl ?_
    exact q
  · replace q := q.2 c1
    exact m_vret dX3_work_7 rfl q
set_option maxRecDepth 100000 in
theorem r_X3_work_51 {g : gT} {h : mh_T} {P : mh_T → Prop} (l1 : Int32) (l2 : Int32) (q : (¬ (mI h 8 2) = 0 → P h) ∧ ((mI h 8 2) = 0 → ((mI h 8 0) ≤ l2 → P h) ∧ (¬ (mI h 8 0) ≤ l2 → MCi g yX3_countColours uX3_countColours [.ref 8, .int (l1 &&& ((1 <<< (l2 &&& 31)) ^^^ (-1)))] h (fun r4 h3 => (¬ r4 = 0 → MCi g yX3_countColours uX3_countColours [.ref 8, .int ((mI h3 8 5) &&& ((1 <<< (l2 &&& 31)) ^^^ (-1)))] h3 (fun r7 h6 => (¬ r7 = 0 → ME g uX3_work 51 [.ref 8, .int l1, .int (l2 + 1)] [] h6 (qV P)) ∧ (r7 = 0 → ME g uX3_work 51 [.ref 8, .int l1, .int (l2 + 1)] [] (wI h6 8 5 ((mI h6 8 5) &&& ((1 <<< (l2 &&& 31)) ^^^ (-1)))) (qV P)))) ∧ (r4 = 0 → MCi g yX3_countColours uX3_countColours [.ref 8, .int ((mI (wI h3 8 4 ((mI h3 8 4) ||| (1 <<< (l2 &&& 31)))) 8 5) &&& ((1 <<< (l2 &&& 31)) ^^^ (-1)))] (wI h3 8 4 ((mI h3 8 4) ||| (1 <<< (l2 &&& 31)))) (fun r10 h9 => (¬ r10 = 0 → ME g uX3_work 51 [.ref 8, .int l1, .int (l2 + 1)] [] h9 (qV P)) ∧ (r10 = 0 → ME g uX3_work 51 [.ref 8, .int l1, .int (l2 + 1)] [] (wI h9 8 5 ((mI h9 8 5) &&& ((1 <<< (l2 &&& 31)) ^^^ (-1)))) (qV P)))))))) : ME g uX3_work 51 [.ref 8, .int l1, .int l2] [] h (qV P) := by
  refine m_aload_n dX3_work_51 rfl ?_
  refine gf_X3_50 rfl dX3_work_52 ?_
  refine m_if_ne 129 dX3_work_55 (by decide) (fun c1 => ?_) (fun c1 => ?_)
  · replace q := q.1 c1
    exact m_vret dX3_work_129 rfl q
  · replace q := q.2 c1
    refine m_iload_n dX3_work_58 rfl ?_
    refine m_aload_n dX3_work_59 rfl ?_
    refine gf_X3_24 rfl dX3_work_60 ?_
    refine m_icmp_ge 129 dX3_work_63 (by decide) (fun c2 => ?_) (fun c2 => ?_)
    · replace q := q.1 c2
      exact m_vret dX3_work_129 rfl q
    · replace q := q.2 c2
      refine m_aload_n dX3_work_66 rfl ?_
      refine m_iload_n dX3_work_67 rfl ?_
      refine m_iconst (v := 1) dX3_work_68 (by decide) ?_
      refine m_iload_n dX3_work_69 rfl ?_
      refine m_ishl dX3_work_70 ?_
      refine m_iconst (v := (-1)) dX3_work_71 (by decide) ?_
      refine m_ixor dX3_work_72 ?_
      refine m_iand dX3_work_73 ?_
      refine cl_X3_46 rfl (by decide) dX3_work_74 (Nat.le_of_ble_eq_true rfl) (MCi_go q (fun r4 h3 q => ?_))
      refine m_if_ne 92 dX3_work_77 (by decide) (fun c5 => ?_) (fun c5 => ?_)
      · replace q := q.1 c5
        refine m_aload_n dX3_work_92 rfl ?_
        refine m_aload_n dX3_work_93 rfl ?_
        refine gf_X3_62 rfl dX3_work_94 ?_
        refine m_iconst (v := 1) dX3_work_97 (by decide) ?_
        refine m_iload_n dX3_work_98 rfl ?_
        refine m_ishl dX3_work_99 ?_
        refine m_iconst (v := (-1)) dX3_work_100 (by decide) ?_
        refine m_ixor dX3_work_101 ?_
        refine m_iand dX3_work_102 ?_
        refine cl_X3_46 rfl (by decide) dX3_work_103 (Nat.le_of_ble_eq_true rfl) (MCi_go q (fun r7 h6 q => ?_))
        refine m_if_ne 123 dX3_work_106 (by decide) (fun c8 => ?_) (fun c8 => ?_)
        · replace q := q.1 c8
          refine m_iinc (v := (l2 + 1)) (lv' := [.ref 8, .int l1, .int (l2 + 1)]) dX3_work_123 (Nat.le_of_ble_eq_true rfl) rfl (congrArg (fun z => l2 + z) (by decide : Int32.ofInt 1 = 1)) rfl rfl ?_
          refine m_goto 51 dX3_work_126 (by decide) ?_
          exact q
        · replace q := q.2 c8
          refine m_aload_n dX3_work_109 rfl ?_
          refine m_dup dX3_work_110 rfl ?_
          refine gf_X3_62 rfl dX3_work_111 ?_
          refine m_iconst (v := 1) dX3_work_114 (by decide) ?_
          refine m_iload_n dX3_work_115 rfl ?_
          refine m_ishl dX3_work_116 ?_
          refine m_iconst (v := (-1)) dX3_work_117 (by decide) ?_
          refine m_ixor dX3_work_118 ?_
          refine m_iand dX3_work_119 ?_
          refine pf_X3_62 rfl dX3_work_120 ?_
          refine m_iinc (v := (l2 + 1)) (lv' := [.ref 8, .int l1, .int (l2 + 1)]) dX3_work_123 (Nat.le_of_ble_eq_true rfl) rfl (congrArg (fun z => l2 + z) (by decide : Int32.ofInt 1 = 1)) rfl rfl ?_
          refine m_goto 51 dX3_work_126 (by decide) ?_
          exact q
      · replace q := q.2 c5
        refine m_aload_n dX3_work_80 rfl ?_
        refine m_dup dX3_work_81 rfl ?_
        refine gf_X3_59 rfl dX3_work_82 ?_
        refine m_iconst (v := 1) dX3_work_85 (by decide) ?_
        refine m_iload_n dX3_work_86 rfl ?_
        refine m_ishl dX3_work_87 ?_
        refine m_ior dX3_work_88 ?_
        refine pf_X3_59 rfl dX3_work_89 ?_
        refine m_aload_n dX3_work_92 rfl ?_
        refine m_aload_n dX3_work_93 rfl ?_
        refine gf_X3_62 rfl dX3_work_94 ?_
        refine m_iconst (v := 1) dX3_work_97 (by decide) ?_
        refine m_iload_n dX3_work_98 rfl ?_
        refine m_ishl dX3_work_99 ?_
        refine m_iconst (v := (-1)) dX3_work_100 (by decide) ?_
        refine m_ixor dX3_work_101 ?_
        refine m_iand dX3_work_102 ?_
        refine cl_X3_46 rfl (by decide) dX3_work_103 (Nat.le_of_ble_eq_true rfl) (MCi_go q (fun r10 h9 q => ?_))
        refine m_if_ne 123 dX3_work_106 (by decide) (fun c11 => ?_) (fun c11 => ?_)
        · replace q := q.1 c11
          refine m_iinc (v := (l2 + 1)) (lv' := [.ref 8, .int l1, .int (l2 + 1)]) dX3_work_123 (Nat.le_of_ble_eq_true rfl) rfl (congrArg (fun z => l2 + z) (by decide : Int32.ofInt 1 = 1)) rfl rfl ?_
          refine m_goto 51 dX3_work_126 (by decide) ?_
          exact q
        · replace q := q.2 c11
          refine m_aload_n dX3_work_109 rfl ?_
          refine m_dup dX3_work_110 rfl ?_
          refine gf_X3_62 rfl dX3_work_111 ?_
          refine m_iconst (v := 1) dX3_work_114 (by decide) ?_
          refine m_iload_n dX3_work_115 rfl ?_
          refine m_ishl dX3_work_116 ?_
          refine m_iconst (v := (-1)) dX3_work_117 (by decide) ?_
          refine m_ixor dX3_work_118 ?_
          refine m_iand dX3_work_119 ?_
          refine pf_X3_62 rfl dX3_work_120 ?_
          refine m_iinc (v := (l2 + 1)) (lv' := [.ref 8, .int l1, .int (l2 + 1)]) dX3_work_123 (Nat.le_of_ble_eq_true rfl) rfl (congrArg (fun z => l2 + z) (by decide : Int32.ofInt 1 = 1)) rfl rfl ?_
          refine m_goto 51 dX3_work_126 (by decide) ?_
          exact q
set_option maxRecDepth 100000 in
theorem e_X3_countColours {g : gT} {h : mh_T} {P : Int32 → mh_T → Prop} (l1 : Int32) (q : MCv g yX3_colour (uX3_colour 30) [.ref 8, .int l1, .int 0, .int 0] (wI (wI (wI h 8 9 l1) 8 10 0) 8 11 0) (fun h1 => P (mI h1 8 10) h1)) : MCi g yX3_countColours uX3_countColours [.ref 8, .int l1] h P := by
  refine m_enter (by decide) rfl (Nat.le_of_ble_eq_true rfl) (lv := [.ref 8, .int l1]) rfl ?_
  refine m_aload_n dX3_countColours_0 rfl ?_
  refine m_iload_n dX3_countColours_1 rfl ?_
  refine pf_X3_65 rfl dX3_countColours_2 ?_
  refine m_aload_n dX3_countColours_5 rfl ?_
  refine m_iconst (v := 0) dX3_countColours_6 (by decide) ?_
  refine pf_X3_68 rfl dX3_countColours_7 ?_
  refine m_aload_n dX3_countColours_10 rfl ?_
  refine m_iconst (v := 0) dX3_countColours_11 (by decide) ?_
  refine pf_X3_53 rfl dX3_countColours_12 ?_
  refine m_aload_n dX3_countColours_15 rfl ?_
  refine m_iload_n dX3_countColours_16 rfl ?_
  refine m_iconst (v := 0) dX3_countColours_17 (by decide) ?_
  refine m_iconst (v := 0) dX3_countColours_18 (by decide) ?_
  refine cl_X3_71 rfl (by decide) dX3_countColours_19 (Nat.le_of_ble_eq_true rfl) (MCv_go q (fun h1 q => ?_))
  refine m_aload_n dX3_countColours_22 rfl ?_
  refine gf_X3_68 rfl dX3_countColours_23 ?_
  exact m_iret dX3_countColours_26 rfl q
set_option maxRecDepth 100000 in
theorem e_X3_colour {g : gT} {h : mh_T} {K : Nat} {P : mh_T → Prop} (l1 : Int32) (l2 : Int32) (l3 : Int32) (q : (l3 ≤ 18 → (2 < K + 1) ∧ (MCi g yX3_mostMet uX3_mostMet [.ref 8, .int l1] h (fun r4 h2 => ME g (uX3_colour (K + 1)) 17 [.ref 8, .int l1, .int l2, .int l3, .int r4, .int 0, .retAddr 0, .retAddr 0, .retAddr 0] [] h2 (qV P)))) ∧ (¬ l3 ≤ 18 → P h)) : MCv g yX3_colour (uX3_colour (K + 1)) [.ref 8, .int l1, .int l2, .int l3] h P := by
  refine m_enter (by decide) rfl (Nat.le_of_ble_eq_true rfl) (lv := [.ref 8, .int l1, .int l2, .int l3, .retAddr 0, .retAddr 0, .retAddr 0, .retAddr 0, .retAddr 0]) rfl ?_
  refine m_iload_n dX3_colour_0 rfl ?_
  refine m_bipush (v := 18) dX3_colour_1 (by decide) ?_
  refine m_icmp_le 7 dX3_colour_3 (by decide) (fun c1 => ?_) (fun c1 => ?_)
  · replace q := q.1 c1
    refine m_aload_n dX3_colour_7 rfl ?_
    refine m_iload_n dX3_colour_8 rfl ?_
    obtain ⟨b3, q⟩ := q
    refine cl_X3_75 rfl b3 dX3_colour_9 (Nat.le_of_ble_eq_true rfl) (MCi_go q (fun r4 h2 q => ?_))
    refine m_istore (lv' := [.ref 8, .int l1, .int l2, .int l3, .int r4, .retAddr 0, .retAddr 0, .retAddr 0, .retAddr 0]) dX3_colour_12 (Nat.le_of_ble_eq_true rfl) rfl rfl ?_
    refine m_iconst (v := 0) dX3_colour_14 (by decide) ?_
    refine m_istore (lv' := [.ref 8, .int l1, .int l2, .int l3, .int r4, .int 0, .retAddr 0, .retAddr 0, .retAddr 0]) dX3_colour_15 (Nat.le_of_ble_eq_true rfl) rfl rfl ?_
    exact q
  · replace q := q.2 c1
    exact m_vret dX3_colour_6 rfl q
set_option maxRecDepth 100000 in
theorem r_X3_colour_17 {g : gT} {h : mh_T} {K : Nat} {P : mh_T → Prop} (l1 : Int32) (l2 : Int32) (l3 : Int32) (l4 : Int32) (l5 : Int32) (q : ((mI h 8 1) ≤ l5 → (0 ≤ l4 → (vp_in l4 18) ∧ (MCv g yX3_colour (uX3_colour K) [.ref 8, .int ((l1 &&& ((1 <<< (l4 &&& 31)) ^^^ (-1))) &&& ((mI h 32 l4.toNatClampNeg) ^^^ (-1))), .int (l2 ||| (1 <<< (l4 &&& 31))), .int (l3 + 1)] h (fun h4 => MCv g yX3_colour (uX3_colour K) [.ref 8, .int (l1 &&& ((1 <<< (l4 &&& 31)) ^^^ (-1))), .int l2, .int (l3 + 1)] h4 (fun h5 => P h5)))) ∧ (¬ 0 ≤ l4 → (1 < K + 1) ∧ (MCi g yJ6_bitCount_0f7a4 uJ6_bitCount_0f7a4 [.int l1] h (fun r8 h6 => (1 < K + 1) ∧ (MCi g yJ6_bitCount_0f7a4 uJ6_bitCount_0f7a4 [.int l2] (wI h6 8 10 ((mI h6 8 10) + (1 <<< (r8 &&& 31)))) (fun r11 h9 => P (wI h9 8 11 (if (mI (wI h6 8 10 ((mI h6 8 10) + (1 <<< (r8 &&& 31)))) 8 11) < (r11 + r8) then (r11 + r8) else (mI (wI h6 8 10 ((mI h6 8 10) + (1 <<< (r8 &&& 31)))) 8 11))))))))) ∧ (¬ (mI h 8 1) ≤ l5 → (vp_in l5 400) ∧ (∀ x13 : Int32, x13 = (mI h 33 l5.toNatClampNeg) → (¬ (x13 &&& ((mI h 8 9) ^^^ (-1))) = 0 → ME g (uX3_colour (K + 1)) 17 [.ref 8, .int l1, .int l2, .int l3, .int l4, .int (l5 + 1), .retAddr 0, .retAddr 0, .retAddr 0] [] h (qV P)) ∧ ((x13 &&& ((mI h 8 9) ^^^ (-1))) = 0 → (¬ (x13 &&& l2) = 0 → ME g (uX3_colour (K + 1)) 17 [.ref 8, .int l1, .int l2, .int l3, .int l4, .int (l5 + 1), .retAddr 0, .retAddr 0, .retAddr 0] [] h (qV P)) ∧ ((x13 &&& l2) = 0 → (1 < K + 1) ∧ (MCi g yJ6_bitCount_0f7a4 uJ6_bitCount_0f7a4 [.int (x13 &&& l1)] h (fun r18 h16 => (¬ r18 = 0 → (¬ r18 = 1 → ME g (uX3_colour (K + 1)) 17 [.ref 8, .int l1, .int l2, .int l3, .int l4, .int (l5 + 1), .retAddr 0, .retAddr 0, .retAddr 0] [] h16 (qV P)) ∧ (r18 = 1 → ∀ x21 : Int32, x21 = (x13 &&& l1) → (1 < K + 1) ∧ (MCi g yX10_bitAt uX10_bitAt [.int x21, .int 0] h16 (fun r24 h22 => (vp_in r24 18) ∧ (MCv g yX3_colour (uX3_colour K) [.ref 8, .int ((l1 &&& (x21 ^^^ (-1))) &&& ((mI h22 32 r24.toNatClampNeg) ^^^ (-1))), .int (l2 ||| x21), .int (l3 + 1)] h22 (fun h26 => P h26)))))) ∧ (r18 = 0 → P h16)))))))) : ME g (uX3_colour (K + 1)) 17 [.ref 8, .int l1, .int l2, .int l3, .int l4, .int l5, .retAddr 0, .retAddr 0, .retAddr 0] [] h (qV P) := by
  refine m_iload dX3_colour_17 rfl ?_
  refine m_aload_n dX3_colour_19 rfl ?_
  refine gf_X3_39 rfl dX3_colour_20 ?_
  refine m_icmp_ge 119 dX3_colour_23 (by decide) (fun c1 => ?_) (fun c1 => ?_)
  · replace q := q.1 c1
    refine m_iload dX3_colour_119 rfl ?_
    refine m_if_ge 162 dX3_colour_121 (by decide) (fun c2 => ?_) (fun c2 => ?_)
    · replace q := q.1 c2
      refine m_aload_n dX3_colour_162 rfl ?_
      refine m_iload_n dX3_colour_163 rfl ?_
      refine m_iconst (v := 1) dX3_colour_164 (by decide) ?_
      refine m_iload dX3_colour_165 rfl ?_
      refine m_ishl dX3_colour_167 ?_
      refine m_iconst (v := (-1)) dX3_colour_168 (by decide) ?_
      refine m_ixor dX3_colour_169 ?_
      refine m_iand dX3_colour_170 ?_
      refine m_aload_n dX3_colour_171 rfl ?_
      refine gf_X3_9 rfl dX3_colour_172 ?_
      refine m_iload dX3_colour_175 rfl ?_
      obtain ⟨b3, q⟩ := q
      refine m_iaload dX3_colour_177 rfl (by decide) b3 ?_
      refine m_iconst (v := (-1)) dX3_colour_178 (by decide) ?_
      refine m_ixor dX3_colour_179 ?_
      refine m_iand dX3_colour_180 ?_
      refine m_iload_n dX3_colour_181 rfl ?_
      refine m_iconst (v := 1) dX3_colour_182 (by decide) ?_
      refine m_iload dX3_colour_183 rfl ?_
      refine m_ishl dX3_colour_185 ?_
      refine m_ior dX3_colour_186 ?_
      refine m_iload_n dX3_colour_187 rfl ?_
      refine m_iconst (v := 1) dX3_colour_188 (by decide) ?_
      refine m_iadd dX3_colour_189 ?_
      refine cl_X3_71 rfl (Nat.lt_succ_self K) dX3_colour_190 (Nat.le_of_ble_eq_true rfl) (MCv_go q (fun h4 q => ?_))
      refine m_aload_n dX3_colour_193 rfl ?_
      refine m_iload_n dX3_colour_194 rfl ?_
      refine m_iconst (v := 1) dX3_colour_195 (by decide) ?_
      refine m_iload dX3_colour_196 rfl ?_
      refine m_ishl dX3_colour_198 ?_
      refine m_iconst (v := (-1)) dX3_colour_199 (by decide) ?_
      refine m_ixor dX3_colour_200 ?_
      refine m_iand dX3_colour_201 ?_
      refine m_iload_n dX3_colour_202 rfl ?_
      refine m_iload_n dX3_colour_203 rfl ?_
      refine m_iconst (v := 1) dX3_colour_204 (by decide) ?_
      refine m_iadd dX3_colour_205 ?_
      refine cl_X3_71 rfl (Nat.lt_succ_self K) dX3_colour_206 (Nat.le_of_ble_eq_true rfl) (MCv_go q (fun h5 q => ?_))
      exact m_vret dX3_colour_209 rfl q
    · replace q := q.2 c2
      refine m_iload_n dX3_colour_124 rfl ?_
      obtain ⟨b7, q⟩ := q
      refine cl_X3_78 rfl b7 dX3_colour_125 (Nat.le_of_ble_eq_true rfl) (MCi_go q (fun r8 h6 q => ?_))
      refine m_istore (lv' := [.ref 8, .int l1, .int l2, .int l3, .int l4, .int r8, .retAddr 0, .retAddr 0, .retAddr 0]) dX3_colour_128 (Nat.le_of_ble_eq_true rfl) rfl rfl ?_
      refine m_aload_n dX3_colour_130 rfl ?_
      refine m_dup dX3_colour_131 rfl ?_
      refine gf_X3_68 rfl dX3_colour_132 ?_
      refine m_iconst (v := 1) dX3_colour_135 (by decide) ?_
      refine m_iload dX3_colour_136 rfl ?_
      refine m_ishl dX3_colour_138 ?_
      refine m_iadd dX3_colour_139 ?_
      refine pf_X3_68 rfl dX3_colour_140 ?_
      refine m_aload_n dX3_colour_143 rfl ?_
      refine m_aload_n dX3_colour_144 rfl ?_
      refine gf_X3_53 rfl dX3_colour_145 ?_
      refine m_iload_n dX3_colour_148 rfl ?_
      obtain ⟨b10, q⟩ := q
      refine cl_X3_78 rfl b10 dX3_colour_149 (Nat.le_of_ble_eq_true rfl) (MCi_go q (fun r11 h9 q => ?_))
      refine m_iload dX3_colour_152 rfl ?_
      refine m_iadd dX3_colour_154 ?_
      refine m_mmax dX3_colour_155 tw_199 tw_158 tw_128 tw_159 (Nat.succ_pos K) (Nat.le_of_ble_eq_true rfl) ?_
      refine pf_X3_53 rfl dX3_colour_158 ?_
      exact m_vret dX3_colour_161 rfl q
  · replace q := q.2 c1
    refine m_aload_n dX3_colour_26 rfl ?_
    refine gf_X3_15 rfl dX3_colour_27 ?_
    refine m_iload dX3_colour_30 rfl ?_
    obtain ⟨b12, q⟩ := q
    refine m_iaload dX3_colour_32 rfl (by decide) b12 ?_
    obtain ⟨x13, ex13⟩ : ∃ z, z = (mI h 33 l5.toNatClampNeg) := ⟨_, rfl⟩
    rw [← ex13]
    replace q := q x13 ex13
    refine m_istore (lv' := [.ref 8, .int l1, .int l2, .int l3, .int l4, .int l5, .int x13, .retAddr 0, .retAddr 0]) dX3_colour_33 (Nat.le_of_ble_eq_true rfl) rfl rfl ?_
    refine m_iload dX3_colour_35 rfl ?_
    refine m_aload_n dX3_colour_37 rfl ?_
    refine gf_X3_65 rfl dX3_colour_38 ?_
    refine m_iconst (v := (-1)) dX3_colour_41 (by decide) ?_
    refine m_ixor dX3_colour_42 ?_
    refine m_iand dX3_colour_43 ?_
    refine m_if_ne 113 dX3_colour_44 (by decide) (fun c14 => ?_) (fun c14 => ?_)
    · replace q := q.1 c14
      refine m_iinc (v := (l5 + 1)) (lv' := [.ref 8, .int l1, .int l2, .int l3, .int l4, .int (l5 + 1), .int x13, .retAddr 0, .retAddr 0]) dX3_colour_113 (Nat.le_of_ble_eq_true rfl) rfl (congrArg (fun z => l5 + z) (by decide : Int32.ofInt 1 = 1)) rfl rfl ?_
      refine m_goto 17 dX3_colour_116 (by decide) ?_
      refine m_dropK (lv' := [.ref 8, .int l1, .int l2, .int l3, .int l4, .int (l5 + 1), .retAddr 0, .retAddr 0, .retAddr 0]) [6] rfl ?_
      exact q
    · replace q := q.2 c14
      refine m_iload dX3_colour_47 rfl ?_
      refine m_iload_n dX3_colour_49 rfl ?_
      refine m_iand dX3_colour_50 ?_
      refine m_if_ne 113 dX3_colour_51 (by decide) (fun c15 => ?_) (fun c15 => ?_)
      · replace q := q.1 c15
        refine m_iinc (v := (l5 + 1)) (lv' := [.ref 8, .int l1, .int l2, .int l3, .int l4, .int (l5 + 1), .int x13, .retAddr 0, .retAddr 0]) dX3_colour_113 (Nat.le_of_ble_eq_true rfl) rfl (congrArg (fun z => l5 + z) (by decide : Int32.ofInt 1 = 1)) rfl rfl ?_
        refine m_goto 17 dX3_colour_116 (by decide) ?_
        refine m_dropK (lv' := [.ref 8, .int l1, .int l2, .int l3, .int l4, .int (l5 + 1), .retAddr 0, .retAddr 0, .retAddr 0]) [6] rfl ?_
        exact q
      · replace q := q.2 c15
        refine m_iload dX3_colour_54 rfl ?_
        refine m_iload_n dX3_colour_56 rfl ?_
        refine m_iand dX3_colour_57 ?_
        obtain ⟨b17, q⟩ := q
        refine cl_X3_78 rfl b17 dX3_colour_58 (Nat.le_of_ble_eq_true rfl) (MCi_go q (fun r18 h16 q => ?_))
        refine m_istore (lv' := [.ref 8, .int l1, .int l2, .int l3, .int l4, .int l5, .int x13, .int r18, .retAddr 0]) dX3_colour_61 (Nat.le_of_ble_eq_true rfl) rfl rfl ?_
        refine m_iload dX3_colour_63 rfl ?_
        refine m_if_ne 69 dX3_colour_65 (by decide) (fun c19 => ?_) (fun c19 => ?_)
        · replace q := q.1 c19
          refine m_iload dX3_colour_69 rfl ?_
          refine m_iconst (v := 1) dX3_colour_71 (by decide) ?_
          refine m_icmp_ne 113 dX3_colour_72 (by decide) (fun c20 => ?_) (fun c20 => ?_)
          · replace q := q.1 c20
            refine m_iinc (v := (l5 + 1)) (lv' := [.ref 8, .int l1, .int l2, .int l3, .int l4, .int (l5 + 1), .int x13, .int r18, .retAddr 0]) dX3_colour_113 (Nat.le_of_ble_eq_true rfl) rfl (congrArg (fun z => l5 + z) (by decide : Int32.ofInt 1 = 1)) rfl rfl ?_
            refine m_goto 17 dX3_colour_116 (by decide) ?_
            refine m_dropK (lv' := [.ref 8, .int l1, .int l2, .int l3, .int l4, .int (l5 + 1), .retAddr 0, .retAddr 0, .retAddr 0]) [6, 7] rfl ?_
            exact q
          · replace q := q.2 c20
            refine m_iload dX3_colour_75 rfl ?_
            refine m_iload_n dX3_colour_77 rfl ?_
            refine m_iand dX3_colour_78 ?_
            obtain ⟨x21, ex21⟩ : ∃ z, z = (x13 &&& l1) := ⟨_, rfl⟩
            rw [← ex21]
            replace q := q x21 ex21
            refine m_istore (lv' := [.ref 8, .int l1, .int l2, .int l3, .int l4, .int l5, .int x13, .int r18, .int x21]) dX3_colour_79 (Nat.le_of_ble_eq_true rfl) rfl rfl ?_
            refine m_aload_n dX3_colour_81 rfl ?_
            refine m_iload_n dX3_colour_82 rfl ?_
            refine m_iload dX3_colour_83 rfl ?_
            refine m_iconst (v := (-1)) dX3_colour_85 (by decide) ?_
            refine m_ixor dX3_colour_86 ?_
            refine m_iand dX3_colour_87 ?_
            refine m_aload_n dX3_colour_88 rfl ?_
            refine gf_X3_9 rfl dX3_colour_89 ?_
            refine m_iload dX3_colour_92 rfl ?_
            refine m_iconst (v := 0) dX3_colour_94 (by decide) ?_
            obtain ⟨b23, q⟩ := q
            refine cl_X3_83 rfl b23 dX3_colour_95 (Nat.le_of_ble_eq_true rfl) (MCi_go q (fun r24 h22 q => ?_))
            obtain ⟨b25, q⟩ := q
            refine m_iaload dX3_colour_98 rfl (by decide) b25 ?_
            refine m_iconst (v := (-1)) dX3_colour_99 (by decide) ?_
            refine m_ixor dX3_colour_100 ?_
            refine m_iand dX3_colour_101 ?_
            refine m_iload_n dX3_colour_102 rfl ?_
            refine m_iload dX3_colour_103 rfl ?_
            refine m_ior dX3_colour_105 ?_
            refine m_iload_n dX3_colour_106 rfl ?_
            refine m_iconst (v := 1) dX3_colour_107 (by decide) ?_
            refine m_iadd dX3_colour_108 ?_
            refine cl_X3_71 rfl (Nat.lt_succ_self K) dX3_colour_109 (Nat.le_of_ble_eq_true rfl) (MCv_go q (fun h26 q => ?_))
            exact m_vret dX3_colour_112 rfl q
        · replace q := q.2 c19
          exact m_vret dX3_colour_68 rfl q
set_option maxRecDepth 100000 in
theorem e_X3_mostMet {g : gT} {h : mh_T} {P : Int32 → mh_T → Prop} (l1 : Int32) (q : ME g uX3_mostMet 7 [.ref 8, .int l1, .int (-1), .int 0, .int 0] [] h (qI P)) : MCi g yX3_mostMet uX3_mostMet [.ref 8, .int l1] h P := by
  refine m_enter (by decide) rfl (Nat.le_of_ble_eq_true rfl) (lv := [.ref 8, .int l1, .retAddr 0, .retAddr 0, .retAddr 0]) rfl ?_
  refine m_iconst (v := (-1)) dX3_mostMet_0 (by decide) ?_
  refine m_istore_n (lv' := [.ref 8, .int l1, .int (-1), .retAddr 0, .retAddr 0]) dX3_mostMet_1 (Nat.le_of_ble_eq_true rfl) rfl rfl ?_
  refine m_iconst (v := 0) dX3_mostMet_2 (by decide) ?_
  refine m_istore_n (lv' := [.ref 8, .int l1, .int (-1), .int 0, .retAddr 0]) dX3_mostMet_3 (Nat.le_of_ble_eq_true rfl) rfl rfl ?_
  refine m_iconst (v := 0) dX3_mostMet_4 (by decide) ?_
  refine m_istore (lv' := [.ref 8, .int l1, .int (-1), .int 0, .int 0]) dX3_mostMet_5 (Nat.le_of_ble_eq_true rfl) rfl rfl ?_
  exact q
set_option maxRecDepth 100000 in
theorem r_X3_mostMet_7 {g : gT} {h : mh_T} {P : Int32 → mh_T → Prop} (l1 : Int32) (l2 : Int32) (l3 : Int32) (l4 : Int32) (q : ((mI h 8 0) ≤ l4 → P l2 h) ∧ (¬ (mI h 8 0) ≤ l4 → (((l1 >>> (l4 &&& 31)) &&& 1) = 0 → ME g uX3_mostMet 7 [.ref 8, .int l1, .int l2, .int l3, .int (l4 + 1)] [] h (qI P)) ∧ (¬ ((l1 >>> (l4 &&& 31)) &&& 1) = 0 → (vp_in l4 18) ∧ (MCi g yJ6_bitCount_0f7a4 uJ6_bitCount_0f7a4 [.int (l1 &&& (mI h 32 l4.toNatClampNeg))] h (fun r5 h4 => (r5 ≤ l3 → ME g uX3_mostMet 7 [.ref 8, .int l1, .int l2, .int l3, .int (l4 + 1)] [] h4 (qI P)) ∧ (¬ r5 ≤ l3 → (vp_in l4 18) ∧ (MCi g yJ6_bitCount_0f7a4 uJ6_bitCount_0f7a4 [.int (l1 &&& (mI h4 32 l4.toNatClampNeg))] h4 (fun r9 h8 => ME g uX3_mostMet 7 [.ref 8, .int l1, .int l4, .int r9, .int (l4 + 1)] [] h8 (qI P))))))))) : ME g uX3_mostMet 7 [.ref 8, .int l1, .int l2, .int l3, .int l4] [] h (qI P) := by
  refine m_iload dX3_mostMet_7 rfl ?_
  refine m_aload_n dX3_mostMet_9 rfl ?_
  refine gf_X3_24 rfl dX3_mostMet_10 ?_
  refine m_icmp_ge 63 dX3_mostMet_13 (by decide) (fun c1 => ?_) (fun c1 => ?_)
  · replace q := q.1 c1
    refine m_iload_n dX3_mostMet_63 rfl ?_
    exact m_iret dX3_mostMet_64 rfl q
  · replace q := q.2 c1
    refine m_iload_n dX3_mostMet_16 rfl ?_
    refine m_iload dX3_mostMet_17 rfl ?_
    refine m_ishr dX3_mostMet_19 ?_
    refine m_iconst (v := 1) dX3_mostMet_20 (by decide) ?_
    refine m_iand dX3_mostMet_21 ?_
    refine m_if_eq 57 dX3_mostMet_22 (by decide) (fun c2 => ?_) (fun c2 => ?_)
    · replace q := q.1 c2
      refine m_iinc (v := (l4 + 1)) (lv' := [.ref 8, .int l1, .int l2, .int l3, .int (l4 + 1)]) dX3_mostMet_57 (Nat.le_of_ble_eq_true rfl) rfl (congrArg (fun z => l4 + z) (by decide : Int32.ofInt 1 = 1)) rfl rfl ?_
      refine m_goto 7 dX3_mostMet_60 (by decide) ?_
      exact q
    · replace q := q.2 c2
      refine m_iload_n dX3_mostMet_25 rfl ?_
      refine m_aload_n dX3_mostMet_26 rfl ?_
      refine gf_X3_9 rfl dX3_mostMet_27 ?_
      refine m_iload dX3_mostMet_30 rfl ?_
      obtain ⟨b3, q⟩ := q
      refine m_iaload dX3_mostMet_32 rfl (by decide) b3 ?_
      refine m_iand dX3_mostMet_33 ?_
      refine cl_X3_78 rfl (by decide) dX3_mostMet_34 (Nat.le_of_ble_eq_true rfl) (MCi_go q (fun r5 h4 q => ?_))
      refine m_iload_n dX3_mostMet_37 rfl ?_
      refine m_icmp_le 57 dX3_mostMet_38 (by decide) (fun c6 => ?_) (fun c6 => ?_)
      · replace q := q.1 c6
        refine m_iinc (v := (l4 + 1)) (lv' := [.ref 8, .int l1, .int l2, .int l3, .int (l4 + 1)]) dX3_mostMet_57 (Nat.le_of_ble_eq_true rfl) rfl (congrArg (fun z => l4 + z) (by decide : Int32.ofInt 1 = 1)) rfl rfl ?_
        refine m_goto 7 dX3_mostMet_60 (by decide) ?_
        exact q
      · replace q := q.2 c6
        refine m_iload dX3_mostMet_41 rfl ?_
        refine m_istore_n (lv' := [.ref 8, .int l1, .int l4, .int l3, .int l4]) dX3_mostMet_43 (Nat.le_of_ble_eq_true rfl) rfl rfl ?_
        refine m_iload_n dX3_mostMet_44 rfl ?_
        refine m_aload_n dX3_mostMet_45 rfl ?_
        refine gf_X3_9 rfl dX3_mostMet_46 ?_
        refine m_iload dX3_mostMet_49 rfl ?_
        obtain ⟨b7, q⟩ := q
        refine m_iaload dX3_mostMet_51 rfl (by decide) b7 ?_
        refine m_iand dX3_mostMet_52 ?_
        refine cl_X3_78 rfl (by decide) dX3_mostMet_53 (Nat.le_of_ble_eq_true rfl) (MCi_go q (fun r9 h8 q => ?_))
        refine m_istore_n (lv' := [.ref 8, .int l1, .int l4, .int r9, .int l4]) dX3_mostMet_56 (Nat.le_of_ble_eq_true rfl) rfl rfl ?_
        refine m_iinc (v := (l4 + 1)) (lv' := [.ref 8, .int l1, .int l4, .int r9, .int (l4 + 1)]) dX3_mostMet_57 (Nat.le_of_ble_eq_true rfl) rfl (congrArg (fun z => l4 + z) (by decide : Int32.ofInt 1 = 1)) rfl rfl ?_
        refine m_goto 7 dX3_mostMet_60 (by decide) ?_
        exact q
