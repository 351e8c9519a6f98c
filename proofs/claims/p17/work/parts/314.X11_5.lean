set_option maxRecDepth 100000 in
theorem e_X11_corners {g : gT} {h : mh_T} {P : Int32 → mh_T → Prop}  (q : MCv g yX11_good uX11_good [.ref 11] h (fun h1 => (¬ (mI h1 11 14) = 0 → MCv g yX11_layCorners uX11_layCorners [.ref 11] h1 (fun h3 => P (mI h3 11 34) h3)) ∧ ((mI h1 11 14) = 0 → MCi g yX11_no uX11_no [.ref 11, .int 1] h1 (fun r5 h4 => P r5 h4)))) : MCi g yX11_corners uX11_corners [.ref 11] h P := by
  refine m_enter (by decide) rfl (Nat.le_of_ble_eq_true rfl) (lv := [.ref 11]) rfl ?_
  refine m_aload_n dX11_corners_0 rfl ?_
  refine cl_X11_174 rfl (by decide) dX11_corners_1 (Nat.le_of_ble_eq_true rfl) (MCv_go q (fun h1 q => ?_))
  refine m_aload_n dX11_corners_4 rfl ?_
  refine gf_X11_183 rfl dX11_corners_5 ?_
  refine m_if_ne 17 dX11_corners_8 (by decide) (fun c2 => ?_) (fun c2 => ?_)
  · replace q := q.1 c2
    refine m_aload_n dX11_corners_17 rfl ?_
    refine cl_X11_366 rfl (by decide) dX11_corners_18 (Nat.le_of_ble_eq_true rfl) (MCv_go q (fun h3 q => ?_))
    refine m_aload_n dX11_corners_21 rfl ?_
    refine gf_X11_363 rfl dX11_corners_22 ?_
    exact m_iret dX11_corners_25 rfl q
  · replace q := q.2 c2
    refine m_aload_n dX11_corners_11 rfl ?_
    refine m_iconst (v := 1) dX11_corners_12 (by decide) ?_
    refine cl_X11_177 rfl (by decide) dX11_corners_13 (Nat.le_of_ble_eq_true rfl) (MCi_go q (fun r5 h4 q => ?_))
    exact m_iret dX11_corners_16 rfl q
set_option maxRecDepth 100000 in
theorem e_X11_isSoFar {g : gT} {h : mh_T} {P : Int32 → mh_T → Prop} (l1 : Int32) (l2 : Int32) (l3 : Int32) (q : ME g uX11_isSoFar 6 [.ref 11, .int l1, .int l2, .int l3, .int 1, .int 0, .retAddr 0, .retAddr 0] [] h (qI P)) : MCi g yX11_isSoFar uX11_isSoFar [.ref 11, .int l1, .int l2, .int l3] h P := by
  refine m_enter (by decide) rfl (Nat.le_of_ble_eq_true rfl) (lv := [.ref 11, .int l1, .int l2, .int l3, .retAddr 0, .retAddr 0, .retAddr 0, .retAddr 0]) rfl ?_
  refine m_iconst (v := 1) dX11_isSoFar_0 (by decide) ?_
  refine m_istore (lv' := [.ref 11, .int l1, .int l2, .int l3, .int 1, .retAddr 0, .retAddr 0, .retAddr 0]) dX11_isSoFar_1 (Nat.le_of_ble_eq_true rfl) rfl rfl ?_
  refine m_iconst (v := 0) dX11_isSoFar_3 (by decide) ?_
  refine m_istore (lv' := [.ref 11, .int l1, .int l2, .int l3, .int 1, .int 0, .retAddr 0, .retAddr 0]) dX11_isSoFar_4 (Nat.le_of_ble_eq_true rfl) rfl rfl ?_
  exact q
set_option maxRecDepth 100000 in
theorem r_X11_isSoFar_6 {g : gT} {h : mh_T} {P : Int32 → mh_T → Prop} (l1 : Int32) (l2 : Int32) (l3 : Int32) (l4 : Int32) (l5 : Int32) (q : ((mI h 11 34) ≤ l5 → (l4 = 0 ∨ l4 = 1) ∧ P l4 h) ∧ (¬ (mI h 11 34) ≤ l5 → (l4 = 0 → (l4 = 0 ∨ l4 = 1) ∧ P l4 h) ∧ (¬ l4 = 0 → (vp_in l5 3060) ∧ (∀ x4 : Int32, x4 = (mI h 56 l5.toNatClampNeg) → ((x4 &&& (l1 ^^^ (-1))) = 0 → MCi g yX11_bits uX11_bits [.int (x4 &&& l2)] h (fun r7 h6 => (2 ≤ r7 → ME g uX11_isSoFar 6 [.ref 11, .int l1, .int l2, .int l3, .int 0, .int (l5 + 1), .retAddr 0, .retAddr 0] [] h6 (qI P)) ∧ (¬ 2 ≤ r7 → (¬ (x4 &&& (l3 ^^^ (-1))) = 0 → ME g uX11_isSoFar 6 [.ref 11, .int l1, .int l2, .int l3, .int 1, .int (l5 + 1), .retAddr 0, .retAddr 0] [] h6 (qI P)) ∧ ((x4 &&& (l3 ^^^ (-1))) = 0 → (¬ r7 = 1 → ME g uX11_isSoFar 6 [.ref 11, .int l1, .int l2, .int l3, .int 0, .int (l5 + 1), .retAddr 0, .retAddr 0] [] h6 (qI P)) ∧ (r7 = 1 → ME g uX11_isSoFar 6 [.ref 11, .int l1, .int l2, .int l3, .int 1, .int (l5 + 1), .retAddr 0, .retAddr 0] [] h6 (qI P)))))) ∧ (¬ (x4 &&& (l1 ^^^ (-1))) = 0 → ME g uX11_isSoFar 6 [.ref 11, .int l1, .int l2, .int l3, .int l4, .int (l5 + 1), .retAddr 0, .retAddr 0] [] h (qI P)))))) : ME g uX11_isSoFar 6 [.ref 11, .int l1, .int l2, .int l3, .int l4, .int l5, .retAddr 0, .retAddr 0] [] h (qI P) := by
  refine m_iload dX11_isSoFar_6 rfl ?_
  refine m_aload_n dX11_isSoFar_8 rfl ?_
  refine gf_X11_363 rfl dX11_isSoFar_9 ?_
  refine m_icmp_ge 84 dX11_isSoFar_12 (by decide) (fun c1 => ?_) (fun c1 => ?_)
  · replace q := q.1 c1
    refine m_iload dX11_isSoFar_84 rfl ?_
    exact m_zret dX11_isSoFar_86 rfl q.1 q.2
  · replace q := q.2 c1
    refine m_iload dX11_isSoFar_15 rfl ?_
    refine m_if_eq 84 dX11_isSoFar_17 (by decide) (fun c2 => ?_) (fun c2 => ?_)
    · replace q := q.1 c2
      refine m_iload dX11_isSoFar_84 rfl ?_
      exact m_zret dX11_isSoFar_86 rfl q.1 q.2
    · replace q := q.2 c2
      refine m_aload_n dX11_isSoFar_20 rfl ?_
      refine gf_X11_54 rfl dX11_isSoFar_21 ?_
      refine m_iload dX11_isSoFar_24 rfl ?_
      obtain ⟨b3, q⟩ := q
      refine m_iaload dX11_isSoFar_26 rfl (by decide) b3 ?_
      obtain ⟨x4, ex4⟩ : ∃ z, z = (mI h 56 l5.toNatClampNeg) := ⟨_, rfl⟩
      rw [← ex4]
      replace q := q x4 ex4
      refine m_istore (lv' := [.ref 11, .int l1, .int l2, .int l3, .int l4, .int l5, .int x4, .retAddr 0]) dX11_isSoFar_27 (Nat.le_of_ble_eq_true rfl) rfl rfl ?_
      refine m_iload dX11_isSoFar_29 rfl ?_
      refine m_iload_n dX11_isSoFar_31 rfl ?_
      refine m_iconst (v := (-1)) dX11_isSoFar_32 (by decide) ?_
      refine m_ixor dX11_isSoFar_33 ?_
      refine m_iand dX11_isSoFar_34 ?_
      refine m_if_eq 41 dX11_isSoFar_35 (by decide) (fun c5 => ?_) (fun c5 => ?_)
      · replace q := q.1 c5
        refine m_iload dX11_isSoFar_41 rfl ?_
        refine m_iload_n dX11_isSoFar_43 rfl ?_
        refine m_iand dX11_isSoFar_44 ?_
        refine cl_X11_323 rfl (by decide) dX11_isSoFar_45 (Nat.le_of_ble_eq_true rfl) (MCi_go q (fun r7 h6 q => ?_))
        refine m_istore (lv' := [.ref 11, .int l1, .int l2, .int l3, .int l4, .int l5, .int x4, .int r7]) dX11_isSoFar_48 (Nat.le_of_ble_eq_true rfl) rfl rfl ?_
        refine m_iload dX11_isSoFar_50 rfl ?_
        refine m_iconst (v := 2) dX11_isSoFar_52 (by decide) ?_
        refine m_icmp_ge 75 dX11_isSoFar_53 (by decide) (fun c8 => ?_) (fun c8 => ?_)
        · replace q := q.1 c8
          refine m_iconst (v := 0) dX11_isSoFar_75 (by decide) ?_
          refine m_istore (lv' := [.ref 11, .int l1, .int l2, .int l3, .int 0, .int l5, .int x4, .int r7]) dX11_isSoFar_76 (Nat.le_of_ble_eq_true rfl) rfl rfl ?_
          refine m_iinc (v := (l5 + 1)) (lv' := [.ref 11, .int l1, .int l2, .int l3, .int 0, .int (l5 + 1), .int x4, .int r7]) dX11_isSoFar_78 (Nat.le_of_ble_eq_true rfl) rfl (congrArg (fun z => l5 + z) (by decide : Int32.ofInt 1 = 1)) rfl rfl ?_
          refine m_goto 6 dX11_isSoFar_81 (by decide) ?_
          refine m_dropK (lv' := [.ref 11, .int l1, .int l2, .int l3, .int 0, .int (l5 + 1), .retAddr 0, .retAddr 0]) [6, 7] rfl ?_
          exact q
        · replace q := q.2 c8
          refine m_iload dX11_isSoFar_56 rfl ?_
          refine m_iload_n dX11_isSoFar_58 rfl ?_
          refine m_iconst (v := (-1)) dX11_isSoFar_59 (by decide) ?_
          refine m_ixor dX11_isSoFar_60 ?_
          refine m_iand dX11_isSoFar_61 ?_
          refine m_if_ne 71 dX11_isSoFar_62 (by decide) (fun c9 => ?_) (fun c9 => ?_)
          · replace q := q.1 c9
            refine m_iconst (v := 1) dX11_isSoFar_71 (by decide) ?_
            refine m_goto 76 dX11_isSoFar_72 (by decide) ?_
            refine m_istore (lv' := [.ref 11, .int l1, .int l2, .int l3, .int 1, .int l5, .int x4, .int r7]) dX11_isSoFar_76 (Nat.le_of_ble_eq_true rfl) rfl rfl ?_
            refine m_iinc (v := (l5 + 1)) (lv' := [.ref 11, .int l1, .int l2, .int l3, .int 1, .int (l5 + 1), .int x4, .int r7]) dX11_isSoFar_78 (Nat.le_of_ble_eq_true rfl) rfl (congrArg (fun z => l5 + z) (by decide : Int32.ofInt 1 = 1)) rfl rfl ?_
            refine m_goto 6 dX11_isSoFar_81 (by decide) ?_
            refine m_dropK (lv' := [.ref 11, .int l1, .int l2, .int l3, .int 1, .int (l5 + 1), .retAddr 0, .retAddr 0]) [6, 7] rfl ?_
            exact q
          · replace q := q.2 c9
            refine m_iload dX11_isSoFar_65 rfl ?_
            refine m_iconst (v := 1) dX11_isSoFar_67 (by decide) ?_
            refine m_icmp_ne 75 dX11_isSoFar_68 (by decide) (fun c10 => ?_) (fun c10 => ?_)
            · replace q := q.1 c10
              refine m_iconst (v := 0) dX11_isSoFar_75 (by decide) ?_
              refine m_istore (lv' := [.ref 11, .int l1, .int l2, .int l3, .int 0, .int l5, .int x4, .int r7]) dX11_isSoFar_76 (Nat.le_of_ble_eq_true rfl) rfl rfl ?_
              refine m_iinc (v := (l5 + 1)) (lv' := [.ref 11, .int l1, .int l2, .int l3, .int 0, .int (l5 + 1), .int x4, .int r7]) dX11_isSoFar_78 (Nat.le_of_ble_eq_true rfl) rfl (congrArg (fun z => l5 + z) (by decide : Int32.ofInt 1 = 1)) rfl rfl ?_
              refine m_goto 6 dX11_isSoFar_81 (by decide) ?_
              refine m_dropK (lv' := [.ref 11, .int l1, .int l2, .int l3, .int 0, .int (l5 + 1), .retAddr 0, .retAddr 0]) [6, 7] rfl ?_
              exact q
            · replace q := q.2 c10
              refine m_iconst (v := 1) dX11_isSoFar_71 (by decide) ?_
              refine m_goto 76 dX11_isSoFar_72 (by decide) ?_
              refine m_istore (lv' := [.ref 11, .int l1, .int l2, .int l3, .int 1, .int l5, .int x4, .int r7]) dX11_isSoFar_76 (Nat.le_of_ble_eq_true rfl) rfl rfl ?_
              refine m_iinc (v := (l5 + 1)) (lv' := [.ref 11, .int l1, .int l2, .int l3, .int 1, .int (l5 + 1), .int x4, .int r7]) dX11_isSoFar_78 (Nat.le_of_ble_eq_true rfl) rfl (congrArg (fun z => l5 + z) (by decide : Int32.ofInt 1 = 1)) rfl rfl ?_
              refine m_goto 6 dX11_isSoFar_81 (by decide) ?_
              refine m_dropK (lv' := [.ref 11, .int l1, .int l2, .int l3, .int 1, .int (l5 + 1), .retAddr 0, .retAddr 0]) [6, 7] rfl ?_
              exact q
      · replace q := q.2 c5
        refine m_goto 78 dX11_isSoFar_38 (by decide) ?_
        refine m_iinc (v := (l5 + 1)) (lv' := [.ref 11, .int l1, .int l2, .int l3, .int l4, .int (l5 + 1), .int x4, .retAddr 0]) dX11_isSoFar_78 (Nat.le_of_ble_eq_true rfl) rfl (congrArg (fun z => l5 + z) (by decide : Int32.ofInt 1 = 1)) rfl rfl ?_
        refine m_goto 6 dX11_isSoFar_81 (by decide) ?_
        refine m_dropK (lv' := [.ref 11, .int l1, .int l2, .int l3, .int l4, .int (l5 + 1), .retAddr 0, .retAddr 0]) [6] rfl ?_
        exact q
set_option maxRecDepth 100000 in
theorem e_X11_colour {g : gT} {h : mh_T} {P : mh_T → Prop} (l1 : Int32) (l2 : Int32) (q : ∀ x1 : Int32, x1 = (mI h 45 (Int32.toNatClampNeg 85)) → ME g uX11_colour 21 [.ref 11, .int l1, .int l2, .int x1, .int 0, .retAddr 0, .retAddr 0, .retAddr 0, .retAddr 0] [] (wI (wI h 11 36 0) 11 37 0) (qV P)) : MCv g yX11_colour uX11_colour [.ref 11, .int l1, .int l2] h P := by
  refine m_enter (by decide) rfl (Nat.le_of_ble_eq_true rfl) (lv := [.ref 11, .int l1, .int l2, .retAddr 0, .retAddr 0, .retAddr 0, .retAddr 0, .retAddr 0, .retAddr 0]) rfl ?_
  refine m_aload_n dX11_colour_0 rfl ?_
  refine gf_X11_20 rfl dX11_colour_1 ?_
  refine m_bipush (v := 85) dX11_colour_4 (by decide) ?_
  refine m_iaload dX11_colour_6 rfl (by decide) (by unfold vp_in; decide) ?_
  obtain ⟨x1, ex1⟩ : ∃ z, z = (mI h 45 (Int32.toNatClampNeg 85)) := ⟨_, rfl⟩
  rw [← ex1]
  replace q := q x1 ex1
  refine m_istore_n (lv' := [.ref 11, .int l1, .int l2, .int x1, .retAddr 0, .retAddr 0, .retAddr 0, .retAddr 0, .retAddr 0]) dX11_colour_7 (Nat.le_of_ble_eq_true rfl) rfl rfl ?_
  refine m_aload_n dX11_colour_8 rfl ?_
  refine m_iconst (v := 0) dX11_colour_9 (by decide) ?_
  refine pf_X11_369 rfl dX11_colour_10 ?_
  refine m_aload_n dX11_colour_13 rfl ?_
  refine m_iconst (v := 0) dX11_colour_14 (by decide) ?_
  refine pf_X11_372 rfl dX11_colour_15 ?_
  refine m_iconst (v := 0) dX11_colour_18 (by decide) ?_
  refine m_istore (lv' := [.ref 11, .int l1, .int l2, .int x1, .int 0, .retAddr 0, .retAddr 0, .retAddr 0, .retAddr 0]) dX11_colour_19 (Nat.le_of_ble_eq_true rfl) rfl rfl ?_
  exact q
set_option maxRecDepth 100000 in
theorem r_X11_colour_21 {g : gT} {h : mh_T} {P : mh_T → Prop} (l1 : Int32) (l2 : Int32) (l3 : Int32) (l4 : Int32) (q : (l3 < l4 → ME g uX11_colour 47 [.ref 11, .int l1, .int l2, .int l3, .int 0, .int 0, .retAddr 0, .retAddr 0, .retAddr 0] [] h (qV P)) ∧ (¬ l3 < l4 → (vp_in l4 19) ∧ (ME g uX11_colour 21 [.ref 11, .int l1, .int l2, .int l3, .int (l4 + 1), .retAddr 0, .retAddr 0, .retAddr 0, .retAddr 0] [] (wI h 58 l4.toNatClampNeg 0) (qV P)))) : ME g uX11_colour 21 [.ref 11, .int l1, .int l2, .int l3, .int l4, .retAddr 0, .retAddr 0, .retAddr 0, .retAddr 0] [] h (qV P) := by
  refine m_iload dX11_colour_21 rfl ?_
  refine m_iload_n dX11_colour_23 rfl ?_
  refine m_icmp_gt 41 dX11_colour_24 (by decide) (fun c1 => ?_) (fun c1 => ?_)
  · replace q := q.1 c1
    refine m_iconst (v := 0) dX11_colour_41 (by decide) ?_
    refine m_istore (lv' := [.ref 11, .int l1, .int l2, .int l3, .int 0, .retAddr 0, .retAddr 0, .retAddr 0, .retAddr 0]) dX11_colour_42 (Nat.le_of_ble_eq_true rfl) rfl rfl ?_
    refine m_iconst (v := 0) dX11_colour_44 (by decide) ?_
    refine m_istore (lv' := [.ref 11, .int l1, .int l2, .int l3, .int 0, .int 0, .retAddr 0, .retAddr 0, .retAddr 0]) dX11_colour_45 (Nat.le_of_ble_eq_true rfl) rfl rfl ?_
    exact q
  · replace q := q.2 c1
    refine m_aload_n dX11_colour_27 rfl ?_
    refine gf_X11_60 rfl dX11_colour_28 ?_
    refine m_iload dX11_colour_31 rfl ?_
    refine m_iconst (v := 0) dX11_colour_33 (by decide) ?_
    obtain ⟨b2, q⟩ := q
    refine m_iastore dX11_colour_34 rfl (by decide) b2 ?_
    refine m_iinc (v := (l4 + 1)) (lv' := [.ref 11, .int l1, .int l2, .int l3, .int (l4 + 1), .retAddr 0, .retAddr 0, .retAddr 0, .retAddr 0]) dX11_colour_35 (Nat.le_of_ble_eq_true rfl) rfl (congrArg (fun z => l4 + z) (by decide : Int32.ofInt 1 = 1)) rfl rfl ?_
    refine m_goto 21 dX11_colour_38 (by decide) ?_
    exact q
set_option maxRecDepth 100000 in
theorem r_X11_colour_47 {g : gT} {h : mh_T} {P : mh_T → Prop} (l1 : Int32) (l2 : Int32) (l3 : Int32) (l4 : Int32) (l5 : Int32) (q : (l4 < 0 → P h) ∧ (¬ l4 < 0 → (¬ l4 = l3 → ∀ x3 : Int32, x3 = (1 <<< (l4 &&& 31)) → ∀ x4 : Int32, x4 = (l5 &&& (x3 ^^^ (-1))) → (vp_in l4 19) ∧ ((¬ (mI h 58 l4.toNatClampNeg) = 2 → (vp_in l4 19) ∧ ((¬ (mI h 58 l4.toNatClampNeg) = 1 → (vp_in l4 19) ∧ ((vp_in l4 19) ∧ (MCi g yX11_isSoFar uX11_isSoFar [.ref 11, .int l1, .int x4, .int ((x3 <<< (1 &&& 31)) - 1)] (wI h 58 l4.toNatClampNeg ((mI h 58 l4.toNatClampNeg) + 1)) (fun r14 h13 => (¬ r14 = 0 → ME g uX11_colour 47 [.ref 11, .int l1, .int l2, .int l3, .int (l4 + 1), .int x4, .retAddr 0, .retAddr 0, .retAddr 0] [] h13 (qV P)) ∧ (r14 = 0 → ME g uX11_colour 47 [.ref 11, .int l1, .int l2, .int l3, .int l4, .int x4, .retAddr 0, .retAddr 0, .retAddr 0] [] h13 (qV P)))))) ∧ ((mI h 58 l4.toNatClampNeg) = 1 → (vp_in l4 19) ∧ ((vp_in l4 19) ∧ (((l1 &&& x3) = 0 → ME g uX11_colour 47 [.ref 11, .int l1, .int l2, .int l3, .int l4, .int x4, .retAddr 0, .retAddr 0, .retAddr 0] [] (wI h 58 l4.toNatClampNeg ((mI h 58 l4.toNatClampNeg) + 1)) (qV P)) ∧ (¬ (l1 &&& x3) = 0 → (vp_in l4 18) ∧ ((((mI (wI h 58 l4.toNatClampNeg ((mI h 58 l4.toNatClampNeg) + 1)) 57 l4.toNatClampNeg) &&& x4) = 0 → ∀ x23 : Int32, x23 = (x4 ||| x3) → MCi g yX11_isSoFar uX11_isSoFar [.ref 11, .int l1, .int x23, .int ((x3 <<< (1 &&& 31)) - 1)] (wI h 58 l4.toNatClampNeg ((mI h 58 l4.toNatClampNeg) + 1)) (fun r25 h24 => (¬ r25 = 0 → ME g uX11_colour 47 [.ref 11, .int l1, .int l2, .int l3, .int (l4 + 1), .int x23, .retAddr 0, .retAddr 0, .retAddr 0] [] h24 (qV P)) ∧ (r25 = 0 → ME g uX11_colour 47 [.ref 11, .int l1, .int l2, .int l3, .int l4, .int x4, .retAddr 0, .retAddr 0, .retAddr 0] [] h24 (qV P)))) ∧ (¬ ((mI (wI h 58 l4.toNatClampNeg ((mI h 58 l4.toNatClampNeg) + 1)) 57 l4.toNatClampNeg) &&& x4) = 0 → ME g uX11_colour 47 [.ref 11, .int l1, .int l2, .int l3, .int l4, .int x4, .retAddr 0, .retAddr 0, .retAddr 0] [] (wI h 58 l4.toNatClampNeg ((mI h 58 l4.toNatClampNeg) + 1)) (qV P))))))))) ∧ ((mI h 58 l4.toNatClampNeg) = 2 → (vp_in l4 19) ∧ (ME g uX11_colour 47 [.ref 11, .int l1, .int l2, .int l3, .int (l4 + (-1)), .int x4, .retAddr 0, .retAddr 0, .retAddr 0] [] (wI h 58 l4.toNatClampNeg 0) (qV P))))) ∧ (l4 = l3 → MCi g yX11_bits uX11_bits [.int l5] (wI h 11 36 ((mI h 11 36) + 1)) (fun r29 h28 => (r29 ≤ (mI h28 11 37) → (¬ (mI (wI h28 11 37 (mI h28 11 37)) 11 36) = l2 → ME g uX11_colour 47 [.ref 11, .int l1, .int l2, .int l3, .int (l4 + (-1)), .int l5, .retAddr 0, .retAddr 0, .retAddr 0] [] (wI h28 11 37 (mI h28 11 37)) (qV P)) ∧ ((mI (wI h28 11 37 (mI h28 11 37)) 11 36) = l2 → P (wI h28 11 37 (mI h28 11 37)))) ∧ (¬ r29 ≤ (mI h28 11 37) → MCi g yX11_bits uX11_bits [.int l5] h28 (fun r33 h32 => (¬ (mI (wI h32 11 37 r33) 11 36) = l2 → ME g uX11_colour 47 [.ref 11, .int l1, .int l2, .int l3, .int (l4 + (-1)), .int l5, .retAddr 0, .retAddr 0, .retAddr 0] [] (wI h32 11 37 r33) (qV P)) ∧ ((mI (wI h32 11 37 r33) 11 36) = l2 → P (wI h32 11 37 r33)))))))) : ME g uX11_colour 47 [.ref 11, .int l1, .int l2, .int l3, .int l4, .int l5, .retAddr 0, .retAddr 0, .retAddr 0] [] h (qV P) := by
  refine m_iload dX11_colour_47 rfl ?_
  refine m_if_lt 254 dX11_colour_49 (by decide) (fun c1 => ?_) (fun c1 => ?_)
  · replace q := q.1 c1
    exact m_vret dX11_colour_254 rfl q
  · replace q := q.2 c1
    refine m_iload dX11_colour_52 rfl ?_
    refine m_iload_n dX11_colour_54 rfl ?_
    refine m_icmp_ne 111 dX11_colour_55 (by decide) (fun c2 => ?_) (fun c2 => ?_)
    · replace q := q.1 c2
      refine m_iconst (v := 1) dX11_colour_111 (by decide) ?_
      refine m_iload dX11_colour_112 rfl ?_
      refine m_ishl dX11_colour_114 ?_
      obtain ⟨x3, ex3⟩ : ∃ z, z = (1 <<< (l4 &&& 31)) := ⟨_, rfl⟩
      rw [← ex3]
      replace q := q x3 ex3
      refine m_istore (lv' := [.ref 11, .int l1, .int l2, .int l3, .int l4, .int l5, .int x3, .retAddr 0, .retAddr 0]) dX11_colour_115 (Nat.le_of_ble_eq_true rfl) rfl rfl ?_
      refine m_iload dX11_colour_117 rfl ?_
      refine m_iload dX11_colour_119 rfl ?_
      refine m_iconst (v := (-1)) dX11_colour_121 (by decide) ?_
      refine m_ixor dX11_colour_122 ?_
      refine m_iand dX11_colour_123 ?_
      obtain ⟨x4, ex4⟩ : ∃ z, z = (l5 &&& (x3 ^^^ (-1))) := ⟨_, rfl⟩
      rw [← ex4]
      replace q := q x4 ex4
      refine m_istore (lv' := [.ref 11, .int l1, .int l2, .int l3, .int l4, .int x4, .int x3, .retAddr 0, .retAddr 0]) dX11_colour_124 (Nat.le_of_ble_eq_true rfl) rfl rfl ?_
      refine m_aload_n dX11_colour_126 rfl ?_
      refine gf_X11_60 rfl dX11_colour_127 ?_
      refine m_iload dX11_colour_130 rfl ?_
      obtain ⟨b5, q⟩ := q
      refine m_iaload dX11_colour_132 rfl (by decide) b5 ?_
      refine m_iconst (v := 2) dX11_colour_133 (by decide) ?_
      refine m_icmp_ne 151 dX11_colour_134 (by decide) (fun c6 => ?_) (fun c6 => ?_)
      · replace q := q.1 c6
        refine m_aload_n dX11_colour_151 rfl ?_
        refine gf_X11_60 rfl dX11_colour_152 ?_
        refine m_iload dX11_colour_155 rfl ?_
        obtain ⟨b7, q⟩ := q
        refine m_iaload dX11_colour_157 rfl (by decide) b7 ?_
        refine m_iconst (v := 1) dX11_colour_158 (by decide) ?_
        refine m_icmp_ne 166 dX11_colour_159 (by decide) (fun c8 => ?_) (fun c8 => ?_)
        · replace q := q.1 c8
          refine m_iconst (v := 0) dX11_colour_166 (by decide) ?_
          refine m_istore (lv' := [.ref 11, .int l1, .int l2, .int l3, .int l4, .int x4, .int x3, .int 0, .retAddr 0]) dX11_colour_167 (Nat.le_of_ble_eq_true rfl) rfl rfl ?_
          refine m_aload_n dX11_colour_169 rfl ?_
          refine gf_X11_60 rfl dX11_colour_170 ?_
          refine m_iload dX11_colour_173 rfl ?_
          refine m_dup2 dX11_colour_175 rfl rfl ?_
          obtain ⟨b9, q⟩ := q
          refine m_iaload dX11_colour_176 rfl (by decide) b9 ?_
          refine m_iconst (v := 1) dX11_colour_177 (by decide) ?_
          refine m_iadd dX11_colour_178 ?_
          obtain ⟨b10, q⟩ := q
          refine m_iastore dX11_colour_179 rfl (by decide) b10 ?_
          refine m_iload dX11_colour_180 rfl ?_
          refine m_if_eq 208 dX11_colour_182 (by decide) (fun c11 => ?_) (fun c11 => absurd c11 (by decide))
          refine m_iload dX11_colour_208 rfl ?_
          refine m_if_eq 221 dX11_colour_210 (by decide) (fun c12 => ?_) (fun c12 => absurd c12 (by decide))
          refine m_iload dX11_colour_221 rfl ?_
          refine m_istore (lv' := [.ref 11, .int l1, .int l2, .int l3, .int l4, .int x4, .int x3, .int 0, .int x4]) dX11_colour_223 (Nat.le_of_ble_eq_true rfl) rfl rfl ?_
          refine m_aload_n dX11_colour_225 rfl ?_
          refine m_iload_n dX11_colour_226 rfl ?_
          refine m_iload dX11_colour_227 rfl ?_
          refine m_iload dX11_colour_229 rfl ?_
          refine m_iconst (v := 1) dX11_colour_231 (by decide) ?_
          refine m_ishl dX11_colour_232 ?_
          refine m_iconst (v := 1) dX11_colour_233 (by decide) ?_
          refine m_isub dX11_colour_234 ?_
          refine cl_X11_375 rfl (by decide) dX11_colour_235 (Nat.le_of_ble_eq_true rfl) (MCi_go q (fun r14 h13 q => ?_))
          refine m_if_ne 244 dX11_colour_238 (by decide) (fun c15 => ?_) (fun c15 => ?_)
          · replace q := q.1 c15
            refine m_iload dX11_colour_244 rfl ?_
            refine m_istore (lv' := [.ref 11, .int l1, .int l2, .int l3, .int l4, .int x4, .int x3, .int 0, .int x4]) dX11_colour_246 (Nat.le_of_ble_eq_true rfl) rfl rfl ?_
            refine m_iinc (v := (l4 + 1)) (lv' := [.ref 11, .int l1, .int l2, .int l3, .int (l4 + 1), .int x4, .int x3, .int 0, .int x4]) dX11_colour_248 (Nat.le_of_ble_eq_true rfl) rfl (congrArg (fun z => l4 + z) (by decide : Int32.ofInt 1 = 1)) rfl rfl ?_
            refine m_goto 47 dX11_colour_251 (by decide) ?_
            refine m_dropK (lv' := [.ref 11, .int l1, .int l2, .int l3, .int (l4 + 1), .int x4, .retAddr 0, .retAddr 0, .retAddr 0]) [6, 7, 8] rfl ?_
            exact q
          · replace q := q.2 c15
            refine m_goto 47 dX11_colour_241 (by decide) ?_
            refine m_dropK (lv' := [.ref 11, .int l1, .int l2, .int l3, .int l4, .int x4, .retAddr 0, .retAddr 0, .retAddr 0]) [6, 7, 8] rfl ?_
            exact q
        · replace q := q.2 c8
          refine m_iconst (v := 1) dX11_colour_162 (by decide) ?_
          refine m_goto 167 dX11_colour_163 (by decide) ?_
          refine m_istore (lv' := [.ref 11, .int l1, .int l2, .int l3, .int l4, .int x4, .int x3, .int 1, .retAddr 0]) dX11_colour_167 (Nat.le_of_ble_eq_true rfl) rfl rfl ?_
          refine m_aload_n dX11_colour_169 rfl ?_
          refine gf_X11_60 rfl dX11_colour_170 ?_
          refine m_iload dX11_colour_173 rfl ?_
          refine m_dup2 dX11_colour_175 rfl rfl ?_
          obtain ⟨b16, q⟩ := q
          refine m_iaload dX11_colour_176 rfl (by decide) b16 ?_
          refine m_iconst (v := 1) dX11_colour_177 (by decide) ?_
          refine m_iadd dX11_colour_178 ?_
          obtain ⟨b17, q⟩ := q
          refine m_iastore dX11_colour_179 rfl (by decide) b17 ?_
          refine m_iload dX11_colour_180 rfl ?_
          refine m_if_eq 208 dX11_colour_182 (by decide) (fun c18 => absurd c18 (by decide)) (fun c18 => ?_)
          refine m_iload_n dX11_colour_185 rfl ?_
          refine m_iload dX11_colour_186 rfl ?_
          refine m_iand dX11_colour_188 ?_
          refine m_if_eq 47 dX11_colour_189 (by decide) (fun c19 => ?_) (fun c19 => ?_)
          · replace q := q.1 c19
            refine m_dropK (lv' := [.ref 11, .int l1, .int l2, .int l3, .int l4, .int x4, .retAddr 0, .retAddr 0, .retAddr 0]) [6, 7] rfl ?_
            exact q
          · replace q := q.2 c19
            refine m_aload_n dX11_colour_192 rfl ?_
            refine gf_X11_57 rfl dX11_colour_193 ?_
            refine m_iload dX11_colour_196 rfl ?_
            obtain ⟨b20, q⟩ := q
            refine m_iaload dX11_colour_198 rfl (by decide) b20 ?_
            refine m_iload dX11_colour_199 rfl ?_
            refine m_iand dX11_colour_201 ?_
            refine m_if_eq 208 dX11_colour_202 (by decide) (fun c21 => ?_) (fun c21 => ?_)
            · replace q := q.1 c21
              refine m_iload dX11_colour_208 rfl ?_
              refine m_if_eq 221 dX11_colour_210 (by decide) (fun c22 => absurd c22 (by decide)) (fun c22 => ?_)
              refine m_iload dX11_colour_213 rfl ?_
              refine m_iload dX11_colour_215 rfl ?_
              refine m_ior dX11_colour_217 ?_
              refine m_goto 223 dX11_colour_218 (by decide) ?_
              obtain ⟨x23, ex23⟩ : ∃ z, z = (x4 ||| x3) := ⟨_, rfl⟩
              rw [← ex23]
              replace q := q x23 ex23
              refine m_istore (lv' := [.ref 11, .int l1, .int l2, .int l3, .int l4, .int x4, .int x3, .int 1, .int x23]) dX11_colour_223 (Nat.le_of_ble_eq_true rfl) rfl rfl ?_
              refine m_aload_n dX11_colour_225 rfl ?_
              refine m_iload_n dX11_colour_226 rfl ?_
              refine m_iload dX11_colour_227 rfl ?_
              refine m_iload dX11_colour_229 rfl ?_
              refine m_iconst (v := 1) dX11_colour_231 (by decide) ?_
              refine m_ishl dX11_colour_232 ?_
              refine m_iconst (v := 1) dX11_colour_233 (by decide) ?_
              refine m_isub dX11_colour_234 ?_
              refine cl_X11_375 rfl (by decide) dX11_colour_235 (Nat.le_of_ble_eq_true rfl) (MCi_go q (fun r25 h24 q => ?_))
              refine m_if_ne 244 dX11_colour_238 (by decide) (fun c26 => ?_) (fun c26 => ?_)
              · replace q := q.1 c26
                refine m_iload dX11_colour_244 rfl ?_
                refine m_istore (lv' := [.ref 11, .int l1, .int l2, .int l3, .int l4, .int x23, .int x3, .int 1, .int x23]) dX11_colour_246 (Nat.le_of_ble_eq_true rfl) rfl rfl ?_
                refine m_iinc (v := (l4 + 1)) (lv' := [.ref 11, .int l1, .int l2, .int l3, .int (l4 + 1), .int x23, .int x3, .int 1, .int x23]) dX11_colour_248 (Nat.le_of_ble_eq_true rfl) rfl (congrArg (fun z => l4 + z) (by decide : Int32.ofInt 1 = 1)) rfl rfl ?_
                refine m_goto 47 dX11_colour_251 (by decide) ?_
                refine m_dropK (lv' := [.ref 11, .int l1, .int l2, .int l3, .int (l4 + 1), .int x23, .retAddr 0, .retAddr 0, .retAddr 0]) [6, 7, 8] rfl ?_
                exact q
              · replace q := q.2 c26
                refine m_goto 47 dX11_colour_241 (by decide) ?_
                refine m_dropK (lv' := [.ref 11, .int l1, .int l2, .int l3, .int l4, .int x4, .retAddr 0, .retAddr 0, .retAddr 0]) [6, 7, 8] rfl ?_
                exact q
            · replace q := q.2 c21
              refine m_goto 47 dX11_colour_205 (by decide) ?_
              refine m_dropK (lv' := [.ref 11, .int l1, .int l2, .int l3, .int l4, .int x4, .retAddr 0, .retAddr 0, .retAddr 0]) [6, 7] rfl ?_
              exact q
      · replace q := q.2 c6
        refine m_aload_n dX11_colour_137 rfl ?_
        refine gf_X11_60 rfl dX11_colour_138 ?_
        refine m_iload dX11_colour_141 rfl ?_
        refine m_iconst (v := 0) dX11_colour_143 (by decide) ?_
        obtain ⟨b27, q⟩ := q
        refine m_iastore dX11_colour_144 rfl (by decide) b27 ?_
        refine m_iinc (v := (l4 + (-1))) (lv' := [.ref 11, .int l1, .int l2, .int l3, .int (l4 + (-1)), .int x4, .int x3, .retAddr 0, .retAddr 0]) dX11_colour_145 (Nat.le_of_ble_eq_true rfl) rfl (congrArg (fun z => l4 + z) (by decide : Int32.ofInt (-1) = -1)) rfl rfl ?_
        refine m_goto 47 dX11_colour_148 (by decide) ?_
        refine m_dropK (lv' := [.ref 11, .int l1, .int l2, .int l3, .int (l4 + (-1)), .int x4, .retAddr 0, .retAddr 0, .retAddr 0]) [6] rfl ?_
        exact q
    · replace q := q.2 c2
      refine m_aload_n dX11_colour_58 rfl ?_
      refine m_dup dX11_colour_59 rfl ?_
      refine gf_X11_369 rfl dX11_colour_60 ?_
      refine m_iconst (v := 1) dX11_colour_63 (by decide) ?_
      refine m_iadd dX11_colour_64 ?_
      refine pf_X11_369 rfl dX11_colour_65 ?_
      refine m_aload_n dX11_colour_68 rfl ?_
      refine m_iload dX11_colour_69 rfl ?_
      refine cl_X11_323 rfl (by decide) dX11_colour_71 (Nat.le_of_ble_eq_true rfl) (MCi_go q (fun r29 h28 q => ?_))
      refine m_aload_n dX11_colour_74 rfl ?_
      refine gf_X11_372 rfl dX11_colour_75 ?_
      refine m_icmp_le 89 dX11_colour_78 (by decide) (fun c30 => ?_) (fun c30 => ?_)
      · replace q := q.1 c30
        refine m_aload_n dX11_colour_89 rfl ?_
        refine gf_X11_372 rfl dX11_colour_90 ?_
        refine pf_X11_372 rfl dX11_colour_93 ?_
        refine m_aload_n dX11_colour_96 rfl ?_
        refine gf_X11_369 rfl dX11_colour_97 ?_
        refine m_iload_n dX11_colour_100 rfl ?_
        refine m_icmp_ne 105 dX11_colour_101 (by decide) (fun c31 => ?_) (fun c31 => ?_)
        · replace q := q.1 c31
          refine m_iinc (v := (l4 + (-1))) (lv' := [.ref 11, .int l1, .int l2, .int l3, .int (l4 + (-1)), .int l5, .retAddr 0, .retAddr 0, .retAddr 0]) dX11_colour_105 (Nat.le_of_ble_eq_true rfl) rfl (congrArg (fun z => l4 + z) (by decide : Int32.ofInt (-1) = -1)) rfl rfl ?_
          refine m_goto 47 dX11_colour_108 (by decide) ?_
          exact q
        · replace q := q.2 c31
          exact m_vret dX11_colour_104 rfl q
      · replace q := q.2 c30
        refine m_iload dX11_colour_81 rfl ?_
        refine cl_X11_323 rfl (by decide) dX11_colour_83 (Nat.le_of_ble_eq_true rfl) (MCi_go q (fun r33 h32 q => ?_))
        refine m_goto 93 dX11_colour_86 (by decide) ?_
        refine pf_X11_372 rfl dX11_colour_93 ?_
        refine m_aload_n dX11_colour_96 rfl ?_
        refine gf_X11_369 rfl dX11_colour_97 ?_
        refine m_iload_n dX11_colour_100 rfl ?_
        refine m_icmp_ne 105 dX11_colour_101 (by decide) (fun c34 => ?_) (fun c34 => ?_)
        · replace q := q.1 c34
          refine m_iinc (v := (l4 + (-1))) (lv' := [.ref 11, .int l1, .int l2, .int l3, .int (l4 + (-1)), .int l5, .retAddr 0, .retAddr 0, .retAddr 0]) dX11_colour_105 (Nat.le_of_ble_eq_true rfl) rfl (congrArg (fun z => l4 + z) (by decide : Int32.ofInt (-1) = -1)) rfl rfl ?_
          refine m_goto 47 dX11_colour_108 (by decide) ?_
          exact q
        · replace q := q.2 c34
          exact m_vret dX11_colour_104 rfl q
set_option maxRecDepth 100000 in
theorem e_X11_allRays {g : gT} {h : mh_T} {P : Int32 → mh_T → Prop}  (q : P ((1 <<< ((mI h 45 (Int32.toNatClampNeg 85)) &&& 31)) - 1) h) : MCi g yX11_allRays uX11_allRays [.ref 11] h P := by
  refine m_enter (by decide) rfl (Nat.le_of_ble_eq_true rfl) (lv := [.ref 11]) rfl ?_
  refine m_iconst (v := 1) dX11_allRays_0 (by decide) ?_
  refine m_aload_n dX11_allRays_1 rfl ?_
  refine gf_X11_20 rfl dX11_allRays_2 ?_
  refine m_bipush (v := 85) dX11_allRays_5 (by decide) ?_
  refine m_iaload dX11_allRays_7 rfl (by decide) (by unfold vp_in; decide) ?_
  refine m_ishl dX11_allRays_8 ?_
  refine m_iconst (v := 1) dX11_allRays_9 (by decide) ?_
  refine m_isub dX11_allRays_10 ?_
  exact m_iret dX11_allRays_11 rfl q
set_option maxRecDepth 100000 in
theorem e_X11_hasColour {g : gT} {h : mh_T} {P : Int32 → mh_T → Prop} (l1 : Int32) (q : MCv g yX11_colour uX11_colour [.ref 11, .int l1, .int 1] h (fun h1 => ((mI h1 11 36) ≤ 0 → P 0 h1) ∧ (¬ (mI h1 11 36) ≤ 0 → P 1 h1))) : MCi g yX11_hasColour uX11_hasColour [.ref 11, .int l1] h P := by
  refine m_enter (by decide) rfl (Nat.le_of_ble_eq_true rfl) (lv := [.ref 11, .int l1]) rfl ?_
  refine m_aload_n dX11_hasColour_0 rfl ?_
  refine m_iload_n dX11_hasColour_1 rfl ?_
  refine m_iconst (v := 1) dX11_hasColour_2 (by decide) ?_
  refine cl_X11_378 rfl (by decide) dX11_hasColour_3 (Nat.le_of_ble_eq_true rfl) (MCv_go q (fun h1 q => ?_))
  refine m_aload_n dX11_hasColour_6 rfl ?_
  refine gf_X11_369 rfl dX11_hasColour_7 ?_
  refine m_if_le 17 dX11_hasColour_10 (by decide) (fun c2 => ?_) (fun c2 => ?_)
  · replace q := q.1 c2
    refine m_iconst (v := 0) dX11_hasColour_17 (by decide) ?_
    exact m_zret dX11_hasColour_18 rfl (by decide) q
  · replace q := q.2 c2
    refine m_iconst (v := 1) dX11_hasColour_13 (by decide) ?_
    refine m_goto 18 dX11_hasColour_14 (by decide) ?_
    exact m_zret dX11_hasColour_18 rfl (by decide) q
set_option maxRecDepth 100000 in
theorem e_X11_colours {g : gT} {h : mh_T} {P : Int32 → mh_T → Prop}  (q : MCv g yX11_good uX11_good [.ref 11] h (fun h1 => (¬ (mI h1 11 14) = 0 → MCv g yX11_layCorners uX11_layCorners [.ref 11] h1 (fun h3 => MCi g yX11_allRays uX11_allRays [.ref 11] h3 (fun r5 h4 => MCv g yX11_colour uX11_colour [.ref 11, .int r5, .int 1048576] h4 (fun h6 => P (mI h6 11 36) h6)))) ∧ ((mI h1 11 14) = 0 → MCi g yX11_no uX11_no [.ref 11, .int 1] h1 (fun r8 h7 => P r8 h7)))) : MCi g yX11_colours uX11_colours [.ref 11] h P := by
  refine m_enter (by decide) rfl (Nat.le_of_ble_eq_true rfl) (lv := [.ref 11]) rfl ?_
  refine m_aload_n dX11_colours_0 rfl ?_
  refine cl_X11_174 rfl (by decide) dX11_colours_1 (Nat.le_of_ble_eq_true rfl) (MCv_go q (fun h1 q => ?_))
  refine m_aload_n dX11_colours_4 rfl ?_
  refine gf_X11_183 rfl dX11_colours_5 ?_
  refine m_if_ne 17 dX11_colours_8 (by decide) (fun c2 => ?_) (fun c2 => ?_)
  · replace q := q.1 c2
    refine m_aload_n dX11_colours_17 rfl ?_
    refine cl_X11_366 rfl (by decide) dX11_colours_18 (Nat.le_of_ble_eq_true rfl) (MCv_go q (fun h3 q => ?_))
    refine m_aload_n dX11_colours_21 rfl ?_
    refine m_aload_n dX11_colours_22 rfl ?_
    refine cl_X11_381 rfl (by decide) dX11_colours_23 (Nat.le_of_ble_eq_true rfl) (MCi_go q (fun r5 h4 q => ?_))
    refine m_ldcw (v := 1048576) dX11_colours_26 tw_969 ?_
    refine cl_X11_378 rfl (by decide) dX11_colours_29 (Nat.le_of_ble_eq_true rfl) (MCv_go q (fun h6 q => ?_))
    refine m_aload_n dX11_colours_32 rfl ?_
    refine gf_X11_369 rfl dX11_colours_33 ?_
    exact m_iret dX11_colours_36 rfl q
  · replace q := q.2 c2
    refine m_aload_n dX11_colours_11 rfl ?_
    refine m_iconst (v := 1) dX11_colours_12 (by decide) ?_
    refine cl_X11_177 rfl (by decide) dX11_colours_13 (Nat.le_of_ble_eq_true rfl) (MCi_go q (fun r8 h7 q => ?_))
    exact m_iret dX11_colours_16 rfl q
set_option maxRecDepth 100000 in
theorem e_X11_ones {g : gT} {h : mh_T} {P : Int32 → mh_T → Prop}  (q : MCv g yX11_good uX11_good [.ref 11] h (fun h1 => (¬ (mI h1 11 14) = 0 → MCv g yX11_layCorners uX11_layCorners [.ref 11] h1 (fun h3 => MCi g yX11_allRays uX11_allRays [.ref 11] h3 (fun r5 h4 => MCv g yX11_colour uX11_colour [.ref 11, .int r5, .int 1048576] h4 (fun h6 => (¬ (mI h6 11 36) = 0 → P (mI h6 11 37) h6) ∧ ((mI h6 11 36) = 0 → MCi g yX11_no uX11_no [.ref 11, .int 6] h6 (fun r9 h8 => P r9 h8)))))) ∧ ((mI h1 11 14) = 0 → MCi g yX11_no uX11_no [.ref 11, .int 1] h1 (fun r11 h10 => P r11 h10)))) : MCi g yX11_ones uX11_ones [.ref 11] h P := by
  refine m_enter (by decide) rfl (Nat.le_of_ble_eq_true rfl) (lv := [.ref 11]) rfl ?_
  refine m_aload_n dX11_ones_0 rfl ?_
  refine cl_X11_174 rfl (by decide) dX11_ones_1 (Nat.le_of_ble_eq_true rfl) (MCv_go q (fun h1 q => ?_))
  refine m_aload_n dX11_ones_4 rfl ?_
  refine gf_X11_183 rfl dX11_ones_5 ?_
  refine m_if_ne 17 dX11_ones_8 (by decide) (fun c2 => ?_) (fun c2 => ?_)
  · replace q := q.1 c2
    refine m_aload_n dX11_ones_17 rfl ?_
    refine cl_X11_366 rfl (by decide) dX11_ones_18 (Nat.le_of_ble_eq_true rfl) (MCv_go q (fun h3 q => ?_))
    refine m_aload_n dX11_ones_21 rfl ?_
    refine m_aload_n dX11_ones_22 rfl ?_
    refine cl_X11_381 rfl (by decide) dX11_ones_23 (Nat.le_of_ble_eq_true rfl) (MCi_go q (fun r5 h4 q => ?_))
    refine m_ldcw (v := 1048576) dX11_ones_26 tw_969 ?_
    refine cl_X11_378 rfl (by decide) dX11_ones_29 (Nat.le_of_ble_eq_true rfl) (MCv_go q (fun h6 q => ?_))
    refine m_aload_n dX11_ones_32 rfl ?_
    refine gf_X11_369 rfl dX11_ones_33 ?_
    refine m_if_ne 48 dX11_ones_36 (by decide) (fun c7 => ?_) (fun c7 => ?_)
    · replace q := q.1 c7
      refine m_aload_n dX11_ones_48 rfl ?_
      refine gf_X11_372 rfl dX11_ones_49 ?_
      exact m_iret dX11_ones_52 rfl q
    · replace q := q.2 c7
      refine m_aload_n dX11_ones_39 rfl ?_
      refine m_bipush (v := 6) dX11_ones_40 (by decide) ?_
      refine cl_X11_177 rfl (by decide) dX11_ones_42 (Nat.le_of_ble_eq_true rfl) (MCi_go q (fun r9 h8 q => ?_))
      refine m_goto 52 dX11_ones_45 (by decide) ?_
      exact m_iret dX11_ones_52 rfl q
  · replace q := q.2 c2
    refine m_aload_n dX11_ones_11 rfl ?_
    refine m_iconst (v := 1) dX11_ones_12 (by decide) ?_
    refine cl_X11_177 rfl (by decide) dX11_ones_13 (Nat.le_of_ble_eq_true rfl) (MCi_go q (fun r11 h10 q => ?_))
    exact m_iret dX11_ones_16 rfl q
set_option maxRecDepth 100000 in
theorem e_X11_spare {g : gT} {h : mh_T} {P : Int32 → mh_T → Prop}  (q : MCv g yX11_good uX11_good [.ref 11] h (fun h1 => (¬ (mI h1 11 14) = 0 → MCv g yX11_layCorners uX11_layCorners [.ref 11] h1 (fun h3 => MCi g yX11_allRays uX11_allRays [.ref 11] h3 (fun r5 h4 => MCi g yX11_hasColour uX11_hasColour [.ref 11, .int r5] h4 (fun r7 h6 => (r7 = 0 → ME g uX11_spare 38 [.ref 11, .int 0, .int 0] [] h6 (qI P)) ∧ (¬ r7 = 0 → P 0 h6))))) ∧ ((mI h1 11 14) = 0 → MCi g yX11_no uX11_no [.ref 11, .int 1] h1 (fun r10 h9 => P r10 h9)))) : MCi g yX11_spare uX11_spare [.ref 11] h P := by
  refine m_enter (by decide) rfl (Nat.le_of_ble_eq_true rfl) (lv := [.ref 11, .retAddr 0, .retAddr 0]) rfl ?_
  refine m_aload_n dX11_spare_0 rfl ?_
  refine cl_X11_174 rfl (by decide) dX11_spare_1 (Nat.le_of_ble_eq_true rfl) (MCv_go q (fun h1 q => ?_))
  refine m_aload_n dX11_spare_4 rfl ?_
  refine gf_X11_183 rfl dX11_spare_5 ?_
  refine m_if_ne 17 dX11_spare_8 (by decide) (fun c2 => ?_) (fun c2 => ?_)
  · replace q := q.1 c2
    refine m_aload_n dX11_spare_17 rfl ?_
    refine cl_X11_366 rfl (by decide) dX11_spare_18 (Nat.le_of_ble_eq_true rfl) (MCv_go q (fun h3 q => ?_))
    refine m_aload_n dX11_spare_21 rfl ?_
    refine m_aload_n dX11_spare_22 rfl ?_
    refine cl_X11_381 rfl (by decide) dX11_spare_23 (Nat.le_of_ble_eq_true rfl) (MCi_go q (fun r5 h4 q => ?_))
    refine cl_X11_385 rfl (by decide) dX11_spare_26 (Nat.le_of_ble_eq_true rfl) (MCi_go q (fun r7 h6 q => ?_))
    refine m_if_eq 34 dX11_spare_29 (by decide) (fun c8 => ?_) (fun c8 => ?_)
    · replace q := q.1 c8
      refine m_iconst (v := 0) dX11_spare_34 (by decide) ?_
      refine m_istore_n (lv' := [.ref 11, .int 0, .retAddr 0]) dX11_spare_35 (Nat.le_of_ble_eq_true rfl) rfl rfl ?_
      refine m_iconst (v := 0) dX11_spare_36 (by decide) ?_
      refine m_istore_n (lv' := [.ref 11, .int 0, .int 0]) dX11_spare_37 (Nat.le_of_ble_eq_true rfl) rfl rfl ?_
      exact q
    · replace q := q.2 c8
      refine m_iconst (v := 0) dX11_spare_32 (by decide) ?_
      exact m_iret dX11_spare_33 rfl q
  · replace q := q.2 c2
    refine m_aload_n dX11_spare_11 rfl ?_
    refine m_iconst (v := 1) dX11_spare_12 (by decide) ?_
    refine cl_X11_177 rfl (by decide) dX11_spare_13 (Nat.le_of_ble_eq_true rfl) (MCi_go q (fun r10 h9 q => ?_))
    exact m_iret dX11_spare_16 rfl q
set_option maxRecDepth 100000 in
theorem r_X11_spare_38 {g : gT} {h : mh_T} {P : Int32 → mh_T → Prop} (l1 : Int32) (l2 : Int32) (q : ((mI h 45 (Int32.toNatClampNeg 85)) ≤ l2 → P l1 h) ∧ (¬ (mI h 45 (Int32.toNatClampNeg 85)) ≤ l2 → MCi g yX11_allRays uX11_allRays [.ref 11] h (fun r3 h2 => MCi g yX11_hasColour uX11_hasColour [.ref 11, .int (r3 &&& ((1 <<< (l2 &&& 31)) ^^^ (-1)))] h2 (fun r5 h4 => (r5 = 0 → ∀ x7 : Int32, x7 = (l1 ||| (1 <<< (l2 &&& 31))) → ME g uX11_spare 38 [.ref 11, .int x7, .int (l2 + 1)] [] h4 (qI P)) ∧ (¬ r5 = 0 → ∀ x8 : Int32, x8 = (l1 ||| 0) → ME g uX11_spare 38 [.ref 11, .int x8, .int (l2 + 1)] [] h4 (qI P)))))) : ME g uX11_spare 38 [.ref 11, .int l1, .int l2] [] h (qI P) := by
  refine m_iload_n dX11_spare_38 rfl ?_
  refine m_aload_n dX11_spare_39 rfl ?_
  refine gf_X11_20 rfl dX11_spare_40 ?_
  refine m_bipush (v := 85) dX11_spare_43 (by decide) ?_
  refine m_iaload dX11_spare_45 rfl (by decide) (by unfold vp_in; decide) ?_
  refine m_icmp_ge 82 dX11_spare_46 (by decide) (fun c1 => ?_) (fun c1 => ?_)
  · replace q := q.1 c1
    refine m_iload_n dX11_spare_82 rfl ?_
    exact m_iret dX11_spare_83 rfl q
  · replace q := q.2 c1
    refine m_iload_n dX11_spare_49 rfl ?_
    refine m_aload_n dX11_spare_50 rfl ?_
    refine m_aload_n dX11_spare_51 rfl ?_
    refine cl_X11_381 rfl (by decide) dX11_spare_52 (Nat.le_of_ble_eq_true rfl) (MCi_go q (fun r3 h2 q => ?_))
    refine m_iconst (v := 1) dX11_spare_55 (by decide) ?_
    refine m_iload_n dX11_spare_56 rfl ?_
    refine m_ishl dX11_spare_57 ?_
    refine m_iconst (v := (-1)) dX11_spare_58 (by decide) ?_
    refine m_ixor dX11_spare_59 ?_
    refine m_iand dX11_spare_60 ?_
    refine cl_X11_385 rfl (by decide) dX11_spare_61 (Nat.le_of_ble_eq_true rfl) (MCi_go q (fun r5 h4 q => ?_))
    refine m_if_eq 71 dX11_spare_64 (by decide) (fun c6 => ?_) (fun c6 => ?_)
    · replace q := q.1 c6
      refine m_iconst (v := 1) dX11_spare_71 (by decide) ?_
      refine m_iload_n dX11_spare_72 rfl ?_
      refine m_ishl dX11_spare_73 ?_
      refine m_ior dX11_spare_74 ?_
      obtain ⟨x7, ex7⟩ : ∃ z, z = (l1 ||| (1 <<< (l2 &&& 31))) := ⟨_, rfl⟩
      rw [← ex7]
      replace q := q x7 ex7
      refine m_istore_n (lv' := [.ref 11, .int x7, .int l2]) dX11_spare_75 (Nat.le_of_ble_eq_true rfl) rfl rfl ?_
      refine m_iinc (v := (l2 + 1)) (lv' := [.ref 11, .int x7, .int (l2 + 1)]) dX11_spare_76 (Nat.le_of_ble_eq_true rfl) rfl (congrArg (fun z => l2 + z) (by decide : Int32.ofInt 1 = 1)) rfl rfl ?_
      refine m_goto 38 dX11_spare_79 (by decide) ?_
      exact q
    · replace q := q.2 c6
      refine m_iconst (v := 0) dX11_spare_67 (by decide) ?_
      refine m_goto 74 dX11_spare_68 (by decide) ?_
      refine m_ior dX11_spare_74 ?_
      obtain ⟨x8, ex8⟩ : ∃ z, z = (l1 ||| 0) := ⟨_, rfl⟩
      rw [← ex8]
      replace q := q x8 ex8
      refine m_istore_n (lv' := [.ref 11, .int x8, .int l2]) dX11_spare_75 (Nat.le_of_ble_eq_true rfl) rfl rfl ?_
      refine m_iinc (v := (l2 + 1)) (lv' := [.ref 11, .int x8, .int (l2 + 1)]) dX11_spare_76 (Nat.le_of_ble_eq_true rfl) rfl (congrArg (fun z => l2 + z) (by decide : Int32.ofInt 1 = 1)) rfl rfl ?_
      refine m_goto 38 dX11_spare_79 (by decide) ?_
      exact q
set_option maxRecDepth 100000 in
theorem e_X11_critical {g : gT} {h : mh_T} {P : Int32 → mh_T → Prop}  (q : MCv g yX11_good uX11_good [.ref 11] h (fun h1 => (¬ (mI h1 11 14) = 0 → MCv g yX11_layCorners uX11_layCorners [.ref 11] h1 (fun h3 => MCi g yX11_allRays uX11_allRays [.ref 11] h3 (fun r5 h4 => MCi g yX11_hasColour uX11_hasColour [.ref 11, .int r5] h4 (fun r7 h6 => (r7 = 0 → MCi g yX11_allRays uX11_allRays [.ref 11] h6 (fun r10 h9 => ME g uX11_critical 46 [.ref 11, .int r10, .int 0] [] h9 (qI P))) ∧ (¬ r7 = 0 → MCi g yX11_no uX11_no [.ref 11, .int 6] h6 (fun r12 h11 => P r12 h11)))))) ∧ ((mI h1 11 14) = 0 → MCi g yX11_no uX11_no [.ref 11, .int 1] h1 (fun r14 h13 => P r14 h13)))) : MCi g yX11_critical uX11_critical [.ref 11] h P := by
  refine m_enter (by decide) rfl (Nat.le_of_ble_eq_true rfl) (lv := [.ref 11, .retAddr 0, .retAddr 0]) rfl ?_
  refine m_aload_n dX11_critical_0 rfl ?_
  refine cl_X11_174 rfl (by decide) dX11_critical_1 (Nat.le_of_ble_eq_true rfl) (MCv_go q (fun h1 q => ?_))
  refine m_aload_n dX11_critical_4 rfl ?_
  refine gf_X11_183 rfl dX11_critical_5 ?_
  refine m_if_ne 17 dX11_critical_8 (by decide) (fun c2 => ?_) (fun c2 => ?_)
  · replace q := q.1 c2
    refine m_aload_n dX11_critical_17 rfl ?_
    refine cl_X11_366 rfl (by decide) dX11_critical_18 (Nat.le_of_ble_eq_true rfl) (MCv_go q (fun h3 q => ?_))
    refine m_aload_n dX11_critical_21 rfl ?_
    refine m_aload_n dX11_critical_22 rfl ?_
    refine cl_X11_381 rfl (by decide) dX11_critical_23 (Nat.le_of_ble_eq_true rfl) (MCi_go q (fun r5 h4 q => ?_))
    refine cl_X11_385 rfl (by decide) dX11_critical_26 (Nat.le_of_ble_eq_true rfl) (MCi_go q (fun r7 h6 q => ?_))
    refine m_if_eq 39 dX11_critical_29 (by decide) (fun c8 => ?_) (fun c8 => ?_)
    · replace q := q.1 c8
      refine m_aload_n dX11_critical_39 rfl ?_
      refine cl_X11_381 rfl (by decide) dX11_critical_40 (Nat.le_of_ble_eq_true rfl) (MCi_go q (fun r10 h9 q => ?_))
      refine m_istore_n (lv' := [.ref 11, .int r10, .retAddr 0]) dX11_critical_43 (Nat.le_of_ble_eq_true rfl) rfl rfl ?_
      refine m_iconst (v := 0) dX11_critical_44 (by decide) ?_
      refine m_istore_n (lv' := [.ref 11, .int r10, .int 0]) dX11_critical_45 (Nat.le_of_ble_eq_true rfl) rfl rfl ?_
      exact q
    · replace q := q.2 c8
      refine m_aload_n dX11_critical_32 rfl ?_
      refine m_bipush (v := 6) dX11_critical_33 (by decide) ?_
      refine cl_X11_177 rfl (by decide) dX11_critical_35 (Nat.le_of_ble_eq_true rfl) (MCi_go q (fun r12 h11 q => ?_))
      exact m_iret dX11_critical_38 rfl q
  · replace q := q.2 c2
    refine m_aload_n dX11_critical_11 rfl ?_
    refine m_iconst (v := 1) dX11_critical_12 (by decide) ?_
    refine cl_X11_177 rfl (by decide) dX11_critical_13 (Nat.le_of_ble_eq_true rfl) (MCi_go q (fun r14 h13 q => ?_))
    exact m_iret dX11_critical_16 rfl q
set_option maxRecDepth 100000 in
theorem r_X11_critical_46 {g : gT} {h : mh_T} {P : Int32 → mh_T → Prop} (l1 : Int32) (l2 : Int32) (q : ((mI h 45 (Int32.toNatClampNeg 85)) ≤ l2 → P l1 h) ∧ (¬ (mI h 45 (Int32.toNatClampNeg 85)) ≤ l2 → MCi g yX11_hasColour uX11_hasColour [.ref 11, .int (l1 &&& ((1 <<< (l2 &&& 31)) ^^^ (-1)))] h (fun r3 h2 => (¬ r3 = 0 → ME g uX11_critical 46 [.ref 11, .int l1, .int (l2 + 1)] [] h2 (qI P)) ∧ (r3 = 0 → ∀ x5 : Int32, x5 = (l1 &&& ((1 <<< (l2 &&& 31)) ^^^ (-1))) → ME g uX11_critical 46 [.ref 11, .int x5, .int (l2 + 1)] [] h2 (qI P))))) : ME g uX11_critical 46 [.ref 11, .int l1, .int l2] [] h (qI P) := by
  refine m_iload_n dX11_critical_46 rfl ?_
  refine m_aload_n dX11_critical_47 rfl ?_
  refine gf_X11_20 rfl dX11_critical_48 ?_
  refine m_bipush (v := 85) dX11_critical_51 (by decide) ?_
  refine m_iaload dX11_critical_53 rfl (by decide) (by unfold vp_in; decide) ?_
  refine m_icmp_ge 85 dX11_critical_54 (by decide) (fun c1 => ?_) (fun c1 => ?_)
  · replace q := q.1 c1
    refine m_iload_n dX11_critical_85 rfl ?_
    exact m_iret dX11_critical_86 rfl q
  · replace q := q.2 c1
    refine m_aload_n dX11_critical_57 rfl ?_
    refine m_iload_n dX11_critical_58 rfl ?_
    refine m_iconst (v := 1) dX11_critical_59 (by decide) ?_
    refine m_iload_n dX11_critical_60 rfl ?_
    refine m_ishl dX11_critical_61 ?_
    refine m_iconst (v := (-1)) dX11_critical_62 (by decide) ?_
    refine m_ixor dX11_critical_63 ?_
    refine m_iand dX11_critical_64 ?_
    refine cl_X11_385 rfl (by decide) dX11_critical_65 (Nat.le_of_ble_eq_true rfl) (MCi_go q (fun r3 h2 q => ?_))
    refine m_if_ne 79 dX11_critical_68 (by decide) (fun c4 => ?_) (fun c4 => ?_)
    · replace q := q.1 c4
      refine m_iinc (v := (l2 + 1)) (lv' := [.ref 11, .int l1, .int (l2 + 1)]) dX11_critical_79 (Nat.le_of_ble_eq_true rfl) rfl (congrArg (fun z => l2 + z) (by decide : Int32.ofInt 1 = 1)) rfl rfl ?_
      refine m_goto 46 dX11_critical_82 (by decide) ?_
      exact q
    · replace q := q.2 c4
      refine m_iload_n dX11_critical_71 rfl ?_
      refine m_iconst (v := 1) dX11_critical_72 (by decide) ?_
      refine m_iload_n dX11_critical_73 rfl ?_
      refine m_ishl dX11_critical_74 ?_
      refine m_iconst (v := (-1)) dX11_critical_75 (by decide) ?_
      refine m_ixor dX11_critical_76 ?_
      refine m_iand dX11_critical_77 ?_
      obtain ⟨x5, ex5⟩ : ∃ z, z = (l1 &&& ((1 <<< (l2 &&& 31)) ^^^ (-1))) := ⟨_, rfl⟩
      rw [← ex5]
      replace q := q x5 ex5
      refine m_istore_n (lv' := [.ref 11, .int x5, .int l2]) dX11_critical_78 (Nat.le_of_ble_eq_true rfl) rfl rfl ?_
      refine m_iinc (v := (l2 + 1)) (lv' := [.ref 11, .int x5, .int (l2 + 1)]) dX11_critical_79 (Nat.le_of_ble_eq_true rfl) rfl (congrArg (fun z => l2 + z) (by decide : Int32.ofInt 1 = 1)) rfl rfl ?_
      refine m_goto 46 dX11_critical_82 (by decide) ?_
      exact q
set_option maxRecDepth 100000 in
theorem e_X11_tellsAll {g : gT} {h : mh_T} {K : Nat} {P : Int32 → mh_T → Prop} (l1 : Int32) (l2 : Int32) (l3 : Int32) (l4 : Int32) (q : (¬ l2 = (mI h 45 (Int32.toNatClampNeg 158)) → (vp_in (159 + l2) 346) ∧ ((¬ l3 = (mI h 45 (159 + l2).toNatClampNeg) → (vp_in ((163 + (6 * l2)) + l3) 346) ∧ (∀ x5 : Int32, x5 = ((6 * l4) + (mI h 45 ((163 + (6 * l2)) + l3).toNatClampNeg)) → (vp_in ((187 + (6 * l2)) + l3) 346) ∧ (∀ x7 : Int32, x7 = (mI h 45 ((187 + (6 * l2)) + l3).toNatClampNeg) → (vp_in x5 18) ∧ (((mI h 59 x5.toNatClampNeg) = 2 → (vp_in x5 18) ∧ (ME g (uX11_tellsAll (K + 1)) 139 [.ref 11, .int l1, .int l2, .int l3, .int l4, .int x5, .int x7, .int 0] [] (wI h 59 x5.toNatClampNeg x7) (qI P))) ∧ (¬ (mI h 59 x5.toNatClampNeg) = 2 → (vp_in x5 18) ∧ ((¬ (mI h 59 x5.toNatClampNeg) = x7 → P 0 h) ∧ ((mI h 59 x5.toNatClampNeg) = x7 → (vp_in x5 18) ∧ (MCi g yX11_tellsAll (uX11_tellsAll K) [.ref 11, .int l1, .int l2, .int (l3 + 1), .int (mI h 60 x5.toNatClampNeg)] h (fun r15 h14 => (r15 = 0 → P 0 h14) ∧ (¬ r15 = 0 → P 1 h14)))))))))) ∧ (l3 = (mI h 45 (159 + l2).toNatClampNeg) → MCi g yX11_tellsAll (uX11_tellsAll K) [.ref 11, .int l1, .int (l2 + 1), .int 0, .int 0] h (fun r18 h17 => (r18 = 0 ∨ r18 = 1) ∧ P r18 h17)))) ∧ (l2 = (mI h 45 (Int32.toNatClampNeg 158)) → P 1 h)) : MCi g yX11_tellsAll (uX11_tellsAll (K + 1)) [.ref 11, .int l1, .int l2, .int l3, .int l4] h P := by
  refine m_enter (by decide) rfl (Nat.le_of_ble_eq_true rfl) (lv := [.ref 11, .int l1, .int l2, .int l3, .int l4, .retAddr 0, .retAddr 0, .retAddr 0]) rfl ?_
  refine m_iload_n dX11_tellsAll_0 rfl ?_
  refine m_aload_n dX11_tellsAll_1 rfl ?_
  refine gf_X11_20 rfl dX11_tellsAll_2 ?_
  refine m_sipush (v := 158) dX11_tellsAll_5 (by decide) ?_
  refine m_iaload dX11_tellsAll_8 rfl (by decide) (by unfold vp_in; decide) ?_
  refine m_icmp_ne 14 dX11_tellsAll_9 (by decide) (fun c1 => ?_) (fun c1 => ?_)
  · replace q := q.1 c1
    refine m_iload_n dX11_tellsAll_14 rfl ?_
    refine m_aload_n dX11_tellsAll_15 rfl ?_
    refine gf_X11_20 rfl dX11_tellsAll_16 ?_
    refine m_sipush (v := 159) dX11_tellsAll_19 (by decide) ?_
    refine m_iload_n dX11_tellsAll_22 rfl ?_
    refine m_iadd dX11_tellsAll_23 ?_
    obtain ⟨b2, q⟩ := q
    refine m_iaload dX11_tellsAll_24 rfl (by decide) b2 ?_
    refine m_icmp_ne 39 dX11_tellsAll_25 (by decide) (fun c3 => ?_) (fun c3 => ?_)
    · replace q := q.1 c3
      refine m_bipush (v := 6) dX11_tellsAll_39 (by decide) ?_
      refine m_iload dX11_tellsAll_41 rfl ?_
      refine m_imul dX11_tellsAll_43 ?_
      refine m_aload_n dX11_tellsAll_44 rfl ?_
      refine gf_X11_20 rfl dX11_tellsAll_45 ?_
      refine m_sipush (v := 163) dX11_tellsAll_48 (by decide) ?_
      refine m_bipush (v := 6) dX11_tellsAll_51 (by decide) ?_
      refine m_iload_n dX11_tellsAll_53 rfl ?_
      refine m_imul dX11_tellsAll_54 ?_
      refine m_iadd dX11_tellsAll_55 ?_
      refine m_iload_n dX11_tellsAll_56 rfl ?_
      refine m_iadd dX11_tellsAll_57 ?_
      obtain ⟨b4, q⟩ := q
      refine m_iaload dX11_tellsAll_58 rfl (by decide) b4 ?_
      refine m_iadd dX11_tellsAll_59 ?_
      obtain ⟨x5, ex5⟩ : ∃ z, z = ((6 * l4) + (mI h 45 ((163 + (6 * l2)) + l3).toNatClampNeg)) := ⟨_, rfl⟩
      rw [← ex5]
      replace q := q x5 ex5
      refine m_istore (lv' := [.ref 11, .int l1, .int l2, .int l3, .int l4, .int x5, .retAddr 0, .retAddr 0]) dX11_tellsAll_60 (Nat.le_of_ble_eq_true rfl) rfl rfl ?_
      refine m_aload_n dX11_tellsAll_62 rfl ?_
      refine gf_X11_20 rfl dX11_tellsAll_63 ?_
      refine m_sipush (v := 187) dX11_tellsAll_66 (by decide) ?_
      refine m_bipush (v := 6) dX11_tellsAll_69 (by decide) ?_
      refine m_iload_n dX11_tellsAll_71 rfl ?_
      refine m_imul dX11_tellsAll_72 ?_
      refine m_iadd dX11_tellsAll_73 ?_
      refine m_iload_n dX11_tellsAll_74 rfl ?_
      refine m_iadd dX11_tellsAll_75 ?_
      obtain ⟨b6, q⟩ := q
      refine m_iaload dX11_tellsAll_76 rfl (by decide) b6 ?_
      obtain ⟨x7, ex7⟩ : ∃ z, z = (mI h 45 ((187 + (6 * l2)) + l3).toNatClampNeg) := ⟨_, rfl⟩
      rw [← ex7]
      replace q := q x7 ex7
      refine m_istore (lv' := [.ref 11, .int l1, .int l2, .int l3, .int l4, .int x5, .int x7, .retAddr 0]) dX11_tellsAll_77 (Nat.le_of_ble_eq_true rfl) rfl rfl ?_
      refine m_aload_n dX11_tellsAll_79 rfl ?_
      refine gf_X11_63 rfl dX11_tellsAll_80 ?_
      refine m_iload dX11_tellsAll_83 rfl ?_
      obtain ⟨b8, q⟩ := q
      refine m_iaload dX11_tellsAll_85 rfl (by decide) b8 ?_
      refine m_iconst (v := 2) dX11_tellsAll_86 (by decide) ?_
      refine m_icmp_eq 127 dX11_tellsAll_87 (by decide) (fun c9 => ?_) (fun c9 => ?_)
      · replace q := q.1 c9
        refine m_aload_n dX11_tellsAll_127 rfl ?_
        refine gf_X11_63 rfl dX11_tellsAll_128 ?_
        refine m_iload dX11_tellsAll_131 rfl ?_
        refine m_iload dX11_tellsAll_133 rfl ?_
        obtain ⟨b10, q⟩ := q
        refine m_iastore dX11_tellsAll_135 rfl (by decide) b10 ?_
        refine m_iconst (v := 0) dX11_tellsAll_136 (by decide) ?_
        refine m_istore (lv' := [.ref 11, .int l1, .int l2, .int l3, .int l4, .int x5, .int x7, .int 0]) dX11_tellsAll_137 (Nat.le_of_ble_eq_true rfl) rfl rfl ?_
        exact q
      · replace q := q.2 c9
        refine m_aload_n dX11_tellsAll_90 rfl ?_
        refine gf_X11_63 rfl dX11_tellsAll_91 ?_
        refine m_iload dX11_tellsAll_94 rfl ?_
        obtain ⟨b11, q⟩ := q
        refine m_iaload dX11_tellsAll_96 rfl (by decide) b11 ?_
        refine m_iload dX11_tellsAll_97 rfl ?_
        refine m_icmp_ne 125 dX11_tellsAll_99 (by decide) (fun c12 => ?_) (fun c12 => ?_)
        · replace q := q.1 c12
          refine m_iconst (v := 0) dX11_tellsAll_125 (by decide) ?_
          exact m_zret dX11_tellsAll_126 rfl (by decide) q
        · replace q := q.2 c12
          refine m_aload_n dX11_tellsAll_102 rfl ?_
          refine m_iload_n dX11_tellsAll_103 rfl ?_
          refine m_iload_n dX11_tellsAll_104 rfl ?_
          refine m_iload_n dX11_tellsAll_105 rfl ?_
          refine m_iconst (v := 1) dX11_tellsAll_106 (by decide) ?_
          refine m_iadd dX11_tellsAll_107 ?_
          refine m_aload_n dX11_tellsAll_108 rfl ?_
          refine gf_X11_66 rfl dX11_tellsAll_109 ?_
          refine m_iload dX11_tellsAll_112 rfl ?_
          obtain ⟨b13, q⟩ := q
          refine m_iaload dX11_tellsAll_114 rfl (by decide) b13 ?_
          refine cl_X11_388 rfl (Nat.lt_succ_self K) dX11_tellsAll_115 (Nat.le_of_ble_eq_true rfl) (MCi_go q (fun r15 h14 q => ?_))
          refine m_if_eq 125 dX11_tellsAll_118 (by decide) (fun c16 => ?_) (fun c16 => ?_)
          · replace q := q.1 c16
            refine m_iconst (v := 0) dX11_tellsAll_125 (by decide) ?_
            exact m_zret dX11_tellsAll_126 rfl (by decide) q
          · replace q := q.2 c16
            refine m_iconst (v := 1) dX11_tellsAll_121 (by decide) ?_
            refine m_goto 126 dX11_tellsAll_122 (by decide) ?_
            exact m_zret dX11_tellsAll_126 rfl (by decide) q
    · replace q := q.2 c3
      refine m_aload_n dX11_tellsAll_28 rfl ?_
      refine m_iload_n dX11_tellsAll_29 rfl ?_
      refine m_iload_n dX11_tellsAll_30 rfl ?_
      refine m_iconst (v := 1) dX11_tellsAll_31 (by decide) ?_
      refine m_iadd dX11_tellsAll_32 ?_
      refine m_iconst (v := 0) dX11_tellsAll_33 (by decide) ?_
      refine m_iconst (v := 0) dX11_tellsAll_34 (by decide) ?_
      refine cl_X11_388 rfl (Nat.lt_succ_self K) dX11_tellsAll_35 (Nat.le_of_ble_eq_true rfl) (MCi_go q (fun r18 h17 q => ?_))
      exact m_zret dX11_tellsAll_38 rfl q.1 q.2
  · replace q := q.2 c1
    refine m_iconst (v := 1) dX11_tellsAll_12 (by decide) ?_
    exact m_zret dX11_tellsAll_13 rfl (by decide) q
set_option maxRecDepth 100000 in
theorem r_X11_tellsAll_139 {g : gT} {h : mh_T} {K : Nat} {P : Int32 → mh_T → Prop} (l1 : Int32) (l2 : Int32) (l3 : Int32) (l4 : Int32) (l5 : Int32) (l6 : Int32) (l7 : Int32) (q : (l1 ≤ l7 → (vp_in l5 18) ∧ ((vp_in l5 18) ∧ (P 0 (wI (wI h 59 l5.toNatClampNeg 2) 60 l5.toNatClampNeg (-1))))) ∧ (¬ l1 ≤ l7 → (vp_in l5 18) ∧ (MCi g yX11_tellsAll (uX11_tellsAll K) [.ref 11, .int l1, .int l2, .int (l3 + 1), .int l7] (wI h 60 l5.toNatClampNeg l7) (fun r6 h5 => (r6 = 0 → ME g (uX11_tellsAll (K + 1)) 139 [.ref 11, .int l1, .int l2, .int l3, .int l4, .int l5, .int l6, .int (l7 + 1)] [] h5 (qI P)) ∧ (¬ r6 = 0 → P 1 h5))))) : ME g (uX11_tellsAll (K + 1)) 139 [.ref 11, .int l1, .int l2, .int l3, .int l4, .int l5, .int l6, .int l7] [] h (qI P) := by
  refine m_iload dX11_tellsAll_139 rfl ?_
  refine m_iload_n dX11_tellsAll_141 rfl ?_
  refine m_icmp_ge 176 dX11_tellsAll_142 (by decide) (fun c1 => ?_) (fun c1 => ?_)
  · replace q := q.1 c1
    refine m_aload_n dX11_tellsAll_176 rfl ?_
    refine gf_X11_63 rfl dX11_tellsAll_177 ?_
    refine m_iload dX11_tellsAll_180 rfl ?_
    refine m_iconst (v := 2) dX11_tellsAll_182 (by decide) ?_
    obtain ⟨b2, q⟩ := q
    refine m_iastore dX11_tellsAll_183 rfl (by decide) b2 ?_
    refine m_aload_n dX11_tellsAll_184 rfl ?_
    refine gf_X11_66 rfl dX11_tellsAll_185 ?_
    refine m_iload dX11_tellsAll_188 rfl ?_
    refine m_iconst (v := (-1)) dX11_tellsAll_190 (by decide) ?_
    obtain ⟨b3, q⟩ := q
    refine m_iastore dX11_tellsAll_191 rfl (by decide) b3 ?_
    refine m_iconst (v := 0) dX11_tellsAll_192 (by decide) ?_
    exact m_zret dX11_tellsAll_193 rfl (by decide) q
  · replace q := q.2 c1
    refine m_aload_n dX11_tellsAll_145 rfl ?_
    refine gf_X11_66 rfl dX11_tellsAll_146 ?_
    refine m_iload dX11_tellsAll_149 rfl ?_
    refine m_iload dX11_tellsAll_151 rfl ?_
    obtain ⟨b4, q⟩ := q
    refine m_iastore dX11_tellsAll_153 rfl (by decide) b4 ?_
    refine m_aload_n dX11_tellsAll_154 rfl ?_
    refine m_iload_n dX11_tellsAll_155 rfl ?_
    refine m_iload_n dX11_tellsAll_156 rfl ?_
    refine m_iload_n dX11_tellsAll_157 rfl ?_
    refine m_iconst (v := 1) dX11_tellsAll_158 (by decide) ?_
    refine m_iadd dX11_tellsAll_159 ?_
    refine m_iload dX11_tellsAll_160 rfl ?_
    refine cl_X11_388 rfl (Nat.lt_succ_self K) dX11_tellsAll_162 (Nat.le_of_ble_eq_true rfl) (MCi_go q (fun r6 h5 q => ?_))
    refine m_if_eq 170 dX11_tellsAll_165 (by decide) (fun c7 => ?_) (fun c7 => ?_)
    · replace q := q.1 c7
      refine m_iinc (v := (l7 + 1)) (lv' := [.ref 11, .int l1, .int l2, .int l3, .int l4, .int l5, .int l6, .int (l7 + 1)]) dX11_tellsAll_170 (Nat.le_of_ble_eq_true rfl) rfl (congrArg (fun z => l7 + z) (by decide : Int32.ofInt 1 = 1)) rfl rfl ?_
      refine m_goto 139 dX11_tellsAll_173 (by decide) ?_
      exact q
    · replace q := q.2 c7
      refine m_iconst (v := 1) dX11_tellsAll_168 (by decide) ?_
      exact m_zret dX11_tellsAll_169 rfl (by decide) q
set_option maxRecDepth 100000 in
theorem e_X11_fewestStates {g : gT} {h : mh_T} {P : Int32 → mh_T → Prop}  (q : ME g uX11_fewestStates 2 [.ref 11, .int 1, .retAddr 0] [] h (qI P)) : MCi g yX11_fewestStates uX11_fewestStates [.ref 11] h P := by
  refine m_enter (by decide) rfl (Nat.le_of_ble_eq_true rfl) (lv := [.ref 11, .retAddr 0, .retAddr 0]) rfl ?_
  refine m_iconst (v := 1) dX11_fewestStates_0 (by decide) ?_
  refine m_istore_n (lv' := [.ref 11, .int 1, .retAddr 0]) dX11_fewestStates_1 (Nat.le_of_ble_eq_true rfl) rfl rfl ?_
  exact q
set_option maxRecDepth 100000 in
theorem r_X11_fewestStates_2 {g : gT} {h : mh_T} {P : Int32 → mh_T → Prop} (l1 : Int32) (q : (3 < l1 → P (-2) h) ∧ (¬ 3 < l1 → ME g uX11_fewestStates 9 [.ref 11, .int l1, .int 0] [] h (qI P))) : ME g uX11_fewestStates 2 [.ref 11, .int l1, .retAddr 0] [] h (qI P) := by
  refine m_iload_n dX11_fewestStates_2 rfl ?_
  refine m_iconst (v := 3) dX11_fewestStates_3 (by decide) ?_
  refine m_icmp_gt 54 dX11_fewestStates_4 (by decide) (fun c1 => ?_) (fun c1 => ?_)
  · replace q := q.1 c1
    refine m_bipush (v := (-2)) dX11_fewestStates_54 (by decide) ?_
    exact m_iret dX11_fewestStates_56 rfl q
  · replace q := q.2 c1
    refine m_iconst (v := 0) dX11_fewestStates_7 (by decide) ?_
    refine m_istore_n (lv' := [.ref 11, .int l1, .int 0]) dX11_fewestStates_8 (Nat.le_of_ble_eq_true rfl) rfl rfl ?_
    exact q
set_option maxRecDepth 100000 in
theorem r_X11_fewestStates_9 {g : gT} {h : mh_T} {P : Int32 → mh_T → Prop} (l1 : Int32) (l2 : Int32) (q : (18 ≤ l2 → MCi g yX11_tellsAll (uX11_tellsAll 60) [.ref 11, .int l1, .int 0, .int 0, .int 0] h (fun r3 h2 => (r3 = 0 → ME g uX11_fewestStates 2 [.ref 11, .int (l1 + 1), .retAddr 0] [] h2 (qI P)) ∧ (¬ r3 = 0 → P l1 h2))) ∧ (¬ 18 ≤ l2 → (vp_in l2 18) ∧ ((vp_in l2 18) ∧ (ME g uX11_fewestStates 9 [.ref 11, .int l1, .int (l2 + 1)] [] (wI (wI h 59 l2.toNatClampNeg 2) 60 l2.toNatClampNeg (-1)) (qI P))))) : ME g uX11_fewestStates 9 [.ref 11, .int l1, .int l2] [] h (qI P) := by
  refine m_iload_n dX11_fewestStates_9 rfl ?_
  refine m_bipush (v := 18) dX11_fewestStates_10 (by decide) ?_
  refine m_icmp_ge 35 dX11_fewestStates_12 (by decide) (fun c1 => ?_) (fun c1 => ?_)
  · replace q := q.1 c1
    refine m_aload_n dX11_fewestStates_35 rfl ?_
    refine m_iload_n dX11_fewestStates_36 rfl ?_
    refine m_iconst (v := 0) dX11_fewestStates_37 (by decide) ?_
    refine m_iconst (v := 0) dX11_fewestStates_38 (by decide) ?_
    refine m_iconst (v := 0) dX11_fewestStates_39 (by decide) ?_
    refine cl_X11_388 rfl (by decide) dX11_fewestStates_40 (Nat.le_of_ble_eq_true rfl) (MCi_go q (fun r3 h2 q => ?_))
    refine m_if_eq 48 dX11_fewestStates_43 (by decide) (fun c4 => ?_) (fun c4 => ?_)
    · replace q := q.1 c4
      refine m_iinc (v := (l1 + 1)) (lv' := [.ref 11, .int (l1 + 1), .int l2]) dX11_fewestStates_48 (Nat.le_of_ble_eq_true rfl) rfl (congrArg (fun z => l1 + z) (by decide : Int32.ofInt 1 = 1)) rfl rfl ?_
      refine m_goto 2 dX11_fewestStates_51 (by decide) ?_
      refine m_dropK (lv' := [.ref 11, .int (l1 + 1), .retAddr 0]) [2] rfl ?_
      exact q
    · replace q := q.2 c4
      refine m_iload_n dX11_fewestStates_46 rfl ?_
      exact m_iret dX11_fewestStates_47 rfl q
  · replace q := q.2 c1
    refine m_aload_n dX11_fewestStates_15 rfl ?_
    refine gf_X11_63 rfl dX11_fewestStates_16 ?_
    refine m_iload_n dX11_fewestStates_19 rfl ?_
    refine m_iconst (v := 2) dX11_fewestStates_20 (by decide) ?_
    obtain ⟨b5, q⟩ := q
    refine m_iastore dX11_fewestStates_21 rfl (by decide) b5 ?_
    refine m_aload_n dX11_fewestStates_22 rfl ?_
    refine gf_X11_66 rfl dX11_fewestStates_23 ?_
    refine m_iload_n dX11_fewestStates_26 rfl ?_
    refine m_iconst (v := (-1)) dX11_fewestStates_27 (by decide) ?_
    obtain ⟨b6, q⟩ := q
    refine m_iastore dX11_fewestStates_28 rfl (by decide) b6 ?_
    refine m_iinc (v := (l2 + 1)) (lv' := [.ref 11, .int l1, .int (l2 + 1)]) dX11_fewestStates_29 (Nat.le_of_ble_eq_true rfl) rfl (congrArg (fun z => l2 + z) (by decide : Int32.ofInt 1 = 1)) rfl rfl ?_
    refine m_goto 9 dX11_fewestStates_32 (by decide) ?_
    exact q
set_option maxRecDepth 100000 in
theorem e_X11_memory {g : gT} {h : mh_T} {P : Int32 → mh_T → Prop}  (q : MCv g yX11_good uX11_good [.ref 11] h (fun h1 => ((mI h1 11 14) = 0 → MCi g yX11_no uX11_no [.ref 11, .int 1] h1 (fun r4 h3 => P r4 h3)) ∧ (¬ (mI h1 11 14) = 0 → MCi g yX11_fewestStates uX11_fewestStates [.ref 11] h1 (fun r6 h5 => P r6 h5)))) : MCi g yX11_memory uX11_memory [.ref 11] h P := by
  refine m_enter (by decide) rfl (Nat.le_of_ble_eq_true rfl) (lv := [.ref 11]) rfl ?_
  refine m_aload_n dX11_memory_0 rfl ?_
  refine cl_X11_174 rfl (by decide) dX11_memory_1 (Nat.le_of_ble_eq_true rfl) (MCv_go q (fun h1 q => ?_))
  refine m_aload_n dX11_memory_4 rfl ?_
  refine gf_X11_183 rfl dX11_memory_5 ?_
  refine m_if_eq 18 dX11_memory_8 (by decide) (fun c2 => ?_) (fun c2 => ?_)
  · replace q := q.1 c2
    refine m_aload_n dX11_memory_18 rfl ?_
    refine m_iconst (v := 1) dX11_memory_19 (by decide) ?_
    refine cl_X11_177 rfl (by decide) dX11_memory_20 (Nat.le_of_ble_eq_true rfl) (MCi_go q (fun r4 h3 q => ?_))
    exact m_iret dX11_memory_23 rfl q
  · replace q := q.2 c2
    refine m_aload_n dX11_memory_11 rfl ?_
    refine cl_X11_392 rfl (by decide) dX11_memory_12 (Nat.le_of_ble_eq_true rfl) (MCi_go q (fun r6 h5 q => ?_))
    refine m_goto 23 dX11_memory_15 (by decide) ?_
    exact m_iret dX11_memory_23 rfl q
set_option maxRecDepth 100000 in
theorem e_X11_machine {g : gT} {h : mh_T} {P : Int32 → mh_T → Prop} (l1 : Int32) (l2 : Int32) (l3 : Int32) (q : MCv g yX11_good uX11_good [.ref 11] h (fun h1 => MCi g yX11_isLook uX11_isLook [.ref 11, .int l2] h1 (fun r3 h2 => (r3 = 0 → MCi g yX11_no uX11_no [.ref 11, .int 1] h2 (fun r6 h5 => P r6 h5)) ∧ (¬ r3 = 0 → MCi g yX11_within uX11_within [.int l1, .int 0, .int 2] h2 (fun r8 h7 => (¬ r8 = 0 → MCi g yX11_fewestStates uX11_fewestStates [.ref 11] h7 (fun r11 h10 => (¬ r11 = (-2) → ∀ x13 : Int32, x13 = ((6 * l1) + l2) → (vp_in x13 18) ∧ ((¬ (mI h10 59 x13.toNatClampNeg) = 2 → (l3 = 0 → (vp_in x13 18) ∧ (P (mI h10 59 x13.toNatClampNeg) h10)) ∧ (¬ l3 = 0 → (vp_in x13 18) ∧ (P (mI h10 60 x13.toNatClampNeg) h10))) ∧ ((mI h10 59 x13.toNatClampNeg) = 2 → P (-2) h10))) ∧ (r11 = (-2) → MCi g yX11_no uX11_no [.ref 11, .int 6] h10 (fun r20 h19 => P r20 h19)))) ∧ (r8 = 0 → MCi g yX11_no uX11_no [.ref 11, .int 1] h7 (fun r22 h21 => P r22 h21))))))) : MCi g yX11_machine uX11_machine [.ref 11, .int l1, .int l2, .int l3] h P := by
  refine m_enter (by decide) rfl (Nat.le_of_ble_eq_true rfl) (lv := [.ref 11, .int l1, .int l2, .int l3, .retAddr 0]) rfl ?_
  refine m_aload_n dX11_machine_0 rfl ?_
  refine cl_X11_174 rfl (by decide) dX11_machine_1 (Nat.le_of_ble_eq_true rfl) (MCv_go q (fun h1 q => ?_))
  refine m_aload_n dX11_machine_4 rfl ?_
  refine m_iload_n dX11_machine_5 rfl ?_
  refine cl_X11_296 rfl (by decide) dX11_machine_6 (Nat.le_of_ble_eq_true rfl) (MCi_go q (fun r3 h2 q => ?_))
  refine m_if_eq 21 dX11_machine_9 (by decide) (fun c4 => ?_) (fun c4 => ?_)
  · replace q := q.1 c4
    refine m_aload_n dX11_machine_21 rfl ?_
    refine m_iconst (v := 1) dX11_machine_22 (by decide) ?_
    refine cl_X11_177 rfl (by decide) dX11_machine_23 (Nat.le_of_ble_eq_true rfl) (MCi_go q (fun r6 h5 q => ?_))
    exact m_iret dX11_machine_26 rfl q
  · replace q := q.2 c4
    refine m_iload_n dX11_machine_12 rfl ?_
    refine m_iconst (v := 0) dX11_machine_13 (by decide) ?_
    refine m_iconst (v := 2) dX11_machine_14 (by decide) ?_
    refine cl_X11_170 rfl (by decide) dX11_machine_15 (Nat.le_of_ble_eq_true rfl) (MCi_go q (fun r8 h7 q => ?_))
    refine m_if_ne 27 dX11_machine_18 (by decide) (fun c9 => ?_) (fun c9 => ?_)
    · replace q := q.1 c9
      refine m_aload_n dX11_machine_27 rfl ?_
      refine cl_X11_392 rfl (by decide) dX11_machine_28 (Nat.le_of_ble_eq_true rfl) (MCi_go q (fun r11 h10 q => ?_))
      refine m_bipush (v := (-2)) dX11_machine_31 (by decide) ?_
      refine m_icmp_ne 43 dX11_machine_33 (by decide) (fun c12 => ?_) (fun c12 => ?_)
      · replace q := q.1 c12
        refine m_bipush (v := 6) dX11_machine_43 (by decide) ?_
        refine m_iload_n dX11_machine_45 rfl ?_
        refine m_imul dX11_machine_46 ?_
        refine m_iload_n dX11_machine_47 rfl ?_
        refine m_iadd dX11_machine_48 ?_
        obtain ⟨x13, ex13⟩ : ∃ z, z = ((6 * l1) + l2) := ⟨_, rfl⟩
        rw [← ex13]
        replace q := q x13 ex13
        refine m_istore (lv' := [.ref 11, .int l1, .int l2, .int l3, .int x13]) dX11_machine_49 (Nat.le_of_ble_eq_true rfl) rfl rfl ?_
        refine m_aload_n dX11_machine_51 rfl ?_
        refine gf_X11_63 rfl dX11_machine_52 ?_
        refine m_iload dX11_machine_55 rfl ?_
        obtain ⟨b14, q⟩ := q
        refine m_iaload dX11_machine_57 rfl (by decide) b14 ?_
        refine m_iconst (v := 2) dX11_machine_58 (by decide) ?_
        refine m_icmp_ne 67 dX11_machine_59 (by decide) (fun c15 => ?_) (fun c15 => ?_)
        · replace q := q.1 c15
          refine m_iload_n dX11_machine_67 rfl ?_
          refine m_if_eq 81 dX11_machine_68 (by decide) (fun c16 => ?_) (fun c16 => ?_)
          · replace q := q.1 c16
            refine m_aload_n dX11_machine_81 rfl ?_
            refine gf_X11_63 rfl dX11_machine_82 ?_
            refine m_iload dX11_machine_85 rfl ?_
            obtain ⟨b17, q⟩ := q
            refine m_iaload dX11_machine_87 rfl (by decide) b17 ?_
            exact m_iret dX11_machine_88 rfl q
          · replace q := q.2 c16
            refine m_aload_n dX11_machine_71 rfl ?_
            refine gf_X11_66 rfl dX11_machine_72 ?_
            refine m_iload dX11_machine_75 rfl ?_
            obtain ⟨b18, q⟩ := q
            refine m_iaload dX11_machine_77 rfl (by decide) b18 ?_
            refine m_goto 88 dX11_machine_78 (by decide) ?_
            exact m_iret dX11_machine_88 rfl q
        · replace q := q.2 c15
          refine m_bipush (v := (-2)) dX11_machine_62 (by decide) ?_
          refine m_goto 88 dX11_machine_64 (by decide) ?_
          exact m_iret dX11_machine_88 rfl q
      · replace q := q.2 c12
        refine m_aload_n dX11_machine_36 rfl ?_
        refine m_bipush (v := 6) dX11_machine_37 (by decide) ?_
        refine cl_X11_177 rfl (by decide) dX11_machine_39 (Nat.le_of_ble_eq_true rfl) (MCi_go q (fun r20 h19 q => ?_))
        exact m_iret dX11_machine_42 rfl q
    · replace q := q.2 c9
      refine m_aload_n dX11_machine_21 rfl ?_
      refine m_iconst (v := 1) dX11_machine_22 (by decide) ?_
      refine cl_X11_177 rfl (by decide) dX11_machine_23 (Nat.le_of_ble_eq_true rfl) (MCi_go q (fun r22 h21 q => ?_))
      exact m_iret dX11_machine_26 rfl q
set_option maxRecDepth 100000 in
theorem e_X11_copy {g : gT} {h : mh_T} {P : mh_T → Prop} (l0 nl0 : Nat) (l1 : Int32) (l2 nl2 : Nat) (l3 : Int32) (l4 : Int32) (sl0 : shp l0 = (20, nl0, [])) (sl2 : shp l2 = (20, nl2, [])) (q : ME g uX11_copy 3 [.ref l0, .int l1, .ref l2, .int l3, .int l4, .int 0] [] h (qV P)) : MCv g yX11_copy uX11_copy [.ref l0, .int l1, .ref l2, .int l3, .int l4] h P := by
  refine m_enter (by decide) rfl (Nat.le_of_ble_eq_true rfl) (lv := [.ref l0, .int l1, .ref l2, .int l3, .int l4, .retAddr 0]) rfl ?_
  refine m_iconst (v := 0) dX11_copy_0 (by decide) ?_
  refine m_istore (lv' := [.ref l0, .int l1, .ref l2, .int l3, .int l4, .int 0]) dX11_copy_1 (Nat.le_of_ble_eq_true rfl) rfl rfl ?_
  exact q
set_option maxRecDepth 100000 in
theorem r_X11_copy_3 {g : gT} {h : mh_T} {P : mh_T → Prop} (l0 nl0 : Nat) (l1 : Int32) (l2 nl2 : Nat) (l3 : Int32) (l4 : Int32) (l5 : Int32) (sl0 : shp l0 = (20, nl0, [])) (sl2 : shp l2 = (20, nl2, [])) (q : (l4 ≤ l5 → P h) ∧ (¬ l4 ≤ l5 → (vp_in (l1 + l5) nl0) ∧ ((vp_in (l3 + l5) nl2) ∧ (ME g uX11_copy 3 [.ref l0, .int l1, .ref l2, .int l3, .int l4, .int (l5 + 1)] [] (wI h l2 (l3 + l5).toNatClampNeg (mI h l0 (l1 + l5).toNatClampNeg)) (qV P))))) : ME g uX11_copy 3 [.ref l0, .int l1, .ref l2, .int l3, .int l4, .int l5] [] h (qV P) := by
  refine m_iload dX11_copy_3 rfl ?_
  refine m_iload dX11_copy_5 rfl ?_
  refine m_icmp_ge 28 dX11_copy_7 (by decide) (fun c1 => ?_) (fun c1 => ?_)
  · replace q := q.1 c1
    exact m_vret dX11_copy_28 rfl q
  · replace q := q.2 c1
    refine m_aload_n dX11_copy_10 rfl ?_
    refine m_iload_n dX11_copy_11 rfl ?_
    refine m_iload dX11_copy_12 rfl ?_
    refine m_iadd dX11_copy_14 ?_
    refine m_aload_n dX11_copy_15 rfl ?_
    refine m_iload_n dX11_copy_16 rfl ?_
    refine m_iload dX11_copy_17 rfl ?_
    refine m_iadd dX11_copy_19 ?_
    obtain ⟨b2, q⟩ := q
    refine m_iaload dX11_copy_20 sl0 (shp_lt sl0 (by decide)) b2 ?_
    obtain ⟨b3, q⟩ := q
    refine m_iastore dX11_copy_21 sl2 (shp_lt sl2 (by decide)) b3 ?_
    refine m_iinc (v := (l5 + 1)) (lv' := [.ref l0, .int l1, .ref l2, .int l3, .int l4, .int (l5 + 1)]) dX11_copy_22 (Nat.le_of_ble_eq_true rfl) rfl (congrArg (fun z => l5 + z) (by decide : Int32.ofInt 1 = 1)) rfl rfl ?_
    refine m_goto 3 dX11_copy_25 (by decide) ?_
    exact q
set_option maxRecDepth 100000 in
theorem e_X11_did {g : gT} {h : mh_T} {P : Int32 → mh_T → Prop} (l1 : Int32) (l2 : Int32) (l3 : Int32) (l4 : Int32) (l5 : Int32) (q : MCv g yX11_keep uX11_keep [.ref 49, .ref 52, .int (mI h 11 24), .ref 48, .int l1, .int l2, .int l3, .int l4, .int l5] h (fun h1 => (¬ (mI h1 11 24) = 20 → P 1 (wI (wI h1 11 24 ((mI h1 11 24) + 1)) 11 25 0)) ∧ ((mI h1 11 24) = 20 → P 1 (wI (wI h1 11 24 20) 11 25 0)))) : MCi g yX11_did uX11_did [.ref 11, .int l1, .int l2, .int l3, .int l4, .int l5] h P := by
  refine m_enter (by decide) rfl (Nat.le_of_ble_eq_true rfl) (lv := [.ref 11, .int l1, .int l2, .int l3, .int l4, .int l5]) rfl ?_
  refine m_aload_n dX11_did_0 rfl ?_
  refine gf_X11_32 rfl dX11_did_1 ?_
  refine m_aload_n dX11_did_4 rfl ?_
  refine gf_X11_41 rfl dX11_did_5 ?_
  refine m_aload_n dX11_did_8 rfl ?_
  refine gf_X11_189 rfl dX11_did_9 ?_
  refine m_aload_n dX11_did_12 rfl ?_
  refine gf_X11_29 rfl dX11_did_13 ?_
  refine m_iload_n dX11_did_16 rfl ?_
  refine m_iload_n dX11_did_17 rfl ?_
  refine m_iload_n dX11_did_18 rfl ?_
  refine m_iload dX11_did_19 rfl ?_
  refine m_iload dX11_did_21 rfl ?_
  refine cl_X11_395 rfl (by decide) dX11_did_23 (Nat.le_of_ble_eq_true rfl) (MCv_go q (fun h1 q => ?_))
  refine m_aload_n dX11_did_26 rfl ?_
  refine m_aload_n dX11_did_27 rfl ?_
  refine gf_X11_189 rfl dX11_did_28 ?_
  refine m_bipush (v := 20) dX11_did_31 (by decide) ?_
  refine m_icmp_ne 41 dX11_did_33 (by decide) (fun c2 => ?_) (fun c2 => ?_)
  · replace q := q.1 c2
    refine m_aload_n dX11_did_41 rfl ?_
    refine gf_X11_189 rfl dX11_did_42 ?_
    refine m_iconst (v := 1) dX11_did_45 (by decide) ?_
    refine m_iadd dX11_did_46 ?_
    refine pf_X11_189 rfl dX11_did_47 ?_
    refine m_aload_n dX11_did_50 rfl ?_
    refine m_iconst (v := 0) dX11_did_51 (by decide) ?_
    refine pf_X11_192 rfl dX11_did_52 ?_
    refine m_iconst (v := 1) dX11_did_55 (by decide) ?_
    exact m_zret dX11_did_56 rfl (by decide) q
  · replace q := q.2 c2
    refine m_bipush (v := 20) dX11_did_36 (by decide) ?_
    refine m_goto 47 dX11_did_38 (by decide) ?_
    refine pf_X11_189 rfl dX11_did_47 ?_
    refine m_aload_n dX11_did_50 rfl ?_
    refine m_iconst (v := 0) dX11_did_51 (by decide) ?_
    refine pf_X11_192 rfl dX11_did_52 ?_
    refine m_iconst (v := 1) dX11_did_55 (by decide) ?_
    exact m_zret dX11_did_56 rfl (by decide) q
set_option maxRecDepth 100000 in
theorem e_X11_keep {g : gT} {h : mh_T} {P : mh_T → Prop} (l0 nl0 : Nat) (l1 nl1 : Nat) (l2 : Int32) (l3 nl3 : Nat) (l4 : Int32) (l5 : Int32) (l6 : Int32) (l7 : Int32) (l8 : Int32) (sl0 : shp l0 = (20, nl0, [])) (sl1 : shp l1 = (20, nl1, [])) (sl3 : shp l3 = (20, nl3, [])) (q : (¬ l2 = 20 → MCv g yX11_copy uX11_copy [.ref l3, .int 0, .ref l0, .int (49 * l2), .int 49] h (fun h2 => (vp_in (5 * l2) nl1) ∧ ((vp_in ((5 * l2) + 1) nl1) ∧ ((vp_in ((5 * l2) + 2) nl1) ∧ ((vp_in ((5 * l2) + 3) nl1) ∧ ((vp_in ((5 * l2) + 4) nl1) ∧ (P (wI (wI (wI (wI (wI h2 l1 (5 * l2).toNatClampNeg l4) l1 ((5 * l2) + 1).toNatClampNeg l5) l1 ((5 * l2) + 2).toNatClampNeg l6) l1 ((5 * l2) + 3).toNatClampNeg l7) l1 ((5 * l2) + 4).toNatClampNeg l8)))))))) ∧ (l2 = 20 → ME g uX11_keep 12 [.ref l0, .ref l1, .int l2, .ref l3, .int l4, .int l5, .int l6, .int l7, .int l8, .int l2, .int 0] [] h (qV P))) : MCv g yX11_keep uX11_keep [.ref l0, .ref l1, .int l2, .ref l3, .int l4, .int l5, .int l6, .int l7, .int l8] h P := by
  refine m_enter (by decide) rfl (Nat.le_of_ble_eq_true rfl) (lv := [.ref l0, .ref l1, .int l2, .ref l3, .int l4, .int l5, .int l6, .int l7, .int l8, .retAddr 0, .retAddr 0]) rfl ?_
  refine m_iload_n dX11_keep_0 rfl ?_
  refine m_istore (lv' := [.ref l0, .ref l1, .int l2, .ref l3, .int l4, .int l5, .int l6, .int l7, .int l8, .int l2, .retAddr 0]) dX11_keep_1 (Nat.le_of_ble_eq_true rfl) rfl rfl ?_
  refine m_iload_n dX11_keep_3 rfl ?_
  refine m_bipush (v := 20) dX11_keep_4 (by decide) ?_
  refine m_icmp_ne 66 dX11_keep_6 (by decide) (fun c1 => ?_) (fun c1 => ?_)
  · replace q := q.1 c1
    refine m_aload_n dX11_keep_66 rfl ?_
    refine m_iconst (v := 0) dX11_keep_67 (by decide) ?_
    refine m_aload_n dX11_keep_68 rfl ?_
    refine m_bipush (v := 49) dX11_keep_69 (by decide) ?_
    refine m_iload dX11_keep_71 rfl ?_
    refine m_imul dX11_keep_73 ?_
    refine m_bipush (v := 49) dX11_keep_74 (by decide) ?_
    refine cl_X11_399 rfl (by decide) dX11_keep_76 (Nat.le_of_ble_eq_true rfl) (MCv_go q (fun h2 q => ?_))
    refine m_aload_n dX11_keep_79 rfl ?_
    refine m_iconst (v := 5) dX11_keep_80 (by decide) ?_
    refine m_iload dX11_keep_81 rfl ?_
    refine m_imul dX11_keep_83 ?_
    refine m_iload dX11_keep_84 rfl ?_
    obtain ⟨b3, q⟩ := q
    refine m_iastore dX11_keep_86 sl1 (shp_lt sl1 (by decide)) b3 ?_
    refine m_aload_n dX11_keep_87 rfl ?_
    refine m_iconst (v := 5) dX11_keep_88 (by decide) ?_
    refine m_iload dX11_keep_89 rfl ?_
    refine m_imul dX11_keep_91 ?_
    refine m_iconst (v := 1) dX11_keep_92 (by decide) ?_
    refine m_iadd dX11_keep_93 ?_
    refine m_iload dX11_keep_94 rfl ?_
    obtain ⟨b4, q⟩ := q
    refine m_iastore dX11_keep_96 sl1 (shp_lt sl1 (by decide)) b4 ?_
    refine m_aload_n dX11_keep_97 rfl ?_
    refine m_iconst (v := 5) dX11_keep_98 (by decide) ?_
    refine m_iload dX11_keep_99 rfl ?_
    refine m_imul dX11_keep_101 ?_
    refine m_iconst (v := 2) dX11_keep_102 (by decide) ?_
    refine m_iadd dX11_keep_103 ?_
    refine m_iload dX11_keep_104 rfl ?_
    obtain ⟨b5, q⟩ := q
    refine m_iastore dX11_keep_106 sl1 (shp_lt sl1 (by decide)) b5 ?_
    refine m_aload_n dX11_keep_107 rfl ?_
    refine m_iconst (v := 5) dX11_keep_108 (by decide) ?_
    refine m_iload dX11_keep_109 rfl ?_
    refine m_imul dX11_keep_111 ?_
    refine m_iconst (v := 3) dX11_keep_112 (by decide) ?_
    refine m_iadd dX11_keep_113 ?_
    refine m_iload dX11_keep_114 rfl ?_
    obtain ⟨b6, q⟩ := q
    refine m_iastore dX11_keep_116 sl1 (shp_lt sl1 (by decide)) b6 ?_
    refine m_aload_n dX11_keep_117 rfl ?_
    refine m_iconst (v := 5) dX11_keep_118 (by decide) ?_
    refine m_iload dX11_keep_119 rfl ?_
    refine m_imul dX11_keep_121 ?_
    refine m_iconst (v := 4) dX11_keep_122 (by decide) ?_
    refine m_iadd dX11_keep_123 ?_
    refine m_iload dX11_keep_124 rfl ?_
    obtain ⟨b7, q⟩ := q
    refine m_iastore dX11_keep_126 sl1 (shp_lt sl1 (by decide)) b7 ?_
    exact m_vret dX11_keep_127 rfl q
  · replace q := q.2 c1
    refine m_iconst (v := 0) dX11_keep_9 (by decide) ?_
    refine m_istore (lv' := [.ref l0, .ref l1, .int l2, .ref l3, .int l4, .int l5, .int l6, .int l7, .int l8, .int l2, .int 0]) dX11_keep_10 (Nat.le_of_ble_eq_true rfl) rfl rfl ?_
    exact q
set_option maxRecDepth 100000 in
theorem r_X11_keep_12 {g : gT} {h : mh_T} {P : mh_T → Prop} (l0 nl0 : Nat) (l1 nl1 : Nat) (l2 : Int32) (l3 nl3 : Nat) (l4 : Int32) (l5 : Int32) (l6 : Int32) (l7 : Int32) (l8 : Int32) (l9 : Int32) (l10 : Int32) (sl0 : shp l0 = (20, nl0, [])) (sl1 : shp l1 = (20, nl1, [])) (sl3 : shp l3 = (20, nl3, [])) (q : (931 ≤ l10 → ME g uX11_keep 40 [.ref l0, .ref l1, .int l2, .ref l3, .int l4, .int l5, .int l6, .int l7, .int l8, .int l9, .int 0] [] h (qV P)) ∧ (¬ 931 ≤ l10 → (vp_in (l10 + 49) nl0) ∧ ((vp_in l10 nl0) ∧ (ME g uX11_keep 12 [.ref l0, .ref l1, .int l2, .ref l3, .int l4, .int l5, .int l6, .int l7, .int l8, .int l9, .int (l10 + 1)] [] (wI h l0 l10.toNatClampNeg (mI h l0 (l10 + 49).toNatClampNeg)) (qV P))))) : ME g uX11_keep 12 [.ref l0, .ref l1, .int l2, .ref l3, .int l4, .int l5, .int l6, .int l7, .int l8, .int l9, .int l10] [] h (qV P) := by
  refine m_iload dX11_keep_12 rfl ?_
  refine m_sipush (v := 931) dX11_keep_14 (by decide) ?_
  refine m_icmp_ge 37 dX11_keep_17 (by decide) (fun c1 => ?_) (fun c1 => ?_)
  · replace q := q.1 c1
    refine m_iconst (v := 0) dX11_keep_37 (by decide) ?_
    refine m_istore (lv' := [.ref l0, .ref l1, .int l2, .ref l3, .int l4, .int l5, .int l6, .int l7, .int l8, .int l9, .int 0]) dX11_keep_38 (Nat.le_of_ble_eq_true rfl) rfl rfl ?_
    exact q
  · replace q := q.2 c1
    refine m_aload_n dX11_keep_20 rfl ?_
    refine m_iload dX11_keep_21 rfl ?_
    refine m_aload_n dX11_keep_23 rfl ?_
    refine m_iload dX11_keep_24 rfl ?_
    refine m_bipush (v := 49) dX11_keep_26 (by decide) ?_
    refine m_iadd dX11_keep_28 ?_
    obtain ⟨b2, q⟩ := q
    refine m_iaload dX11_keep_29 sl0 (shp_lt sl0 (by decide)) b2 ?_
    obtain ⟨b3, q⟩ := q
    refine m_iastore dX11_keep_30 sl0 (shp_lt sl0 (by decide)) b3 ?_
    refine m_iinc (v := (l10 + 1)) (lv' := [.ref l0, .ref l1, .int l2, .ref l3, .int l4, .int l5, .int l6, .int l7, .int l8, .int l9, .int (l10 + 1)]) dX11_keep_31 (Nat.le_of_ble_eq_true rfl) rfl (congrArg (fun z => l10 + z) (by decide : Int32.ofInt 1 = 1)) rfl rfl ?_
    refine m_goto 12 dX11_keep_34 (by decide) ?_
    exact q
set_option maxRecDepth 100000 in
theorem r_X11_keep_40 {g : gT} {h : mh_T} {P : mh_T → Prop} (l0 nl0 : Nat) (l1 nl1 : Nat) (l2 : Int32) (l3 nl3 : Nat) (l4 : Int32) (l5 : Int32) (l6 : Int32) (l7 : Int32) (l8 : Int32) (l9 : Int32) (l10 : Int32) (sl0 : shp l0 = (20, nl0, [])) (sl1 : shp l1 = (20, nl1, [])) (sl3 : shp l3 = (20, nl3, [])) (q : (95 ≤ l10 → MCv g yX11_copy uX11_copy [.ref l3, .int 0, .ref l0, .int (49 * (l9 + (-1))), .int 49] h (fun h2 => (vp_in (5 * (l9 + (-1))) nl1) ∧ ((vp_in ((5 * (l9 + (-1))) + 1) nl1) ∧ ((vp_in ((5 * (l9 + (-1))) + 2) nl1) ∧ ((vp_in ((5 * (l9 + (-1))) + 3) nl1) ∧ ((vp_in ((5 * (l9 + (-1))) + 4) nl1) ∧ (P (wI (wI (wI (wI (wI h2 l1 (5 * (l9 + (-1))).toNatClampNeg l4) l1 ((5 * (l9 + (-1))) + 1).toNatClampNeg l5) l1 ((5 * (l9 + (-1))) + 2).toNatClampNeg l6) l1 ((5 * (l9 + (-1))) + 3).toNatClampNeg l7) l1 ((5 * (l9 + (-1))) + 4).toNatClampNeg l8)))))))) ∧ (¬ 95 ≤ l10 → (vp_in (l10 + 5) nl1) ∧ ((vp_in l10 nl1) ∧ (ME g uX11_keep 40 [.ref l0, .ref l1, .int l2, .ref l3, .int l4, .int l5, .int l6, .int l7, .int l8, .int l9, .int (l10 + 1)] [] (wI h l1 l10.toNatClampNeg (mI h l1 (l10 + 5).toNatClampNeg)) (qV P))))) : ME g uX11_keep 40 [.ref l0, .ref l1, .int l2, .ref l3, .int l4, .int l5, .int l6, .int l7, .int l8, .int l9, .int l10] [] h (qV P) := by
  refine m_iload dX11_keep_40 rfl ?_
  refine m_bipush (v := 95) dX11_keep_42 (by decide) ?_
  refine m_icmp_ge 63 dX11_keep_44 (by decide) (fun c1 => ?_) (fun c1 => ?_)
  · replace q := q.1 c1
    refine m_iinc (v := (l9 + (-1))) (lv' := [.ref l0, .ref l1, .int l2, .ref l3, .int l4, .int l5, .int l6, .int l7, .int l8, .int (l9 + (-1)), .int l10]) dX11_keep_63 (Nat.le_of_ble_eq_true rfl) rfl (congrArg (fun z => l9 + z) (by decide : Int32.ofInt (-1) = -1)) rfl rfl ?_
    refine m_aload_n dX11_keep_66 rfl ?_
    refine m_iconst (v := 0) dX11_keep_67 (by decide) ?_
    refine m_aload_n dX11_keep_68 rfl ?_
    refine m_bipush (v := 49) dX11_keep_69 (by decide) ?_
    refine m_iload dX11_keep_71 rfl ?_
    refine m_imul dX11_keep_73 ?_
    refine m_bipush (v := 49) dX11_keep_74 (by decide) ?_
    refine cl_X11_399 rfl (by decide) dX11_keep_76 (Nat.le_of_ble_eq_true rfl) (MCv_go q (fun h2 q => ?_))
    refine m_aload_n dX11_keep_79 rfl ?_
    refine m_iconst (v := 5) dX11_keep_80 (by decide) ?_
    refine m_iload dX11_keep_81 rfl ?_
    refine m_imul dX11_keep_83 ?_
    refine m_iload dX11_keep_84 rfl ?_
    obtain ⟨b3, q⟩ := q
    refine m_iastore dX11_keep_86 sl1 (shp_lt sl1 (by decide)) b3 ?_
    refine m_aload_n dX11_keep_87 rfl ?_
    refine m_iconst (v := 5) dX11_keep_88 (by decide) ?_
    refine m_iload dX11_keep_89 rfl ?_
    refine m_imul dX11_keep_91 ?_
    refine m_iconst (v := 1) dX11_keep_92 (by decide) ?_
    refine m_iadd dX11_keep_93 ?_
    refine m_iload dX11_keep_94 rfl ?_
    obtain ⟨b4, q⟩ := q
    refine m_iastore dX11_keep_96 sl1 (shp_lt sl1 (by decide)) b4 ?_
    refine m_aload_n dX11_keep_97 rfl ?_
    refine m_iconst (v := 5) dX11_keep_98 (by decide) ?_
    refine m_iload dX11_keep_99 rfl ?_
    refine m_imul dX11_keep_101 ?_
    refine m_iconst (v := 2) dX11_keep_102 (by decide) ?_
    refine m_iadd dX11_keep_103 ?_
    refine m_iload dX11_keep_104 rfl ?_
    obtain ⟨b5, q⟩ := q
    refine m_iastore dX11_keep_106 sl1 (shp_lt sl1 (by decide)) b5 ?_
    refine m_aload_n dX11_keep_107 rfl ?_
    refine m_iconst (v := 5) dX11_keep_108 (by decide) ?_
    refine m_iload dX11_keep_109 rfl ?_
    refine m_imul dX11_keep_111 ?_
    refine m_iconst (v := 3) dX11_keep_112 (by decide) ?_
    refine m_iadd dX11_keep_113 ?_
    refine m_iload dX11_keep_114 rfl ?_
    obtain ⟨b6, q⟩ := q
    refine m_iastore dX11_keep_116 sl1 (shp_lt sl1 (by decide)) b6 ?_
    refine m_aload_n dX11_keep_117 rfl ?_
    refine m_iconst (v := 5) dX11_keep_118 (by decide) ?_
    refine m_iload dX11_keep_119 rfl ?_
    refine m_imul dX11_keep_121 ?_
    refine m_iconst (v := 4) dX11_keep_122 (by decide) ?_
    refine m_iadd dX11_keep_123 ?_
    refine m_iload dX11_keep_124 rfl ?_
    obtain ⟨b7, q⟩ := q
    refine m_iastore dX11_keep_126 sl1 (shp_lt sl1 (by decide)) b7 ?_
    exact m_vret dX11_keep_127 rfl q
  · replace q := q.2 c1
    refine m_aload_n dX11_keep_47 rfl ?_
    refine m_iload dX11_keep_48 rfl ?_
    refine m_aload_n dX11_keep_50 rfl ?_
    refine m_iload dX11_keep_51 rfl ?_
    refine m_iconst (v := 5) dX11_keep_53 (by decide) ?_
    refine m_iadd dX11_keep_54 ?_
    obtain ⟨b8, q⟩ := q
    refine m_iaload dX11_keep_55 sl1 (shp_lt sl1 (by decide)) b8 ?_
    obtain ⟨b9, q⟩ := q
    refine m_iastore dX11_keep_56 sl1 (shp_lt sl1 (by decide)) b9 ?_
    refine m_iinc (v := (l10 + 1)) (lv' := [.ref l0, .ref l1, .int l2, .ref l3, .int l4, .int l5, .int l6, .int l7, .int l8, .int l9, .int (l10 + 1)]) dX11_keep_57 (Nat.le_of_ble_eq_true rfl) rfl (congrArg (fun z => l10 + z) (by decide : Int32.ofInt 1 = 1)) rfl rfl ?_
    refine m_goto 40 dX11_keep_60 (by decide) ?_
    exact q
set_option maxRecDepth 100000 in
theorem e_X11_flip {g : gT} {h : mh_T} {P : Int32 → mh_T → Prop} (l1 : Int32) (q : MCv g yX11_good uX11_good [.ref 11] h (fun h1 => MCi g yX11_isLook uX11_isLook [.ref 11, .int l1] h1 (fun r3 h2 => (¬ r3 = 0 → MCv g yX11_copy uX11_copy [.ref 45, .int 0, .ref 48, .int 0, .int 49] h2 (fun h5 => ME g uX11_flip 35 [.ref 11, .int l1, .int 0, .retAddr 0, .retAddr 0, .retAddr 0, .retAddr 0, .retAddr 0, .retAddr 0] [] h5 (qI P))) ∧ (r3 = 0 → MCi g yX11_isNot uX11_isNot [.ref 11, .int 1] h2 (fun r7 h6 => (r7 = 0 ∨ r7 = 1) ∧ P r7 h6))))) : MCi g yX11_flip uX11_flip [.ref 11, .int l1] h P := by
  refine m_enter (by decide) rfl (Nat.le_of_ble_eq_true rfl) (lv := [.ref 11, .int l1, .retAddr 0, .retAddr 0, .retAddr 0, .retAddr 0, .retAddr 0, .retAddr 0, .retAddr 0]) rfl ?_
  refine m_aload_n dX11_flip_0 rfl ?_
  refine cl_X11_174 rfl (by decide) dX11_flip_1 (Nat.le_of_ble_eq_true rfl) (MCv_go q (fun h1 q => ?_))
  refine m_aload_n dX11_flip_4 rfl ?_
  refine m_iload_n dX11_flip_5 rfl ?_
  refine cl_X11_296 rfl (by decide) dX11_flip_6 (Nat.le_of_ble_eq_true rfl) (MCi_go q (fun r3 h2 q => ?_))
  refine m_if_ne 18 dX11_flip_9 (by decide) (fun c4 => ?_) (fun c4 => ?_)
  · replace q := q.1 c4
    refine m_aload_n dX11_flip_18 rfl ?_
    refine gf_X11_20 rfl dX11_flip_19 ?_
    refine m_iconst (v := 0) dX11_flip_22 (by decide) ?_
    refine m_aload_n dX11_flip_23 rfl ?_
    refine gf_X11_29 rfl dX11_flip_24 ?_
    refine m_iconst (v := 0) dX11_flip_27 (by decide) ?_
    refine m_bipush (v := 49) dX11_flip_28 (by decide) ?_
    refine cl_X11_399 rfl (by decide) dX11_flip_30 (Nat.le_of_ble_eq_true rfl) (MCv_go q (fun h5 q => ?_))
    refine m_iconst (v := 0) dX11_flip_33 (by decide) ?_
    refine m_istore_n (lv' := [.ref 11, .int l1, .int 0, .retAddr 0, .retAddr 0, .retAddr 0, .retAddr 0, .retAddr 0, .retAddr 0]) dX11_flip_34 (Nat.le_of_ble_eq_true rfl) rfl rfl ?_
    exact q
  · replace q := q.2 c4
    refine m_aload_n dX11_flip_12 rfl ?_
    refine m_iconst (v := 1) dX11_flip_13 (by decide) ?_
    refine cl_X11_336 rfl (by decide) dX11_flip_14 (Nat.le_of_ble_eq_true rfl) (MCi_go q (fun r7 h6 q => ?_))
    exact m_zret dX11_flip_17 rfl q.1 q.2
set_option maxRecDepth 100000 in
theorem r_X11_flip_35 {g : gT} {h : mh_T} {P : Int32 → mh_T → Prop} (l1 : Int32) (l2 : Int32) (q : ((mI h 45 (Int32.toNatClampNeg 0)) ≤ l2 → MCi g yX11_did uX11_did [.ref 11, .int 0, .int l1, .int (-2), .int (-2), .int (-2)] h (fun r3 h2 => (r3 = 0 ∨ r3 = 1) ∧ P r3 h2)) ∧ (¬ (mI h 45 (Int32.toNatClampNeg 0)) ≤ l2 → (vp_in (9 + l2) 346) ∧ ((¬ (mI h 45 (9 + l2).toNatClampNeg) = (-2) → (vp_in (1 + l2) 346) ∧ ((¬ (mI h 45 (1 + l2).toNatClampNeg) = l1 → (vp_in (9 + l2) 346) ∧ ((¬ (mI h 45 (9 + l2).toNatClampNeg) = l1 → ME g uX11_flip 35 [.ref 11, .int l1, .int (l2 + 1), .retAddr 0, .retAddr 0, .retAddr 0, .retAddr 0, .retAddr 0, .retAddr 0] [] h (qI P)) ∧ ((mI h 45 (9 + l2).toNatClampNeg) = l1 → ME g uX11_flip 124 [.ref 11, .int l1, .int l2, .int 1, .int 0, .retAddr 0, .retAddr 0, .retAddr 0, .retAddr 0] [] h (qI P)))) ∧ ((mI h 45 (1 + l2).toNatClampNeg) = l1 → ME g uX11_flip 124 [.ref 11, .int l1, .int l2, .int 2, .int 0, .retAddr 0, .retAddr 0, .retAddr 0, .retAddr 0] [] h (qI P)))) ∧ ((mI h 45 (9 + l2).toNatClampNeg) = (-2) → (vp_in (1 + l2) 346) ∧ ((¬ (mI h 45 (1 + l2).toNatClampNeg) = l1 → ME g uX11_flip 35 [.ref 11, .int l1, .int (l2 + 1), .retAddr 0, .retAddr 0, .retAddr 0, .retAddr 0, .retAddr 0, .retAddr 0] [] h (qI P)) ∧ ((mI h 45 (1 + l2).toNatClampNeg) = l1 → ME g uX11_flip 124 [.ref 11, .int l1, .int l2, .int 1, .int 0, .retAddr 0, .retAddr 0, .retAddr 0, .retAddr 0] [] h (qI P))))))) : ME g uX11_flip 35 [.ref 11, .int l1, .int l2, .retAddr 0, .retAddr 0, .retAddr 0, .retAddr 0, .retAddr 0, .retAddr 0] [] h (qI P) := by
  refine m_iload_n dX11_flip_35 rfl ?_
  refine m_aload_n dX11_flip_36 rfl ?_
  refine gf_X11_20 rfl dX11_flip_37 ?_
  refine m_iconst (v := 0) dX11_flip_40 (by decide) ?_
  refine m_iaload dX11_flip_41 rfl (by decide) (by unfold vp_in; decide) ?_
  refine m_icmp_ge 257 dX11_flip_42 (by decide) (fun c1 => ?_) (fun c1 => ?_)
  · replace q := q.1 c1
    refine m_aload_n dX11_flip_257 rfl ?_
    refine m_iconst (v := 0) dX11_flip_258 (by decide) ?_
    refine m_iload_n dX11_flip_259 rfl ?_
    refine m_bipush (v := (-2)) dX11_flip_260 (by decide) ?_
    refine m_bipush (v := (-2)) dX11_flip_262 (by decide) ?_
    refine m_bipush (v := (-2)) dX11_flip_264 (by decide) ?_
    refine cl_X11_403 rfl (by decide) dX11_flip_266 (Nat.le_of_ble_eq_true rfl) (MCi_go q (fun r3 h2 q => ?_))
    exact m_zret dX11_flip_269 rfl q.1 q.2
  · replace q := q.2 c1
    refine m_aload_n dX11_flip_45 rfl ?_
    refine gf_X11_20 rfl dX11_flip_46 ?_
    refine m_bipush (v := 9) dX11_flip_49 (by decide) ?_
    refine m_iload_n dX11_flip_51 rfl ?_
    refine m_iadd dX11_flip_52 ?_
    obtain ⟨b4, q⟩ := q
    refine m_iaload dX11_flip_53 rfl (by decide) b4 ?_
    refine m_bipush (v := (-2)) dX11_flip_54 (by decide) ?_
    refine m_icmp_ne 79 dX11_flip_56 (by decide) (fun c5 => ?_) (fun c5 => ?_)
    · replace q := q.1 c5
      refine m_aload_n dX11_flip_79 rfl ?_
      refine gf_X11_20 rfl dX11_flip_80 ?_
      refine m_iconst (v := 1) dX11_flip_83 (by decide) ?_
      refine m_iload_n dX11_flip_84 rfl ?_
      refine m_iadd dX11_flip_85 ?_
      obtain ⟨b6, q⟩ := q
      refine m_iaload dX11_flip_86 rfl (by decide) b6 ?_
      refine m_iload_n dX11_flip_87 rfl ?_
      refine m_icmp_ne 95 dX11_flip_88 (by decide) (fun c7 => ?_) (fun c7 => ?_)
      · replace q := q.1 c7
        refine m_aload_n dX11_flip_95 rfl ?_
        refine gf_X11_20 rfl dX11_flip_96 ?_
        refine m_bipush (v := 9) dX11_flip_99 (by decide) ?_
        refine m_iload_n dX11_flip_101 rfl ?_
        refine m_iadd dX11_flip_102 ?_
        obtain ⟨b8, q⟩ := q
        refine m_iaload dX11_flip_103 rfl (by decide) b8 ?_
        refine m_iload_n dX11_flip_104 rfl ?_
        refine m_icmp_ne 112 dX11_flip_105 (by decide) (fun c9 => ?_) (fun c9 => ?_)
        · replace q := q.1 c9
          refine m_iconst (v := 0) dX11_flip_112 (by decide) ?_
          refine m_istore_n (lv' := [.ref 11, .int l1, .int l2, .int 0, .retAddr 0, .retAddr 0, .retAddr 0, .retAddr 0, .retAddr 0]) dX11_flip_113 (Nat.le_of_ble_eq_true rfl) rfl rfl ?_
          refine m_iload_n dX11_flip_114 rfl ?_
          refine m_if_ne 121 dX11_flip_115 (by decide) (fun c10 => absurd c10 (by decide)) (fun c10 => ?_)
          refine m_goto 251 dX11_flip_118 (by decide) ?_
          refine m_iinc (v := (l2 + 1)) (lv' := [.ref 11, .int l1, .int (l2 + 1), .int 0, .retAddr 0, .retAddr 0, .retAddr 0, .retAddr 0, .retAddr 0]) dX11_flip_251 (Nat.le_of_ble_eq_true rfl) rfl (congrArg (fun z => l2 + z) (by decide : Int32.ofInt 1 = 1)) rfl rfl ?_
          refine m_goto 35 dX11_flip_254 (by decide) ?_
          refine m_dropK (lv' := [.ref 11, .int l1, .int (l2 + 1), .retAddr 0, .retAddr 0, .retAddr 0, .retAddr 0, .retAddr 0, .retAddr 0]) [3] rfl ?_
          exact q
        · replace q := q.2 c9
          refine m_iconst (v := 1) dX11_flip_108 (by decide) ?_
          refine m_goto 113 dX11_flip_109 (by decide) ?_
          refine m_istore_n (lv' := [.ref 11, .int l1, .int l2, .int 1, .retAddr 0, .retAddr 0, .retAddr 0, .retAddr 0, .retAddr 0]) dX11_flip_113 (Nat.le_of_ble_eq_true rfl) rfl rfl ?_
          refine m_iload_n dX11_flip_114 rfl ?_
          refine m_if_ne 121 dX11_flip_115 (by decide) (fun c11 => ?_) (fun c11 => absurd c11 (by decide))
          refine m_iconst (v := 0) dX11_flip_121 (by decide) ?_
          refine m_istore (lv' := [.ref 11, .int l1, .int l2, .int 1, .int 0, .retAddr 0, .retAddr 0, .retAddr 0, .retAddr 0]) dX11_flip_122 (Nat.le_of_ble_eq_true rfl) rfl rfl ?_
          exact q
      · replace q := q.2 c7
        refine m_iconst (v := 2) dX11_flip_91 (by decide) ?_
        refine m_goto 113 dX11_flip_92 (by decide) ?_
        refine m_istore_n (lv' := [.ref 11, .int l1, .int l2, .int 2, .retAddr 0, .retAddr 0, .retAddr 0, .retAddr 0, .retAddr 0]) dX11_flip_113 (Nat.le_of_ble_eq_true rfl) rfl rfl ?_
        refine m_iload_n dX11_flip_114 rfl ?_
        refine m_if_ne 121 dX11_flip_115 (by decide) (fun c12 => ?_) (fun c12 => absurd c12 (by decide))
        refine m_iconst (v := 0) dX11_flip_121 (by decide) ?_
        refine m_istore (lv' := [.ref 11, .int l1, .int l2, .int 2, .int 0, .retAddr 0, .retAddr 0, .retAddr 0, .retAddr 0]) dX11_flip_122 (Nat.le_of_ble_eq_true rfl) rfl rfl ?_
        exact q
    · replace q := q.2 c5
      refine m_aload_n dX11_flip_59 rfl ?_
      refine gf_X11_20 rfl dX11_flip_60 ?_
      refine m_iconst (v := 1) dX11_flip_63 (by decide) ?_
      refine m_iload_n dX11_flip_64 rfl ?_
      refine m_iadd dX11_flip_65 ?_
      obtain ⟨b13, q⟩ := q
      refine m_iaload dX11_flip_66 rfl (by decide) b13 ?_
      refine m_iload_n dX11_flip_67 rfl ?_
      refine m_icmp_ne 75 dX11_flip_68 (by decide) (fun c14 => ?_) (fun c14 => ?_)
      · replace q := q.1 c14
        refine m_iconst (v := 0) dX11_flip_75 (by decide) ?_
        refine m_goto 113 dX11_flip_76 (by decide) ?_
        refine m_istore_n (lv' := [.ref 11, .int l1, .int l2, .int 0, .retAddr 0, .retAddr 0, .retAddr 0, .retAddr 0, .retAddr 0]) dX11_flip_113 (Nat.le_of_ble_eq_true rfl) rfl rfl ?_
        refine m_iload_n dX11_flip_114 rfl ?_
        refine m_if_ne 121 dX11_flip_115 (by decide) (fun c15 => absurd c15 (by decide)) (fun c15 => ?_)
        refine m_goto 251 dX11_flip_118 (by decide) ?_
        refine m_iinc (v := (l2 + 1)) (lv' := [.ref 11, .int l1, .int (l2 + 1), .int 0, .retAddr 0, .retAddr 0, .retAddr 0, .retAddr 0, .retAddr 0]) dX11_flip_251 (Nat.le_of_ble_eq_true rfl) rfl (congrArg (fun z => l2 + z) (by decide : Int32.ofInt 1 = 1)) rfl rfl ?_
        refine m_goto 35 dX11_flip_254 (by decide) ?_
        refine m_dropK (lv' := [.ref 11, .int l1, .int (l2 + 1), .retAddr 0, .retAddr 0, .retAddr 0, .retAddr 0, .retAddr 0, .retAddr 0]) [3] rfl ?_
        exact q
      · replace q := q.2 c14
        refine m_iconst (v := 1) dX11_flip_71 (by decide) ?_
        refine m_goto 113 dX11_flip_72 (by decide) ?_
        refine m_istore_n (lv' := [.ref 11, .int l1, .int l2, .int 1, .retAddr 0, .retAddr 0, .retAddr 0, .retAddr 0, .retAddr 0]) dX11_flip_113 (Nat.le_of_ble_eq_true rfl) rfl rfl ?_
        refine m_iload_n dX11_flip_114 rfl ?_
        refine m_if_ne 121 dX11_flip_115 (by decide) (fun c16 => ?_) (fun c16 => absurd c16 (by decide))
        refine m_iconst (v := 0) dX11_flip_121 (by decide) ?_
        refine m_istore (lv' := [.ref 11, .int l1, .int l2, .int 1, .int 0, .retAddr 0, .retAddr 0, .retAddr 0, .retAddr 0]) dX11_flip_122 (Nat.le_of_ble_eq_true rfl) rfl rfl ?_
        exact q
set_option maxRecDepth 100000 in
theorem r_X11_flip_124 {g : gT} {h : mh_T} {P : Int32 → mh_T → Prop} (l1 : Int32) (l2 : Int32) (l3 : Int32) (l4 : Int32) (q : MCi g yX11_outcomes uX11_outcomes [.ref 45, .int l2] h (fun r2 h1 => (r2 ≤ l4 → ME g uX11_flip 35 [.ref 11, .int l1, .int (l2 + 1), .retAddr 0, .retAddr 0, .retAddr 0, .retAddr 0, .retAddr 0, .retAddr 0] [] h1 (qI P)) ∧ (¬ r2 ≤ l4 → ∀ x4 : Int32, x4 = (l4 ^^^ l3) → (l4 ≤ x4 → ∀ x6 : Int32, x6 = ((4 * l2) + l4) → ∀ x7 : Int32, x7 = ((4 * l2) + x4) → (vp_in (17 + x6) 346) ∧ (∀ x9 : Int32, x9 = (mI h1 45 (17 + x6).toNatClampNeg) → (vp_in (17 + x7) 346) ∧ ((vp_in (17 + x6) 346) ∧ ((vp_in (17 + x7) 346) ∧ ((vp_in x6 32) ∧ (∀ x14 : Int32, x14 = (mI (wI (wI h1 45 (17 + x6).toNatClampNeg (mI h1 45 (17 + x7).toNatClampNeg)) 45 (17 + x7).toNatClampNeg x9) 47 x6.toNatClampNeg) → (vp_in x7 32) ∧ ((vp_in x6 32) ∧ ((vp_in x7 32) ∧ (ME g uX11_flip 124 [.ref 11, .int l1, .int l2, .int l3, .int (l4 + 1), .retAddr 0, .retAddr 0, .retAddr 0, .retAddr 0] [] (wI (wI (wI (wI h1 45 (17 + x6).toNatClampNeg (mI h1 45 (17 + x7).toNatClampNeg)) 45 (17 + x7).toNatClampNeg x9) 47 x6.toNatClampNeg (mI (wI (wI h1 45 (17 + x6).toNatClampNeg (mI h1 45 (17 + x7).toNatClampNeg)) 45 (17 + x7).toNatClampNeg x9) 47 x7.toNatClampNeg)) 47 x7.toNatClampNeg x14) (qI P)))))))))) ∧ (¬ l4 ≤ x4 → ME g uX11_flip 124 [.ref 11, .int l1, .int l2, .int l3, .int (l4 + 1), .retAddr 0, .retAddr 0, .retAddr 0, .retAddr 0] [] h1 (qI P))))) : ME g uX11_flip 124 [.ref 11, .int l1, .int l2, .int l3, .int l4, .retAddr 0, .retAddr 0, .retAddr 0, .retAddr 0] [] h (qI P) := by
  refine m_iload dX11_flip_124 rfl ?_
  refine m_aload_n dX11_flip_126 rfl ?_
  refine gf_X11_20 rfl dX11_flip_127 ?_
  refine m_iload_n dX11_flip_130 rfl ?_
  refine cl_X11_247 rfl (by decide) dX11_flip_131 (Nat.le_of_ble_eq_true rfl) (MCi_go q (fun r2 h1 q => ?_))
  refine m_icmp_ge 251 dX11_flip_134 (by decide) (fun c3 => ?_) (fun c3 => ?_)
  · replace q := q.1 c3
    refine m_iinc (v := (l2 + 1)) (lv' := [.ref 11, .int l1, .int (l2 + 1), .int l3, .int l4, .retAddr 0, .retAddr 0, .retAddr 0, .retAddr 0]) dX11_flip_251 (Nat.le_of_ble_eq_true rfl) rfl (congrArg (fun z => l2 + z) (by decide : Int32.ofInt 1 = 1)) rfl rfl ?_
    refine m_goto 35 dX11_flip_254 (by decide) ?_
    refine m_dropK (lv' := [.ref 11, .int l1, .int (l2 + 1), .retAddr 0, .retAddr 0, .retAddr 0, .retAddr 0, .retAddr 0, .retAddr 0]) [3, 4] rfl ?_
    exact q
  · replace q := q.2 c3
    refine m_iload dX11_flip_137 rfl ?_
    refine m_iload_n dX11_flip_139 rfl ?_
    refine m_ixor dX11_flip_140 ?_
    obtain ⟨x4, ex4⟩ : ∃ z, z = (l4 ^^^ l3) := ⟨_, rfl⟩
    rw [← ex4]
    replace q := q x4 ex4
    refine m_istore (lv' := [.ref 11, .int l1, .int l2, .int l3, .int l4, .int x4, .retAddr 0, .retAddr 0, .retAddr 0]) dX11_flip_141 (Nat.le_of_ble_eq_true rfl) rfl rfl ?_
    refine m_iload dX11_flip_143 rfl ?_
    refine m_iload dX11_flip_145 rfl ?_
    refine m_icmp_ge 153 dX11_flip_147 (by decide) (fun c5 => ?_) (fun c5 => ?_)
    · replace q := q.1 c5
      refine m_iconst (v := 4) dX11_flip_153 (by decide) ?_
      refine m_iload_n dX11_flip_154 rfl ?_
      refine m_imul dX11_flip_155 ?_
      refine m_iload dX11_flip_156 rfl ?_
      refine m_iadd dX11_flip_158 ?_
      obtain ⟨x6, ex6⟩ : ∃ z, z = ((4 * l2) + l4) := ⟨_, rfl⟩
      rw [← ex6]
      replace q := q x6 ex6
      refine m_istore (lv' := [.ref 11, .int l1, .int l2, .int l3, .int l4, .int x4, .int x6, .retAddr 0, .retAddr 0]) dX11_flip_159 (Nat.le_of_ble_eq_true rfl) rfl rfl ?_
      refine m_iconst (v := 4) dX11_flip_161 (by decide) ?_
      refine m_iload_n dX11_flip_162 rfl ?_
      refine m_imul dX11_flip_163 ?_
      refine m_iload dX11_flip_164 rfl ?_
      refine m_iadd dX11_flip_166 ?_
      obtain ⟨x7, ex7⟩ : ∃ z, z = ((4 * l2) + x4) := ⟨_, rfl⟩
      rw [← ex7]
      replace q := q x7 ex7
      refine m_istore (lv' := [.ref 11, .int l1, .int l2, .int l3, .int l4, .int x4, .int x6, .int x7, .retAddr 0]) dX11_flip_167 (Nat.le_of_ble_eq_true rfl) rfl rfl ?_
      refine m_aload_n dX11_flip_169 rfl ?_
      refine gf_X11_20 rfl dX11_flip_170 ?_
      refine m_bipush (v := 17) dX11_flip_173 (by decide) ?_
      refine m_iload dX11_flip_175 rfl ?_
      refine m_iadd dX11_flip_177 ?_
      obtain ⟨b8, q⟩ := q
      refine m_iaload dX11_flip_178 rfl (by decide) b8 ?_
      obtain ⟨x9, ex9⟩ : ∃ z, z = (mI h1 45 (17 + x6).toNatClampNeg) := ⟨_, rfl⟩
      rw [← ex9]
      replace q := q x9 ex9
      refine m_istore (lv' := [.ref 11, .int l1, .int l2, .int l3, .int l4, .int x4, .int x6, .int x7, .int x9]) dX11_flip_179 (Nat.le_of_ble_eq_true rfl) rfl rfl ?_
      refine m_aload_n dX11_flip_181 rfl ?_
      refine gf_X11_20 rfl dX11_flip_182 ?_
      refine m_bipush (v := 17) dX11_flip_185 (by decide) ?_
      refine m_iload dX11_flip_187 rfl ?_
      refine m_iadd dX11_flip_189 ?_
      refine m_aload_n dX11_flip_190 rfl ?_
      refine gf_X11_20 rfl dX11_flip_191 ?_
      refine m_bipush (v := 17) dX11_flip_194 (by decide) ?_
      refine m_iload dX11_flip_196 rfl ?_
      refine m_iadd dX11_flip_198 ?_
      obtain ⟨b10, q⟩ := q
      refine m_iaload dX11_flip_199 rfl (by decide) b10 ?_
      obtain ⟨b11, q⟩ := q
      refine m_iastore dX11_flip_200 rfl (by decide) b11 ?_
      refine m_aload_n dX11_flip_201 rfl ?_
      refine gf_X11_20 rfl dX11_flip_202 ?_
      refine m_bipush (v := 17) dX11_flip_205 (by decide) ?_
      refine m_iload dX11_flip_207 rfl ?_
      refine m_iadd dX11_flip_209 ?_
      refine m_iload dX11_flip_210 rfl ?_
      obtain ⟨b12, q⟩ := q
      refine m_iastore dX11_flip_212 rfl (by decide) b12 ?_
      refine m_aload_n dX11_flip_213 rfl ?_
      refine gf_X11_26 rfl dX11_flip_214 ?_
      refine m_iload dX11_flip_217 rfl ?_
      obtain ⟨b13, q⟩ := q
      refine m_iaload dX11_flip_219 rfl (by decide) b13 ?_
      obtain ⟨x14, ex14⟩ : ∃ z, z = (mI (wI (wI h1 45 (17 + x6).toNatClampNeg (mI h1 45 (17 + x7).toNatClampNeg)) 45 (17 + x7).toNatClampNeg x9) 47 x6.toNatClampNeg) := ⟨_, rfl⟩
      rw [← ex14]
      replace q := q x14 ex14
      refine m_istore (lv' := [.ref 11, .int l1, .int l2, .int l3, .int l4, .int x4, .int x6, .int x7, .int x14]) dX11_flip_220 (Nat.le_of_ble_eq_true rfl) rfl rfl ?_
      refine m_aload_n dX11_flip_222 rfl ?_
      refine gf_X11_26 rfl dX11_flip_223 ?_
      refine m_iload dX11_flip_226 rfl ?_
      refine m_aload_n dX11_flip_228 rfl ?_
      refine gf_X11_26 rfl dX11_flip_229 ?_
      refine m_iload dX11_flip_232 rfl ?_
      obtain ⟨b15, q⟩ := q
      refine m_iaload dX11_flip_234 rfl (by decide) b15 ?_
      obtain ⟨b16, q⟩ := q
      refine m_iastore dX11_flip_235 rfl (by decide) b16 ?_
      refine m_aload_n dX11_flip_236 rfl ?_
      refine gf_X11_26 rfl dX11_flip_237 ?_
      refine m_iload dX11_flip_240 rfl ?_
      refine m_iload dX11_flip_242 rfl ?_
      obtain ⟨b17, q⟩ := q
      refine m_iastore dX11_flip_244 rfl (by decide) b17 ?_
      refine m_iinc (v := (l4 + 1)) (lv' := [.ref 11, .int l1, .int l2, .int l3, .int (l4 + 1), .int x4, .int x6, .int x7, .int x14]) dX11_flip_245 (Nat.le_of_ble_eq_true rfl) rfl (congrArg (fun z => l4 + z) (by decide : Int32.ofInt 1 = 1)) rfl rfl ?_
      refine m_goto 124 dX11_flip_248 (by decide) ?_
      refine m_dropK (lv' := [.ref 11, .int l1, .int l2, .int l3, .int (l4 + 1), .retAddr 0, .retAddr 0, .retAddr 0, .retAddr 0]) [5, 6, 7, 8] rfl ?_
      exact q
    · replace q := q.2 c5
      refine m_goto 245 dX11_flip_150 (by decide) ?_
      refine m_iinc (v := (l4 + 1)) (lv' := [.ref 11, .int l1, .int l2, .int l3, .int (l4 + 1), .int x4, .retAddr 0, .retAddr 0, .retAddr 0]) dX11_flip_245 (Nat.le_of_ble_eq_true rfl) rfl (congrArg (fun z => l4 + z) (by decide : Int32.ofInt 1 = 1)) rfl rfl ?_
      refine m_goto 124 dX11_flip_248 (by decide) ?_
      refine m_dropK (lv' := [.ref 11, .int l1, .int l2, .int l3, .int (l4 + 1), .retAddr 0, .retAddr 0, .retAddr 0, .retAddr 0]) [5] rfl ?_
      exact q
set_option maxRecDepth 100000 in
theorem e_X11_goesAway {g : gT} {h : mh_T} {P : mh_T → Prop} (l1 : Int32) (q : ME g uX11_goesAway 2 [.ref 11, .int l1, .int l1, .retAddr 0] [] h (qV P)) : MCv g yX11_goesAway uX11_goesAway [.ref 11, .int l1] h P := by
  refine m_enter (by decide) rfl (Nat.le_of_ble_eq_true rfl) (lv := [.ref 11, .int l1, .retAddr 0, .retAddr 0]) rfl ?_
  refine m_iload_n dX11_goesAway_0 rfl ?_
  refine m_istore_n (lv' := [.ref 11, .int l1, .int l1, .retAddr 0]) dX11_goesAway_1 (Nat.le_of_ble_eq_true rfl) rfl rfl ?_
  exact q
set_option maxRecDepth 100000 in
theorem r_X11_goesAway_2 {g : gT} {h : mh_T} {P : mh_T → Prop} (l1 : Int32) (l2 : Int32) (q : ((mI h 45 (Int32.toNatClampNeg 0)) ≤ (l2 + 1) → ∀ x2 : Int32, x2 = (mI (wI h 45 (Int32.toNatClampNeg 0) ((mI h 45 (Int32.toNatClampNeg 0)) - 1)) 45 (Int32.toNatClampNeg 0)) → (vp_in (1 + x2) 346) ∧ ((vp_in (9 + x2) 346) ∧ (ME g uX11_goesAway 159 [.ref 11, .int l1, .int x2, .int 0] [] (wI (wI (wI h 45 (Int32.toNatClampNeg 0) ((mI h 45 (Int32.toNatClampNeg 0)) - 1)) 45 (1 + x2).toNatClampNeg 0) 45 (9 + x2).toNatClampNeg 0) (qV P)))) ∧ (¬ (mI h 45 (Int32.toNatClampNeg 0)) ≤ (l2 + 1) → (vp_in ((1 + l2) + 1) 346) ∧ ((vp_in (1 + l2) 346) ∧ ((vp_in ((9 + l2) + 1) 346) ∧ ((vp_in (9 + l2) 346) ∧ (ME g uX11_goesAway 54 [.ref 11, .int l1, .int l2, .int 0] [] (wI (wI h 45 (1 + l2).toNatClampNeg (mI h 45 ((1 + l2) + 1).toNatClampNeg)) 45 (9 + l2).toNatClampNeg (mI (wI h 45 (1 + l2).toNatClampNeg (mI h 45 ((1 + l2) + 1).toNatClampNeg)) 45 ((9 + l2) + 1).toNatClampNeg)) (qV P))))))) : ME g uX11_goesAway 2 [.ref 11, .int l1, .int l2, .retAddr 0] [] h (qV P) := by
  refine m_iload_n dX11_goesAway_2 rfl ?_
  refine m_iconst (v := 1) dX11_goesAway_3 (by decide) ?_
  refine m_iadd dX11_goesAway_4 ?_
  refine m_aload_n dX11_goesAway_5 rfl ?_
  refine gf_X11_20 rfl dX11_goesAway_6 ?_
  refine m_iconst (v := 0) dX11_goesAway_9 (by decide) ?_
  refine m_iaload dX11_goesAway_10 rfl (by decide) (by unfold vp_in; decide) ?_
  refine m_icmp_ge 121 dX11_goesAway_11 (by decide) (fun c1 => ?_) (fun c1 => ?_)
  · replace q := q.1 c1
    refine m_aload_n dX11_goesAway_121 rfl ?_
    refine gf_X11_20 rfl dX11_goesAway_122 ?_
    refine m_iconst (v := 0) dX11_goesAway_125 (by decide) ?_
    refine m_dup2 dX11_goesAway_126 rfl rfl ?_
    refine m_iaload dX11_goesAway_127 rfl (by decide) (by unfold vp_in; decide) ?_
    refine m_iconst (v := 1) dX11_goesAway_128 (by decide) ?_
    refine m_isub dX11_goesAway_129 ?_
    refine m_iastore dX11_goesAway_130 rfl (by decide) (by unfold vp_in; decide) ?_
    refine m_aload_n dX11_goesAway_131 rfl ?_
    refine gf_X11_20 rfl dX11_goesAway_132 ?_
    refine m_iconst (v := 0) dX11_goesAway_135 (by decide) ?_
    refine m_iaload dX11_goesAway_136 rfl (by decide) (by unfold vp_in; decide) ?_
    obtain ⟨x2, ex2⟩ : ∃ z, z = (mI (wI h 45 (Int32.toNatClampNeg 0) ((mI h 45 (Int32.toNatClampNeg 0)) - 1)) 45 (Int32.toNatClampNeg 0)) := ⟨_, rfl⟩
    rw [← ex2]
    replace q := q x2 ex2
    refine m_istore_n (lv' := [.ref 11, .int l1, .int x2, .retAddr 0]) dX11_goesAway_137 (Nat.le_of_ble_eq_true rfl) rfl rfl ?_
    refine m_aload_n dX11_goesAway_138 rfl ?_
    refine gf_X11_20 rfl dX11_goesAway_139 ?_
    refine m_iconst (v := 1) dX11_goesAway_142 (by decide) ?_
    refine m_iload_n dX11_goesAway_143 rfl ?_
    refine m_iadd dX11_goesAway_144 ?_
    refine m_iconst (v := 0) dX11_goesAway_145 (by decide) ?_
    obtain ⟨b3, q⟩ := q
    refine m_iastore dX11_goesAway_146 rfl (by decide) b3 ?_
    refine m_aload_n dX11_goesAway_147 rfl ?_
    refine gf_X11_20 rfl dX11_goesAway_148 ?_
    refine m_bipush (v := 9) dX11_goesAway_151 (by decide) ?_
    refine m_iload_n dX11_goesAway_153 rfl ?_
    refine m_iadd dX11_goesAway_154 ?_
    refine m_iconst (v := 0) dX11_goesAway_155 (by decide) ?_
    obtain ⟨b4, q⟩ := q
    refine m_iastore dX11_goesAway_156 rfl (by decide) b4 ?_
    refine m_iconst (v := 0) dX11_goesAway_157 (by decide) ?_
    refine m_istore_n (lv' := [.ref 11, .int l1, .int x2, .int 0]) dX11_goesAway_158 (Nat.le_of_ble_eq_true rfl) rfl rfl ?_
    exact q
  · replace q := q.2 c1
    refine m_aload_n dX11_goesAway_14 rfl ?_
    refine gf_X11_20 rfl dX11_goesAway_15 ?_
    refine m_iconst (v := 1) dX11_goesAway_18 (by decide) ?_
    refine m_iload_n dX11_goesAway_19 rfl ?_
    refine m_iadd dX11_goesAway_20 ?_
    refine m_aload_n dX11_goesAway_21 rfl ?_
    refine gf_X11_20 rfl dX11_goesAway_22 ?_
    refine m_iconst (v := 1) dX11_goesAway_25 (by decide) ?_
    refine m_iload_n dX11_goesAway_26 rfl ?_
    refine m_iadd dX11_goesAway_27 ?_
    refine m_iconst (v := 1) dX11_goesAway_28 (by decide) ?_
    refine m_iadd dX11_goesAway_29 ?_
    obtain ⟨b5, q⟩ := q
    refine m_iaload dX11_goesAway_30 rfl (by decide) b5 ?_
    obtain ⟨b6, q⟩ := q
    refine m_iastore dX11_goesAway_31 rfl (by decide) b6 ?_
    refine m_aload_n dX11_goesAway_32 rfl ?_
    refine gf_X11_20 rfl dX11_goesAway_33 ?_
    refine m_bipush (v := 9) dX11_goesAway_36 (by decide) ?_
    refine m_iload_n dX11_goesAway_38 rfl ?_
    refine m_iadd dX11_goesAway_39 ?_
    refine m_aload_n dX11_goesAway_40 rfl ?_
    refine gf_X11_20 rfl dX11_goesAway_41 ?_
    refine m_bipush (v := 9) dX11_goesAway_44 (by decide) ?_
    refine m_iload_n dX11_goesAway_46 rfl ?_
    refine m_iadd dX11_goesAway_47 ?_
    refine m_iconst (v := 1) dX11_goesAway_48 (by decide) ?_
    refine m_iadd dX11_goesAway_49 ?_
    obtain ⟨b7, q⟩ := q
    refine m_iaload dX11_goesAway_50 rfl (by decide) b7 ?_
    obtain ⟨b8, q⟩ := q
    refine m_iastore dX11_goesAway_51 rfl (by decide) b8 ?_
    refine m_iconst (v := 0) dX11_goesAway_52 (by decide) ?_
    refine m_istore_n (lv' := [.ref 11, .int l1, .int l2, .int 0]) dX11_goesAway_53 (Nat.le_of_ble_eq_true rfl) rfl rfl ?_
    exact q
set_option maxRecDepth 100000 in
theorem r_X11_goesAway_54 {g : gT} {h : mh_T} {P : mh_T → Prop} (l1 : Int32) (l2 : Int32) (l3 : Int32) (q : (4 ≤ l3 → ME g uX11_goesAway 2 [.ref 11, .int l1, .int (l2 + 1), .retAddr 0] [] h (qV P)) ∧ (¬ 4 ≤ l3 → (vp_in (((17 + (4 * l2)) + 4) + l3) 346) ∧ ((vp_in ((17 + (4 * l2)) + l3) 346) ∧ ((vp_in (((4 * l2) + 4) + l3) 32) ∧ ((vp_in ((4 * l2) + l3) 32) ∧ (ME g uX11_goesAway 54 [.ref 11, .int l1, .int l2, .int (l3 + 1)] [] (wI (wI h 45 ((17 + (4 * l2)) + l3).toNatClampNeg (mI h 45 (((17 + (4 * l2)) + 4) + l3).toNatClampNeg)) 47 ((4 * l2) + l3).toNatClampNeg (mI (wI h 45 ((17 + (4 * l2)) + l3).toNatClampNeg (mI h 45 (((17 + (4 * l2)) + 4) + l3).toNatClampNeg)) 47 (((4 * l2) + 4) + l3).toNatClampNeg)) (qV P))))))) : ME g uX11_goesAway 54 [.ref 11, .int l1, .int l2, .int l3] [] h (qV P) := by
  refine m_iload_n dX11_goesAway_54 rfl ?_
  refine m_iconst (v := 4) dX11_goesAway_55 (by decide) ?_
  refine m_icmp_ge 115 dX11_goesAway_56 (by decide) (fun c1 => ?_) (fun c1 => ?_)
  · replace q := q.1 c1
    refine m_iinc (v := (l2 + 1)) (lv' := [.ref 11, .int l1, .int (l2 + 1), .int l3]) dX11_goesAway_115 (Nat.le_of_ble_eq_true rfl) rfl (congrArg (fun z => l2 + z) (by decide : Int32.ofInt 1 = 1)) rfl rfl ?_
    refine m_goto 2 dX11_goesAway_118 (by decide) ?_
    refine m_dropK (lv' := [.ref 11, .int l1, .int (l2 + 1), .retAddr 0]) [3] rfl ?_
    exact q
  · replace q := q.2 c1
    refine m_aload_n dX11_goesAway_59 rfl ?_
    refine gf_X11_20 rfl dX11_goesAway_60 ?_
    refine m_bipush (v := 17) dX11_goesAway_63 (by decide) ?_
    refine m_iconst (v := 4) dX11_goesAway_65 (by decide) ?_
    refine m_iload_n dX11_goesAway_66 rfl ?_
    refine m_imul dX11_goesAway_67 ?_
    refine m_iadd dX11_goesAway_68 ?_
    refine m_iload_n dX11_goesAway_69 rfl ?_
    refine m_iadd dX11_goesAway_70 ?_
    refine m_aload_n dX11_goesAway_71 rfl ?_
    refine gf_X11_20 rfl dX11_goesAway_72 ?_
    refine m_bipush (v := 17) dX11_goesAway_75 (by decide) ?_
    refine m_iconst (v := 4) dX11_goesAway_77 (by decide) ?_
    refine m_iload_n dX11_goesAway_78 rfl ?_
    refine m_imul dX11_goesAway_79 ?_
    refine m_iadd dX11_goesAway_80 ?_
    refine m_iconst (v := 4) dX11_goesAway_81 (by decide) ?_
    refine m_iadd dX11_goesAway_82 ?_
    refine m_iload_n dX11_goesAway_83 rfl ?_
    refine m_iadd dX11_goesAway_84 ?_
    obtain ⟨b2, q⟩ := q
    refine m_iaload dX11_goesAway_85 rfl (by decide) b2 ?_
    obtain ⟨b3, q⟩ := q
    refine m_iastore dX11_goesAway_86 rfl (by decide) b3 ?_
    refine m_aload_n dX11_goesAway_87 rfl ?_
    refine gf_X11_26 rfl dX11_goesAway_88 ?_
    refine m_iconst (v := 4) dX11_goesAway_91 (by decide) ?_
    refine m_iload_n dX11_goesAway_92 rfl ?_
    refine m_imul dX11_goesAway_93 ?_
    refine m_iload_n dX11_goesAway_94 rfl ?_
    refine m_iadd dX11_goesAway_95 ?_
    refine m_aload_n dX11_goesAway_96 rfl ?_
    refine gf_X11_26 rfl dX11_goesAway_97 ?_
    refine m_iconst (v := 4) dX11_goesAway_100 (by decide) ?_
    refine m_iload_n dX11_goesAway_101 rfl ?_
    refine m_imul dX11_goesAway_102 ?_
    refine m_iconst (v := 4) dX11_goesAway_103 (by decide) ?_
    refine m_iadd dX11_goesAway_104 ?_
    refine m_iload_n dX11_goesAway_105 rfl ?_
    refine m_iadd dX11_goesAway_106 ?_
    obtain ⟨b4, q⟩ := q
    refine m_iaload dX11_goesAway_107 rfl (by decide) b4 ?_
    obtain ⟨b5, q⟩ := q
    refine m_iastore dX11_goesAway_108 rfl (by decide) b5 ?_
    refine m_iinc (v := (l3 + 1)) (lv' := [.ref 11, .int l1, .int l2, .int (l3 + 1)]) dX11_goesAway_109 (Nat.le_of_ble_eq_true rfl) rfl (congrArg (fun z => l3 + z) (by decide : Int32.ofInt 1 = 1)) rfl rfl ?_
    refine m_goto 54 dX11_goesAway_112 (by decide) ?_
    exact q
set_option maxRecDepth 100000 in
theorem r_X11_goesAway_159 {g : gT} {h : mh_T} {P : mh_T → Prop} (l1 : Int32) (l2 : Int32) (l3 : Int32) (q : (4 ≤ l3 → P h) ∧ (¬ 4 ≤ l3 → (vp_in ((17 + (4 * l2)) + l3) 346) ∧ ((vp_in ((4 * l2) + l3) 32) ∧ (ME g uX11_goesAway 159 [.ref 11, .int l1, .int l2, .int (l3 + 1)] [] (wI (wI h 45 ((17 + (4 * l2)) + l3).toNatClampNeg 0) 47 ((4 * l2) + l3).toNatClampNeg 0) (qV P))))) : ME g uX11_goesAway 159 [.ref 11, .int l1, .int l2, .int l3] [] h (qV P) := by
  refine m_iload_n dX11_goesAway_159 rfl ?_
  refine m_iconst (v := 4) dX11_goesAway_160 (by decide) ?_
  refine m_icmp_ge 195 dX11_goesAway_161 (by decide) (fun c1 => ?_) (fun c1 => ?_)
  · replace q := q.1 c1
    exact m_vret dX11_goesAway_195 rfl q
  · replace q := q.2 c1
    refine m_aload_n dX11_goesAway_164 rfl ?_
    refine gf_X11_20 rfl dX11_goesAway_165 ?_
    refine m_bipush (v := 17) dX11_goesAway_168 (by decide) ?_
    refine m_iconst (v := 4) dX11_goesAway_170 (by decide) ?_
    refine m_iload_n dX11_goesAway_171 rfl ?_
    refine m_imul dX11_goesAway_172 ?_
    refine m_iadd dX11_goesAway_173 ?_
    refine m_iload_n dX11_goesAway_174 rfl ?_
    refine m_iadd dX11_goesAway_175 ?_
    refine m_iconst (v := 0) dX11_goesAway_176 (by decide) ?_
    obtain ⟨b2, q⟩ := q
    refine m_iastore dX11_goesAway_177 rfl (by decide) b2 ?_
    refine m_aload_n dX11_goesAway_178 rfl ?_
    refine gf_X11_26 rfl dX11_goesAway_179 ?_
    refine m_iconst (v := 4) dX11_goesAway_182 (by decide) ?_
    refine m_iload_n dX11_goesAway_183 rfl ?_
    refine m_imul dX11_goesAway_184 ?_
    refine m_iload_n dX11_goesAway_185 rfl ?_
    refine m_iadd dX11_goesAway_186 ?_
    refine m_iconst (v := 0) dX11_goesAway_187 (by decide) ?_
    obtain ⟨b3, q⟩ := q
    refine m_iastore dX11_goesAway_188 rfl (by decide) b3 ?_
    refine m_iinc (v := (l3 + 1)) (lv' := [.ref 11, .int l1, .int l2, .int (l3 + 1)]) dX11_goesAway_189 (Nat.le_of_ble_eq_true rfl) rfl (congrArg (fun z => l3 + z) (by decide : Int32.ofInt 1 = 1)) rfl rfl ?_
    refine m_goto 159 dX11_goesAway_192 (by decide) ?_
    exact q
set_option maxRecDepth 100000 in
theorem e_X11_drop {g : gT} {h : mh_T} {P : Int32 → mh_T → Prop} (l1 : Int32) (q : MCv g yX11_good uX11_good [.ref 11] h (fun h1 => MCi g yX11_isSet uX11_isSet [.ref 11, .int l1] h1 (fun r3 h2 => (¬ r3 = 0 → MCv g yX11_copy uX11_copy [.ref 45, .int 0, .ref 48, .int 0, .int 49] h2 (fun h5 => MCv g yX11_goesAway uX11_goesAway [.ref 11, .int l1] h5 (fun h6 => MCi g yX11_did uX11_did [.ref 11, .int 1, .int l1, .int (-2), .int (-2), .int (-2)] h6 (fun r8 h7 => (r8 = 0 ∨ r8 = 1) ∧ P r8 h7)))) ∧ (r3 = 0 → MCi g yX11_isNot uX11_isNot [.ref 11, .int 1] h2 (fun r10 h9 => (r10 = 0 ∨ r10 = 1) ∧ P r10 h9))))) : MCi g yX11_drop uX11_drop [.ref 11, .int l1] h P := by
  refine m_enter (by decide) rfl (Nat.le_of_ble_eq_true rfl) (lv := [.ref 11, .int l1]) rfl ?_
  refine m_aload_n dX11_drop_0 rfl ?_
  refine cl_X11_174 rfl (by decide) dX11_drop_1 (Nat.le_of_ble_eq_true rfl) (MCv_go q (fun h1 q => ?_))
  refine m_aload_n dX11_drop_4 rfl ?_
  refine m_iload_n dX11_drop_5 rfl ?_
  refine cl_X11_244 rfl (by decide) dX11_drop_6 (Nat.le_of_ble_eq_true rfl) (MCi_go q (fun r3 h2 q => ?_))
  refine m_if_ne 18 dX11_drop_9 (by decide) (fun c4 => ?_) (fun c4 => ?_)
  · replace q := q.1 c4
    refine m_aload_n dX11_drop_18 rfl ?_
    refine gf_X11_20 rfl dX11_drop_19 ?_
    refine m_iconst (v := 0) dX11_drop_22 (by decide) ?_
    refine m_aload_n dX11_drop_23 rfl ?_
    refine gf_X11_29 rfl dX11_drop_24 ?_
    refine m_iconst (v := 0) dX11_drop_27 (by decide) ?_
    refine m_bipush (v := 49) dX11_drop_28 (by decide) ?_
    refine cl_X11_399 rfl (by decide) dX11_drop_30 (Nat.le_of_ble_eq_true rfl) (MCv_go q (fun h5 q => ?_))
    refine m_aload_n dX11_drop_33 rfl ?_
    refine m_iload_n dX11_drop_34 rfl ?_
    refine cl_X11_407 rfl (by decide) dX11_drop_35 (Nat.le_of_ble_eq_true rfl) (MCv_go q (fun h6 q => ?_))
    refine m_aload_n dX11_drop_38 rfl ?_
    refine m_iconst (v := 1) dX11_drop_39 (by decide) ?_
    refine m_iload_n dX11_drop_40 rfl ?_
    refine m_bipush (v := (-2)) dX11_drop_41 (by decide) ?_
    refine m_bipush (v := (-2)) dX11_drop_43 (by decide) ?_
    refine m_bipush (v := (-2)) dX11_drop_45 (by decide) ?_
    refine cl_X11_403 rfl (by decide) dX11_drop_47 (Nat.le_of_ble_eq_true rfl) (MCi_go q (fun r8 h7 q => ?_))
    exact m_zret dX11_drop_50 rfl q.1 q.2
  · replace q := q.2 c4
    refine m_aload_n dX11_drop_12 rfl ?_
    refine m_iconst (v := 1) dX11_drop_13 (by decide) ?_
    refine cl_X11_336 rfl (by decide) dX11_drop_14 (Nat.le_of_ble_eq_true rfl) (MCi_go q (fun r10 h9 q => ?_))
    exact m_zret dX11_drop_17 rfl q.1 q.2
set_option maxRecDepth 100000 in
theorem e_X11_forget {g : gT} {h : mh_T} {P : Int32 → mh_T → Prop} (l1 : Int32) (q : MCv g yX11_good uX11_good [.ref 11] h (fun h1 => MCi g yX11_isLook uX11_isLook [.ref 11, .int l1] h1 (fun r3 h2 => (¬ r3 = 0 → ME g uX11_forget 22 [.ref 11, .int l1, .int 0, .int 0, .retAddr 0, .retAddr 0, .retAddr 0, .retAddr 0, .retAddr 0] [] h2 (qI P)) ∧ (r3 = 0 → MCi g yX11_isNot uX11_isNot [.ref 11, .int 1] h2 (fun r6 h5 => (r6 = 0 ∨ r6 = 1) ∧ P r6 h5))))) : MCi g yX11_forget uX11_forget [.ref 11, .int l1] h P := by
  refine m_enter (by decide) rfl (Nat.le_of_ble_eq_true rfl) (lv := [.ref 11, .int l1, .retAddr 0, .retAddr 0, .retAddr 0, .retAddr 0, .retAddr 0, .retAddr 0, .retAddr 0]) rfl ?_
  refine m_aload_n dX11_forget_0 rfl ?_
  refine cl_X11_174 rfl (by decide) dX11_forget_1 (Nat.le_of_ble_eq_true rfl) (MCv_go q (fun h1 q => ?_))
  refine m_aload_n dX11_forget_4 rfl ?_
  refine m_iload_n dX11_forget_5 rfl ?_
  refine cl_X11_296 rfl (by decide) dX11_forget_6 (Nat.le_of_ble_eq_true rfl) (MCi_go q (fun r3 h2 q => ?_))
  refine m_if_ne 18 dX11_forget_9 (by decide) (fun c4 => ?_) (fun c4 => ?_)
  · replace q := q.1 c4
    refine m_iconst (v := 0) dX11_forget_18 (by decide) ?_
    refine m_istore_n (lv' := [.ref 11, .int l1, .int 0, .retAddr 0, .retAddr 0, .retAddr 0, .retAddr 0, .retAddr 0, .retAddr 0]) dX11_forget_19 (Nat.le_of_ble_eq_true rfl) rfl rfl ?_
    refine m_iconst (v := 0) dX11_forget_20 (by decide) ?_
    refine m_istore_n (lv' := [.ref 11, .int l1, .int 0, .int 0, .retAddr 0, .retAddr 0, .retAddr 0, .retAddr 0, .retAddr 0]) dX11_forget_21 (Nat.le_of_ble_eq_true rfl) rfl rfl ?_
    exact q
  · replace q := q.2 c4
    refine m_aload_n dX11_forget_12 rfl ?_
    refine m_iconst (v := 1) dX11_forget_13 (by decide) ?_
    refine cl_X11_336 rfl (by decide) dX11_forget_14 (Nat.le_of_ble_eq_true rfl) (MCi_go q (fun r6 h5 q => ?_))
    exact m_zret dX11_forget_17 rfl q.1 q.2
set_option maxRecDepth 100000 in
theorem r_X11_forget_22 {g : gT} {h : mh_T} {P : Int32 → mh_T → Prop} (l1 : Int32) (l2 : Int32) (l3 : Int32) (q : ((mI h 45 (Int32.toNatClampNeg 0)) ≤ l3 → (¬ l2 = 0 → MCv g yX11_copy uX11_copy [.ref 45, .int 0, .ref 48, .int 0, .int 49] h (fun h3 => ∀ x4 : Int32, x4 = ((mI h3 45 (Int32.toNatClampNeg 0)) - 1) → ME g uX11_forget 107 [.ref 11, .int l1, .int l2, .int x4, .retAddr 0, .retAddr 0, .retAddr 0, .retAddr 0, .retAddr 0] [] h3 (qI P))) ∧ (l2 = 0 → MCi g yX11_isNot uX11_isNot [.ref 11, .int 5] h (fun r6 h5 => (r6 = 0 ∨ r6 = 1) ∧ P r6 h5))) ∧ (¬ (mI h 45 (Int32.toNatClampNeg 0)) ≤ l3 → (¬ l2 = 0 → ME g uX11_forget 22 [.ref 11, .int l1, .int 1, .int (l3 + 1), .retAddr 0, .retAddr 0, .retAddr 0, .retAddr 0, .retAddr 0] [] h (qI P)) ∧ (l2 = 0 → (vp_in (1 + l3) 346) ∧ (((mI h 45 (1 + l3).toNatClampNeg) = l1 → ME g uX11_forget 22 [.ref 11, .int l1, .int 1, .int (l3 + 1), .retAddr 0, .retAddr 0, .retAddr 0, .retAddr 0, .retAddr 0] [] h (qI P)) ∧ (¬ (mI h 45 (1 + l3).toNatClampNeg) = l1 → (vp_in (9 + l3) 346) ∧ ((¬ (mI h 45 (9 + l3).toNatClampNeg) = l1 → ME g uX11_forget 22 [.ref 11, .int l1, .int 0, .int (l3 + 1), .retAddr 0, .retAddr 0, .retAddr 0, .retAddr 0, .retAddr 0] [] h (qI P)) ∧ ((mI h 45 (9 + l3).toNatClampNeg) = l1 → ME g uX11_forget 22 [.ref 11, .int l1, .int 1, .int (l3 + 1), .retAddr 0, .retAddr 0, .retAddr 0, .retAddr 0, .retAddr 0] [] h (qI P)))))))) : ME g uX11_forget 22 [.ref 11, .int l1, .int l2, .int l3, .retAddr 0, .retAddr 0, .retAddr 0, .retAddr 0, .retAddr 0] [] h (qI P) := by
  refine m_iload_n dX11_forget_22 rfl ?_
  refine m_aload_n dX11_forget_23 rfl ?_
  refine gf_X11_20 rfl dX11_forget_24 ?_
  refine m_iconst (v := 0) dX11_forget_27 (by decide) ?_
  refine m_iaload dX11_forget_28 rfl (by decide) (by unfold vp_in; decide) ?_
  refine m_icmp_ge 73 dX11_forget_29 (by decide) (fun c1 => ?_) (fun c1 => ?_)
  · replace q := q.1 c1
    refine m_iload_n dX11_forget_73 rfl ?_
    refine m_if_ne 83 dX11_forget_74 (by decide) (fun c2 => ?_) (fun c2 => ?_)
    · replace q := q.1 c2
      refine m_aload_n dX11_forget_83 rfl ?_
      refine gf_X11_20 rfl dX11_forget_84 ?_
      refine m_iconst (v := 0) dX11_forget_87 (by decide) ?_
      refine m_aload_n dX11_forget_88 rfl ?_
      refine gf_X11_29 rfl dX11_forget_89 ?_
      refine m_iconst (v := 0) dX11_forget_92 (by decide) ?_
      refine m_bipush (v := 49) dX11_forget_93 (by decide) ?_
      refine cl_X11_399 rfl (by decide) dX11_forget_95 (Nat.le_of_ble_eq_true rfl) (MCv_go q (fun h3 q => ?_))
      refine m_aload_n dX11_forget_98 rfl ?_
      refine gf_X11_20 rfl dX11_forget_99 ?_
      refine m_iconst (v := 0) dX11_forget_102 (by decide) ?_
      refine m_iaload dX11_forget_103 rfl (by decide) (by unfold vp_in; decide) ?_
      refine m_iconst (v := 1) dX11_forget_104 (by decide) ?_
      refine m_isub dX11_forget_105 ?_
      obtain ⟨x4, ex4⟩ : ∃ z, z = ((mI h3 45 (Int32.toNatClampNeg 0)) - 1) := ⟨_, rfl⟩
      rw [← ex4]
      replace q := q x4 ex4
      refine m_istore_n (lv' := [.ref 11, .int l1, .int l2, .int x4, .retAddr 0, .retAddr 0, .retAddr 0, .retAddr 0, .retAddr 0]) dX11_forget_106 (Nat.le_of_ble_eq_true rfl) rfl rfl ?_
      exact q
    · replace q := q.2 c2
      refine m_aload_n dX11_forget_77 rfl ?_
      refine m_iconst (v := 5) dX11_forget_78 (by decide) ?_
      refine cl_X11_336 rfl (by decide) dX11_forget_79 (Nat.le_of_ble_eq_true rfl) (MCi_go q (fun r6 h5 q => ?_))
      exact m_zret dX11_forget_82 rfl q.1 q.2
  · replace q := q.2 c1
    refine m_iload_n dX11_forget_32 rfl ?_
    refine m_if_ne 61 dX11_forget_33 (by decide) (fun c7 => ?_) (fun c7 => ?_)
    · replace q := q.1 c7
      refine m_iconst (v := 1) dX11_forget_61 (by decide) ?_
      refine m_goto 66 dX11_forget_62 (by decide) ?_
      refine m_istore_n (lv' := [.ref 11, .int l1, .int 1, .int l3, .retAddr 0, .retAddr 0, .retAddr 0, .retAddr 0, .retAddr 0]) dX11_forget_66 (Nat.le_of_ble_eq_true rfl) rfl rfl ?_
      refine m_iinc (v := (l3 + 1)) (lv' := [.ref 11, .int l1, .int 1, .int (l3 + 1), .retAddr 0, .retAddr 0, .retAddr 0, .retAddr 0, .retAddr 0]) dX11_forget_67 (Nat.le_of_ble_eq_true rfl) rfl (congrArg (fun z => l3 + z) (by decide : Int32.ofInt 1 = 1)) rfl rfl ?_
      refine m_goto 22 dX11_forget_70 (by decide) ?_
      exact q
    · replace q := q.2 c7
      refine m_aload_n dX11_forget_36 rfl ?_
      refine gf_X11_20 rfl dX11_forget_37 ?_
      refine m_iconst (v := 1) dX11_forget_40 (by decide) ?_
      refine m_iload_n dX11_forget_41 rfl ?_
      refine m_iadd dX11_forget_42 ?_
      obtain ⟨b8, q⟩ := q
      refine m_iaload dX11_forget_43 rfl (by decide) b8 ?_
      refine m_iload_n dX11_forget_44 rfl ?_
      refine m_icmp_eq 61 dX11_forget_45 (by decide) (fun c9 => ?_) (fun c9 => ?_)
      · replace q := q.1 c9
        refine m_iconst (v := 1) dX11_forget_61 (by decide) ?_
        refine m_goto 66 dX11_forget_62 (by decide) ?_
        refine m_istore_n (lv' := [.ref 11, .int l1, .int 1, .int l3, .retAddr 0, .retAddr 0, .retAddr 0, .retAddr 0, .retAddr 0]) dX11_forget_66 (Nat.le_of_ble_eq_true rfl) rfl rfl ?_
        refine m_iinc (v := (l3 + 1)) (lv' := [.ref 11, .int l1, .int 1, .int (l3 + 1), .retAddr 0, .retAddr 0, .retAddr 0, .retAddr 0, .retAddr 0]) dX11_forget_67 (Nat.le_of_ble_eq_true rfl) rfl (congrArg (fun z => l3 + z) (by decide : Int32.ofInt 1 = 1)) rfl rfl ?_
        refine m_goto 22 dX11_forget_70 (by decide) ?_
        exact q
      · replace q := q.2 c9
        refine m_aload_n dX11_forget_48 rfl ?_
        refine gf_X11_20 rfl dX11_forget_49 ?_
        refine m_bipush (v := 9) dX11_forget_52 (by decide) ?_
        refine m_iload_n dX11_forget_54 rfl ?_
        refine m_iadd dX11_forget_55 ?_
        obtain ⟨b10, q⟩ := q
        refine m_iaload dX11_forget_56 rfl (by decide) b10 ?_
        refine m_iload_n dX11_forget_57 rfl ?_
        refine m_icmp_ne 65 dX11_forget_58 (by decide) (fun c11 => ?_) (fun c11 => ?_)
        · replace q := q.1 c11
          refine m_iconst (v := 0) dX11_forget_65 (by decide) ?_
          refine m_istore_n (lv' := [.ref 11, .int l1, .int 0, .int l3, .retAddr 0, .retAddr 0, .retAddr 0, .retAddr 0, .retAddr 0]) dX11_forget_66 (Nat.le_of_ble_eq_true rfl) rfl rfl ?_
          refine m_iinc (v := (l3 + 1)) (lv' := [.ref 11, .int l1, .int 0, .int (l3 + 1), .retAddr 0, .retAddr 0, .retAddr 0, .retAddr 0, .retAddr 0]) dX11_forget_67 (Nat.le_of_ble_eq_true rfl) rfl (congrArg (fun z => l3 + z) (by decide : Int32.ofInt 1 = 1)) rfl rfl ?_
          refine m_goto 22 dX11_forget_70 (by decide) ?_
          exact q
        · replace q := q.2 c11
          refine m_iconst (v := 1) dX11_forget_61 (by decide) ?_
          refine m_goto 66 dX11_forget_62 (by decide) ?_
          refine m_istore_n (lv' := [.ref 11, .int l1, .int 1, .int l3, .retAddr 0, .retAddr 0, .retAddr 0, .retAddr 0, .retAddr 0]) dX11_forget_66 (Nat.le_of_ble_eq_true rfl) rfl rfl ?_
          refine m_iinc (v := (l3 + 1)) (lv' := [.ref 11, .int l1, .int 1, .int (l3 + 1), .retAddr 0, .retAddr 0, .retAddr 0, .retAddr 0, .retAddr 0]) dX11_forget_67 (Nat.le_of_ble_eq_true rfl) rfl (congrArg (fun z => l3 + z) (by decide : Int32.ofInt 1 = 1)) rfl rfl ?_
          refine m_goto 22 dX11_forget_70 (by decide) ?_
          exact q
set_option maxRecDepth 100000 in
theorem r_X11_forget_107 {g : gT} {h : mh_T} {P : Int32 → mh_T → Prop} (l1 : Int32) (l2 : Int32) (l3 : Int32) (q : (l3 < 0 → MCi g yX11_did uX11_did [.ref 11, .int 2, .int l1, .int (-2), .int (-2), .int (-2)] h (fun r3 h2 => (r3 = 0 ∨ r3 = 1) ∧ P r3 h2)) ∧ (¬ l3 < 0 → (vp_in (1 + l3) 346) ∧ ((¬ (mI h 45 (1 + l3).toNatClampNeg) = l1 → (vp_in (9 + l3) 346) ∧ (((mI h 45 (9 + l3).toNatClampNeg) = l1 → (vp_in (9 + l3) 346) ∧ ((¬ (mI h 45 (9 + l3).toNatClampNeg) = (-2) → ∀ x11 : Int32, x11 = (17 + (4 * l3)) → (vp_in x11 346) ∧ ((vp_in (x11 + 1) 346) ∧ (∀ x15 : Int32, x15 = ((mI h 45 x11.toNatClampNeg) + (mI h 45 (x11 + 1).toNatClampNeg)) → (vp_in (x11 + 2) 346) ∧ ((vp_in (x11 + 3) 346) ∧ (∀ x19 : Int32, x19 = ((mI h 45 (x11 + 2).toNatClampNeg) + (mI h 45 (x11 + 3).toNatClampNeg)) → (vp_in (1 + l3) 346) ∧ ((vp_in (1 + l3) 346) ∧ ((vp_in (9 + l3) 346) ∧ ((vp_in x11 346) ∧ ((vp_in (x11 + 1) 346) ∧ ((vp_in (x11 + 2) 346) ∧ ((vp_in (x11 + 3) 346) ∧ (ME g uX11_forget 360 [.ref 11, .int l1, .int l2, .int l3, .int 0, .int x11, .int x15, .int x19, .int 0] [] (wI (wI (wI (wI (wI (wI h 45 (1 + l3).toNatClampNeg (mI h 45 (1 + l3).toNatClampNeg)) 45 (9 + l3).toNatClampNeg (-2)) 45 x11.toNatClampNeg x15) 45 (x11 + 1).toNatClampNeg x19) 45 (x11 + 2).toNatClampNeg 0) 45 (x11 + 3).toNatClampNeg 0) (qI P))))))))))))) ∧ ((mI h 45 (9 + l3).toNatClampNeg) = (-2) → MCv g yX11_goesAway uX11_goesAway [.ref 11, .int l3] h (fun h28 => ME g uX11_forget 107 [.ref 11, .int l1, .int l2, .int (l3 + (-1)), .retAddr 0, .retAddr 0, .retAddr 0, .retAddr 0, .retAddr 0] [] h28 (qI P))))) ∧ (¬ (mI h 45 (9 + l3).toNatClampNeg) = l1 → ME g uX11_forget 107 [.ref 11, .int l1, .int l2, .int (l3 + (-1)), .retAddr 0, .retAddr 0, .retAddr 0, .retAddr 0, .retAddr 0] [] h (qI P)))) ∧ ((mI h 45 (1 + l3).toNatClampNeg) = l1 → (vp_in (9 + l3) 346) ∧ ((¬ (mI h 45 (9 + l3).toNatClampNeg) = (-2) → ∀ x32 : Int32, x32 = (17 + (4 * l3)) → (vp_in x32 346) ∧ ((vp_in (x32 + 2) 346) ∧ (∀ x36 : Int32, x36 = ((mI h 45 x32.toNatClampNeg) + (mI h 45 (x32 + 2).toNatClampNeg)) → (vp_in (x32 + 1) 346) ∧ ((vp_in (x32 + 3) 346) ∧ (∀ x40 : Int32, x40 = ((mI h 45 (x32 + 1).toNatClampNeg) + (mI h 45 (x32 + 3).toNatClampNeg)) → (vp_in (9 + l3) 346) ∧ ((vp_in (1 + l3) 346) ∧ ((vp_in (9 + l3) 346) ∧ ((vp_in x32 346) ∧ ((vp_in (x32 + 1) 346) ∧ ((vp_in (x32 + 2) 346) ∧ ((vp_in (x32 + 3) 346) ∧ (ME g uX11_forget 360 [.ref 11, .int l1, .int l2, .int l3, .int 1, .int x32, .int x36, .int x40, .int 0] [] (wI (wI (wI (wI (wI (wI h 45 (1 + l3).toNatClampNeg (mI h 45 (9 + l3).toNatClampNeg)) 45 (9 + l3).toNatClampNeg (-2)) 45 x32.toNatClampNeg x36) 45 (x32 + 1).toNatClampNeg x40) 45 (x32 + 2).toNatClampNeg 0) 45 (x32 + 3).toNatClampNeg 0) (qI P))))))))))))) ∧ ((mI h 45 (9 + l3).toNatClampNeg) = (-2) → MCv g yX11_goesAway uX11_goesAway [.ref 11, .int l3] h (fun h49 => ME g uX11_forget 107 [.ref 11, .int l1, .int l2, .int (l3 + (-1)), .retAddr 0, .retAddr 0, .retAddr 0, .retAddr 0, .retAddr 0] [] h49 (qI P)))))))) : ME g uX11_forget 107 [.ref 11, .int l1, .int l2, .int l3, .retAddr 0, .retAddr 0, .retAddr 0, .retAddr 0, .retAddr 0] [] h (qI P) := by
  refine m_iload_n dX11_forget_107 rfl ?_
  refine m_if_lt 390 dX11_forget_108 (by decide) (fun c1 => ?_) (fun c1 => ?_)
  · replace q := q.1 c1
    refine m_aload_n dX11_forget_390 rfl ?_
    refine m_iconst (v := 2) dX11_forget_391 (by decide) ?_
    refine m_iload_n dX11_forget_392 rfl ?_
    refine m_bipush (v := (-2)) dX11_forget_393 (by decide) ?_
    refine m_bipush (v := (-2)) dX11_forget_395 (by decide) ?_
    refine m_bipush (v := (-2)) dX11_forget_397 (by decide) ?_
    refine cl_X11_403 rfl (by decide) dX11_forget_399 (Nat.le_of_ble_eq_true rfl) (MCi_go q (fun r3 h2 q => ?_))
    exact m_zret dX11_forget_402 rfl q.1 q.2
  · replace q := q.2 c1
    refine m_aload_n dX11_forget_111 rfl ?_
    refine gf_X11_20 rfl dX11_forget_112 ?_
    refine m_iconst (v := 1) dX11_forget_115 (by decide) ?_
    refine m_iload_n dX11_forget_116 rfl ?_
    refine m_iadd dX11_forget_117 ?_
    obtain ⟨b4, q⟩ := q
    refine m_iaload dX11_forget_118 rfl (by decide) b4 ?_
    refine m_iload_n dX11_forget_119 rfl ?_
    refine m_icmp_ne 127 dX11_forget_120 (by decide) (fun c5 => ?_) (fun c5 => ?_)
    · replace q := q.1 c5
      refine m_iconst (v := 0) dX11_forget_127 (by decide) ?_
      refine m_istore (lv' := [.ref 11, .int l1, .int l2, .int l3, .int 0, .retAddr 0, .retAddr 0, .retAddr 0, .retAddr 0]) dX11_forget_128 (Nat.le_of_ble_eq_true rfl) rfl rfl ?_
      refine m_iload dX11_forget_130 rfl ?_
      refine m_if_ne 151 dX11_forget_132 (by decide) (fun c6 => absurd c6 (by decide)) (fun c6 => ?_)
      refine m_aload_n dX11_forget_135 rfl ?_
      refine gf_X11_20 rfl dX11_forget_136 ?_
      refine m_bipush (v := 9) dX11_forget_139 (by decide) ?_
      refine m_iload_n dX11_forget_141 rfl ?_
      refine m_iadd dX11_forget_142 ?_
      obtain ⟨b7, q⟩ := q
      refine m_iaload dX11_forget_143 rfl (by decide) b7 ?_
      refine m_iload_n dX11_forget_144 rfl ?_
      refine m_icmp_eq 151 dX11_forget_145 (by decide) (fun c8 => ?_) (fun c8 => ?_)
      · replace q := q.1 c8
        refine m_aload_n dX11_forget_151 rfl ?_
        refine gf_X11_20 rfl dX11_forget_152 ?_
        refine m_bipush (v := 9) dX11_forget_155 (by decide) ?_
        refine m_iload_n dX11_forget_157 rfl ?_
        refine m_iadd dX11_forget_158 ?_
        obtain ⟨b9, q⟩ := q
        refine m_iaload dX11_forget_159 rfl (by decide) b9 ?_
        refine m_bipush (v := (-2)) dX11_forget_160 (by decide) ?_
        refine m_icmp_ne 173 dX11_forget_162 (by decide) (fun c10 => ?_) (fun c10 => ?_)
        · replace q := q.1 c10
          refine m_bipush (v := 17) dX11_forget_173 (by decide) ?_
          refine m_iconst (v := 4) dX11_forget_175 (by decide) ?_
          refine m_iload_n dX11_forget_176 rfl ?_
          refine m_imul dX11_forget_177 ?_
          refine m_iadd dX11_forget_178 ?_
          obtain ⟨x11, ex11⟩ : ∃ z, z = (17 + (4 * l3)) := ⟨_, rfl⟩
          rw [← ex11]
          replace q := q x11 ex11
          refine m_istore (lv' := [.ref 11, .int l1, .int l2, .int l3, .int 0, .int x11, .retAddr 0, .retAddr 0, .retAddr 0]) dX11_forget_179 (Nat.le_of_ble_eq_true rfl) rfl rfl ?_
          refine m_iload dX11_forget_181 rfl ?_
          refine m_if_eq 206 dX11_forget_183 (by decide) (fun c12 => ?_) (fun c12 => absurd c12 (by decide))
          refine m_aload_n dX11_forget_206 rfl ?_
          refine gf_X11_20 rfl dX11_forget_207 ?_
          refine m_iload dX11_forget_210 rfl ?_
          obtain ⟨b13, q⟩ := q
          refine m_iaload dX11_forget_212 rfl (by decide) b13 ?_
          refine m_aload_n dX11_forget_213 rfl ?_
          refine gf_X11_20 rfl dX11_forget_214 ?_
          refine m_iload dX11_forget_217 rfl ?_
          refine m_iconst (v := 1) dX11_forget_219 (by decide) ?_
          refine m_iadd dX11_forget_220 ?_
          obtain ⟨b14, q⟩ := q
          refine m_iaload dX11_forget_221 rfl (by decide) b14 ?_
          refine m_iadd dX11_forget_222 ?_
          obtain ⟨x15, ex15⟩ : ∃ z, z = ((mI h 45 x11.toNatClampNeg) + (mI h 45 (x11 + 1).toNatClampNeg)) := ⟨_, rfl⟩
          rw [← ex15]
          replace q := q x15 ex15
          refine m_istore (lv' := [.ref 11, .int l1, .int l2, .int l3, .int 0, .int x11, .int x15, .retAddr 0, .retAddr 0]) dX11_forget_223 (Nat.le_of_ble_eq_true rfl) rfl rfl ?_
          refine m_iload dX11_forget_225 rfl ?_
          refine m_if_eq 252 dX11_forget_227 (by decide) (fun c16 => ?_) (fun c16 => absurd c16 (by decide))
          refine m_aload_n dX11_forget_252 rfl ?_
          refine gf_X11_20 rfl dX11_forget_253 ?_
          refine m_iload dX11_forget_256 rfl ?_
          refine m_iconst (v := 2) dX11_forget_258 (by decide) ?_
          refine m_iadd dX11_forget_259 ?_
          obtain ⟨b17, q⟩ := q
          refine m_iaload dX11_forget_260 rfl (by decide) b17 ?_
          refine m_aload_n dX11_forget_261 rfl ?_
          refine gf_X11_20 rfl dX11_forget_262 ?_
          refine m_iload dX11_forget_265 rfl ?_
          refine m_iconst (v := 3) dX11_forget_267 (by decide) ?_
          refine m_iadd dX11_forget_268 ?_
          obtain ⟨b18, q⟩ := q
          refine m_iaload dX11_forget_269 rfl (by decide) b18 ?_
          refine m_iadd dX11_forget_270 ?_
          obtain ⟨x19, ex19⟩ : ∃ z, z = ((mI h 45 (x11 + 2).toNatClampNeg) + (mI h 45 (x11 + 3).toNatClampNeg)) := ⟨_, rfl⟩
          rw [← ex19]
          replace q := q x19 ex19
          refine m_istore (lv' := [.ref 11, .int l1, .int l2, .int l3, .int 0, .int x11, .int x15, .int x19, .retAddr 0]) dX11_forget_271 (Nat.le_of_ble_eq_true rfl) rfl rfl ?_
          refine m_aload_n dX11_forget_273 rfl ?_
          refine gf_X11_20 rfl dX11_forget_274 ?_
          refine m_iconst (v := 1) dX11_forget_277 (by decide) ?_
          refine m_iload_n dX11_forget_278 rfl ?_
          refine m_iadd dX11_forget_279 ?_
          refine m_iload dX11_forget_280 rfl ?_
          refine m_if_eq 297 dX11_forget_282 (by decide) (fun c20 => ?_) (fun c20 => absurd c20 (by decide))
          refine m_aload_n dX11_forget_297 rfl ?_
          refine gf_X11_20 rfl dX11_forget_298 ?_
          refine m_iconst (v := 1) dX11_forget_301 (by decide) ?_
          refine m_iload_n dX11_forget_302 rfl ?_
          refine m_iadd dX11_forget_303 ?_
          obtain ⟨b21, q⟩ := q
          refine m_iaload dX11_forget_304 rfl (by decide) b21 ?_
          obtain ⟨b22, q⟩ := q
          refine m_iastore dX11_forget_305 rfl (by decide) b22 ?_
          refine m_aload_n dX11_forget_306 rfl ?_
          refine gf_X11_20 rfl dX11_forget_307 ?_
          refine m_bipush (v := 9) dX11_forget_310 (by decide) ?_
          refine m_iload_n dX11_forget_312 rfl ?_
          refine m_iadd dX11_forget_313 ?_
          refine m_bipush (v := (-2)) dX11_forget_314 (by decide) ?_
          obtain ⟨b23, q⟩ := q
          refine m_iastore dX11_forget_316 rfl (by decide) b23 ?_
          refine m_aload_n dX11_forget_317 rfl ?_
          refine gf_X11_20 rfl dX11_forget_318 ?_
          refine m_iload dX11_forget_321 rfl ?_
          refine m_iload dX11_forget_323 rfl ?_
          obtain ⟨b24, q⟩ := q
          refine m_iastore dX11_forget_325 rfl (by decide) b24 ?_
          refine m_aload_n dX11_forget_326 rfl ?_
          refine gf_X11_20 rfl dX11_forget_327 ?_
          refine m_iload dX11_forget_330 rfl ?_
          refine m_iconst (v := 1) dX11_forget_332 (by decide) ?_
          refine m_iadd dX11_forget_333 ?_
          refine m_iload dX11_forget_334 rfl ?_
          obtain ⟨b25, q⟩ := q
          refine m_iastore dX11_forget_336 rfl (by decide) b25 ?_
          refine m_aload_n dX11_forget_337 rfl ?_
          refine gf_X11_20 rfl dX11_forget_338 ?_
          refine m_iload dX11_forget_341 rfl ?_
          refine m_iconst (v := 2) dX11_forget_343 (by decide) ?_
          refine m_iadd dX11_forget_344 ?_
          refine m_iconst (v := 0) dX11_forget_345 (by decide) ?_
          obtain ⟨b26, q⟩ := q
          refine m_iastore dX11_forget_346 rfl (by decide) b26 ?_
          refine m_aload_n dX11_forget_347 rfl ?_
          refine gf_X11_20 rfl dX11_forget_348 ?_
          refine m_iload dX11_forget_351 rfl ?_
          refine m_iconst (v := 3) dX11_forget_353 (by decide) ?_
          refine m_iadd dX11_forget_354 ?_
          refine m_iconst (v := 0) dX11_forget_355 (by decide) ?_
          obtain ⟨b27, q⟩ := q
          refine m_iastore dX11_forget_356 rfl (by decide) b27 ?_
          refine m_iconst (v := 0) dX11_forget_357 (by decide) ?_
          refine m_istore (lv' := [.ref 11, .int l1, .int l2, .int l3, .int 0, .int x11, .int x15, .int x19, .int 0]) dX11_forget_358 (Nat.le_of_ble_eq_true rfl) rfl rfl ?_
          exact q
        · replace q := q.2 c10
          refine m_aload_n dX11_forget_165 rfl ?_
          refine m_iload_n dX11_forget_166 rfl ?_
          refine cl_X11_407 rfl (by decide) dX11_forget_167 (Nat.le_of_ble_eq_true rfl) (MCv_go q (fun h28 q => ?_))
          refine m_goto 384 dX11_forget_170 (by decide) ?_
          refine m_iinc (v := (l3 + (-1))) (lv' := [.ref 11, .int l1, .int l2, .int (l3 + (-1)), .int 0, .retAddr 0, .retAddr 0, .retAddr 0, .retAddr 0]) dX11_forget_384 (Nat.le_of_ble_eq_true rfl) rfl (congrArg (fun z => l3 + z) (by decide : Int32.ofInt (-1) = -1)) rfl rfl ?_
          refine m_goto 107 dX11_forget_387 (by decide) ?_
          refine m_dropK (lv' := [.ref 11, .int l1, .int l2, .int (l3 + (-1)), .retAddr 0, .retAddr 0, .retAddr 0, .retAddr 0, .retAddr 0]) [4] rfl ?_
          exact q
      · replace q := q.2 c8
        refine m_goto 384 dX11_forget_148 (by decide) ?_
        refine m_iinc (v := (l3 + (-1))) (lv' := [.ref 11, .int l1, .int l2, .int (l3 + (-1)), .int 0, .retAddr 0, .retAddr 0, .retAddr 0, .retAddr 0]) dX11_forget_384 (Nat.le_of_ble_eq_true rfl) rfl (congrArg (fun z => l3 + z) (by decide : Int32.ofInt (-1) = -1)) rfl rfl ?_
        refine m_goto 107 dX11_forget_387 (by decide) ?_
        refine m_dropK (lv' := [.ref 11, .int l1, .int l2, .int (l3 + (-1)), .retAddr 0, .retAddr 0, .retAddr 0, .retAddr 0, .retAddr 0]) [4] rfl ?_
        exact q
    · replace q := q.2 c5
      refine m_iconst (v := 1) dX11_forget_123 (by decide) ?_
      refine m_goto 128 dX11_forget_124 (by decide) ?_
      refine m_istore (lv' := [.ref 11, .int l1, .int l2, .int l3, .int 1, .retAddr 0, .retAddr 0, .retAddr 0, .retAddr 0]) dX11_forget_128 (Nat.le_of_ble_eq_true rfl) rfl rfl ?_
      refine m_iload dX11_forget_130 rfl ?_
      refine m_if_ne 151 dX11_forget_132 (by decide) (fun c29 => ?_) (fun c29 => absurd c29 (by decide))
      refine m_aload_n dX11_forget_151 rfl ?_
      refine gf_X11_20 rfl dX11_forget_152 ?_
      refine m_bipush (v := 9) dX11_forget_155 (by decide) ?_
      refine m_iload_n dX11_forget_157 rfl ?_
      refine m_iadd dX11_forget_158 ?_
      obtain ⟨b30, q⟩ := q
      refine m_iaload dX11_forget_159 rfl (by decide) b30 ?_
      refine m_bipush (v := (-2)) dX11_forget_160 (by decide) ?_
      refine m_icmp_ne 173 dX11_forget_162 (by decide) (fun c31 => ?_) (fun c31 => ?_)
      · replace q := q.1 c31
        refine m_bipush (v := 17) dX11_forget_173 (by decide) ?_
        refine m_iconst (v := 4) dX11_forget_175 (by decide) ?_
        refine m_iload_n dX11_forget_176 rfl ?_
        refine m_imul dX11_forget_177 ?_
        refine m_iadd dX11_forget_178 ?_
        obtain ⟨x32, ex32⟩ : ∃ z, z = (17 + (4 * l3)) := ⟨_, rfl⟩
        rw [← ex32]
        replace q := q x32 ex32
        refine m_istore (lv' := [.ref 11, .int l1, .int l2, .int l3, .int 1, .int x32, .retAddr 0, .retAddr 0, .retAddr 0]) dX11_forget_179 (Nat.le_of_ble_eq_true rfl) rfl rfl ?_
        refine m_iload dX11_forget_181 rfl ?_
        refine m_if_eq 206 dX11_forget_183 (by decide) (fun c33 => absurd c33 (by decide)) (fun c33 => ?_)
        refine m_aload_n dX11_forget_186 rfl ?_
        refine gf_X11_20 rfl dX11_forget_187 ?_
        refine m_iload dX11_forget_190 rfl ?_
        obtain ⟨b34, q⟩ := q
        refine m_iaload dX11_forget_192 rfl (by decide) b34 ?_
        refine m_aload_n dX11_forget_193 rfl ?_
        refine gf_X11_20 rfl dX11_forget_194 ?_
        refine m_iload dX11_forget_197 rfl ?_
        refine m_iconst (v := 2) dX11_forget_199 (by decide) ?_
        refine m_iadd dX11_forget_200 ?_
        obtain ⟨b35, q⟩ := q
        refine m_iaload dX11_forget_201 rfl (by decide) b35 ?_
        refine m_iadd dX11_forget_202 ?_
        refine m_goto 223 dX11_forget_203 (by decide) ?_
        obtain ⟨x36, ex36⟩ : ∃ z, z = ((mI h 45 x32.toNatClampNeg) + (mI h 45 (x32 + 2).toNatClampNeg)) := ⟨_, rfl⟩
        rw [← ex36]
        replace q := q x36 ex36
        refine m_istore (lv' := [.ref 11, .int l1, .int l2, .int l3, .int 1, .int x32, .int x36, .retAddr 0, .retAddr 0]) dX11_forget_223 (Nat.le_of_ble_eq_true rfl) rfl rfl ?_
        refine m_iload dX11_forget_225 rfl ?_
        refine m_if_eq 252 dX11_forget_227 (by decide) (fun c37 => absurd c37 (by decide)) (fun c37 => ?_)
        refine m_aload_n dX11_forget_230 rfl ?_
        refine gf_X11_20 rfl dX11_forget_231 ?_
        refine m_iload dX11_forget_234 rfl ?_
        refine m_iconst (v := 1) dX11_forget_236 (by decide) ?_
        refine m_iadd dX11_forget_237 ?_
        obtain ⟨b38, q⟩ := q
        refine m_iaload dX11_forget_238 rfl (by decide) b38 ?_
        refine m_aload_n dX11_forget_239 rfl ?_
        refine gf_X11_20 rfl dX11_forget_240 ?_
        refine m_iload dX11_forget_243 rfl ?_
        refine m_iconst (v := 3) dX11_forget_245 (by decide) ?_
        refine m_iadd dX11_forget_246 ?_
        obtain ⟨b39, q⟩ := q
        refine m_iaload dX11_forget_247 rfl (by decide) b39 ?_
        refine m_iadd dX11_forget_248 ?_
        refine m_goto 271 dX11_forget_249 (by decide) ?_
        obtain ⟨x40, ex40⟩ : ∃ z, z = ((mI h 45 (x32 + 1).toNatClampNeg) + (mI h 45 (x32 + 3).toNatClampNeg)) := ⟨_, rfl⟩
        rw [← ex40]
        replace q := q x40 ex40
        refine m_istore (lv' := [.ref 11, .int l1, .int l2, .int l3, .int 1, .int x32, .int x36, .int x40, .retAddr 0]) dX11_forget_271 (Nat.le_of_ble_eq_true rfl) rfl rfl ?_
        refine m_aload_n dX11_forget_273 rfl ?_
        refine gf_X11_20 rfl dX11_forget_274 ?_
        refine m_iconst (v := 1) dX11_forget_277 (by decide) ?_
        refine m_iload_n dX11_forget_278 rfl ?_
        refine m_iadd dX11_forget_279 ?_
        refine m_iload dX11_forget_280 rfl ?_
        refine m_if_eq 297 dX11_forget_282 (by decide) (fun c41 => absurd c41 (by decide)) (fun c41 => ?_)
        refine m_aload_n dX11_forget_285 rfl ?_
        refine gf_X11_20 rfl dX11_forget_286 ?_
        refine m_bipush (v := 9) dX11_forget_289 (by decide) ?_
        refine m_iload_n dX11_forget_291 rfl ?_
        refine m_iadd dX11_forget_292 ?_
        obtain ⟨b42, q⟩ := q
        refine m_iaload dX11_forget_293 rfl (by decide) b42 ?_
        refine m_goto 305 dX11_forget_294 (by decide) ?_
        obtain ⟨b43, q⟩ := q
        refine m_iastore dX11_forget_305 rfl (by decide) b43 ?_
        refine m_aload_n dX11_forget_306 rfl ?_
        refine gf_X11_20 rfl dX11_forget_307 ?_
        refine m_bipush (v := 9) dX11_forget_310 (by decide) ?_
        refine m_iload_n dX11_forget_312 rfl ?_
        refine m_iadd dX11_forget_313 ?_
        refine m_bipush (v := (-2)) dX11_forget_314 (by decide) ?_
        obtain ⟨b44, q⟩ := q
        refine m_iastore dX11_forget_316 rfl (by decide) b44 ?_
        refine m_aload_n dX11_forget_317 rfl ?_
        refine gf_X11_20 rfl dX11_forget_318 ?_
        refine m_iload dX11_forget_321 rfl ?_
        refine m_iload dX11_forget_323 rfl ?_
        obtain ⟨b45, q⟩ := q
        refine m_iastore dX11_forget_325 rfl (by decide) b45 ?_
        refine m_aload_n dX11_forget_326 rfl ?_
        refine gf_X11_20 rfl dX11_forget_327 ?_
        refine m_iload dX11_forget_330 rfl ?_
        refine m_iconst (v := 1) dX11_forget_332 (by decide) ?_
        refine m_iadd dX11_forget_333 ?_
        refine m_iload dX11_forget_334 rfl ?_
        obtain ⟨b46, q⟩ := q
        refine m_iastore dX11_forget_336 rfl (by decide) b46 ?_
        refine m_aload_n dX11_forget_337 rfl ?_
        refine gf_X11_20 rfl dX11_forget_338 ?_
        refine m_iload dX11_forget_341 rfl ?_
        refine m_iconst (v := 2) dX11_forget_343 (by decide) ?_
        refine m_iadd dX11_forget_344 ?_
        refine m_iconst (v := 0) dX11_forget_345 (by decide) ?_
        obtain ⟨b47, q⟩ := q
        refine m_iastore dX11_forget_346 rfl (by decide) b47 ?_
        refine m_aload_n dX11_forget_347 rfl ?_
        refine gf_X11_20 rfl dX11_forget_348 ?_
        refine m_iload dX11_forget_351 rfl ?_
        refine m_iconst (v := 3) dX11_forget_353 (by decide) ?_
        refine m_iadd dX11_forget_354 ?_
        refine m_iconst (v := 0) dX11_forget_355 (by decide) ?_
        obtain ⟨b48, q⟩ := q
        refine m_iastore dX11_forget_356 rfl (by decide) b48 ?_
        refine m_iconst (v := 0) dX11_forget_357 (by decide) ?_
        refine m_istore (lv' := [.ref 11, .int l1, .int l2, .int l3, .int 1, .int x32, .int x36, .int x40, .int 0]) dX11_forget_358 (Nat.le_of_ble_eq_true rfl) rfl rfl ?_
        exact q
      · replace q := q.2 c31
        refine m_aload_n dX11_forget_165 rfl ?_
        refine m_iload_n dX11_forget_166 rfl ?_
        refine cl_X11_407 rfl (by decide) dX11_forget_167 (Nat.le_of_ble_eq_true rfl) (MCv_go q (fun h49 q => ?_))
        refine m_goto 384 dX11_forget_170 (by decide) ?_
        refine m_iinc (v := (l3 + (-1))) (lv' := [.ref 11, .int l1, .int l2, .int (l3 + (-1)), .int 1, .retAddr 0, .retAddr 0, .retAddr 0, .retAddr 0]) dX11_forget_384 (Nat.le_of_ble_eq_true rfl) rfl (congrArg (fun z => l3 + z) (by decide : Int32.ofInt (-1) = -1)) rfl rfl ?_
        refine m_goto 107 dX11_forget_387 (by decide) ?_
        refine m_dropK (lv' := [.ref 11, .int l1, .int l2, .int (l3 + (-1)), .retAddr 0, .retAddr 0, .retAddr 0, .retAddr 0, .retAddr 0]) [4] rfl ?_
        exact q
set_option maxRecDepth 100000 in
theorem r_X11_forget_360 {g : gT} {h : mh_T} {P : Int32 → mh_T → Prop} (l1 : Int32) (l2 : Int32) (l3 : Int32) (l4 : Int32) (l5 : Int32) (l6 : Int32) (l7 : Int32) (l8 : Int32) (q : (4 ≤ l8 → ME g uX11_forget 107 [.ref 11, .int l1, .int l2, .int (l3 + (-1)), .retAddr 0, .retAddr 0, .retAddr 0, .retAddr 0, .retAddr 0] [] h (qI P)) ∧ (¬ 4 ≤ l8 → (vp_in ((4 * l3) + l8) 32) ∧ (ME g uX11_forget 360 [.ref 11, .int l1, .int l2, .int l3, .int l4, .int l5, .int l6, .int l7, .int (l8 + 1)] [] (wI h 47 ((4 * l3) + l8).toNatClampNeg 0) (qI P)))) : ME g uX11_forget 360 [.ref 11, .int l1, .int l2, .int l3, .int l4, .int l5, .int l6, .int l7, .int l8] [] h (qI P) := by
  refine m_iload dX11_forget_360 rfl ?_
  refine m_iconst (v := 4) dX11_forget_362 (by decide) ?_
  refine m_icmp_ge 384 dX11_forget_363 (by decide) (fun c1 => ?_) (fun c1 => ?_)
  · replace q := q.1 c1
    refine m_iinc (v := (l3 + (-1))) (lv' := [.ref 11, .int l1, .int l2, .int (l3 + (-1)), .int l4, .int l5, .int l6, .int l7, .int l8]) dX11_forget_384 (Nat.le_of_ble_eq_true rfl) rfl (congrArg (fun z => l3 + z) (by decide : Int32.ofInt (-1) = -1)) rfl rfl ?_
    refine m_goto 107 dX11_forget_387 (by decide) ?_
    refine m_dropK (lv' := [.ref 11, .int l1, .int l2, .int (l3 + (-1)), .retAddr 0, .retAddr 0, .retAddr 0, .retAddr 0, .retAddr 0]) [4, 5, 6, 7, 8] rfl ?_
    exact q
  · replace q := q.2 c1
    refine m_aload_n dX11_forget_366 rfl ?_
    refine gf_X11_26 rfl dX11_forget_367 ?_
    refine m_iconst (v := 4) dX11_forget_370 (by decide) ?_
    refine m_iload_n dX11_forget_371 rfl ?_
    refine m_imul dX11_forget_372 ?_
    refine m_iload dX11_forget_373 rfl ?_
    refine m_iadd dX11_forget_375 ?_
    refine m_iconst (v := 0) dX11_forget_376 (by decide) ?_
    obtain ⟨b2, q⟩ := q
    refine m_iastore dX11_forget_377 rfl (by decide) b2 ?_
    refine m_iinc (v := (l8 + 1)) (lv' := [.ref 11, .int l1, .int l2, .int l3, .int l4, .int l5, .int l6, .int l7, .int (l8 + 1)]) dX11_forget_378 (Nat.le_of_ble_eq_true rfl) rfl (congrArg (fun z => l8 + z) (by decide : Int32.ofInt 1 = 1)) rfl rfl ?_
    refine m_goto 360 dX11_forget_381 (by decide) ?_
    exact q
set_option maxRecDepth 100000 in
theorem e_X11_shift {g : gT} {h : mh_T} {P : Int32 → mh_T → Prop} (l1 : Int32) (l2 : Int32) (l3 : Int32) (l4 : Int32) (q : MCv g yX11_good uX11_good [.ref 11] h (fun h1 => MCi g yX11_isOutcome uX11_isOutcome [.ref 11, .int l1, .int l2] h1 (fun r3 h2 => (r3 = 0 → MCi g yX11_isNot uX11_isNot [.ref 11, .int 1] h2 (fun r6 h5 => (r6 = 0 ∨ r6 = 1) ∧ P r6 h5)) ∧ (¬ r3 = 0 → MCi g yX11_isOutcome uX11_isOutcome [.ref 11, .int l1, .int l3] h2 (fun r8 h7 => (r8 = 0 → MCi g yX11_isNot uX11_isNot [.ref 11, .int 1] h7 (fun r11 h10 => (r11 = 0 ∨ r11 = 1) ∧ P r11 h10)) ∧ (¬ r8 = 0 → (¬ l2 = l3 → MCi g yX11_within uX11_within [.int l4, .int 1, .int 60] h7 (fun r14 h13 => (¬ r14 = 0 → (vp_in ((17 + (4 * l1)) + l2) 346) ∧ ((l4 ≤ (mI h13 45 ((17 + (4 * l1)) + l2).toNatClampNeg) → MCv g yX11_copy uX11_copy [.ref 45, .int 0, .ref 48, .int 0, .int 49] h13 (fun h18 => (vp_in ((17 + (4 * l1)) + l2) 346) ∧ ((vp_in ((17 + (4 * l1)) + l2) 346) ∧ ((vp_in ((17 + (4 * l1)) + l3) 346) ∧ ((vp_in ((17 + (4 * l1)) + l3) 346) ∧ (MCi g yX11_did uX11_did [.ref 11, .int 3, .int l1, .int l2, .int l3, .int l4] (wI (wI h18 45 ((17 + (4 * l1)) + l2).toNatClampNeg ((mI h18 45 ((17 + (4 * l1)) + l2).toNatClampNeg) - l4)) 45 ((17 + (4 * l1)) + l3).toNatClampNeg ((mI (wI h18 45 ((17 + (4 * l1)) + l2).toNatClampNeg ((mI h18 45 ((17 + (4 * l1)) + l2).toNatClampNeg) - l4)) 45 ((17 + (4 * l1)) + l3).toNatClampNeg) + l4)) (fun r24 h23 => (r24 = 0 ∨ r24 = 1) ∧ P r24 h23))))))) ∧ (¬ l4 ≤ (mI h13 45 ((17 + (4 * l1)) + l2).toNatClampNeg) → MCi g yX11_isNot uX11_isNot [.ref 11, .int 5] h13 (fun r26 h25 => (r26 = 0 ∨ r26 = 1) ∧ P r26 h25)))) ∧ (r14 = 0 → MCi g yX11_isNot uX11_isNot [.ref 11, .int 2] h13 (fun r28 h27 => (r28 = 0 ∨ r28 = 1) ∧ P r28 h27)))) ∧ (l2 = l3 → MCi g yX11_isNot uX11_isNot [.ref 11, .int 1] h7 (fun r30 h29 => (r30 = 0 ∨ r30 = 1) ∧ P r30 h29)))))))) : MCi g yX11_shift uX11_shift [.ref 11, .int l1, .int l2, .int l3, .int l4] h P := by
  refine m_enter (by decide) rfl (Nat.le_of_ble_eq_true rfl) (lv := [.ref 11, .int l1, .int l2, .int l3, .int l4]) rfl ?_
  refine m_aload_n dX11_shift_0 rfl ?_
  refine cl_X11_174 rfl (by decide) dX11_shift_1 (Nat.le_of_ble_eq_true rfl) (MCv_go q (fun h1 q => ?_))
  refine m_aload_n dX11_shift_4 rfl ?_
  refine m_iload_n dX11_shift_5 rfl ?_
  refine m_iload_n dX11_shift_6 rfl ?_
  refine cl_X11_305 rfl (by decide) dX11_shift_7 (Nat.le_of_ble_eq_true rfl) (MCi_go q (fun r3 h2 q => ?_))
  refine m_if_eq 27 dX11_shift_10 (by decide) (fun c4 => ?_) (fun c4 => ?_)
  · replace q := q.1 c4
    refine m_aload_n dX11_shift_27 rfl ?_
    refine m_iconst (v := 1) dX11_shift_28 (by decide) ?_
    refine cl_X11_336 rfl (by decide) dX11_shift_29 (Nat.le_of_ble_eq_true rfl) (MCi_go q (fun r6 h5 q => ?_))
    exact m_zret dX11_shift_32 rfl q.1 q.2
  · replace q := q.2 c4
    refine m_aload_n dX11_shift_13 rfl ?_
    refine m_iload_n dX11_shift_14 rfl ?_
    refine m_iload_n dX11_shift_15 rfl ?_
    refine cl_X11_305 rfl (by decide) dX11_shift_16 (Nat.le_of_ble_eq_true rfl) (MCi_go q (fun r8 h7 q => ?_))
    refine m_if_eq 27 dX11_shift_19 (by decide) (fun c9 => ?_) (fun c9 => ?_)
    · replace q := q.1 c9
      refine m_aload_n dX11_shift_27 rfl ?_
      refine m_iconst (v := 1) dX11_shift_28 (by decide) ?_
      refine cl_X11_336 rfl (by decide) dX11_shift_29 (Nat.le_of_ble_eq_true rfl) (MCi_go q (fun r11 h10 q => ?_))
      exact m_zret dX11_shift_32 rfl q.1 q.2
    · replace q := q.2 c9
      refine m_iload_n dX11_shift_22 rfl ?_
      refine m_iload_n dX11_shift_23 rfl ?_
      refine m_icmp_ne 33 dX11_shift_24 (by decide) (fun c12 => ?_) (fun c12 => ?_)
      · replace q := q.1 c12
        refine m_iload dX11_shift_33 rfl ?_
        refine m_iconst (v := 1) dX11_shift_35 (by decide) ?_
        refine m_bipush (v := 60) dX11_shift_36 (by decide) ?_
        refine cl_X11_170 rfl (by decide) dX11_shift_38 (Nat.le_of_ble_eq_true rfl) (MCi_go q (fun r14 h13 q => ?_))
        refine m_if_ne 50 dX11_shift_41 (by decide) (fun c15 => ?_) (fun c15 => ?_)
        · replace q := q.1 c15
          refine m_aload_n dX11_shift_50 rfl ?_
          refine gf_X11_20 rfl dX11_shift_51 ?_
          refine m_bipush (v := 17) dX11_shift_54 (by decide) ?_
          refine m_iconst (v := 4) dX11_shift_56 (by decide) ?_
          refine m_iload_n dX11_shift_57 rfl ?_
          refine m_imul dX11_shift_58 ?_
          refine m_iadd dX11_shift_59 ?_
          refine m_iload_n dX11_shift_60 rfl ?_
          refine m_iadd dX11_shift_61 ?_
          obtain ⟨b16, q⟩ := q
          refine m_iaload dX11_shift_62 rfl (by decide) b16 ?_
          refine m_iload dX11_shift_63 rfl ?_
          refine m_icmp_ge 74 dX11_shift_65 (by decide) (fun c17 => ?_) (fun c17 => ?_)
          · replace q := q.1 c17
            refine m_aload_n dX11_shift_74 rfl ?_
            refine gf_X11_20 rfl dX11_shift_75 ?_
            refine m_iconst (v := 0) dX11_shift_78 (by decide) ?_
            refine m_aload_n dX11_shift_79 rfl ?_
            refine gf_X11_29 rfl dX11_shift_80 ?_
            refine m_iconst (v := 0) dX11_shift_83 (by decide) ?_
            refine m_bipush (v := 49) dX11_shift_84 (by decide) ?_
            refine cl_X11_399 rfl (by decide) dX11_shift_86 (Nat.le_of_ble_eq_true rfl) (MCv_go q (fun h18 q => ?_))
            refine m_aload_n dX11_shift_89 rfl ?_
            refine gf_X11_20 rfl dX11_shift_90 ?_
            refine m_bipush (v := 17) dX11_shift_93 (by decide) ?_
            refine m_iconst (v := 4) dX11_shift_95 (by decide) ?_
            refine m_iload_n dX11_shift_96 rfl ?_
            refine m_imul dX11_shift_97 ?_
            refine m_iadd dX11_shift_98 ?_
            refine m_iload_n dX11_shift_99 rfl ?_
            refine m_iadd dX11_shift_100 ?_
            refine m_dup2 dX11_shift_101 rfl rfl ?_
            obtain ⟨b19, q⟩ := q
            refine m_iaload dX11_shift_102 rfl (by decide) b19 ?_
            refine m_iload dX11_shift_103 rfl ?_
            refine m_isub dX11_shift_105 ?_
            obtain ⟨b20, q⟩ := q
            refine m_iastore dX11_shift_106 rfl (by decide) b20 ?_
            refine m_aload_n dX11_shift_107 rfl ?_
            refine gf_X11_20 rfl dX11_shift_108 ?_
            refine m_bipush (v := 17) dX11_shift_111 (by decide) ?_
            refine m_iconst (v := 4) dX11_shift_113 (by decide) ?_
            refine m_iload_n dX11_shift_114 rfl ?_
            refine m_imul dX11_shift_115 ?_
            refine m_iadd dX11_shift_116 ?_
            refine m_iload_n dX11_shift_117 rfl ?_
            refine m_iadd dX11_shift_118 ?_
            refine m_dup2 dX11_shift_119 rfl rfl ?_
            obtain ⟨b21, q⟩ := q
            refine m_iaload dX11_shift_120 rfl (by decide) b21 ?_
            refine m_iload dX11_shift_121 rfl ?_
            refine m_iadd dX11_shift_123 ?_
            obtain ⟨b22, q⟩ := q
            refine m_iastore dX11_shift_124 rfl (by decide) b22 ?_
            refine m_aload_n dX11_shift_125 rfl ?_
            refine m_iconst (v := 3) dX11_shift_126 (by decide) ?_
            refine m_iload_n dX11_shift_127 rfl ?_
            refine m_iload_n dX11_shift_128 rfl ?_
            refine m_iload_n dX11_shift_129 rfl ?_
            refine m_iload dX11_shift_130 rfl ?_
            refine cl_X11_403 rfl (by decide) dX11_shift_132 (Nat.le_of_ble_eq_true rfl) (MCi_go q (fun r24 h23 q => ?_))
            exact m_zret dX11_shift_135 rfl q.1 q.2
          · replace q := q.2 c17
            refine m_aload_n dX11_shift_68 rfl ?_
            refine m_iconst (v := 5) dX11_shift_69 (by decide) ?_
            refine cl_X11_336 rfl (by decide) dX11_shift_70 (Nat.le_of_ble_eq_true rfl) (MCi_go q (fun r26 h25 q => ?_))
            exact m_zret dX11_shift_73 rfl q.1 q.2
        · replace q := q.2 c15
          refine m_aload_n dX11_shift_44 rfl ?_
          refine m_iconst (v := 2) dX11_shift_45 (by decide) ?_
          refine cl_X11_336 rfl (by decide) dX11_shift_46 (Nat.le_of_ble_eq_true rfl) (MCi_go q (fun r28 h27 q => ?_))
          exact m_zret dX11_shift_49 rfl q.1 q.2
      · replace q := q.2 c12
        refine m_aload_n dX11_shift_27 rfl ?_
        refine m_iconst (v := 1) dX11_shift_28 (by decide) ?_
        refine cl_X11_336 rfl (by decide) dX11_shift_29 (Nat.le_of_ble_eq_true rfl) (MCi_go q (fun r30 h29 q => ?_))
        exact m_zret dX11_shift_32 rfl q.1 q.2
set_option maxRecDepth 100000 in
theorem e_X11_undo {g : gT} {h : mh_T} {P : Int32 → mh_T → Prop}  (q : MCv g yX11_good uX11_good [.ref 11] h (fun h1 => (¬ (mI h1 11 24) = 0 → MCv g yX11_copy uX11_copy [.ref 45, .int 0, .ref 48, .int 0, .int 49] (wI h1 11 24 ((mI h1 11 24) - 1)) (fun h3 => ∀ x4 : Int32, x4 = (5 * (mI h3 11 24)) → (vp_in x4 100) ∧ ((vp_in (x4 + 1) 100) ∧ ((vp_in (x4 + 2) 100) ∧ ((vp_in (x4 + 3) 100) ∧ ((vp_in (x4 + 4) 100) ∧ (MCv g yX11_keep uX11_keep [.ref 50, .ref 53, .int (mI h3 11 25), .ref 48, .int (mI h3 52 x4.toNatClampNeg), .int (mI h3 52 (x4 + 1).toNatClampNeg), .int (mI h3 52 (x4 + 2).toNatClampNeg), .int (mI h3 52 (x4 + 3).toNatClampNeg), .int (mI h3 52 (x4 + 4).toNatClampNeg)] h3 (fun h10 => (¬ (mI h10 11 25) = 20 → MCv g yX11_copy uX11_copy [.ref 49, .int (49 * (mI (wI h10 11 25 ((mI h10 11 25) + 1)) 11 24)), .ref 45, .int 0, .int 49] (wI h10 11 25 ((mI h10 11 25) + 1)) (fun h12 => MCv g yX11_noCoins uX11_noCoins [.ref 11] h12 (fun h13 => P 1 h13))) ∧ ((mI h10 11 25) = 20 → MCv g yX11_copy uX11_copy [.ref 49, .int (49 * (mI (wI h10 11 25 20) 11 24)), .ref 45, .int 0, .int 49] (wI h10 11 25 20) (fun h14 => MCv g yX11_noCoins uX11_noCoins [.ref 11] h14 (fun h15 => P 1 h15))))))))))) ∧ ((mI h1 11 24) = 0 → MCi g yX11_isNot uX11_isNot [.ref 11, .int 6] h1 (fun r17 h16 => (r17 = 0 ∨ r17 = 1) ∧ P r17 h16)))) : MCi g yX11_undo uX11_undo [.ref 11] h P := by
  refine m_enter (by decide) rfl (Nat.le_of_ble_eq_true rfl) (lv := [.ref 11, .retAddr 0]) rfl ?_
  refine m_aload_n dX11_undo_0 rfl ?_
  refine cl_X11_174 rfl (by decide) dX11_undo_1 (Nat.le_of_ble_eq_true rfl) (MCv_go q (fun h1 q => ?_))
  refine m_aload_n dX11_undo_4 rfl ?_
  refine gf_X11_189 rfl dX11_undo_5 ?_
  refine m_if_ne 18 dX11_undo_8 (by decide) (fun c2 => ?_) (fun c2 => ?_)
  · replace q := q.1 c2
    refine m_aload_n dX11_undo_18 rfl ?_
    refine m_dup dX11_undo_19 rfl ?_
    refine gf_X11_189 rfl dX11_undo_20 ?_
    refine m_iconst (v := 1) dX11_undo_23 (by decide) ?_
    refine m_isub dX11_undo_24 ?_
    refine pf_X11_189 rfl dX11_undo_25 ?_
    refine m_aload_n dX11_undo_28 rfl ?_
    refine gf_X11_20 rfl dX11_undo_29 ?_
    refine m_iconst (v := 0) dX11_undo_32 (by decide) ?_
    refine m_aload_n dX11_undo_33 rfl ?_
    refine gf_X11_29 rfl dX11_undo_34 ?_
    refine m_iconst (v := 0) dX11_undo_37 (by decide) ?_
    refine m_bipush (v := 49) dX11_undo_38 (by decide) ?_
    refine cl_X11_399 rfl (by decide) dX11_undo_40 (Nat.le_of_ble_eq_true rfl) (MCv_go q (fun h3 q => ?_))
    refine m_iconst (v := 5) dX11_undo_43 (by decide) ?_
    refine m_aload_n dX11_undo_44 rfl ?_
    refine gf_X11_189 rfl dX11_undo_45 ?_
    refine m_imul dX11_undo_48 ?_
    obtain ⟨x4, ex4⟩ : ∃ z, z = (5 * (mI h3 11 24)) := ⟨_, rfl⟩
    rw [← ex4]
    replace q := q x4 ex4
    refine m_istore_n (lv' := [.ref 11, .int x4]) dX11_undo_49 (Nat.le_of_ble_eq_true rfl) rfl rfl ?_
    refine m_aload_n dX11_undo_50 rfl ?_
    refine gf_X11_35 rfl dX11_undo_51 ?_
    refine m_aload_n dX11_undo_54 rfl ?_
    refine gf_X11_44 rfl dX11_undo_55 ?_
    refine m_aload_n dX11_undo_58 rfl ?_
    refine gf_X11_192 rfl dX11_undo_59 ?_
    refine m_aload_n dX11_undo_62 rfl ?_
    refine gf_X11_29 rfl dX11_undo_63 ?_
    refine m_aload_n dX11_undo_66 rfl ?_
    refine gf_X11_41 rfl dX11_undo_67 ?_
    refine m_iload_n dX11_undo_70 rfl ?_
    obtain ⟨b5, q⟩ := q
    refine m_iaload dX11_undo_71 rfl (by decide) b5 ?_
    refine m_aload_n dX11_undo_72 rfl ?_
    refine gf_X11_41 rfl dX11_undo_73 ?_
    refine m_iload_n dX11_undo_76 rfl ?_
    refine m_iconst (v := 1) dX11_undo_77 (by decide) ?_
    refine m_iadd dX11_undo_78 ?_
    obtain ⟨b6, q⟩ := q
    refine m_iaload dX11_undo_79 rfl (by decide) b6 ?_
    refine m_aload_n dX11_undo_80 rfl ?_
    refine gf_X11_41 rfl dX11_undo_81 ?_
    refine m_iload_n dX11_undo_84 rfl ?_
    refine m_iconst (v := 2) dX11_undo_85 (by decide) ?_
    refine m_iadd dX11_undo_86 ?_
    obtain ⟨b7, q⟩ := q
    refine m_iaload dX11_undo_87 rfl (by decide) b7 ?_
    refine m_aload_n dX11_undo_88 rfl ?_
    refine gf_X11_41 rfl dX11_undo_89 ?_
    refine m_iload_n dX11_undo_92 rfl ?_
    refine m_iconst (v := 3) dX11_undo_93 (by decide) ?_
    refine m_iadd dX11_undo_94 ?_
    obtain ⟨b8, q⟩ := q
    refine m_iaload dX11_undo_95 rfl (by decide) b8 ?_
    refine m_aload_n dX11_undo_96 rfl ?_
    refine gf_X11_41 rfl dX11_undo_97 ?_
    refine m_iload_n dX11_undo_100 rfl ?_
    refine m_iconst (v := 4) dX11_undo_101 (by decide) ?_
    refine m_iadd dX11_undo_102 ?_
    obtain ⟨b9, q⟩ := q
    refine m_iaload dX11_undo_103 rfl (by decide) b9 ?_
    refine cl_X11_395 rfl (by decide) dX11_undo_104 (Nat.le_of_ble_eq_true rfl) (MCv_go q (fun h10 q => ?_))
    refine m_aload_n dX11_undo_107 rfl ?_
    refine m_aload_n dX11_undo_108 rfl ?_
    refine gf_X11_192 rfl dX11_undo_109 ?_
    refine m_bipush (v := 20) dX11_undo_112 (by decide) ?_
    refine m_icmp_ne 122 dX11_undo_114 (by decide) (fun c11 => ?_) (fun c11 => ?_)
    · replace q := q.1 c11
      refine m_aload_n dX11_undo_122 rfl ?_
      refine gf_X11_192 rfl dX11_undo_123 ?_
      refine m_iconst (v := 1) dX11_undo_126 (by decide) ?_
      refine m_iadd dX11_undo_127 ?_
      refine pf_X11_192 rfl dX11_undo_128 ?_
      refine m_aload_n dX11_undo_131 rfl ?_
      refine gf_X11_32 rfl dX11_undo_132 ?_
      refine m_bipush (v := 49) dX11_undo_135 (by decide) ?_
      refine m_aload_n dX11_undo_137 rfl ?_
      refine gf_X11_189 rfl dX11_undo_138 ?_
      refine m_imul dX11_undo_141 ?_
      refine m_aload_n dX11_undo_142 rfl ?_
      refine gf_X11_20 rfl dX11_undo_143 ?_
      refine m_iconst (v := 0) dX11_undo_146 (by decide) ?_
      refine m_bipush (v := 49) dX11_undo_147 (by decide) ?_
      refine cl_X11_399 rfl (by decide) dX11_undo_149 (Nat.le_of_ble_eq_true rfl) (MCv_go q (fun h12 q => ?_))
      refine m_aload_n dX11_undo_152 rfl ?_
      refine cl_X11_186 rfl (by decide) dX11_undo_153 (Nat.le_of_ble_eq_true rfl) (MCv_go q (fun h13 q => ?_))
      refine m_iconst (v := 1) dX11_undo_156 (by decide) ?_
      exact m_zret dX11_undo_157 rfl (by decide) q
    · replace q := q.2 c11
      refine m_bipush (v := 20) dX11_undo_117 (by decide) ?_
      refine m_goto 128 dX11_undo_119 (by decide) ?_
      refine pf_X11_192 rfl dX11_undo_128 ?_
      refine m_aload_n dX11_undo_131 rfl ?_
      refine gf_X11_32 rfl dX11_undo_132 ?_
      refine m_bipush (v := 49) dX11_undo_135 (by decide) ?_
      refine m_aload_n dX11_undo_137 rfl ?_
      refine gf_X11_189 rfl dX11_undo_138 ?_
      refine m_imul dX11_undo_141 ?_
      refine m_aload_n dX11_undo_142 rfl ?_
      refine gf_X11_20 rfl dX11_undo_143 ?_
      refine m_iconst (v := 0) dX11_undo_146 (by decide) ?_
      refine m_bipush (v := 49) dX11_undo_147 (by decide) ?_
      refine cl_X11_399 rfl (by decide) dX11_undo_149 (Nat.le_of_ble_eq_true rfl) (MCv_go q (fun h14 q => ?_))
      refine m_aload_n dX11_undo_152 rfl ?_
      refine cl_X11_186 rfl (by decide) dX11_undo_153 (Nat.le_of_ble_eq_true rfl) (MCv_go q (fun h15 q => ?_))
      refine m_iconst (v := 1) dX11_undo_156 (by decide) ?_
      exact m_zret dX11_undo_157 rfl (by decide) q
  · replace q := q.2 c2
    refine m_aload_n dX11_undo_11 rfl ?_
    refine m_bipush (v := 6) dX11_undo_12 (by decide) ?_
    refine cl_X11_336 rfl (by decide) dX11_undo_14 (Nat.le_of_ble_eq_true rfl) (MCi_go q (fun r17 h16 q => ?_))
    exact m_zret dX11_undo_17 rfl q.1 q.2
set_option maxRecDepth 100000 in
theorem e_X11_redo {g : gT} {h : mh_T} {P : Int32 → mh_T → Prop}  (q : MCv g yX11_good uX11_good [.ref 11] h (fun h1 => (¬ (mI h1 11 25) = 0 → MCv g yX11_copy uX11_copy [.ref 45, .int 0, .ref 48, .int 0, .int 49] (wI h1 11 25 ((mI h1 11 25) - 1)) (fun h3 => ∀ x4 : Int32, x4 = (5 * (mI h3 11 25)) → (vp_in x4 100) ∧ ((vp_in (x4 + 1) 100) ∧ ((vp_in (x4 + 2) 100) ∧ ((vp_in (x4 + 3) 100) ∧ ((vp_in (x4 + 4) 100) ∧ (MCv g yX11_keep uX11_keep [.ref 49, .ref 52, .int (mI h3 11 24), .ref 48, .int (mI h3 53 x4.toNatClampNeg), .int (mI h3 53 (x4 + 1).toNatClampNeg), .int (mI h3 53 (x4 + 2).toNatClampNeg), .int (mI h3 53 (x4 + 3).toNatClampNeg), .int (mI h3 53 (x4 + 4).toNatClampNeg)] h3 (fun h10 => (¬ (mI h10 11 24) = 20 → MCv g yX11_copy uX11_copy [.ref 50, .int (49 * (mI (wI h10 11 24 ((mI h10 11 24) + 1)) 11 25)), .ref 45, .int 0, .int 49] (wI h10 11 24 ((mI h10 11 24) + 1)) (fun h12 => MCv g yX11_noCoins uX11_noCoins [.ref 11] h12 (fun h13 => P 1 h13))) ∧ ((mI h10 11 24) = 20 → MCv g yX11_copy uX11_copy [.ref 50, .int (49 * (mI (wI h10 11 24 20) 11 25)), .ref 45, .int 0, .int 49] (wI h10 11 24 20) (fun h14 => MCv g yX11_noCoins uX11_noCoins [.ref 11] h14 (fun h15 => P 1 h15))))))))))) ∧ ((mI h1 11 25) = 0 → MCi g yX11_isNot uX11_isNot [.ref 11, .int 6] h1 (fun r17 h16 => (r17 = 0 ∨ r17 = 1) ∧ P r17 h16)))) : MCi g yX11_redo uX11_redo [.ref 11] h P := by
  refine m_enter (by decide) rfl (Nat.le_of_ble_eq_true rfl) (lv := [.ref 11, .retAddr 0]) rfl ?_
  refine m_aload_n dX11_redo_0 rfl ?_
  refine cl_X11_174 rfl (by decide) dX11_redo_1 (Nat.le_of_ble_eq_true rfl) (MCv_go q (fun h1 q => ?_))
  refine m_aload_n dX11_redo_4 rfl ?_
  refine gf_X11_192 rfl dX11_redo_5 ?_
  refine m_if_ne 18 dX11_redo_8 (by decide) (fun c2 => ?_) (fun c2 => ?_)
  · replace q := q.1 c2
    refine m_aload_n dX11_redo_18 rfl ?_
    refine m_dup dX11_redo_19 rfl ?_
    refine gf_X11_192 rfl dX11_redo_20 ?_
    refine m_iconst (v := 1) dX11_redo_23 (by decide) ?_
    refine m_isub dX11_redo_24 ?_
    refine pf_X11_192 rfl dX11_redo_25 ?_
    refine m_aload_n dX11_redo_28 rfl ?_
    refine gf_X11_20 rfl dX11_redo_29 ?_
    refine m_iconst (v := 0) dX11_redo_32 (by decide) ?_
    refine m_aload_n dX11_redo_33 rfl ?_
    refine gf_X11_29 rfl dX11_redo_34 ?_
    refine m_iconst (v := 0) dX11_redo_37 (by decide) ?_
    refine m_bipush (v := 49) dX11_redo_38 (by decide) ?_
    refine cl_X11_399 rfl (by decide) dX11_redo_40 (Nat.le_of_ble_eq_true rfl) (MCv_go q (fun h3 q => ?_))
    refine m_iconst (v := 5) dX11_redo_43 (by decide) ?_
    refine m_aload_n dX11_redo_44 rfl ?_
    refine gf_X11_192 rfl dX11_redo_45 ?_
    refine m_imul dX11_redo_48 ?_
    obtain ⟨x4, ex4⟩ : ∃ z, z = (5 * (mI h3 11 25)) := ⟨_, rfl⟩
    rw [← ex4]
    replace q := q x4 ex4
    refine m_istore_n (lv' := [.ref 11, .int x4]) dX11_redo_49 (Nat.le_of_ble_eq_true rfl) rfl rfl ?_
    refine m_aload_n dX11_redo_50 rfl ?_
    refine gf_X11_32 rfl dX11_redo_51 ?_
    refine m_aload_n dX11_redo_54 rfl ?_
    refine gf_X11_41 rfl dX11_redo_55 ?_
    refine m_aload_n dX11_redo_58 rfl ?_
    refine gf_X11_189 rfl dX11_redo_59 ?_
    refine m_aload_n dX11_redo_62 rfl ?_
    refine gf_X11_29 rfl dX11_redo_63 ?_
    refine m_aload_n dX11_redo_66 rfl ?_
    refine gf_X11_44 rfl dX11_redo_67 ?_
    refine m_iload_n dX11_redo_70 rfl ?_
    obtain ⟨b5, q⟩ := q
    refine m_iaload dX11_redo_71 rfl (by decide) b5 ?_
    refine m_aload_n dX11_redo_72 rfl ?_
    refine gf_X11_44 rfl dX11_redo_73 ?_
    refine m_iload_n dX11_redo_76 rfl ?_
    refine m_iconst (v := 1) dX11_redo_77 (by decide) ?_
    refine m_iadd dX11_redo_78 ?_
    obtain ⟨b6, q⟩ := q
    refine m_iaload dX11_redo_79 rfl (by decide) b6 ?_
    refine m_aload_n dX11_redo_80 rfl ?_
    refine gf_X11_44 rfl dX11_redo_81 ?_
    refine m_iload_n dX11_redo_84 rfl ?_
    refine m_iconst (v := 2) dX11_redo_85 (by decide) ?_
    refine m_iadd dX11_redo_86 ?_
    obtain ⟨b7, q⟩ := q
    refine m_iaload dX11_redo_87 rfl (by decide) b7 ?_
    refine m_aload_n dX11_redo_88 rfl ?_
    refine gf_X11_44 rfl dX11_redo_89 ?_
    refine m_iload_n dX11_redo_92 rfl ?_
    refine m_iconst (v := 3) dX11_redo_93 (by decide) ?_
    refine m_iadd dX11_redo_94 ?_
    obtain ⟨b8, q⟩ := q
    refine m_iaload dX11_redo_95 rfl (by decide) b8 ?_
    refine m_aload_n dX11_redo_96 rfl ?_
    refine gf_X11_44 rfl dX11_redo_97 ?_
    refine m_iload_n dX11_redo_100 rfl ?_
    refine m_iconst (v := 4) dX11_redo_101 (by decide) ?_
    refine m_iadd dX11_redo_102 ?_
    obtain ⟨b9, q⟩ := q
    refine m_iaload dX11_redo_103 rfl (by decide) b9 ?_
    refine cl_X11_395 rfl (by decide) dX11_redo_104 (Nat.le_of_ble_eq_true rfl) (MCv_go q (fun h10 q => ?_))
    refine m_aload_n dX11_redo_107 rfl ?_
    refine m_aload_n dX11_redo_108 rfl ?_
    refine gf_X11_189 rfl dX11_redo_109 ?_
    refine m_bipush (v := 20) dX11_redo_112 (by decide) ?_
    refine m_icmp_ne 122 dX11_redo_114 (by decide) (fun c11 => ?_) (fun c11 => ?_)
    · replace q := q.1 c11
      refine m_aload_n dX11_redo_122 rfl ?_
      refine gf_X11_189 rfl dX11_redo_123 ?_
      refine m_iconst (v := 1) dX11_redo_126 (by decide) ?_
      refine m_iadd dX11_redo_127 ?_
      refine pf_X11_189 rfl dX11_redo_128 ?_
      refine m_aload_n dX11_redo_131 rfl ?_
      refine gf_X11_35 rfl dX11_redo_132 ?_
      refine m_bipush (v := 49) dX11_redo_135 (by decide) ?_
      refine m_aload_n dX11_redo_137 rfl ?_
      refine gf_X11_192 rfl dX11_redo_138 ?_
      refine m_imul dX11_redo_141 ?_
      refine m_aload_n dX11_redo_142 rfl ?_
      refine gf_X11_20 rfl dX11_redo_143 ?_
      refine m_iconst (v := 0) dX11_redo_146 (by decide) ?_
      refine m_bipush (v := 49) dX11_redo_147 (by decide) ?_
      refine cl_X11_399 rfl (by decide) dX11_redo_149 (Nat.le_of_ble_eq_true rfl) (MCv_go q (fun h12 q => ?_))
      refine m_aload_n dX11_redo_152 rfl ?_
      refine cl_X11_186 rfl (by decide) dX11_redo_153 (Nat.le_of_ble_eq_true rfl) (MCv_go q (fun h13 q => ?_))
      refine m_iconst (v := 1) dX11_redo_156 (by decide) ?_
      exact m_zret dX11_redo_157 rfl (by decide) q
    · replace q := q.2 c11
      refine m_bipush (v := 20) dX11_redo_117 (by decide) ?_
      refine m_goto 128 dX11_redo_119 (by decide) ?_
      refine pf_X11_189 rfl dX11_redo_128 ?_
      refine m_aload_n dX11_redo_131 rfl ?_
      refine gf_X11_35 rfl dX11_redo_132 ?_
      refine m_bipush (v := 49) dX11_redo_135 (by decide) ?_
      refine m_aload_n dX11_redo_137 rfl ?_
      refine gf_X11_192 rfl dX11_redo_138 ?_
      refine m_imul dX11_redo_141 ?_
      refine m_aload_n dX11_redo_142 rfl ?_
      refine gf_X11_20 rfl dX11_redo_143 ?_
      refine m_iconst (v := 0) dX11_redo_146 (by decide) ?_
      refine m_bipush (v := 49) dX11_redo_147 (by decide) ?_
      refine cl_X11_399 rfl (by decide) dX11_redo_149 (Nat.le_of_ble_eq_true rfl) (MCv_go q (fun h14 q => ?_))
      refine m_aload_n dX11_redo_152 rfl ?_
      refine cl_X11_186 rfl (by decide) dX11_redo_153 (Nat.le_of_ble_eq_true rfl) (MCv_go q (fun h15 q => ?_))
      refine m_iconst (v := 1) dX11_redo_156 (by decide) ?_
      exact m_zret dX11_redo_157 rfl (by decide) q
  · replace q := q.2 c2
    refine m_aload_n dX11_redo_11 rfl ?_
    refine m_bipush (v := 6) dX11_redo_12 (by decide) ?_
    refine cl_X11_336 rfl (by decide) dX11_redo_14 (Nat.le_of_ble_eq_true rfl) (MCi_go q (fun r17 h16 q => ?_))
    exact m_zret dX11_redo_17 rfl q.1 q.2
set_option maxRecDepth 100000 in
theorem e_X11_mark {g : gT} {h : mh_T} {P : Int32 → mh_T → Prop}  (q : MCv g yX11_good uX11_good [.ref 11] h (fun h1 => (¬ (mI h1 11 14) = 0 → (¬ (mI h1 11 26) = 4 → MCv g yX11_copy uX11_copy [.ref 45, .int 0, .ref 51, .int (49 * (mI h1 11 26)), .int 49] h1 (fun h4 => P ((mI (wI h4 11 26 ((mI h4 11 26) + 1)) 11 26) - 1) (wI h4 11 26 ((mI h4 11 26) + 1)))) ∧ ((mI h1 11 26) = 4 → MCi g yX11_no uX11_no [.ref 11, .int 3] h1 (fun r6 h5 => P r6 h5))) ∧ ((mI h1 11 14) = 0 → MCi g yX11_no uX11_no [.ref 11, .int 1] h1 (fun r8 h7 => P r8 h7)))) : MCi g yX11_mark uX11_mark [.ref 11] h P := by
  refine m_enter (by decide) rfl (Nat.le_of_ble_eq_true rfl) (lv := [.ref 11]) rfl ?_
  refine m_aload_n dX11_mark_0 rfl ?_
  refine cl_X11_174 rfl (by decide) dX11_mark_1 (Nat.le_of_ble_eq_true rfl) (MCv_go q (fun h1 q => ?_))
  refine m_aload_n dX11_mark_4 rfl ?_
  refine gf_X11_183 rfl dX11_mark_5 ?_
  refine m_if_ne 17 dX11_mark_8 (by decide) (fun c2 => ?_) (fun c2 => ?_)
  · replace q := q.1 c2
    refine m_aload_n dX11_mark_17 rfl ?_
    refine gf_X11_195 rfl dX11_mark_18 ?_
    refine m_iconst (v := 4) dX11_mark_21 (by decide) ?_
    refine m_icmp_ne 31 dX11_mark_22 (by decide) (fun c3 => ?_) (fun c3 => ?_)
    · replace q := q.1 c3
      refine m_aload_n dX11_mark_31 rfl ?_
      refine gf_X11_20 rfl dX11_mark_32 ?_
      refine m_iconst (v := 0) dX11_mark_35 (by decide) ?_
      refine m_aload_n dX11_mark_36 rfl ?_
      refine gf_X11_38 rfl dX11_mark_37 ?_
      refine m_bipush (v := 49) dX11_mark_40 (by decide) ?_
      refine m_aload_n dX11_mark_42 rfl ?_
      refine gf_X11_195 rfl dX11_mark_43 ?_
      refine m_imul dX11_mark_46 ?_
      refine m_bipush (v := 49) dX11_mark_47 (by decide) ?_
      refine cl_X11_399 rfl (by decide) dX11_mark_49 (Nat.le_of_ble_eq_true rfl) (MCv_go q (fun h4 q => ?_))
      refine m_aload_n dX11_mark_52 rfl ?_
      refine m_dup dX11_mark_53 rfl ?_
      refine gf_X11_195 rfl dX11_mark_54 ?_
      refine m_iconst (v := 1) dX11_mark_57 (by decide) ?_
      refine m_iadd dX11_mark_58 ?_
      refine pf_X11_195 rfl dX11_mark_59 ?_
      refine m_aload_n dX11_mark_62 rfl ?_
      refine gf_X11_195 rfl dX11_mark_63 ?_
      refine m_iconst (v := 1) dX11_mark_66 (by decide) ?_
      refine m_isub dX11_mark_67 ?_
      exact m_iret dX11_mark_68 rfl q
    · replace q := q.2 c3
      refine m_aload_n dX11_mark_25 rfl ?_
      refine m_iconst (v := 3) dX11_mark_26 (by decide) ?_
      refine cl_X11_177 rfl (by decide) dX11_mark_27 (Nat.le_of_ble_eq_true rfl) (MCi_go q (fun r6 h5 q => ?_))
      exact m_iret dX11_mark_30 rfl q
  · replace q := q.2 c2
    refine m_aload_n dX11_mark_11 rfl ?_
    refine m_iconst (v := 1) dX11_mark_12 (by decide) ?_
    refine cl_X11_177 rfl (by decide) dX11_mark_13 (Nat.le_of_ble_eq_true rfl) (MCi_go q (fun r8 h7 q => ?_))
    exact m_iret dX11_mark_16 rfl q
set_option maxRecDepth 100000 in
theorem e_X11_back {g : gT} {h : mh_T} {P : Int32 → mh_T → Prop} (l1 : Int32) (q : MCv g yX11_good uX11_good [.ref 11] h (fun h1 => MCi g yX11_within uX11_within [.int l1, .int 0, .int ((mI h1 11 26) - 1)] h1 (fun r3 h2 => (¬ r3 = 0 → MCv g yX11_copy uX11_copy [.ref 51, .int (49 * l1), .ref 45, .int 0, .int 49] h2 (fun h5 => MCv g yX11_noCoins uX11_noCoins [.ref 11] (wI (wI h5 11 24 0) 11 25 0) (fun h6 => P 1 h6))) ∧ (r3 = 0 → MCi g yX11_isNot uX11_isNot [.ref 11, .int 1] h2 (fun r8 h7 => (r8 = 0 ∨ r8 = 1) ∧ P r8 h7))))) : MCi g yX11_back uX11_back [.ref 11, .int l1] h P := by
  refine m_enter (by decide) rfl (Nat.le_of_ble_eq_true rfl) (lv := [.ref 11, .int l1]) rfl ?_
  refine m_aload_n dX11_back_0 rfl ?_
  refine cl_X11_174 rfl (by decide) dX11_back_1 (Nat.le_of_ble_eq_true rfl) (MCv_go q (fun h1 q => ?_))
  refine m_iload_n dX11_back_4 rfl ?_
  refine m_iconst (v := 0) dX11_back_5 (by decide) ?_
  refine m_aload_n dX11_back_6 rfl ?_
  refine gf_X11_195 rfl dX11_back_7 ?_
  refine m_iconst (v := 1) dX11_back_10 (by decide) ?_
  refine m_isub dX11_back_11 ?_
  refine cl_X11_170 rfl (by decide) dX11_back_12 (Nat.le_of_ble_eq_true rfl) (MCi_go q (fun r3 h2 q => ?_))
  refine m_if_ne 24 dX11_back_15 (by decide) (fun c4 => ?_) (fun c4 => ?_)
  · replace q := q.1 c4
    refine m_aload_n dX11_back_24 rfl ?_
    refine gf_X11_38 rfl dX11_back_25 ?_
    refine m_bipush (v := 49) dX11_back_28 (by decide) ?_
    refine m_iload_n dX11_back_30 rfl ?_
    refine m_imul dX11_back_31 ?_
    refine m_aload_n dX11_back_32 rfl ?_
    refine gf_X11_20 rfl dX11_back_33 ?_
    refine m_iconst (v := 0) dX11_back_36 (by decide) ?_
    refine m_bipush (v := 49) dX11_back_37 (by decide) ?_
    refine cl_X11_399 rfl (by decide) dX11_back_39 (Nat.le_of_ble_eq_true rfl) (MCv_go q (fun h5 q => ?_))
    refine m_aload_n dX11_back_42 rfl ?_
    refine m_iconst (v := 0) dX11_back_43 (by decide) ?_
    refine pf_X11_189 rfl dX11_back_44 ?_
    refine m_aload_n dX11_back_47 rfl ?_
    refine m_iconst (v := 0) dX11_back_48 (by decide) ?_
    refine pf_X11_192 rfl dX11_back_49 ?_
    refine m_aload_n dX11_back_52 rfl ?_
    refine cl_X11_186 rfl (by decide) dX11_back_53 (Nat.le_of_ble_eq_true rfl) (MCv_go q (fun h6 q => ?_))
    refine m_iconst (v := 1) dX11_back_56 (by decide) ?_
    exact m_zret dX11_back_57 rfl (by decide) q
  · replace q := q.2 c4
    refine m_aload_n dX11_back_18 rfl ?_
    refine m_iconst (v := 1) dX11_back_19 (by decide) ?_
    refine cl_X11_336 rfl (by decide) dX11_back_20 (Nat.le_of_ble_eq_true rfl) (MCi_go q (fun r8 h7 q => ?_))
    exact m_zret dX11_back_23 rfl q.1 q.2
set_option maxRecDepth 100000 in
theorem e_X11_act {g : gT} {h : mh_T} {P : Int32 → mh_T → Prop} (l1 : Int32) (l2 : Int32) (q : MCv g yX11_good uX11_good [.ref 11] h (fun h1 => ((mI h1 11 14) = 0 → MCi g yX11_no uX11_no [.ref 11, .int 1] h1 (fun r4 h3 => P r4 h3)) ∧ (¬ (mI h1 11 14) = 0 → MCi g yX11_within uX11_within [.int l1, .int 0, .int ((mI h1 11 24) - 1)] h1 (fun r6 h5 => (r6 = 0 → MCi g yX11_no uX11_no [.ref 11, .int 1] h5 (fun r9 h8 => P r9 h8)) ∧ (¬ r6 = 0 → MCi g yX11_within uX11_within [.int l2, .int 0, .int 4] h5 (fun r11 h10 => (r11 = 0 → MCi g yX11_no uX11_no [.ref 11, .int 1] h10 (fun r14 h13 => P r14 h13)) ∧ (¬ r11 = 0 → (vp_in ((5 * l1) + l2) 100) ∧ (P (mI h10 52 ((5 * l1) + l2).toNatClampNeg) h10)))))))) : MCi g yX11_act uX11_act [.ref 11, .int l1, .int l2] h P := by
  refine m_enter (by decide) rfl (Nat.le_of_ble_eq_true rfl) (lv := [.ref 11, .int l1, .int l2]) rfl ?_
  refine m_aload_n dX11_act_0 rfl ?_
  refine cl_X11_174 rfl (by decide) dX11_act_1 (Nat.le_of_ble_eq_true rfl) (MCv_go q (fun h1 q => ?_))
  refine m_aload_n dX11_act_4 rfl ?_
  refine gf_X11_183 rfl dX11_act_5 ?_
  refine m_if_eq 47 dX11_act_8 (by decide) (fun c2 => ?_) (fun c2 => ?_)
  · replace q := q.1 c2
    refine m_aload_n dX11_act_47 rfl ?_
    refine m_iconst (v := 1) dX11_act_48 (by decide) ?_
    refine cl_X11_177 rfl (by decide) dX11_act_49 (Nat.le_of_ble_eq_true rfl) (MCi_go q (fun r4 h3 q => ?_))
    exact m_iret dX11_act_52 rfl q
  · replace q := q.2 c2
    refine m_iload_n dX11_act_11 rfl ?_
    refine m_iconst (v := 0) dX11_act_12 (by decide) ?_
    refine m_aload_n dX11_act_13 rfl ?_
    refine gf_X11_189 rfl dX11_act_14 ?_
    refine m_iconst (v := 1) dX11_act_17 (by decide) ?_
    refine m_isub dX11_act_18 ?_
    refine cl_X11_170 rfl (by decide) dX11_act_19 (Nat.le_of_ble_eq_true rfl) (MCi_go q (fun r6 h5 q => ?_))
    refine m_if_eq 47 dX11_act_22 (by decide) (fun c7 => ?_) (fun c7 => ?_)
    · replace q := q.1 c7
      refine m_aload_n dX11_act_47 rfl ?_
      refine m_iconst (v := 1) dX11_act_48 (by decide) ?_
      refine cl_X11_177 rfl (by decide) dX11_act_49 (Nat.le_of_ble_eq_true rfl) (MCi_go q (fun r9 h8 q => ?_))
      exact m_iret dX11_act_52 rfl q
    · replace q := q.2 c7
      refine m_iload_n dX11_act_25 rfl ?_
      refine m_iconst (v := 0) dX11_act_26 (by decide) ?_
      refine m_iconst (v := 4) dX11_act_27 (by decide) ?_
      refine cl_X11_170 rfl (by decide) dX11_act_28 (Nat.le_of_ble_eq_true rfl) (MCi_go q (fun r11 h10 q => ?_))
      refine m_if_eq 47 dX11_act_31 (by decide) (fun c12 => ?_) (fun c12 => ?_)
      · replace q := q.1 c12
        refine m_aload_n dX11_act_47 rfl ?_
        refine m_iconst (v := 1) dX11_act_48 (by decide) ?_
        refine cl_X11_177 rfl (by decide) dX11_act_49 (Nat.le_of_ble_eq_true rfl) (MCi_go q (fun r14 h13 q => ?_))
        exact m_iret dX11_act_52 rfl q
      · replace q := q.2 c12
        refine m_aload_n dX11_act_34 rfl ?_
        refine gf_X11_41 rfl dX11_act_35 ?_
        refine m_iconst (v := 5) dX11_act_38 (by decide) ?_
        refine m_iload_n dX11_act_39 rfl ?_
        refine m_imul dX11_act_40 ?_
        refine m_iload_n dX11_act_41 rfl ?_
        refine m_iadd dX11_act_42 ?_
        obtain ⟨b15, q⟩ := q
        refine m_iaload dX11_act_43 rfl (by decide) b15 ?_
        refine m_goto 52 dX11_act_44 (by decide) ?_
        exact m_iret dX11_act_52 rfl q
set_option maxRecDepth 100000 in
theorem e_X11_times {g : gT} {h : mh_T} {P : Int32 → mh_T → Prop} (l1 : Int32) (l2 : Int32) (q : MCv g yX11_good uX11_good [.ref 11] h (fun h1 => MCi g yX11_isOutcome uX11_isOutcome [.ref 11, .int l1, .int l2] h1 (fun r3 h2 => (r3 = 0 → MCi g yX11_no uX11_no [.ref 11, .int 1] h2 (fun r6 h5 => P r6 h5)) ∧ (¬ r3 = 0 → (vp_in ((17 + (4 * l1)) + l2) 346) ∧ (P (mI h2 45 ((17 + (4 * l1)) + l2).toNatClampNeg) h2))))) : MCi g yX11_times uX11_times [.ref 11, .int l1, .int l2] h P := by
  refine m_enter (by decide) rfl (Nat.le_of_ble_eq_true rfl) (lv := [.ref 11, .int l1, .int l2]) rfl ?_
  refine m_aload_n dX11_times_0 rfl ?_
  refine cl_X11_174 rfl (by decide) dX11_times_1 (Nat.le_of_ble_eq_true rfl) (MCv_go q (fun h1 q => ?_))
  refine m_aload_n dX11_times_4 rfl ?_
  refine m_iload_n dX11_times_5 rfl ?_
  refine m_iload_n dX11_times_6 rfl ?_
  refine cl_X11_305 rfl (by decide) dX11_times_7 (Nat.le_of_ble_eq_true rfl) (MCi_go q (fun r3 h2 q => ?_))
  refine m_if_eq 29 dX11_times_10 (by decide) (fun c4 => ?_) (fun c4 => ?_)
  · replace q := q.1 c4
    refine m_aload_n dX11_times_29 rfl ?_
    refine m_iconst (v := 1) dX11_times_30 (by decide) ?_
    refine cl_X11_177 rfl (by decide) dX11_times_31 (Nat.le_of_ble_eq_true rfl) (MCi_go q (fun r6 h5 q => ?_))
    exact m_iret dX11_times_34 rfl q
  · replace q := q.2 c4
    refine m_aload_n dX11_times_13 rfl ?_
    refine gf_X11_20 rfl dX11_times_14 ?_
    refine m_bipush (v := 17) dX11_times_17 (by decide) ?_
    refine m_iconst (v := 4) dX11_times_19 (by decide) ?_
    refine m_iload_n dX11_times_20 rfl ?_
    refine m_imul dX11_times_21 ?_
    refine m_iadd dX11_times_22 ?_
    refine m_iload_n dX11_times_23 rfl ?_
    refine m_iadd dX11_times_24 ?_
    obtain ⟨b7, q⟩ := q
    refine m_iaload dX11_times_25 rfl (by decide) b7 ?_
    refine m_goto 34 dX11_times_26 (by decide) ?_
    exact m_iret dX11_times_34 rfl q
set_option maxRecDepth 100000 in
theorem e_X11_look {g : gT} {h : mh_T} {P : Int32 → mh_T → Prop} (l1 : Int32) (l2 : Int32) (q : MCv g yX11_good uX11_good [.ref 11] h (fun h1 => MCi g yX11_isSet uX11_isSet [.ref 11, .int l1] h1 (fun r3 h2 => (r3 = 0 → MCi g yX11_no uX11_no [.ref 11, .int 1] h2 (fun r6 h5 => P r6 h5)) ∧ (¬ r3 = 0 → (l2 = 0 → (vp_in (1 + l1) 346) ∧ (P (mI h2 45 (1 + l1).toNatClampNeg) h2)) ∧ (¬ l2 = 0 → (vp_in (9 + l1) 346) ∧ (P (mI h2 45 (9 + l1).toNatClampNeg) h2)))))) : MCi g yX11_look uX11_look [.ref 11, .int l1, .int l2] h P := by
  refine m_enter (by decide) rfl (Nat.le_of_ble_eq_true rfl) (lv := [.ref 11, .int l1, .int l2]) rfl ?_
  refine m_aload_n dX11_look_0 rfl ?_
  refine cl_X11_174 rfl (by decide) dX11_look_1 (Nat.le_of_ble_eq_true rfl) (MCv_go q (fun h1 q => ?_))
  refine m_aload_n dX11_look_4 rfl ?_
  refine m_iload_n dX11_look_5 rfl ?_
  refine cl_X11_244 rfl (by decide) dX11_look_6 (Nat.le_of_ble_eq_true rfl) (MCi_go q (fun r3 h2 q => ?_))
  refine m_if_eq 32 dX11_look_9 (by decide) (fun c4 => ?_) (fun c4 => ?_)
  · replace q := q.1 c4
    refine m_aload_n dX11_look_32 rfl ?_
    refine m_iconst (v := 1) dX11_look_33 (by decide) ?_
    refine cl_X11_177 rfl (by decide) dX11_look_34 (Nat.le_of_ble_eq_true rfl) (MCi_go q (fun r6 h5 q => ?_))
    exact m_iret dX11_look_37 rfl q
  · replace q := q.2 c4
    refine m_aload_n dX11_look_12 rfl ?_
    refine gf_X11_20 rfl dX11_look_13 ?_
    refine m_iload_n dX11_look_16 rfl ?_
    refine m_if_eq 25 dX11_look_17 (by decide) (fun c7 => ?_) (fun c7 => ?_)
    · replace q := q.1 c7
      refine m_iconst (v := 1) dX11_look_25 (by decide) ?_
      refine m_iload_n dX11_look_26 rfl ?_
      refine m_iadd dX11_look_27 ?_
      obtain ⟨b8, q⟩ := q
      refine m_iaload dX11_look_28 rfl (by decide) b8 ?_
      refine m_goto 37 dX11_look_29 (by decide) ?_
      exact m_iret dX11_look_37 rfl q
    · replace q := q.2 c7
      refine m_bipush (v := 9) dX11_look_20 (by decide) ?_
      refine m_goto 26 dX11_look_22 (by decide) ?_
      refine m_iload_n dX11_look_26 rfl ?_
      refine m_iadd dX11_look_27 ?_
      obtain ⟨b9, q⟩ := q
      refine m_iaload dX11_look_28 rfl (by decide) b9 ?_
      refine m_goto 37 dX11_look_29 (by decide) ?_
      exact m_iret dX11_look_37 rfl q
set_option maxRecDepth 100000 in
theorem e_X11_coins {g : gT} {h : mh_T} {P : Int32 → mh_T → Prop} (l1 : Int32) (l2 : Int32) (q : MCv g yX11_good uX11_good [.ref 11] h (fun h1 => MCi g yX11_isOutcome uX11_isOutcome [.ref 11, .int l1, .int l2] h1 (fun r3 h2 => (r3 = 0 → MCi g yX11_no uX11_no [.ref 11, .int 1] h2 (fun r6 h5 => P r6 h5)) ∧ (¬ r3 = 0 → (vp_in ((4 * l1) + l2) 32) ∧ (P (mI h2 47 ((4 * l1) + l2).toNatClampNeg) h2))))) : MCi g yX11_coins uX11_coins [.ref 11, .int l1, .int l2] h P := by
  refine m_enter (by decide) rfl (Nat.le_of_ble_eq_true rfl) (lv := [.ref 11, .int l1, .int l2]) rfl ?_
  refine m_aload_n dX11_coins_0 rfl ?_
  refine cl_X11_174 rfl (by decide) dX11_coins_1 (Nat.le_of_ble_eq_true rfl) (MCv_go q (fun h1 q => ?_))
  refine m_aload_n dX11_coins_4 rfl ?_
  refine m_iload_n dX11_coins_5 rfl ?_
  refine m_iload_n dX11_coins_6 rfl ?_
  refine cl_X11_305 rfl (by decide) dX11_coins_7 (Nat.le_of_ble_eq_true rfl) (MCi_go q (fun r3 h2 q => ?_))
  refine m_if_eq 26 dX11_coins_10 (by decide) (fun c4 => ?_) (fun c4 => ?_)
  · replace q := q.1 c4
    refine m_aload_n dX11_coins_26 rfl ?_
    refine m_iconst (v := 1) dX11_coins_27 (by decide) ?_
    refine cl_X11_177 rfl (by decide) dX11_coins_28 (Nat.le_of_ble_eq_true rfl) (MCi_go q (fun r6 h5 q => ?_))
    exact m_iret dX11_coins_31 rfl q
  · replace q := q.2 c4
    refine m_aload_n dX11_coins_13 rfl ?_
    refine gf_X11_26 rfl dX11_coins_14 ?_
    refine m_iconst (v := 4) dX11_coins_17 (by decide) ?_
    refine m_iload_n dX11_coins_18 rfl ?_
    refine m_imul dX11_coins_19 ?_
    refine m_iload_n dX11_coins_20 rfl ?_
    refine m_iadd dX11_coins_21 ?_
    obtain ⟨b7, q⟩ := q
    refine m_iaload dX11_coins_22 rfl (by decide) b7 ?_
    refine m_goto 31 dX11_coins_23 (by decide) ?_
    exact m_iret dX11_coins_31 rfl q
set_option maxRecDepth 100000 in
theorem e_X11_led {g : gT} {h : mh_T} {P : Int32 → mh_T → Prop} (l1 : Int32) (q : ME g uX11_led 4 [.ref 11, .int l1, .int 0, .int 0, .retAddr 0] [] h (qI P)) : MCi g yX11_led uX11_led [.ref 11, .int l1] h P := by
  refine m_enter (by decide) rfl (Nat.le_of_ble_eq_true rfl) (lv := [.ref 11, .int l1, .retAddr 0, .retAddr 0, .retAddr 0]) rfl ?_
  refine m_iconst (v := 0) dX11_led_0 (by decide) ?_
  refine m_istore_n (lv' := [.ref 11, .int l1, .int 0, .retAddr 0, .retAddr 0]) dX11_led_1 (Nat.le_of_ble_eq_true rfl) rfl rfl ?_
  refine m_iconst (v := 0) dX11_led_2 (by decide) ?_
  refine m_istore_n (lv' := [.ref 11, .int l1, .int 0, .int 0, .retAddr 0]) dX11_led_3 (Nat.le_of_ble_eq_true rfl) rfl rfl ?_
  exact q
set_option maxRecDepth 100000 in
theorem r_X11_led_4 {g : gT} {h : mh_T} {P : Int32 → mh_T → Prop} (l1 : Int32) (l2 : Int32) (l3 : Int32) (q : ((mI h 11 14) = 0 → P 0 (wI h 11 0 1)) ∧ (¬ (mI h 11 14) = 0 → ((mI h 45 (Int32.toNatClampNeg 0)) ≤ l3 → P 0 (wI h 11 0 1)) ∧ (¬ (mI h 45 (Int32.toNatClampNeg 0)) ≤ l3 → ME g uX11_led 24 [.ref 11, .int l1, .int l2, .int l3, .int 0] [] h (qI P)))) : ME g uX11_led 4 [.ref 11, .int l1, .int l2, .int l3, .retAddr 0] [] h (qI P) := by
  refine m_aload_n dX11_led_4 rfl ?_
  refine gf_X11_183 rfl dX11_led_5 ?_
  refine m_if_eq 99 dX11_led_8 (by decide) (fun c1 => ?_) (fun c1 => ?_)
  · replace q := q.1 c1
    refine m_aload_n dX11_led_99 rfl ?_
    refine m_iconst (v := 1) dX11_led_100 (by decide) ?_
    refine pf_X11_69 rfl dX11_led_101 ?_
    refine m_iconst (v := 0) dX11_led_104 (by decide) ?_
    exact m_iret dX11_led_105 rfl q
  · replace q := q.2 c1
    refine m_iload_n dX11_led_11 rfl ?_
    refine m_aload_n dX11_led_12 rfl ?_
    refine gf_X11_20 rfl dX11_led_13 ?_
    refine m_iconst (v := 0) dX11_led_16 (by decide) ?_
    refine m_iaload dX11_led_17 rfl (by decide) (by unfold vp_in; decide) ?_
    refine m_icmp_ge 99 dX11_led_18 (by decide) (fun c2 => ?_) (fun c2 => ?_)
    · replace q := q.1 c2
      refine m_aload_n dX11_led_99 rfl ?_
      refine m_iconst (v := 1) dX11_led_100 (by decide) ?_
      refine pf_X11_69 rfl dX11_led_101 ?_
      refine m_iconst (v := 0) dX11_led_104 (by decide) ?_
      exact m_iret dX11_led_105 rfl q
    · replace q := q.2 c2
      refine m_iconst (v := 0) dX11_led_21 (by decide) ?_
      refine m_istore (lv' := [.ref 11, .int l1, .int l2, .int l3, .int 0]) dX11_led_22 (Nat.le_of_ble_eq_true rfl) rfl rfl ?_
      exact q
set_option maxRecDepth 100000 in
theorem r_X11_led_24 {g : gT} {h : mh_T} {P : Int32 → mh_T → Prop} (l1 : Int32) (l2 : Int32) (l3 : Int32) (l4 : Int32) (q : MCi g yX11_outcomes uX11_outcomes [.ref 45, .int l3] h (fun r2 h1 => (r2 ≤ l4 → ME g uX11_led 4 [.ref 11, .int l1, .int l2, .int (l3 + 1), .retAddr 0] [] h1 (qI P)) ∧ (¬ r2 ≤ l4 → (vp_in ((17 + (4 * l3)) + l4) 346) ∧ (((mI h1 45 ((17 + (4 * l3)) + l4).toNatClampNeg) = 0 → ME g uX11_led 24 [.ref 11, .int l1, .int l2, .int l3, .int (l4 + 1)] [] h1 (qI P)) ∧ (¬ (mI h1 45 ((17 + (4 * l3)) + l4).toNatClampNeg) = 0 → MCi g yX11_doesExtend uX11_doesExtend [.ref 11, .int l3, .int l4] h1 (fun r7 h6 => (r7 = 0 → (¬ l2 = l1 → ME g uX11_led 24 [.ref 11, .int l1, .int (l2 + 1), .int l3, .int (l4 + 1)] [] h6 (qI P)) ∧ (l2 = l1 → P ((4 * l3) + l4) (wI h6 11 0 0))) ∧ (¬ r7 = 0 → ME g uX11_led 24 [.ref 11, .int l1, .int l2, .int l3, .int (l4 + 1)] [] h6 (qI P)))))))) : ME g uX11_led 24 [.ref 11, .int l1, .int l2, .int l3, .int l4] [] h (qI P) := by
  refine m_iload dX11_led_24 rfl ?_
  refine m_aload_n dX11_led_26 rfl ?_
  refine gf_X11_20 rfl dX11_led_27 ?_
  refine m_iload_n dX11_led_30 rfl ?_
  refine cl_X11_247 rfl (by decide) dX11_led_31 (Nat.le_of_ble_eq_true rfl) (MCi_go q (fun r2 h1 q => ?_))
  refine m_icmp_ge 93 dX11_led_34 (by decide) (fun c3 => ?_) (fun c3 => ?_)
  · replace q := q.1 c3
    refine m_iinc (v := (l3 + 1)) (lv' := [.ref 11, .int l1, .int l2, .int (l3 + 1), .int l4]) dX11_led_93 (Nat.le_of_ble_eq_true rfl) rfl (congrArg (fun z => l3 + z) (by decide : Int32.ofInt 1 = 1)) rfl rfl ?_
    refine m_goto 4 dX11_led_96 (by decide) ?_
    refine m_dropK (lv' := [.ref 11, .int l1, .int l2, .int (l3 + 1), .retAddr 0]) [4] rfl ?_
    exact q
  · replace q := q.2 c3
    refine m_aload_n dX11_led_37 rfl ?_
    refine gf_X11_20 rfl dX11_led_38 ?_
    refine m_bipush (v := 17) dX11_led_41 (by decide) ?_
    refine m_iconst (v := 4) dX11_led_43 (by decide) ?_
    refine m_iload_n dX11_led_44 rfl ?_
    refine m_imul dX11_led_45 ?_
    refine m_iadd dX11_led_46 ?_
    refine m_iload dX11_led_47 rfl ?_
    refine m_iadd dX11_led_49 ?_
    obtain ⟨b4, q⟩ := q
    refine m_iaload dX11_led_50 rfl (by decide) b4 ?_
    refine m_if_eq 87 dX11_led_51 (by decide) (fun c5 => ?_) (fun c5 => ?_)
    · replace q := q.1 c5
      refine m_iinc (v := (l4 + 1)) (lv' := [.ref 11, .int l1, .int l2, .int l3, .int (l4 + 1)]) dX11_led_87 (Nat.le_of_ble_eq_true rfl) rfl (congrArg (fun z => l4 + z) (by decide : Int32.ofInt 1 = 1)) rfl rfl ?_
      refine m_goto 24 dX11_led_90 (by decide) ?_
      exact q
    · replace q := q.2 c5
      refine m_aload_n dX11_led_54 rfl ?_
      refine m_iload_n dX11_led_55 rfl ?_
      refine m_iload dX11_led_56 rfl ?_
      refine cl_X11_308 rfl (by decide) dX11_led_58 (Nat.le_of_ble_eq_true rfl) (MCi_go q (fun r7 h6 q => ?_))
      refine m_if_eq 67 dX11_led_61 (by decide) (fun c8 => ?_) (fun c8 => ?_)
      · replace q := q.1 c8
        refine m_iload_n dX11_led_67 rfl ?_
        refine m_iload_n dX11_led_68 rfl ?_
        refine m_icmp_ne 84 dX11_led_69 (by decide) (fun c9 => ?_) (fun c9 => ?_)
        · replace q := q.1 c9
          refine m_iinc (v := (l2 + 1)) (lv' := [.ref 11, .int l1, .int (l2 + 1), .int l3, .int l4]) dX11_led_84 (Nat.le_of_ble_eq_true rfl) rfl (congrArg (fun z => l2 + z) (by decide : Int32.ofInt 1 = 1)) rfl rfl ?_
          refine m_iinc (v := (l4 + 1)) (lv' := [.ref 11, .int l1, .int (l2 + 1), .int l3, .int (l4 + 1)]) dX11_led_87 (Nat.le_of_ble_eq_true rfl) rfl (congrArg (fun z => l4 + z) (by decide : Int32.ofInt 1 = 1)) rfl rfl ?_
          refine m_goto 24 dX11_led_90 (by decide) ?_
          exact q
        · replace q := q.2 c9
          refine m_aload_n dX11_led_72 rfl ?_
          refine m_iconst (v := 0) dX11_led_73 (by decide) ?_
          refine pf_X11_69 rfl dX11_led_74 ?_
          refine m_iconst (v := 4) dX11_led_77 (by decide) ?_
          refine m_iload_n dX11_led_78 rfl ?_
          refine m_imul dX11_led_79 ?_
          refine m_iload dX11_led_80 rfl ?_
          refine m_iadd dX11_led_82 ?_
          exact m_iret dX11_led_83 rfl q
      · replace q := q.2 c8
        refine m_goto 87 dX11_led_64 (by decide) ?_
        refine m_iinc (v := (l4 + 1)) (lv' := [.ref 11, .int l1, .int l2, .int l3, .int (l4 + 1)]) dX11_led_87 (Nat.le_of_ble_eq_true rfl) rfl (congrArg (fun z => l4 + z) (by decide : Int32.ofInt 1 = 1)) rfl rfl ?_
        refine m_goto 24 dX11_led_90 (by decide) ?_
        exact q
theorem sw_9 (x : Int32) : (x.toInt < 0 ∨ 9 < x.toInt) ∨ x = 0 ∨ x = 1 ∨ x = 2 ∨ x = 3 ∨ x = 4 ∨ x = 5 ∨ x = 6 ∨ x = 7 ∨ x = 8 ∨ x = 9 := by
  rcases sw_10 x with h | h | h | h | h | h | h | h | h | h | h | h
  · exact Or.inl (h.imp id (fun q => by omega))
  · exact Or.inr (Or.inl h)
  · exact Or.inr (Or.inr (Or.inl h))
  · exact Or.inr (Or.inr (Or.inr (Or.inl h)))
  · exact Or.inr (Or.inr (Or.inr (Or.inr (Or.inl h))))
  · exact Or.inr (Or.inr (Or.inr (Or.inr (Or.inr (Or.inl h)))))
  · exact Or.inr (Or.inr (Or.inr (Or.inr (Or.inr (Or.inr (Or.inl h))))))
  · exact Or.inr (Or.inr (Or.inr (Or.inr (Or.inr (Or.inr (Or.inr (Or.inl h)))))))
  · exact Or.inr (Or.inr (Or.inr (Or.inr (Or.inr (Or.inr (Or.inr (Or.inr (Or.inl h))))))))
  · exact Or.inr (Or.inr (Or.inr (Or.inr (Or.inr (Or.inr (Or.inr (Or.inr (Or.inr (Or.inl h)))))))))
  · exact Or.inr (Or.inr (Or.inr (Or.inr (Or.inr (Or.inr (Or.inr (Or.inr (Or.inr (Or.inr h)))))))))
  · exact Or.inl (Or.inr (by rw [h]; decide))
set_option maxRecDepth 100000 in
theorem e_X11_size {g : gT} {h : mh_T} {P : Int32 → mh_T → Prop} (l1 : Int32) (q : (¬ l1 = 10 → (¬ (mI (wI h 11 0 0) 11 14) = 0 → (l1.toInt < 0 ∨ 9 < l1.toInt → P (-1) (wI h 11 0 0)) ∧ (l1 = 0 → P (mI (wI h 11 0 0) 45 (Int32.toNatClampNeg 50)) (wI h 11 0 0)) ∧ (l1 = 1 → P (mI (wI h 11 0 0) 45 (Int32.toNatClampNeg 51)) (wI h 11 0 0)) ∧ (l1 = 2 → P (mI (wI h 11 0 0) 45 (Int32.toNatClampNeg 0)) (wI h 11 0 0)) ∧ (l1 = 3 → P (mI (wI h 11 0 0) 45 (Int32.toNatClampNeg 52)) (wI h 11 0 0)) ∧ (l1 = 4 → P (mI (wI h 11 0 0) 45 (Int32.toNatClampNeg 85)) (wI h 11 0 0)) ∧ (l1 = 5 → P (mI (wI h 11 0 0) 45 (Int32.toNatClampNeg 158)) (wI h 11 0 0)) ∧ (l1 = 6 → P (mI (wI h 11 0 0) 45 (Int32.toNatClampNeg 49)) (wI h 11 0 0)) ∧ (l1 = 7 → P (mI (wI h 11 0 0) 11 24) (wI h 11 0 0)) ∧ (l1 = 8 → P (mI (wI h 11 0 0) 11 25) (wI h 11 0 0)) ∧ (l1 = 9 → P (mI (wI h 11 0 0) 11 26) (wI h 11 0 0))) ∧ ((mI (wI h 11 0 0) 11 14) = 0 → MCi g yX11_within uX11_within [.int l1, .int 0, .int 9] (wI h 11 0 0) (fun r5 h4 => (r5 = 0 → P (-1) h4) ∧ (¬ r5 = 0 → P 0 h4)))) ∧ (l1 = 10 → P (mI (wI h 11 0 0) 11 2) (wI h 11 0 0))) : MCi g yX11_size uX11_size [.ref 11, .int l1] h P := by
  refine m_enter (by decide) rfl (Nat.le_of_ble_eq_true rfl) (lv := [.ref 11, .int l1]) rfl ?_
  refine m_aload_n dX11_size_0 rfl ?_
  refine m_iconst (v := 0) dX11_size_1 (by decide) ?_
  refine pf_X11_69 rfl dX11_size_2 ?_
  refine m_iload_n dX11_size_5 rfl ?_
  refine m_bipush (v := 10) dX11_size_6 (by decide) ?_
  refine m_icmp_ne 16 dX11_size_8 (by decide) (fun c1 => ?_) (fun c1 => ?_)
  · replace q := q.1 c1
    refine m_aload_n dX11_size_16 rfl ?_
    refine gf_X11_183 rfl dX11_size_17 ?_
    refine m_if_ne 39 dX11_size_20 (by decide) (fun c2 => ?_) (fun c2 => ?_)
    · replace q := q.1 c2
      refine m_iload_n dX11_size_39 rfl ?_
      rcases sw_9 l1 with c3 | c3 | c3 | c3 | c3 | c3 | c3 | c3 | c3 | c3 | c3
      · replace q := q.1 c3
        refine m_tableOut 167 dX11_size_40 c3 (by decide) ?_
        refine m_iconst (v := (-1)) dX11_size_167 (by decide) ?_
        exact m_iret dX11_size_168 rfl q
      · replace q := q.2.1 c3
        refine m_tableIn (off := 56) 96 dX11_size_40 (by rw [c3]; decide) (by rw [c3]; decide) (by rw [c3]; decide) (by decide) ?_
        refine m_aload_n dX11_size_96 rfl ?_
        refine gf_X11_20 rfl dX11_size_97 ?_
        refine m_bipush (v := 50) dX11_size_100 (by decide) ?_
        refine m_iaload dX11_size_102 rfl (by decide) (by unfold vp_in; decide) ?_
        exact m_iret dX11_size_103 rfl q
      · replace q := q.2.2.1 c3
        refine m_tableIn (off := 64) 104 dX11_size_40 (by rw [c3]; decide) (by rw [c3]; decide) (by rw [c3]; decide) (by decide) ?_
        refine m_aload_n dX11_size_104 rfl ?_
        refine gf_X11_20 rfl dX11_size_105 ?_
        refine m_bipush (v := 51) dX11_size_108 (by decide) ?_
        refine m_iaload dX11_size_110 rfl (by decide) (by unfold vp_in; decide) ?_
        exact m_iret dX11_size_111 rfl q
      · replace q := q.2.2.2.1 c3
        refine m_tableIn (off := 72) 112 dX11_size_40 (by rw [c3]; decide) (by rw [c3]; decide) (by rw [c3]; decide) (by decide) ?_
        refine m_aload_n dX11_size_112 rfl ?_
        refine gf_X11_20 rfl dX11_size_113 ?_
        refine m_iconst (v := 0) dX11_size_116 (by decide) ?_
        refine m_iaload dX11_size_117 rfl (by decide) (by unfold vp_in; decide) ?_
        exact m_iret dX11_size_118 rfl q
      · replace q := q.2.2.2.2.1 c3
        refine m_tableIn (off := 79) 119 dX11_size_40 (by rw [c3]; decide) (by rw [c3]; decide) (by rw [c3]; decide) (by decide) ?_
        refine m_aload_n dX11_size_119 rfl ?_
        refine gf_X11_20 rfl dX11_size_120 ?_
        refine m_bipush (v := 52) dX11_size_123 (by decide) ?_
        refine m_iaload dX11_size_125 rfl (by decide) (by unfold vp_in; decide) ?_
        exact m_iret dX11_size_126 rfl q
      · replace q := q.2.2.2.2.2.1 c3
        refine m_tableIn (off := 87) 127 dX11_size_40 (by rw [c3]; decide) (by rw [c3]; decide) (by rw [c3]; decide) (by decide) ?_
        refine m_aload_n dX11_size_127 rfl ?_
        refine gf_X11_20 rfl dX11_size_128 ?_
        refine m_bipush (v := 85) dX11_size_131 (by decide) ?_
        refine m_iaload dX11_size_133 rfl (by decide) (by unfold vp_in; decide) ?_
        exact m_iret dX11_size_134 rfl q
      · replace q := q.2.2.2.2.2.2.1 c3
        refine m_tableIn (off := 95) 135 dX11_size_40 (by rw [c3]; decide) (by rw [c3]; decide) (by rw [c3]; decide) (by decide) ?_
        refine m_aload_n dX11_size_135 rfl ?_
        refine gf_X11_20 rfl dX11_size_136 ?_
        refine m_sipush (v := 158) dX11_size_139 (by decide) ?_
        refine m_iaload dX11_size_142 rfl (by decide) (by unfold vp_in; decide) ?_
        exact m_iret dX11_size_143 rfl q
      · replace q := q.2.2.2.2.2.2.2.1 c3
        refine m_tableIn (off := 104) 144 dX11_size_40 (by rw [c3]; decide) (by rw [c3]; decide) (by rw [c3]; decide) (by decide) ?_
        refine m_aload_n dX11_size_144 rfl ?_
        refine gf_X11_20 rfl dX11_size_145 ?_
        refine m_bipush (v := 49) dX11_size_148 (by decide) ?_
        refine m_iaload dX11_size_150 rfl (by decide) (by unfold vp_in; decide) ?_
        exact m_iret dX11_size_151 rfl q
      · replace q := q.2.2.2.2.2.2.2.2.1 c3
        refine m_tableIn (off := 112) 152 dX11_size_40 (by rw [c3]; decide) (by rw [c3]; decide) (by rw [c3]; decide) (by decide) ?_
        refine m_aload_n dX11_size_152 rfl ?_
        refine gf_X11_189 rfl dX11_size_153 ?_
        exact m_iret dX11_size_156 rfl q
      · replace q := q.2.2.2.2.2.2.2.2.2.1 c3
        refine m_tableIn (off := 117) 157 dX11_size_40 (by rw [c3]; decide) (by rw [c3]; decide) (by rw [c3]; decide) (by decide) ?_
        refine m_aload_n dX11_size_157 rfl ?_
        refine gf_X11_192 rfl dX11_size_158 ?_
        exact m_iret dX11_size_161 rfl q
      · replace q := q.2.2.2.2.2.2.2.2.2.2 c3
        refine m_tableIn (off := 122) 162 dX11_size_40 (by rw [c3]; decide) (by rw [c3]; decide) (by rw [c3]; decide) (by decide) ?_
        refine m_aload_n dX11_size_162 rfl ?_
        refine gf_X11_195 rfl dX11_size_163 ?_
        exact m_iret dX11_size_166 rfl q
    · replace q := q.2 c2
      refine m_iload_n dX11_size_23 rfl ?_
      refine m_iconst (v := 0) dX11_size_24 (by decide) ?_
      refine m_bipush (v := 9) dX11_size_25 (by decide) ?_
      refine cl_X11_170 rfl (by decide) dX11_size_27 (Nat.le_of_ble_eq_true rfl) (MCi_go q (fun r5 h4 q => ?_))
      refine m_if_eq 37 dX11_size_30 (by decide) (fun c6 => ?_) (fun c6 => ?_)
      · replace q := q.1 c6
        refine m_iconst (v := (-1)) dX11_size_37 (by decide) ?_
        exact m_iret dX11_size_38 rfl q
      · replace q := q.2 c6
        refine m_iconst (v := 0) dX11_size_33 (by decide) ?_
        refine m_goto 38 dX11_size_34 (by decide) ?_
        exact m_iret dX11_size_38 rfl q
  · replace q := q.2 c1
    refine m_aload_n dX11_size_11 rfl ?_
    refine gf_X11_75 rfl dX11_size_12 ?_
    exact m_iret dX11_size_15 rfl q
set_option maxRecDepth 100000 in
theorem e_X11_trouble {g : gT} {h : mh_T} {P : Int32 → mh_T → Prop}  (q : P (mI (wI h 11 0 0) 11 11) (wI h 11 0 0)) : MCi g yX11_trouble uX11_trouble [.ref 11] h P := by
  refine m_enter (by decide) rfl (Nat.le_of_ble_eq_true rfl) (lv := [.ref 11]) rfl ?_
  refine m_aload_n dX11_trouble_0 rfl ?_
  refine m_iconst (v := 0) dX11_trouble_1 (by decide) ?_
  refine pf_X11_69 rfl dX11_trouble_2 ?_
  refine m_aload_n dX11_trouble_5 rfl ?_
  refine gf_X11_72 rfl dX11_trouble_6 ?_
  exact m_iret dX11_trouble_9 rfl q
set_option maxRecDepth 20000 in
theorem tw_1004 : Cond.fieldLink RX1 18 "NotAtOnce$Draft" "times" "[I" ∈ lw_tbl := tk_1 (j := 71) rfl
set_option maxRecDepth 20000 in
theorem tw_1005 : Cond.fieldLink RX1 39 "NotAtOnce$Draft" "law" "I" ∈ lw_tbl := tk_1 (j := 44) rfl
set_option maxRecDepth 20000 in
theorem tw_1006 : Cond.fieldLink RX1 43 "NotAtOnce$Draft" "looks" "I" ∈ lw_tbl := tk_1 (j := 47) rfl
set_option maxRecDepth 20000 in
theorem tw_1007 : Cond.fieldLink RX1 46 "NotAtOnce$Draft" "points" "I" ∈ lw_tbl := tk_1 (j := 51) rfl
set_option maxRecDepth 20000 in
theorem tw_1008 : Cond.fieldLink RX1 49 "NotAtOnce$Draft" "sets" "I" ∈ lw_tbl := tk_1 (j := 53) rfl
set_option maxRecDepth 20000 in
theorem tw_1009 : Cond.fieldLink RX1 52 "NotAtOnce$Draft" "lines" "I" ∈ lw_tbl := tk_1 (j := 57) rfl
set_option maxRecDepth 20000 in
theorem tw_1010 : Cond.fieldLink RX1 55 "NotAtOnce$Draft" "rays" "I" ∈ lw_tbl := tk_1 (j := 60) rfl
set_option maxRecDepth 20000 in
theorem tw_1011 : Cond.fieldLink RX1 58 "NotAtOnce$Draft" "runs" "I" ∈ lw_tbl := tk_1 (j := 63) rfl
set_option maxRecDepth 100000 in
theorem gf_X1_18 {g : gT} {u : uT} {pc : Nat} {lv st : List Value} {h : mh_T} {Q : Option Value → mh_T → Prop} (hu : u.1 = RX1) (hd : decode u.2.1 pc = .ok (.getfield 18, 3)) (kk : ME g u (pc + 3) lv (.ref 17 :: st) h Q) : ME g u pc lv (.ref 2 :: st) h Q := m_getR (k' := 17) (ci := 1) (k := 2) (j := 9) (q := (RX1, TX1, 16)) (ref := "NotAtOnce$Draft") hd rfl (by decide) (by decide) rfl rfl tinX1 tgX1 (by rw [hu]; exact tw_1004) rfl rfl rfl (by decide) kk
set_option maxRecDepth 100000 in
theorem pf_X1_39 {g : gT} {u : uT} {pc : Nat} {lv st : List Value} {h : mh_T} {Q : Option Value → mh_T → Prop} {v : Int32} (hu : u.1 = RX1) (hd : decode u.2.1 pc = .ok (.putfield 39, 3)) (kk : ME g u (pc + 3) lv st (wI h 2 0 v) Q) : ME g u pc lv (.int v :: .ref 2 :: st) h Q := m_putI (ty := .int) (ci := 1) (k := 2) (j := 0) (q := (RX1, TX1, 16)) (ref := "NotAtOnce$Draft") hd rfl (by decide) (by decide) rfl rfl tinX1 tgX1 (by rw [hu]; exact tw_1005) rfl tyX1 tyX1_ok nmX1 rfl (by decide +kernel) rfl rfl rfl kk
set_option maxRecDepth 100000 in
theorem pf_X1_43 {g : gT} {u : uT} {pc : Nat} {lv st : List Value} {h : mh_T} {Q : Option Value → mh_T → Prop} {v : Int32} (hu : u.1 = RX1) (hd : decode u.2.1 pc = .ok (.putfield 43, 3)) (kk : ME g u (pc + 3) lv st (wI h 2 1 v) Q) : ME g u pc lv (.int v :: .ref 2 :: st) h Q := m_putI (ty := .int) (ci := 1) (k := 2) (j := 1) (q := (RX1, TX1, 16)) (ref := "NotAtOnce$Draft") hd rfl (by decide) (by decide) rfl rfl tinX1 tgX1 (by rw [hu]; exact tw_1006) rfl tyX1 tyX1_ok nmX1 rfl (by decide +kernel) rfl rfl rfl kk
set_option maxRecDepth 100000 in
theorem pf_X1_46 {g : gT} {u : uT} {pc : Nat} {lv st : List Value} {h : mh_T} {Q : Option Value → mh_T → Prop} {v : Int32} (hu : u.1 = RX1) (hd : decode u.2.1 pc = .ok (.putfield 46, 3)) (kk : ME g u (pc + 3) lv st (wI h 2 2 v) Q) : ME g u pc lv (.int v :: .ref 2 :: st) h Q := m_putI (ty := .int) (ci := 1) (k := 2) (j := 2) (q := (RX1, TX1, 16)) (ref := "NotAtOnce$Draft") hd rfl (by decide) (by decide) rfl rfl tinX1 tgX1 (by rw [hu]; exact tw_1007) rfl tyX1 tyX1_ok nmX1 rfl (by decide +kernel) rfl rfl rfl kk
set_option maxRecDepth 100000 in
theorem pf_X1_49 {g : gT} {u : uT} {pc : Nat} {lv st : List Value} {h : mh_T} {Q : Option Value → mh_T → Prop} {v : Int32} (hu : u.1 = RX1) (hd : decode u.2.1 pc = .ok (.putfield 49, 3)) (kk : ME g u (pc + 3) lv st (wI h 2 3 v) Q) : ME g u pc lv (.int v :: .ref 2 :: st) h Q := m_putI (ty := .int) (ci := 1) (k := 2) (j := 3) (q := (RX1, TX1, 16)) (ref := "NotAtOnce$Draft") hd rfl (by decide) (by decide) rfl rfl tinX1 tgX1 (by rw [hu]; exact tw_1008) rfl tyX1 tyX1_ok nmX1 rfl (by decide +kernel) rfl rfl rfl kk
set_option maxRecDepth 100000 in
theorem pf_X1_52 {g : gT} {u : uT} {pc : Nat} {lv st : List Value} {h : mh_T} {Q : Option Value → mh_T → Prop} {v : Int32} (hu : u.1 = RX1) (hd : decode u.2.1 pc = .ok (.putfield 52, 3)) (kk : ME g u (pc + 3) lv st (wI h 2 4 v) Q) : ME g u pc lv (.int v :: .ref 2 :: st) h Q := m_putI (ty := .int) (ci := 1) (k := 2) (j := 4) (q := (RX1, TX1, 16)) (ref := "NotAtOnce$Draft") hd rfl (by decide) (by decide) rfl rfl tinX1 tgX1 (by rw [hu]; exact tw_1009) rfl tyX1 tyX1_ok nmX1 rfl (by decide +kernel) rfl rfl rfl kk
set_option maxRecDepth 100000 in
theorem pf_X1_55 {g : gT} {u : uT} {pc : Nat} {lv st : List Value} {h : mh_T} {Q : Option Value → mh_T → Prop} {v : Int32} (hu : u.1 = RX1) (hd : decode u.2.1 pc = .ok (.putfield 55, 3)) (kk : ME g u (pc + 3) lv st (wI h 2 5 v) Q) : ME g u pc lv (.int v :: .ref 2 :: st) h Q := m_putI (ty := .int) (ci := 1) (k := 2) (j := 5) (q := (RX1, TX1, 16)) (ref := "NotAtOnce$Draft") hd rfl (by decide) (by decide) rfl rfl tinX1 tgX1 (by rw [hu]; exact tw_1010) rfl tyX1 tyX1_ok nmX1 rfl (by decide +kernel) rfl rfl rfl kk
set_option maxRecDepth 100000 in
theorem pf_X1_58 {g : gT} {u : uT} {pc : Nat} {lv st : List Value} {h : mh_T} {Q : Option Value → mh_T → Prop} {v : Int32} (hu : u.1 = RX1) (hd : decode u.2.1 pc = .ok (.putfield 58, 3)) (kk : ME g u (pc + 3) lv st (wI h 2 6 v) Q) : ME g u pc lv (.int v :: .ref 2 :: st) h Q := m_putI (ty := .int) (ci := 1) (k := 2) (j := 6) (q := (RX1, TX1, 16)) (ref := "NotAtOnce$Draft") hd rfl (by decide) (by decide) rfl rfl tinX1 tgX1 (by rw [hu]; exact tw_1011) rfl tyX1 tyX1_ok nmX1 rfl (by decide +kernel) rfl rfl rfl kk
theorem dX1_clear_0 : decode cX1_clear 0 = .ok (.aload_n 0, 1) := by decide +kernel
theorem dX1_clear_1 : decode cX1_clear 1 = .ok (.iconst 0, 1) := by decide +kernel
theorem dX1_clear_2 : decode cX1_clear 2 = .ok (.putfield 39, 3) := by decide +kernel
theorem dX1_clear_5 : decode cX1_clear 5 = .ok (.aload_n 0, 1) := by decide +kernel
theorem dX1_clear_6 : decode cX1_clear 6 = .ok (.iconst 0, 1) := by decide +kernel
theorem dX1_clear_7 : decode cX1_clear 7 = .ok (.putfield 43, 3) := by decide +kernel
theorem dX1_clear_10 : decode cX1_clear 10 = .ok (.aload_n 0, 1) := by decide +kernel
theorem dX1_clear_11 : decode cX1_clear 11 = .ok (.iconst 0, 1) := by decide +kernel
theorem dX1_clear_12 : decode cX1_clear 12 = .ok (.putfield 46, 3) := by decide +kernel
theorem dX1_clear_15 : decode cX1_clear 15 = .ok (.aload_n 0, 1) := by decide +kernel
theorem dX1_clear_16 : decode cX1_clear 16 = .ok (.iconst 0, 1) := by decide +kernel
theorem dX1_clear_17 : decode cX1_clear 17 = .ok (.putfield 49, 3) := by decide +kernel
theorem dX1_clear_20 : decode cX1_clear 20 = .ok (.aload_n 0, 1) := by decide +kernel
theorem dX1_clear_21 : decode cX1_clear 21 = .ok (.iconst 0, 1) := by decide +kernel
theorem dX1_clear_22 : decode cX1_clear 22 = .ok (.putfield 52, 3) := by decide +kernel
theorem dX1_clear_25 : decode cX1_clear 25 = .ok (.aload_n 0, 1) := by decide +kernel
theorem dX1_clear_26 : decode cX1_clear 26 = .ok (.iconst 0, 1) := by decide +kernel
theorem dX1_clear_27 : decode cX1_clear 27 = .ok (.putfield 55, 3) := by decide +kernel
theorem dX1_clear_30 : decode cX1_clear 30 = .ok (.aload_n 0, 1) := by decide +kernel
theorem dX1_clear_31 : decode cX1_clear 31 = .ok (.iconst 0, 1) := by decide +kernel
theorem dX1_clear_32 : decode cX1_clear 32 = .ok (.putfield 58, 3) := by decide +kernel
theorem dX1_clear_35 : decode cX1_clear 35 = .ok (.iconst 0, 1) := by decide +kernel
theorem dX1_clear_36 : decode cX1_clear 36 = .ok (.istore_n 1, 1) := by decide +kernel
theorem dX1_clear_37 : decode cX1_clear 37 = .ok (.iload_n 1, 1) := by decide +kernel
theorem dX1_clear_38 : decode cX1_clear 38 = .ok (.aload_n 0, 1) := by decide +kernel
theorem dX1_clear_39 : decode cX1_clear 39 = .ok (.getfield 18, 3) := by decide +kernel
theorem dX1_clear_42 : decode cX1_clear 42 = .ok (.arraylength, 1) := by decide +kernel
theorem dX1_clear_43 : decode cX1_clear 43 = .ok (.if_icmp .ge 16, 3) := by decide +kernel
theorem dX1_clear_59 : decode cX1_clear 59 = .ok (.return_, 1) := by decide +kernel
theorem dX1_clear_46 : decode cX1_clear 46 = .ok (.aload_n 0, 1) := by decide +kernel
theorem dX1_clear_47 : decode cX1_clear 47 = .ok (.getfield 18, 3) := by decide +kernel
theorem dX1_clear_50 : decode cX1_clear 50 = .ok (.iload_n 1, 1) := by decide +kernel
theorem dX1_clear_51 : decode cX1_clear 51 = .ok (.iconst 0, 1) := by decide +kernel
theorem dX1_clear_52 : decode cX1_clear 52 = .ok (.iastore, 1) := by decide +kernel
theorem dX1_clear_53 : decode cX1_clear 53 = .ok (.iinc 1 1, 3) := by decide +kernel
theorem dX1_clear_56 : decode cX1_clear 56 = .ok (.goto (-19), 3) := by decide +kernel
set_option maxRecDepth 100000 in
theorem e_X1_clear {g : gT} {h : mh_T} {P : mh_T → Prop}  (q : ME g uX1_clear 37 [.ref 2, .int 0] [] (wI (wI (wI (wI (wI (wI (wI h 2 0 0) 2 1 0) 2 2 0) 2 3 0) 2 4 0) 2 5 0) 2 6 0) (qV P)) : MCv g yX1_clear uX1_clear [.ref 2] h P := by
  refine m_enter (by decide) rfl (Nat.le_of_ble_eq_true rfl) (lv := [.ref 2, .retAddr 0]) rfl ?_
  refine m_aload_n dX1_clear_0 rfl ?_
  refine m_iconst (v := 0) dX1_clear_1 (by decide) ?_
  refine pf_X1_39 rfl dX1_clear_2 ?_
  refine m_aload_n dX1_clear_5 rfl ?_
  refine m_iconst (v := 0) dX1_clear_6 (by decide) ?_
  refine pf_X1_43 rfl dX1_clear_7 ?_
  refine m_aload_n dX1_clear_10 rfl ?_
  refine m_iconst (v := 0) dX1_clear_11 (by decide) ?_
  refine pf_X1_46 rfl dX1_clear_12 ?_
  refine m_aload_n dX1_clear_15 rfl ?_
  refine m_iconst (v := 0) dX1_clear_16 (by decide) ?_
  refine pf_X1_49 rfl dX1_clear_17 ?_
  refine m_aload_n dX1_clear_20 rfl ?_
  refine m_iconst (v := 0) dX1_clear_21 (by decide) ?_
  refine pf_X1_52 rfl dX1_clear_22 ?_
  refine m_aload_n dX1_clear_25 rfl ?_
  refine m_iconst (v := 0) dX1_clear_26 (by decide) ?_
  refine pf_X1_55 rfl dX1_clear_27 ?_
  refine m_aload_n dX1_clear_30 rfl ?_
  refine m_iconst (v := 0) dX1_clear_31 (by decide) ?_
  refine pf_X1_58 rfl dX1_clear_32 ?_
  refine m_iconst (v := 0) dX1_clear_35 (by decide) ?_
  refine m_istore_n (lv' := [.ref 2, .int 0]) dX1_clear_36 (Nat.le_of_ble_eq_true rfl) rfl rfl ?_
  exact q
set_option maxRecDepth 100000 in
theorem r_X1_clear_37 {g : gT} {h : mh_T} {P : mh_T → Prop} (l1 : Int32) (q : (32 ≤ l1 → P h) ∧ (¬ 32 ≤ l1 → (vp_in l1 32) ∧ (ME g uX1_clear 37 [.ref 2, .int (l1 + 1)] [] (wI h 17 l1.toNatClampNeg 0) (qV P)))) : ME g uX1_clear 37 [.ref 2, .int l1] [] h (qV P) := by
  refine m_iload_n dX1_clear_37 rfl ?_
  refine m_aload_n dX1_clear_38 rfl ?_
  refine gf_X1_18 rfl dX1_clear_39 ?_
  refine m_alen (v := 32) dX1_clear_42 rfl (by decide) (by decide) (by decide) ?_
  refine m_icmp_ge 59 dX1_clear_43 (by decide) (fun c1 => ?_) (fun c1 => ?_)
  · replace q := q.1 c1
    exact m_vret dX1_clear_59 rfl q
  · replace q := q.2 c1
    refine m_aload_n dX1_clear_46 rfl ?_
    refine gf_X1_18 rfl dX1_clear_47 ?_
    refine m_iload_n dX1_clear_50 rfl ?_
    refine m_iconst (v := 0) dX1_clear_51 (by decide) ?_
    obtain ⟨b2, q⟩ := q
    refine m_iastore dX1_clear_52 rfl (by decide) b2 ?_
    refine m_iinc (v := (l1 + 1)) (lv' := [.ref 2, .int (l1 + 1)]) dX1_clear_53 (Nat.le_of_ble_eq_true rfl) rfl (congrArg (fun z => l1 + z) (by decide : Int32.ofInt 1 = 1)) rfl rfl ?_
    refine m_goto 37 dX1_clear_56 (by decide) ?_
    exact q
set_option maxRecDepth 100000 in
theorem r_X6_next_0 {g : gT} {h : mh_T} {P : mh_T → Prop}  (q : ((mI h 1 6) ≤ (mI h 1 7) → ME g uX6_next 56 [.ref 1] [] (wI (wL (wI h 1 9 (mI h 1 7)) 1 10 0) 1 11 0) (qV P)) ∧ (¬ (mI h 1 6) ≤ (mI h 1 7) → (vp_in (mI h 1 7) 900) ∧ ((¬ (mI h 12 (mI h 1 7).toNatClampNeg) = 32 → ME g uX6_next 56 [.ref 1] [] (wI (wL (wI h 1 9 (mI h 1 7)) 1 10 0) 1 11 0) (qV P)) ∧ ((mI h 12 (mI h 1 7).toNatClampNeg) = 32 → ME g uX6_next 0 [.ref 1] [] (wI h 1 7 ((mI h 1 7) + 1)) (qV P))))) : ME g uX6_next 0 [.ref 1] [] h (qV P) := by
  refine m_aload_n dX6_next_0 rfl ?_
  refine gf_X6_48 rfl dX6_next_1 ?_
  refine m_aload_n dX6_next_4 rfl ?_
  refine gf_X6_45 rfl dX6_next_5 ?_
  refine m_icmp_ge 38 dX6_next_8 (by decide) (fun c1 => ?_) (fun c1 => ?_)
  · replace q := q.1 c1
    refine m_aload_n dX6_next_38 rfl ?_
    refine m_aload_n dX6_next_39 rfl ?_
    refine gf_X6_48 rfl dX6_next_40 ?_
    refine pf_X6_189 rfl dX6_next_43 ?_
    refine m_aload_n dX6_next_46 rfl ?_
    refine m_lconst (v := 0) dX6_next_47 (by decide) ?_
    refine pf_X6_131 rfl dX6_next_48 ?_
    refine m_aload_n dX6_next_51 rfl ?_
    refine m_iconst (v := 0) dX6_next_52 (by decide) ?_
    refine pf_X6_122 rfl dX6_next_53 ?_
    exact q
  · replace q := q.2 c1
    refine m_aload_n dX6_next_11 rfl ?_
    refine gf_X6_25 rfl dX6_next_12 ?_
    refine m_aload_n dX6_next_15 rfl ?_
    refine gf_X6_48 rfl dX6_next_16 ?_
    obtain ⟨b2, q⟩ := q
    refine m_iaload dX6_next_19 rfl (by decide) b2 ?_
    refine m_bipush (v := 32) dX6_next_20 (by decide) ?_
    refine m_icmp_ne 38 dX6_next_22 (by decide) (fun c3 => ?_) (fun c3 => ?_)
    · replace q := q.1 c3
      refine m_aload_n dX6_next_38 rfl ?_
      refine m_aload_n dX6_next_39 rfl ?_
      refine gf_X6_48 rfl dX6_next_40 ?_
      refine pf_X6_189 rfl dX6_next_43 ?_
      refine m_aload_n dX6_next_46 rfl ?_
      refine m_lconst (v := 0) dX6_next_47 (by decide) ?_
      refine pf_X6_131 rfl dX6_next_48 ?_
      refine m_aload_n dX6_next_51 rfl ?_
      refine m_iconst (v := 0) dX6_next_52 (by decide) ?_
      refine pf_X6_122 rfl dX6_next_53 ?_
      exact q
    · replace q := q.2 c3
      refine m_aload_n dX6_next_25 rfl ?_
      refine m_dup dX6_next_26 rfl ?_
      refine gf_X6_48 rfl dX6_next_27 ?_
      refine m_iconst (v := 1) dX6_next_30 (by decide) ?_
      refine m_iadd dX6_next_31 ?_
      refine pf_X6_48 rfl dX6_next_32 ?_
      refine m_goto 0 dX6_next_35 (by decide) ?_
      exact q
