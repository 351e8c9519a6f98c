set_option maxRecDepth 100000 in
theorem e_X11_undo {g : gT} {h : mh_T} {P : Int32 → mh_T → Prop}  (q : MCv g yX11_good uX11_good [.ref 11] h (fun h1 => (¬ (mI h1 11 24) = 0 → MCv g yX11_copy uX11_copy [.ref 45, .int 0, .ref 48, .int 0, .int 49] (wI h1 11 24 ((mI h1 11 24) - 1)) (fun h3 => ∀ x4 : Int32, x4 = (5 * (mI h3 11 24)) → (vp_in x4 100) ∧ ((vp_in (x4 + 1) 100) ∧ ((vp_in (x4 + 2) 100) ∧ ((vp_in (x4 + 3) 100) ∧ ((vp_in (x4 + 4) 100) ∧ (MCv g yX11_keep uX11_keep [.ref 50, .ref 53, .int (mI h3 11 25), .ref 48, .int (mI h3 52 x4.toNatClampNeg), .int (mI h3 52 (x4 + 1).toNatClampNeg), .int (mI h3 52 (x4 + 2).toNatClampNeg), .int (mI h3 52 (x4 + 3).toNatClampNeg), .int (mI h3 52 (x4 + 4).toNatClampNeg)] h3 (fun h10 => (¬ (mI h10 11 25) = 20 → MCv g yX11_copy uX11_copy [.ref 49, .int (49 * (mI (wI h10 11 25 ((mI h10 11 25) + 1)) 11 24)), .ref 45, .int 0, .int 49] (wI h10 11 25 ((mI h10 11 25) + 1)) (fun h12 => MCv g yX11_noCoins uX11_noCoins [.ref 11] h12 (fun h13 => P 1 h13))) ∧ ((mI h10 11 25) = 20 → MCv g yX11_copy uX11_copy [.ref 49, .int (49 * (mI (wI h10 11 25 20) 11 24)), .ref 45, .int 0, .int 49] (wI h10 11 25 20) (fun h14 => MCv g yX11_noCoins uX11_noCoins [.ref 11] h14 (fun h15 => P 1 h15))))))))))) ∧ ((mI h1 11 24) = 0 → MCi g yX11_isNot uX11_isNot [.ref 11, .int 6] h1 (fun r17 h16 => (r17 = 0 ∨ r17 = 1) ∧ P r17 h16)))) : MCi g yX11_undo uX11_undo [.ref 11] h P := by
  refine m_enter (by decide) rfl (Nat.le_of_ble_eq_true rfl) (lv := [.ref 11, .retAddr 0]) rfl ?_
  refine m_aload_n dX11_undo_0 rfl ?_
  refine cl_X11_174 rfl (by decide) dX11_undo_1 (Nat.le_of_ble_eq_true rfl) (MCv_go q (fun h1 q => ?_))
  refine m_aload_n dX11_undo_4 rfl ?_
  refine gf_X11_189 rfl dX11_undo_5 ?_
  refine m_if_ne 18 dX11_undo_8 (by decide) (fun c2 => ?_) (fun c2 => ?_)
  · replace q := q.1 c2
    refine m_aload_n dX11_undo_18 rfl ?_
    refine m_dup dX11_undo_19 rfl ?_
    refine gf_X11_189 rfl dX11_undo_20 ?_
    refine m_iconst (v := 1) dX11_undo_23 (by decide) ?_
    refine m_isub dX11_undo_24 ?_
    refine pf_X11_189 rfl dX11_undo_25 ?_
    refine m_aload_n dX11_undo_28 rfl ?_
    refine gf_X11_20 rfl dX11_undo_29 ?_
    refine m_iconst (v := 0) dX11_undo_32 (by decide) ?_
    refine m_aload_n dX11_undo_33 rfl ?_
    refine gf_X11_29 rfl dX11_undo_34 ?_
    refine m_iconst (v := 0) dX11_undo_37 (by decide) ?_
    refine m_bipush (v := 49) dX11_undo_38 (by decide) ?_
    refine cl_X11_399 rfl (by decide) dX11_undo_40 (Nat.le_of_ble_eq_true rfl) (MCv_go q (fun h3 q => ?_))
    refine m_iconst (v := 5) dX11_undo_43 (by decide) ?_
    refine m_aload_n dX11_undo_44 rfl ?_
    refine gf_X11_189 rfl dX11_undo_45 ?_
    refine m_imul dX11_undo_48 ?_
    obtain ⟨x4, ex4⟩ : ∃ z, z = (5 * (mI h3 11 24)) := ⟨_, rfl⟩
    rw [← ex4]
    replace q := q x4 ex4
    refine m_istore_n (lv' := [.ref 11, .int x4]) dX11_undo_49 (Nat.le_of_ble_eq_true rfl) rfl rfl ?_
    refine m_aload_n dX11_undo_50 rfl ?_
    refine gf_X11_35 rfl dX11_undo_51 ?_
    refine m_aload_n dX11_undo_54 rfl ?_
    refine gf_X11_44 rfl dX11_undo_55 ?_
    refine m_aload_n dX11_undo_58 rfl ?_
    refine gf_X11_192 rfl dX11_undo_59 ?_
    refine m_aload_n dX11_undo_62 rfl ?_
    refine gf_X11_29 rfl dX11_undo_63 ?_
    refine m_aload_n dX11_undo_66 rfl ?_
    refine gf_X11_41 rfl dX11_undo_67 ?_
    refine m_iload_n dX11_undo_70 rfl ?_
    obtain ⟨b5, q⟩ := q
    refine m_iaload dX11_undo_71 rfl (by decide) b5 ?_
    refine m_aload_n dX11_undo_72 rfl ?_
    refine gf_X11_41 rfl dX11_undo_73 ?_
    refine m_iload_n dX11_undo_76 rfl ?_
    refine m_iconst (v := 1) dX11_undo_77 (by decide) ?_
    refine m_iadd dX11_undo_78 ?_
    obtain ⟨b6, q⟩ := q
    refine m_iaload dX11_undo_79 rfl (by decide) b6 ?_
    refine m_aload_n dX11_undo_80 rfl ?_
    refine gf_X11_41 rfl dX11_undo_81 ?_
    refine m_iload_n dX11_undo_84 rfl ?_
    refine m_iconst (v := 2) dX11_undo_85 (by decide) ?_
    refine m_iadd dX11_undo_86 ?_
    obtain ⟨b7, q⟩ := q
    refine m_iaload dX11_undo_87 rfl (by decide) b7 ?_
    refine m_aload_n dX11_undo_88 rfl ?_
    refine gf_X11_41 rfl dX11_undo_89 ?_
    refine m_iload_n dX11_undo_92 rfl ?_
    refine m_iconst (v := 3) dX11_undo_93 (by decide) ?_
    refine m_iadd dX11_undo_94 ?_
    obtain ⟨b8, q⟩ := q
    refine m_iaload dX11_undo_95 rfl (by decide) b8 ?_
    refine m_aload_n dX11_undo_96 rfl ?_
    refine gf_X11_41 rfl dX11_undo_97 ?_
    refine m_iload_n dX11_undo_100 rfl ?_
    refine m_iconst (v := 4) dX11_undo_101 (by decide) ?_
    refine m_iadd dX11_undo_102 ?_
    obtain ⟨b9, q⟩ := q
    refine m_iaload dX11_undo_103 rfl (by decide) b9 ?_
    refine cl_X11_395 rfl (by decide) dX11_undo_104 (Nat.le_of_ble_eq_true rfl) (MCv_go q (fun h10 q => ?_))
    refine m_aload_n dX11_undo_107 rfl ?_
    refine m_aload_n dX11_undo_108 rfl ?_
    refine gf_X11_192 rfl dX11_undo_109 ?_
    refine m_bipush (v := 20) dX11_undo_112 (by decide) ?_
    refine m_icmp_ne 122 dX11_undo_114 (by decide) (fun c11 => ?_) (fun c11 => ?_)
    · replace q := q.1 c11
      refine m_aload_n dX11_undo_122 rfl ?_
      refine gf_X11_192 rfl dX11_undo_123 ?_
      refine m_iconst (v := 1) dX11_undo_126 (by decide) ?_
      refine m_iadd dX11_undo_127 ?_
      refine pf_X11_192 rfl dX11_undo_128 ?_
      refine m_aload_n dX11_undo_131 rfl ?_
      refine gf_X11_32 rfl dX11_undo_132 ?_
      refine m_bipush (v := 49) dX11_undo_135 (by decide) ?_
      refine m_aload_n dX11_undo_137 rfl ?_
      refine gf_X11_189 rfl dX11_undo_138 ?_
      refine m_imul dX11_undo_141 ?_
      refine m_aload_n dX11_undo_142 rfl ?_
      refine gf_X11_20 rfl dX11_undo_143 ?_
      refine m_iconst (v := 0) dX11_undo_146 (by decide) ?_
      refine m_bipush (v := 49) dX11_undo_147 (by decide) ?_
      refine cl_X11_399 rfl (by decide) dX11_undo_149 (Nat.le_of_ble_eq_true rfl) (MCv_go q (fun h12 q => ?_))
      refine m_aload_n dX11_undo_152 rfl ?_
      refine cl_X11_186 rfl (by decide) dX11_undo_153 (Nat.le_of_ble_eq_true rfl) (MCv_go q (fun h13 q => ?_))
      refine m_iconst (v := 1) dX11_undo_156 (by decide) ?_
      exact m_zret dX11_undo_157 rfl (by decide) q
    · replace q := q.2 c11
      refine m_bipush (v := 20) dX11_undo_117 (by decide) ?_
      refine m_goto 128 dX11_undo_119 (by decide) ?_
      refine pf_X11_192 rfl dX11_undo_128 ?_
      refine m_aload_n dX11_undo_131 rfl ?_
      refine gf_X11_32 rfl dX11_undo_132 ?_
      refine m_bipush (v := 49) dX11_undo_135 (by decide) ?_
      refine m_aload_n dX11_undo_137 rfl ?_
      refine gf_X11_189 rfl dX11_undo_138 ?_
      refine m_imul dX11_undo_141 ?_
      refine m_aload_n dX11_undo_142 rfl ?_
      refine gf_X11_20 rfl dX11_undo_143 ?_
      refine m_iconst (v := 0) dX11_undo_146 (by decide) ?_
      refine m_bipush (v := 49) dX11_undo_147 (by decide) ?_
      refine cl_X11_399 rfl (by decide) dX11_undo_149 (Nat.le_of_ble_eq_true rfl) (MCv_go q (fun h14 q => ?_))
      refine m_aload_n dX11_undo_152 rfl ?_
      refine cl_X11_186 rfl (by decide) dX11_undo_153 (Nat.le_of_ble_eq_true rfl) (MCv_go q (fun h15 q => ?_))
      refine m_iconst (v := 1) dX11_undo_156 (by decide) ?_
      exact m_zret dX11_undo_157 rfl (by decide) q
  · replace q := q.2 c2
    refine m_aload_n dX11_undo_11 rfl ?_
    refine m_bipush (v := 6) dX11_undo_12 (by decide) ?_
    refine cl_X11_336 rfl (by decide) dX11_undo_14 (Nat.le_of_ble_eq_true rfl) (MCi_go q (fun r17 h16 q => ?_))
    exact m_zret dX11_undo_17 rfl q.1 q.2
set_option maxRecDepth 100000 in
theorem e_X11_redo {g : gT} {h : mh_T} {P : Int32 → mh_T → Prop}  (q : MCv g yX11_good uX11_good [.ref 11] h (fun h1 => (¬ (mI h1 11 25) = 0 → MCv g yX11_copy uX11_copy [.ref 45, .int 0, .ref 48, .int 0, .int 49] (wI h1 11 25 ((mI h1 11 25) - 1)) (fun h3 => ∀ x4 : Int32, x4 = (5 * (mI h3 11 25)) → (vp_in x4 100) ∧ ((vp_in (x4 + 1) 100) ∧ ((vp_in (x4 + 2) 100) ∧ ((vp_in (x4 + 3) 100) ∧ ((vp_in (x4 + 4) 100) ∧ (MCv g yX11_keep uX11_keep [.ref 49, .ref 52, .int (mI h3 11 24), .ref 48, .int (mI h3 53 x4.toNatClampNeg), .int (mI h3 53 (x4 + 1).toNatClampNeg), .int (mI h3 53 (x4 + 2).toNatClampNeg), .int (mI h3 53 (x4 + 3).toNatClampNeg), .int (mI h3 53 (x4 + 4).toNatClampNeg)] h3 (fun h10 => (¬ (mI h10 11 24) = 20 → MCv g yX11_copy uX11_copy [.ref 50, .int (49 * (mI (wI h10 11 24 ((mI h10 11 24) + 1)) 11 25)), .ref 45, .int 0, .int 49] (wI h10 11 24 ((mI h10 11 24) + 1)) (fun h12 => MCv g yX11_noCoins uX11_noCoins [.ref 11] h12 (fun h13 => P 1 h13))) ∧ ((mI h10 11 24) = 20 → MCv g yX11_copy uX11_copy [.ref 50, .int (49 * (mI (wI h10 11 24 20) 11 25)), .ref 45, .int 0, .int 49] (wI h10 11 24 20) (fun h14 => MCv g yX11_noCoins uX11_noCoins [.ref 11] h14 (fun h15 => P 1 h15))))))))))) ∧ ((mI h1 11 25) = 0 → MCi g yX11_isNot uX11_isNot [.ref 11, .int 6] h1 (fun r17 h16 => (r17 = 0 ∨ r17 = 1) ∧ P r17 h16)))) : MCi g yX11_redo uX11_redo [.ref 11] h P := by
  refine m_enter (by decide) rfl (Nat.le_of_ble_eq_true rfl) (lv := [.ref 11, .retAddr 0]) rfl ?_
  refine m_aload_n dX11_redo_0 rfl ?_
  refine cl_X11_174 rfl (by decide) dX11_redo_1 (Nat.le_of_ble_eq_true rfl) (MCv_go q (fun h1 q => ?_))
  refine m_aload_n dX11_redo_4 rfl ?_
  refine gf_X11_192 rfl dX11_redo_5 ?_
  refine m_if_ne 18 dX11_redo_8 (by decide) (fun c2 => ?_) (fun c2 => ?_)
  · replace q := q.1 c2
    refine m_aload_n dX11_redo_18 rfl ?_
    refine m_dup dX11_redo_19 rfl ?_
    refine gf_X11_192 rfl dX11_redo_20 ?_
    refine m_iconst (v := 1) dX11_redo_23 (by decide) ?_
    refine m_isub dX11_redo_24 ?_
    refine pf_X11_192 rfl dX11_redo_25 ?_
    refine m_aload_n dX11_redo_28 rfl ?_
    refine gf_X11_20 rfl dX11_redo_29 ?_
    refine m_iconst (v := 0) dX11_redo_32 (by decide) ?_
    refine m_aload_n dX11_redo_33 rfl ?_
    refine gf_X11_29 rfl dX11_redo_34 ?_
    refine m_iconst (v := 0) dX11_redo_37 (by decide) ?_
    refine m_bipush (v := 49) dX11_redo_38 (by decide) ?_
    refine cl_X11_399 rfl (by decide) dX11_redo_40 (Nat.le_of_ble_eq_true rfl) (MCv_go q (fun h3 q => ?_))
    refine m_iconst (v := 5) dX11_redo_43 (by decide) ?_
    refine m_aload_n dX11_redo_44 rfl ?_
    refine gf_X11_192 rfl dX11_redo_45 ?_
    refine m_imul dX11_redo_48 ?_
    obtain ⟨x4, ex4⟩ : ∃ z, z = (5 * (mI h3 11 25)) := ⟨_, rfl⟩
    rw [← ex4]
    replace q := q x4 ex4
    refine m_istore_n (lv' := [.ref 11, .int x4]) dX11_redo_49 (Nat.le_of_ble_eq_true rfl) rfl rfl ?_
    refine m_aload_n dX11_redo_50 rfl ?_
    refine gf_X11_32 rfl dX11_redo_51 ?_
    refine m_aload_n dX11_redo_54 rfl ?_
    refine gf_X11_41 rfl dX11_redo_55 ?_
    refine m_aload_n dX11_redo_58 rfl ?_
    refine gf_X11_189 rfl dX11_redo_59 ?_
    refine m_aload_n dX11_redo_62 rfl ?_
    refine gf_X11_29 rfl dX11_redo_63 ?_
    refine m_aload_n dX11_redo_66 rfl ?_
    refine gf_X11_44 rfl dX11_redo_67 ?_
    refine m_iload_n dX11_redo_70 rfl ?_
    obtain ⟨b5, q⟩ := q
    refine m_iaload dX11_redo_71 rfl (by decide) b5 ?_
    refine m_aload_n dX11_redo_72 rfl ?_
    refine gf_X11_44 rfl dX11_redo_73 ?_
    refine m_iload_n dX11_redo_76 rfl ?_
    refine m_iconst (v := 1) dX11_redo_77 (by decide) ?_
    refine m_iadd dX11_redo_78 ?_
    obtain ⟨b6, q⟩ := q
    refine m_iaload dX11_redo_79 rfl (by decide) b6 ?_
    refine m_aload_n dX11_redo_80 rfl ?_
    refine gf_X11_44 rfl dX11_redo_81 ?_
    refine m_iload_n dX11_redo_84 rfl ?_
    refine m_iconst (v := 2) dX11_redo_85 (by decide) ?_
    refine m_iadd dX11_redo_86 ?_
    obtain ⟨b7, q⟩ := q
    refine m_iaload dX11_redo_87 rfl (by decide) b7 ?_
    refine m_aload_n dX11_redo_88 rfl ?_
    refine gf_X11_44 rfl dX11_redo_89 ?_
    refine m_iload_n dX11_redo_92 rfl ?_
    refine m_iconst (v := 3) dX11_redo_93 (by decide) ?_
    refine m_iadd dX11_redo_94 ?_
    obtain ⟨b8, q⟩ := q
    refine m_iaload dX11_redo_95 rfl (by decide) b8 ?_
    refine m_aload_n dX11_redo_96 rfl ?_
    refine gf_X11_44 rfl dX11_redo_97 ?_
    refine m_iload_n dX11_redo_100 rfl ?_
    refine m_iconst (v := 4) dX11_redo_101 (by decide) ?_
    refine m_iadd dX11_redo_102 ?_
    obtain ⟨b9, q⟩ := q
    refine m_iaload dX11_redo_103 rfl (by decide) b9 ?_
    refine cl_X11_395 rfl (by decide) dX11_redo_104 (Nat.le_of_ble_eq_true rfl) (MCv_go q (fun h10 q => ?_))
    refine m_aload_n dX11_redo_107 rfl ?_
    refine m_aload_n dX11_redo_108 rfl ?_
    refine gf_X11_189 rfl dX11_redo_109 ?_
    refine m_bipush (v := 20) dX11_redo_112 (by decide) ?_
    refine m_icmp_ne 122 dX11_redo_114 (by decide) (fun c11 => ?_) (fun c11 => ?_)
    · replace q := q.1 c11
      refine m_aload_n dX11_redo_122 rfl ?_
      refine gf_X11_189 rfl dX11_redo_123 ?_
      refine m_iconst (v := 1) dX11_redo_126 (by decide) ?_
      refine m_iadd dX11_redo_127 ?_
      refine pf_X11_189 rfl dX11_redo_128 ?_
      refine m_aload_n dX11_redo_131 rfl ?_
      refine gf_X11_35 rfl dX11_redo_132 ?_
      refine m_bipush (v := 49) dX11_redo_135 (by decide) ?_
      refine m_aload_n dX11_redo_137 rfl ?_
      refine gf_X11_192 rfl dX11_redo_138 ?_
      refine m_imul dX11_redo_141 ?_
      refine m_aload_n dX11_redo_142 rfl ?_
      refine gf_X11_20 rfl dX11_redo_143 ?_
      refine m_iconst (v := 0) dX11_redo_146 (by decide) ?_
      refine m_bipush (v := 49) dX11_redo_147 (by decide) ?_
      refine cl_X11_399 rfl (by decide) dX11_redo_149 (Nat.le_of_ble_eq_true rfl) (MCv_go q (fun h12 q => ?_))
      refine m_aload_n dX11_redo_152 rfl ?_
      refine cl_X11_186 rfl (by decide) dX11_redo_153 (Nat.le_of_ble_eq_true rfl) (MCv_go q (fun h13 q => ?_))
      refine m_iconst (v := 1) dX11_redo_156 (by decide) ?_
      exact m_zret dX11_redo_157 rfl (by decide) q
    · replace q := q.2 c11
      refine m_bipush (v := 20) dX11_redo_117 (by decide) ?_
      refine m_goto 128 dX11_redo_119 (by decide) ?_
      refine pf_X11_189 rfl dX11_redo_128 ?_
      refine m_aload_n dX11_redo_131 rfl ?_
      refine gf_X11_35 rfl dX11_redo_132 ?_
      refine m_bipush (v := 49) dX11_redo_135 (by decide) ?_
      refine m_aload_n dX11_redo_137 rfl ?_
      refine gf_X11_192 rfl dX11_redo_138 ?_
      refine m_imul dX11_redo_141 ?_
      refine m_aload_n dX11_redo_142 rfl ?_
      refine gf_X11_20 rfl dX11_redo_143 ?_
      refine m_iconst (v := 0) dX11_redo_146 (by decide) ?_
      refine m_bipush (v := 49) dX11_redo_147 (by decide) ?_
      refine cl_X11_399 rfl (by decide) dX11_redo_149 (Nat.le_of_ble_eq_true rfl) (MCv_go q (fun h14 q => ?_))
      refine m_aload_n dX11_redo_152 rfl ?_
      refine cl_X11_186 rfl (by decide) dX11_redo_153 (Nat.le_of_ble_eq_true rfl) (MCv_go q (fun h15 q => ?_))
      refine m_iconst (v := 1) dX11_redo_156 (by decide) ?_
      exact m_zret dX11_redo_157 rfl (by decide) q
  · replace q := q.2 c2
    refine m_aload_n dX11_redo_11 rfl ?_
    refine m_bipush (v := 6) dX11_redo_12 (by decide) ?_
    refine cl_X11_336 rfl (by decide) dX11_redo_14 (Nat.le_of_ble_eq_true rfl) (MCi_go q (fun r17 h16 q => ?_))
    exact m_zret dX11_redo_17 rfl q.1 q.2
set_option maxRecDepth 100000 in
theorem e_X11_mark {g : gT} {h : mh_T} {P : Int32 → mh_T → Prop}  (q : MCv g yX11_good uX11_good [.ref 11] h (fun h1 => (¬ (mI h1 11 14) = 0 → (¬ (mI h1 11 26) = 4 → MCv g yX11_copy uX11_copy [.ref 45, .int 0, .ref 51, .int (49 * (mI h1 11 26)), .int 49] h1 (fun h4 => P ((mI (wI h4 11 26 ((mI h4 11 26) + 1)) 11 26) - 1) (wI h4 11 26 ((mI h4 11 26) + 1)))) ∧ ((mI h1 11 26) = 4 → MCi g yX11_no uX11_no [.ref 11, .int 3] h1 (fun r6 h5 => P r6 h5))) ∧ ((mI h1 11 14) = 0 → MCi g yX11_no uX11_no [.ref 11, .int 1] h1 (fun r8 h7 => P r8 h7)))) : MCi g yX11_mark uX11_mark [.ref 11] h P := by
  refine m_enter (by decide) rfl (Nat.le_of_ble_eq_true rfl) (lv := [.ref 11]) rfl ?_
  refine m_aload_n dX11_mark_0 rfl ?_
  refine cl_X11_174 rfl (by decide) dX11_mark_1 (Nat.le_of_ble_eq_true rfl) (MCv_go q (fun h1 q => ?_))
  refine m_aload_n dX11_mark_4 rfl ?_
  refine gf_X11_183 rfl dX11_mark_5 ?_
  refine m_if_ne 17 dX11_mark_8 (by decide) (fun c2 => ?_) (fun c2 => ?_)
  · replace q := q.1 c2
    refine m_aload_n dX11_mark_17 rfl ?_
    refine gf_X11_195 rfl dX11_mark_18 ?_
    refine m_iconst (v := 4) dX11_mark_21 (by decide) ?_
    refine m_icmp_ne 31 dX11_mark_22 (by decide) (fun c3 => ?_) (fun c3 => ?_)
    · replace q := q.1 c3
      refine m_aload_n dX11_mark_31 rfl ?_
      refine gf_X11_20 rfl dX11_mark_32 ?_
      refine m_iconst (v := 0) dX11_mark_35 (by decide) ?_
      refine m_aload_n dX11_mark_36 rfl ?_
      refine gf_X11_38 rfl dX11_mark_37 ?_
      refine m_bipush (v := 49) dX11_mark_40 (by decide) ?_
      refine m_aload_n dX11_mark_42 rfl ?_
      refine gf_X11_195 rfl dX11_mark_43 ?_
      refine m_imul dX11_mark_46 ?_
      refine m_bipush (v := 49) dX11_mark_47 (by decide) ?_
      refine cl_X11_399 rfl (by decide) dX11_mark_49 (Nat.le_of_ble_eq_true rfl) (MCv_go q (fun h4 q => ?_))
      refine m_aload_n dX11_mark_52 rfl ?_
      refine m_dup dX11_mark_53 rfl ?_
      refine gf_X11_195 rfl dX11_mark_54 ?_
      refine m_iconst (v := 1) dX11_mark_57 (by decide) ?_
      refine m_iadd dX11_mark_58 ?_
      refine pf_X11_195 rfl dX11_mark_59 ?_
      refine m_aload_n dX11_mark_62 rfl ?_
      refine gf_X11_195 rfl dX11_mark_63 ?_
      refine m_iconst (v := 1) dX11_mark_66 (by decide) ?_
      refine m_isub dX11_mark_67 ?_
      exact m_iret dX11_mark_68 rfl q
    · replace q := q.2 c3
      refine m_aload_n dX11_mark_25 rfl ?_
      refine m_iconst (v := 3) dX11_mark_26 (by decide) ?_
      refine cl_X11_177 rfl (by decide) dX11_mark_27 (Nat.le_of_ble_eq_true rfl) (MCi_go q (fun r6 h5 q => ?_))
      exact m_iret dX11_mark_30 rfl q
  · replace q := q.2 c2
    refine m_aload_n dX11_mark_11 rfl ?_
    refine m_iconst (v := 1) dX11_mark_12 (by decide) ?_
    refine cl_X11_177 rfl (by decide) dX11_mark_13 (Nat.le_of_ble_eq_true rfl) (MCi_go q (fun r8 h7 q => ?_))
    exact m_iret dX11_mark_16 rfl q
set_option maxRecDepth 100000 in
theorem e_X11_back {g : gT} {h : mh_T} {P : Int32 → mh_T → Prop} (l1 : Int32) (q : MCv g yX11_good uX11_good [.ref 11] h (fun h1 => MCi g yX11_within uX11_within [.int l1, .int 0, .int ((mI h1 11 26) - 1)] h1 (fun r3 h2 => (¬ r3 = 0 → MCv g yX11_copy uX11_copy [.ref 51, .int (49 * l1), .ref 45, .int 0, .int 49] h2 (fun h5 => MCv g yX11_noCoins uX11_noCoins [.ref 11] (wI (wI h5 11 24 0) 11 25 0) (fun h6 => P 1 h6))) ∧ (r3 = 0 → MCi g yX11_isNot uX11_isNot [.ref 11, .int 1] h2 (fun r8 h7 => (r8 = 0 ∨ r8 = 1) ∧ P r8 h7))))) : MCi g yX11_back uX11_back [.ref 11, .int l1] h P := by
  refine m_enter (by decide) rfl (Nat.le_of_ble_eq_true rfl) (lv := [.ref 11, .int l1]) rfl ?_
  refine m_aload_n dX11_back_0 rfl ?_
  refine cl_X11_174 rfl (by decide) dX11_back_1 (Nat.le_of_ble_eq_true rfl) (MCv_go q (fun h1 q => ?_))
  refine m_iload_n dX11_back_4 rfl ?_
  refine m_iconst (v := 0) dX11_back_5 (by decide) ?_
  refine m_aload_n dX11_back_6 rfl ?_
  refine gf_X11_195 rfl dX11_back_7 ?_
  refine m_iconst (v := 1) dX11_back_10 (by decide) ?_
  refine m_isub dX11_back_11 ?_
  refine cl_X11_170 rfl (by decide) dX11_back_12 (Nat.le_of_ble_eq_true rfl) (MCi_go q (fun r3 h2 q => ?_))
  refine m_if_ne 24 dX11_back_15 (by decide) (fun c4 => ?_) (fun c4 => ?_)
  · replace q := q.1 c4
    refine m_aload_n dX11_back_24 rfl ?_
    refine gf_X11_38 rfl dX11_back_25 ?_
    refine m_bipush (v := 49) dX11_back_28 (by decide) ?_
    refine m_iload_n dX11_back_30 rfl ?_
    refine m_imul dX11_back_31 ?_
    refine m_aload_n dX11_back_32 rfl ?_
    refine gf_X11_20 rfl dX11_back_33 ?_
    refine m_iconst (v := 0) dX11_back_36 (by decide) ?_
    refine m_bipush (v := 49) dX11_back_37 (by decide) ?_
    refine cl_X11_399 rfl (by decide) dX11_back_39 (Nat.le_of_ble_eq_true rfl) (MCv_go q (fun h5 q => ?_))
    refine m_aload_n dX11_back_42 rfl ?_
    refine m_iconst (v := 0) dX11_back_43 (by decide) ?_
    refine pf_X11_189 rfl dX11_back_44 ?_
    refine m_aload_n dX11_back_47 rfl ?_
    refine m_iconst (v := 0) dX11_back_48 (by decide) ?_
    refine pf_X11_192 rfl dX11_back_49 ?_
    refine m_aload_n dX11_back_52 rfl ?_
    refine cl_X11_186 rfl (by decide) dX11_back_53 (Nat.le_of_ble_eq_true rfl) (MCv_go q (fun h6 q => ?_))
    refine m_iconst (v := 1) dX11_back_56 (by decide) ?_
    exact m_zret dX11_back_57 rfl (by decide) q
  · replace q := q.2 c4
    refine m_aload_n dX11_back_18 rfl ?_
    refine m_iconst (v := 1) dX11_back_19 (by decide) ?_
    refine cl_X11_336 rfl (by decide) dX11_back_20 (Nat.le_of_ble_eq_true rfl) (MCi_go q (fun r8 h7 q => ?_))
    exact m_zret dX11_back_23 rfl q.1 q.2
set_option maxRecDepth 100000 in
theorem e_X11_act {g : gT} {h : mh_T} {P : Int32 → mh_T → Prop} (l1 : Int32) (l2 : Int32) (q : MCv g yX11_good uX11_good [.ref 11] h (fun h1 => ((mI h1 11 14) = 0 → MCi g yX11_no uX11_no [.ref 11, .int 1] h1 (fun r4 h3 => P r4 h3)) ∧ (¬ (mI h1 11 14) = 0 → MCi g yX11_within uX11_within [.int l1, .int 0, .int ((mI h1 11 24) - 1)] h1 (fun r6 h5 => (r6 = 0 → MCi g yX11_no uX11_no [.ref 11, .int 1] h5 (fun r9 h8 => P r9 h8)) ∧ (¬ r6 = 0 → MCi g yX11_within uX11_within [.int l2, .int 0, .int 4] h5 (fun r11 h10 => (r11 = 0 → MCi g yX11_no uX11_no [.ref 11, .int 1] h10 (fun r14 h13 => P r14 h13)) ∧ (¬ r11 = 0 → (vp_in ((5 * l1) + l2) 100) ∧ (P (mI h10 52 ((5 * l1) + l2).toNatClampNeg) h10)))))))) : MCi g yX11_act uX11_act [.ref 11, .int l1, .int l2] h P := by
  refine m_enter (by decide) rfl (Nat.le_of_ble_eq_true rfl) (lv := [.ref 11, .int l1, .int l2]) rfl ?_
  refine m_aload_n dX11_act_0 rfl ?_
  refine cl_X11_174 rfl (by decide) dX11_act_1 (Nat.le_of_ble_eq_true rfl) (MCv_go q (fun h1 q => ?_))
  refine m_aload_n dX11_act_4 rfl ?_
  refine gf_X11_183 rfl dX11_act_5 ?_
  refine m_if_eq 47 dX11_act_8 (by decide) (fun c2 => ?_) (fun c2 => ?_)
  · replace q := q.1 c2
    refine m_aload_n dX11_act_47 rfl ?_
    refine m_iconst (v := 1) dX11_act_48 (by decide) ?_
    refine cl_X11_177 rfl (by decide) dX11_act_49 (Nat.le_of_ble_eq_true rfl) (MCi_go q (fun r4 h3 q => ?_))
    exact m_iret dX11_act_52 rfl q
  · replace q := q.2 c2
    refine m_iload_n dX11_act_11 rfl ?_
    refine m_iconst (v := 0) dX11_act_12 (by decide) ?_
    refine m_aload_n dX11_act_13 rfl ?_
    refine gf_X11_189 rfl dX11_act_14 ?_
    refine m_iconst (v := 1) dX11_act_17 (by decide) ?_
    refine m_isub dX11_act_18 ?_
    refine cl_X11_170 rfl (by decide) dX11_act_19 (Nat.le_of_ble_eq_true rfl) (MCi_go q (fun r6 h5 q => ?_))
    refine m_if_eq 47 dX11_act_22 (by decide) (fun c7 => ?_) (fun c7 => ?_)
    · replace q := q.1 c7
      refine m_aload_n dX11_act_47 rfl ?_
      refine m_iconst (v := 1) dX11_act_48 (by decide) ?_
      refine cl_X11_177 rfl (by decide) dX11_act_49 (Nat.le_of_ble_eq_true rfl) (MCi_go q (fun r9 h8 q => ?_))
      exact m_iret dX11_act_52 rfl q
    · replace q := q.2 c7
      refine m_iload_n dX11_act_25 rfl ?_
      refine m_iconst (v := 0) dX11_act_26 (by decide) ?_
      refine m_iconst (v := 4) dX11_act_27 (by decide) ?_
      refine cl_X11_170 rfl (by decide) dX11_act_28 (Nat.le_of_ble_eq_true rfl) (MCi_go q (fun r11 h10 q => ?_))
      refine m_if_eq 47 dX11_act_31 (by decide) (fun c12 => ?_) (fun c12 => ?_)
      · replace q := q.1 c12
        refine m_aload_n dX11_act_47 rfl ?_
        refine m_iconst (v := 1) dX11_act_48 (by decide) ?_
        refine cl_X11_177 rfl (by decide) dX11_act_49 (Nat.le_of_ble_eq_true rfl) (MCi_go q (fun r14 h13 q => ?_))
        exact m_iret dX11_act_52 rfl q
      · replace q := q.2 c12
        refine m_aload_n dX11_act_34 rfl ?_
        refine gf_X11_41 rfl dX11_act_35 ?_
        refine m_iconst (v := 5) dX11_act_38 (by decide) ?_
        refine m_iload_n dX11_act_39 rfl ?_
        refine m_imul dX11_act_40 ?_
        refine m_iload_n dX11_act_41 rfl ?_
        refine m_iadd dX11_act_42 ?_
        obtain ⟨b15, q⟩ := q
        refine m_iaload dX11_act_43 rfl (by decide) b15 ?_
        refine m_goto 52 dX11_act_44 (by decide) ?_
        exact m_iret dX11_act_52 rfl q
set_option maxRecDepth 100000 in
theorem e_X11_times {g : gT} {h : mh_T} {P : Int32 → mh_T → Prop} (l1 : Int32) (l2 : Int32) (q : MCv g yX11_good uX11_good [.ref 11] h (fun h1 => MCi g yX11_isOutcome uX11_isOutcome [.ref 11, .int l1, .int l2] h1 (fun r3 h2 => (r3 = 0 → MCi g yX11_no uX11_no [.ref 11, .int 1] h2 (fun r6 h5 => P r6 h5)) ∧ (¬ r3 = 0 → (vp_in ((17 + (4 * l1)) + l2) 346) ∧ (P (mI h2 45 ((17 + (4 * l1)) + l2).toNatClampNeg) h2))))) : MCi g yX11_times uX11_times [.ref 11, .int l1, .int l2] h P := by
  refine m_enter (by decide) rfl (Nat.le_of_ble_eq_true rfl) (lv := [.ref 11, .int l1, .int l2]) rfl ?_
  refine m_aload_n dX11_times_0 rfl ?_
  refine cl_X11_174 rfl (by decide) dX11_times_1 (Nat.le_of_ble_eq_true rfl) (MCv_go q (fun h1 q => ?_))
  refine m_aload_n dX11_times_4 rfl ?_
  refine m_iload_n dX11_times_5 rfl ?_
  refine m_iload_n dX11_times_6 rfl ?_
  refine cl_X11_305 rfl (by decide) dX11_times_7 (Nat.le_of_ble_eq_true rfl) (MCi_go q (fun r3 h2 q => ?_))
  refine m_if_eq 29 dX11_times_10 (by decide) (fun c4 => ?_) (fun c4 => ?_)
  · replace q := q.1 c4
    refine m_aload_n dX11_times_29 rfl ?_
    refine m_iconst (v := 1) dX11_times_30 (by decide) ?_
    refine cl_X11_177 rfl (by decide) dX11_times_31 (Nat.le_of_ble_eq_true rfl) (MCi_go q (fun r6 h5 q => ?_))
    exact m_iret dX11_times_34 rfl q
  · replace q := q.2 c4
    refine m_aload_n dX11_times_13 rfl ?_
    refine gf_X11_20 rfl dX11_times_14 ?_
    refine m_bipush (v := 17) dX11_times_17 (by decide) ?_
    refine m_iconst (v := 4) dX11_times_19 (by decide) ?_
    refine m_iload_n dX11_times_20 rfl ?_
    refine m_imul dX11_times_21 ?_
    refine m_iadd dX11_times_22 ?_
    refine m_iload_n dX11_times_23 rfl ?_
    refine m_iadd dX11_times_24 ?_
    obtain ⟨b7, q⟩ := q
    refine m_iaload dX11_times_25 rfl (by decide) b7 ?_
    refine m_goto 34 dX11_times_26 (by decide) ?_
    exact m_iret dX11_times_34 rfl q
set_option maxRecDepth 100000 in
theorem e_X11_look {g : gT} {h : mh_T} {P : Int32 → mh_T → Prop} (l1 : Int32) (l2 : Int32) (q : MCv g yX11_good uX11_good [.ref 11] h (fun h1 => MCi g yX11_isSet uX11_isSet [.ref 11, .int l1] h1 (fun r3 h2 => (r3 = 0 → MCi g yX11_no uX11_no [.ref 11, .int 1] h2 (fun r6 h5 => P r6 h5)) ∧ (¬ r3 = 0 → (l2 = 0 → (vp_in (1 + l1) 346) ∧ (P (mI h2 45 (1 + l1).toNatClampNeg) h2)) ∧ (¬ l2 = 0 → (vp_in (9 + l1) 346) ∧ (P (mI h2 45 (9 + l1).toNatClampNeg) h2)))))) : MCi g yX11_look uX11_look [.ref 11, .int l1, .int l2] h P := by
  refine m_enter (by decide) rfl (Nat.le_of_ble_eq_true rfl) (lv := [.ref 11, .int l1, .int l2]) rfl ?_
  refine m_aload_n dX11_look_0 rfl ?_
  refine cl_X11_174 rfl (by decide) dX11_look_1 (Nat.le_of_ble_eq_true rfl) (MCv_go q (fun h1 q => ?_))
  refine m_aload_n dX11_look_4 rfl ?_
  refine m_iload_n dX11_look_5 rfl ?_
  refine cl_X11_244 rfl (by decide) dX11_look_6 (Nat.le_of_ble_eq_true rfl) (MCi_go q (fun r3 h2 q => ?_))
  refine m_if_eq 32 dX11_look_9 (by decide) (fun c4 => ?_) (fun c4 => ?_)
  · replace q := q.1 c4
    refine m_aload_n dX11_look_32 rfl ?_
    refine m_iconst (v := 1) dX11_look_33 (by decide) ?_
    refine cl_X11_177 rfl (by decide) dX11_look_34 (Nat.le_of_ble_eq_true rfl) (MCi_go q (fun r6 h5 q => ?_))
    exact m_iret dX11_look_37 rfl q
  · replace q := q.2 c4
    refine m_aload_n dX11_look_12 rfl ?_
    refine gf_X11_20 rfl dX11_look_13 ?_
    refine m_iload_n dX11_look_16 rfl ?_
    refine m_if_eq 25 dX11_look_17 (by decide) (fun c7 => ?_) (fun c7 => ?_)
    · replace q := q.1 c7
      refine m_iconst (v := 1) dX11_look_25 (by decide) ?_
      refine m_iload_n dX11_look_26 rfl ?_
      refine m_iadd dX11_look_27 ?_
      obtain ⟨b8, q⟩ := q
      refine m_iaload dX11_look_28 rfl (by decide) b8 ?_
      refine m_goto 37 dX11_look_29 (by decide) ?_
      exact m_iret dX11_look_37 rfl q
    · replace q := q.2 c7
      refine m_bipush (v := 9) dX11_look_20 (by decide) ?_
      refine m_goto 26 dX11_look_22 (by decide) ?_
      refine m_iload_n dX11_look_26 rfl ?_
      refine m_iadd dX11_look_27 ?_
      obtain ⟨b9, q⟩ := q
      refine m_iaload dX11_look_28 rfl (by decide) b9 ?_
      refine m_goto 37 dX11_look_29 (by decide) ?_
      exact m_iret dX11_look_37 rfl q
set_option maxRecDepth 100000 in
theorem e_X11_coins {g : gT} {h : mh_T} {P : Int32 → mh_T → Prop} (l1 : Int32) (l2 : Int32) (q : MCv g yX11_good uX11_good [.ref 11] h (fun h1 => MCi g yX11_isOutcome uX11_isOutcome [.ref 11, .int l1, .int l2] h1 (fun r3 h2 => (r3 = 0 → MCi g yX11_no uX11_no [.ref 11, .int 1] h2 (fun r6 h5 => P r6 h5)) ∧ (¬ r3 = 0 → (vp_in ((4 * l1) + l2) 32) ∧ (P (mI h2 47 ((4 * l1) + l2).toNatClampNeg) h2))))) : MCi g yX11_coins uX11_coins [.ref 11, .int l1, .int l2] h P := by
  refine m_enter (by decide) rfl (Nat.le_of_ble_eq_true rfl) (lv := [.ref 11, .int l1, .int l2]) rfl ?_
  refine m_aload_n dX11_coins_0 rfl ?_
  refine cl_X11_174 rfl (by decide) dX11_coins_1 (Nat.le_of_ble_eq_true rfl) (MCv_go q (fun h1 q => ?_))
  refine m_aload_n dX11_coins_4 rfl ?_
  refine m_iload_n dX11_coins_5 rfl ?_
  refine m_iload_n dX11_coins_6 rfl ?_
  refine cl_X11_305 rfl (by decide) dX11_coins_7 (Nat.le_of_ble_eq_true rfl) (MCi_go q (fun r3 h2 q => ?_))
  refine m_if_eq 26 dX11_coins_10 (by decide) (fun c4 => ?_) (fun c4 => ?_)
  · replace q := q.1 c4
    refine m_aload_n dX11_coins_26 rfl ?_
    refine m_iconst (v := 1) dX11_coins_27 (by decide) ?_
    refine cl_X11_177 rfl (by decide) dX11_coins_28 (Nat.le_of_ble_eq_true rfl) (MCi_go q (fun r6 h5 q => ?_))
    exact m_iret dX11_coins_31 rfl q
  · replace q := q.2 c4
    refine m_aload_n dX11_coins_13 rfl ?_
    refine gf_X11_26 rfl dX11_coins_14 ?_
    refine m_iconst (v := 4) dX11_coins_17 (by decide) ?_
    refine m_iload_n dX11_coins_18 rfl ?_
    refine m_imul dX11_coins_19 ?_
    refine m_iload_n dX11_coins_20 rfl ?_
    refine m_iadd dX11_coins_21 ?_
    obtain ⟨b7, q⟩ := q
    refine m_iaload dX11_coins_22 rfl (by decide) b7 ?_
    refine m_goto 31 dX11_coins_23 (by decide) ?_
    exact m_iret dX11_coins_31 rfl q
set_option maxRecDepth 100000 in
theorem e_X11_led {g : gT} {h : mh_T} {P : Int32 → mh_T → Prop} (l1 : Int32) (q : ME g uX11_led 4 [.ref 11, .int l1, .int 0, .int 0, .retAddr 0] [] h (qI P)) : MCi g yX11_led uX11_led [.ref 11, .int l1] h P := by
  refine m_enter (by decide) rfl (Nat.le_of_ble_eq_true rfl) (lv := [.ref 11, .int l1, .retAddr 0, .retAddr 0, .retAddr 0]) rfl ?_
  refine m_iconst (v := 0) dX11_led_0 (by decide) ?_
  refine m_istore_n (lv' := [.ref 11, .int l1, .int 0, .retAddr 0, .retAddr 0]) dX11_led_1 (Nat.le_of_ble_eq_true rfl) rfl rfl ?_
  refine m_iconst (v := 0) dX11_led_2 (by decide) ?_
  refine m_istore_n (lv' := [.ref 11, .int l1, .int 0, .int 0, .retAddr 0]) dX11_led_3 (Nat.le_of_ble_eq_true rfl) rfl rfl ?_
  exact q
set_option maxRecDepth 100000 in
theorem r_X11_led_4 {g : gT} {h : mh_T} {P : Int32 → mh_T → Prop} (l1 : Int32) (l2 : Int32) (l3 : Int32) (q : ((mI h 11 14) = 0 → P 0 (wI h 11 0 1)) ∧ (¬ (mI h 11 14) = 0 → ((mI h 45 (Int32.toNatClampNeg 0)) ≤ l3 → P 0 (wI h 11 0 1)) ∧ (¬ (mI h 45 (Int32.toNatClampNeg 0)) ≤ l3 → ME g uX11_led 24 [.ref 11, .int l1, .int l2, .int l3, .int 0] [] h (qI P)))) : ME g uX11_led 4 [.ref 11, .int l1, .int l2, .int l3, .retAddr 0] [] h (qI P) := by
  refine m_aload_n dX11_led_4 rfl ?_
  refine gf_X11_183 rfl dX11_led_5 ?_
  refine m_if_eq 99 dX11_led_8 (by decide) (fun c1 => ?_) (fun c1 => ?_)
  · replace q := q.1 c1
    refine m_aload_n dX11_led_99 rfl ?_
    refine m_iconst (v := 1) dX11_led_100 (by decide) ?_
    refine pf_X11_69 rfl dX11_led_101 ?_
    refine m_iconst (v := 0) dX11_led_104 (by decide) ?_
    exact m_iret dX11_led_105 rfl q
  · replace q := q.2 c1
    refine m_iload_n dX11_led_11 rfl ?_
    refine m_aload_n dX11_led_12 rfl ?_
    refine gf_X11_20 rfl dX11_led_13 ?_
    refine m_iconst (v := 0) dX11_led_16 (by decide) ?_
    refine m_iaload dX11_led_17 rfl (by decide) (by unfold vp_in; decide) ?_
    refine m_icmp_ge 99 dX11_led_18 (by decide) (fun c2 => ?_) (fun c2 => ?_)
    · replace q := q.1 c2
      refine m_aload_n dX11_led_99 rfl ?_
      refine m_iconst (v := 1) dX11_led_100 (by decide) ?_
      refine pf_X11_69 rfl dX11_led_101 ?_
      refine m_iconst (v := 0) dX11_led_104 (by decide) ?_
      exact m_iret dX11_led_105 rfl q
    · replace q := q.2 c2
      refine m_iconst (v := 0) dX11_led_21 (by decide) ?_
      refine m_istore (lv' := [.ref 11, .int l1, .int l2, .int l3, .int 0]) dX11_led_22 (Nat.le_of_ble_eq_true rfl) rfl rfl ?_
      exact q
set_option maxRecDepth 100000 in
theorem r_X11_led_24 {g : gT} {h : mh_T} {P : Int32 → mh_T → Prop} (l1 : Int32) (l2 : Int32) (l3 : Int32) (l4 : Int32) (q : MCi g yX11_outcomes uX11_outcomes [.ref 45, .int l3] h (fun r2 h1 => (r2 ≤ l4 → ME g uX11_led 4 [.ref 11, .int l1, .int l2, .int (l3 + 1), .retAddr 0] [] h1 (qI P)) ∧ (¬ r2 ≤ l4 → (vp_in ((17 + (4 * l3)) + l4) 346) ∧ (((mI h1 45 ((17 + (4 * l3)) + l4).toNatClampNeg) = 0 → ME g uX11_led 24 [.ref 11, .int l1, .int l2, .int l3, .int (l4 + 1)] [] h1 (qI P)) ∧ (¬ (mI h1 45 ((17 + (4 * l3)) + l4).toNatClampNeg) = 0 → MCi g yX11_doesExtend uX11_doesExtend [.ref 11, .int l3, .int l4] h1 (fun r7 h6 => (r7 = 0 → (¬ l2 = l1 → ME g uX11_led 24 [.ref 11, .int l1, .int (l2 + 1), .int l3, .int (l4 + 1)] [] h6 (qI P)) ∧ (l2 = l1 → P ((4 * l3) + l4) (wI h6 11 0 0))) ∧ (¬ r7 = 0 → ME g uX11_led 24 [.ref 11, .int l1, .int l2, .int l3, .int (l4 + 1)] [] h6 (qI P)))))))) : ME g uX11_led 24 [.ref 11, .int l1, .int l2, .int l3, .int l4] [] h (qI P) := by
  refine m_iload dX11_led_24 rfl ?_
  refine m_aload_n dX11_led_26 rfl ?_
  refine gf_X11_20 rfl dX11_led_27 ?_
  refine m_iload_n dX11_led_30 rfl ?_
  refine cl_X11_247 rfl (by decide) dX11_led_31 (Nat.le_of_ble_eq_true rfl) (MCi_go q (fun r2 h1 q => ?_))
  refine m_icmp_ge 93 dX11_led_34 (by decide) (fun c3 => ?_) (fun c3 => ?_)
  · replace q := q.1 c3
    refine m_iinc (v := (l3 + 1)) (lv' := [.ref 11, .int l1, .int l2, .int (l3 + 1), .int l4]) dX11_led_93 (Nat.le_of_ble_eq_true rfl) rfl (congrArg (fun z => l3 + z) (by decide : Int32.ofInt 1 = 1)) rfl rfl ?_
    refine m_goto 4 dX11_led_96 (by decide) ?_
    refine m_dropK (lv' := [.ref 11, .int l1, .int l2, .int (l3 + 1), .retAddr 0]) [4] rfl ?_
    exact q
  · replace q := q.2 c3
    refine m_aload_n dX11_led_37 rfl ?_
    refine gf_X11_20 rfl dX11_led_38 ?_
    refine m_bipush (v := 17) dX11_led_41 (by decide) ?_
    refine m_iconst (v := 4) dX11_led_43 (by decide) ?_
    refine m_iload_n dX11_led_44 rfl ?_
    refine m_imul dX11_led_45 ?_
    refine m_iadd dX11_led_46 ?_
    refine m_iload dX11_led_47 rfl ?_
    refine m_iadd dX11_led_49 ?_
    obtain ⟨b4, q⟩ := q
    refine m_iaload dX11_led_50 rfl (by decide) b4 ?_
    refine m_if_eq 87 dX11_led_51 (by decide) (fun c5 => ?_) (fun c5 => ?_)
    · replace q := q.1 c5
      refine m_iinc (v := (l4 + 1)) (lv' := [.ref 11, .int l1, .int l2, .int l3, .int (l4 + 1)]) dX11_led_87 (Nat.le_of_ble_eq_true rfl) rfl (congrArg (fun z => l4 + z) (by decide : Int32.ofInt 1 = 1)) rfl rfl ?_
      refine m_goto 24 dX11_led_90 (by decide) ?_
      exact q
    · replace q := q.2 c5
      refine m_aload_n dX11_led_54 rfl ?_
      refine m_iload_n dX11_led_55 rfl ?_
      refine m_iload dX11_led_56 rfl ?_
      refine cl_X11_308 rfl (by decide) dX11_led_58 (Nat.le_of_ble_eq_true rfl) (MCi_go q (fun r7 h6 q => ?_))
      refine m_if_eq 67 dX11_led_61 (by decide) (fun c8 => ?_) (fun c8 => ?_)
      · replace q := q.1 c8
        refine m_iload_n dX11_led_67 rfl ?_
        refine m_iload_n dX11_led_68 rfl ?_
        refine m_icmp_ne 84 dX11_led_69 (by decide) (fun c9 => ?_) (fun c9 => ?_)
        · replace q := q.1 c9
          refine m_iinc (v := (l2 + 1)) (lv' := [.ref 11, .int l1, .int (l2 + 1), .int l3, .int l4]) dX11_led_84 (Nat.le_of_ble_eq_true rfl) rfl (congrArg (fun z => l2 + z) (by decide : Int32.ofInt 1 = 1)) rfl rfl ?_
          refine m_iinc (v := (l4 + 1)) (lv' := [.ref 11, .int l1, .int (l2 + 1), .int l3, .int (l4 + 1)]) dX11_led_87 (Nat.le_of_ble_eq_true rfl) rfl (congrArg (fun z => l4 + z) (by decide : Int32.ofInt 1 = 1)) rfl rfl ?_
          refine m_goto 24 dX11_led_90 (by decide) ?_
          exact q
        · replace q := q.2 c9
          refine m_aload_n dX11_led_72 rfl ?_
          refine m_iconst (v := 0) dX11_led_73 (by decide) ?_
          refine pf_X11_69 rfl dX11_led_74 ?_
          refine m_iconst (v := 4) dX11_led_77 (by decide) ?_
          refine m_iload_n dX11_led_78 rfl ?_
          refine m_imul dX11_led_79 ?_
          refine m_iload dX11_led_80 rfl ?_
          refine m_iadd dX11_led_82 ?_
          exact m_iret dX11_led_83 rfl q
      · replace q := q.2 c8
        refine m_goto 87 dX11_led_64 (by decide) ?_
        refine m_iinc (v := (l4 + 1)) (lv' := [.ref 11, .int l1, .int l2, .int l3, .int (l4 + 1)]) dX11_led_87 (Nat.le_of_ble_eq_true rfl) rfl (congrArg (fun z => l4 + z) (by decide : Int32.ofInt 1 = 1)) rfl rfl ?_
        refine m_goto 24 dX11_led_90 (by decide) ?_
        exact q
theorem sw_9 (x : Int32) : (x.toInt < 0 ∨ 9 < x.toInt) ∨ x = 0 ∨ x = 1 ∨ x = 2 ∨ x = 3 ∨ x = 4 ∨ x = 5 ∨ x = 6 ∨ x = 7 ∨ x = 8 ∨ x = 9 := by
  rcases sw_10 x with h | h | h | h | h | h | h | h | h | h | h | h
  · exact Or.inl (h.imp id (fun q => by omega))
  · exact Or.inr (Or.inl h)
  · exact Or.inr (Or.inr (Or.inl h))
  · exact Or.inr (Or.inr (Or.inr (Or.inl h)))
  · exact Or.inr (Or.inr (Or.inr (Or.inr (Or.inl h))))
  · exact Or.inr (Or.inr (Or.inr (Or.inr (Or.inr (Or.inl h)))))
  · exact Or.inr (Or.inr (Or.inr (Or.inr (Or.inr (Or.inr (Or.inl h))))))
  · exact Or.inr (Or.inr (Or.inr (Or.inr (Or.inr (Or.inr (Or.inr (Or.inl h)))))))
  · exact Or.inr (Or.inr (Or.inr (Or.inr (Or.inr (Or.inr (Or.inr (Or.inr (Or.inl h))))))))
  · exact Or.inr (Or.inr (Or.inr (Or.inr (Or.inr (Or.inr (Or.inr (Or.inr (Or.inr (Or.inl h)))))))))
  · exact Or.inr (Or.inr (Or.inr (Or.inr (Or.inr (Or.inr (Or.inr (Or.inr (Or.inr (Or.inr h)))))))))
  · exact Or.inl (Or.inr (by rw [h]; decide))
set_option maxRecDepth 100000 in
theorem e_X11_size {g : gT} {h : mh_T} {P : Int32 → mh_T → Prop} (l1 : Int32) (q : (¬ l1 = 10 → (¬ (mI (wI h 11 0 0) 11 14) = 0 → (l1.toInt < 0 ∨ 9 < l1.toInt → P (-1) (wI h 11 0 0)) ∧ (l1 = 0 → P (mI (wI h 11 0 0) 45 (Int32.toNatClampNeg 50)) (wI h 11 0 0)) ∧ (l1 = 1 → P (mI (wI h 11 0 0) 45 (Int32.toNatClampNeg 51)) (wI h 11 0 0)) ∧ (l1 = 2 → P (mI (wI h 11 0 0) 45 (Int32.toNatClampNeg 0)) (wI h 11 0 0)) ∧ (l1 = 3 → P (mI (wI h 11 0 0) 45 (Int32.toNatClampNeg 52)) (wI h 11 0 0)) ∧ (l1 = 4 → P (mI (wI h 11 0 0) 45 (Int32.toNatClampNeg 85)) (wI h 11 0 0)) ∧ (l1 = 5 → P (mI (wI h 11 0 0) 45 (Int32.toNatClampNeg 158)) (wI h 11 0 0)) ∧ (l1 = 6 → P (mI (wI h 11 0 0) 45 (Int32.toNatClampNeg 49)) (wI h 11 0 0)) ∧ (l1 = 7 → P (mI (wI h 11 0 0) 11 24) (wI h 11 0 0)) ∧ (l1 = 8 → P (mI (wI h 11 0 0) 11 25) (wI h 11 0 0)) ∧ (l1 = 9 → P (mI (wI h 11 0 0) 11 26) (wI h 11 0 0))) ∧ ((mI (wI h 11 0 0) 11 14) = 0 → MCi g yX11_within uX11_within [.int l1, .int 0, .int 9] (wI h 11 0 0) (fun r5 h4 => (r5 = 0 → P (-1) h4) ∧ (¬ r5 = 0 → P 0 h4)))) ∧ (l1 = 10 → P (mI (wI h 11 0 0) 11 2) (wI h 11 0 0))) : MCi g yX11_size uX11_size [.ref 11, .int l1] h P := by
  refine m_enter (by decide) rfl (Nat.le_of_ble_eq_true rfl) (lv := [.ref 11, .int l1]) rfl ?_
  refine m_aload_n dX11_size_0 rfl ?_
  refine m_iconst (v := 0) dX11_size_1 (by decide) ?_
  refine pf_X11_69 rfl dX11_size_2 ?_
  refine m_iload_n dX11_size_5 rfl ?_
  refine m_bipush (v := 10) dX11_size_6 (by decide) ?_
  refine m_icmp_ne 16 dX11_size_8 (by decide) (fun c1 => ?_) (fun c1 => ?_)
  · replace q := q.1 c1
    refine m_aload_n dX11_size_16 rfl ?_
    refine gf_X11_183 rfl dX11_size_17 ?_
    refine m_if_ne 39 dX11_size_20 (by decide) (fun c2 => ?_) (fun c2 => ?_)
    · replace q := q.1 c2
      refine m_iload_n dX11_size_39 rfl ?_
      rcases sw_9 l1 with c3 | c3 | c3 | c3 | c3 | c3 | c3 | c3 | c3 | c3 | c3
      · replace q := q.1 c3
        refine m_tableOut 167 dX11_size_40 c3 (by decide) ?_
        refine m_iconst (v := (-1)) dX11_size_167 (by decide) ?_
        exact m_iret dX11_size_168 rfl q
      · replace q := q.2.1 c3
        refine m_tableIn (off := 56) 96 dX11_size_40 (by rw [c3]; decide) (by rw [c3]; decide) (by rw [c3]; decide) (by decide) ?_
        refine m_aload_n dX11_size_96 rfl ?_
        refine gf_X11_20 rfl dX11_size_97 ?_
        refine m_bipush (v := 50) dX11_size_100 (by decide) ?_
        refine m_iaload dX11_size_102 rfl (by decide) (by unfold vp_in; decide) ?_
        exact m_iret dX11_size_103 rfl q
      · replace q := q.2.2.1 c3
        refine m_tableIn (off := 64) 104 dX11_size_40 (by rw [c3]; decide) (by rw [c3]; decide) (by rw [c3]; decide) (by decide) ?_
        refine m_aload_n dX11_size_104 rfl ?_
        refine gf_X11_20 rfl dX11_size_105 ?_
        refine m_bipush (v := 51) dX11_size_108 (by decide) ?_
        refine m_iaload dX11_size_110 rfl (by decide) (by unfold vp_in; decide) ?_
        exact m_iret dX11_size_111 rfl q
      · replace q := q.2.2.2.1 c3
        refine m_tableIn (off := 72) 112 dX11_size_40 (by rw [c3]; decide) (by rw [c3]; decide) (by rw [c3]; decide) (by decide) ?_
        refine m_aload_n dX11_size_112 rfl ?_
        refine gf_X11_20 rfl dX11_size_113 ?_
        refine m_iconst (v := 0) dX11_size_116 (by decide) ?_
        refine m_iaload dX11_size_117 rfl (by decide) (by unfold vp_in; decide) ?_
        exact m_iret dX11_size_118 rfl q
      · replace q := q.2.2.2.2.1 c3
        refine m_tableIn (off := 79) 119 dX11_size_40 (by rw [c3]; decide) (by rw [c3]; decide) (by rw [c3]; decide) (by decide) ?_
        refine m_aload_n dX11_size_119 rfl ?_
        refine gf_X11_20 rfl dX11_size_120 ?_
        refine m_bipush (v := 52) dX11_size_123 (by decide) ?_
        refine m_iaload dX11_size_125 rfl (by decide) (by unfold vp_in; decide) ?_
        exact m_iret dX11_size_126 rfl q
      · replace q := q.2.2.2.2.2.1 c3
        refine m_tableIn (off := 87) 127 dX11_size_40 (by rw [c3]; decide) (by rw [c3]; decide) (by rw [c3]; decide) (by decide) ?_
        refine m_aload_n dX11_size_127 rfl ?_
        refine gf_X11_20 rfl dX11_size_128 ?_
        refine m_bipush (v := 85) dX11_size_131 (by decide) ?_
        refine m_iaload dX11_size_133 rfl (by decide) (by unfold vp_in; decide) ?_
        exact m_iret dX11_size_134 rfl q
      · replace q := q.2.2.2.2.2.2.1 c3
        refine m_tableIn (off := 95) 135 dX11_size_40 (by rw [c3]; decide) (by rw [c3]; decide) (by rw [c3]; decide) (by decide) ?_
        refine m_aload_n dX11_size_135 rfl ?_
        refine gf_X11_20 rfl dX11_size_136 ?_
        refine m_sipush (v := 158) dX11_size_139 (by decide) ?_
        refine m_iaload dX11_size_142 rfl (by decide) (by unfold vp_in; decide) ?_
        exact m_iret dX11_size_143 rfl q
      · replace q := q.2.2.2.2.2.2.2.1 c3
        refine m_tableIn (off := 104) 144 dX11_size_40 (by rw [c3]; decide) (by rw [c3]; decide) (by rw [c3]; decide) (by decide) ?_
        refine m_aload_n dX11_size_144 rfl ?_
        refine gf_X11_20 rfl dX11_size_145 ?_
        refine m_bipush (v := 49) dX11_size_148 (by decide) ?_
        refine m_iaload dX11_size_150 rfl (by decide) (by unfold vp_in; decide) ?_
        exact m_iret dX11_size_151 rfl q
      · replace q := q.2.2.2.2.2.2.2.2.1 c3
        refine m_tableIn (off := 112) 152 dX11_size_40 (by rw [c3]; decide) (by rw [c3]; decide) (by rw [c3]; decide) (by decide) ?_
        refine m_aload_n dX11_size_152 rfl ?_
        refine gf_X11_189 rfl dX11_size_153 ?_
        exact m_iret dX11_size_156 rfl q
      · replace q := q.2.2.2.2.2.2.2.2.2.1 c3
        refine m_tableIn (off := 117) 157 dX11_size_40 (by rw [c3]; decide) (by rw [c3]; decide) (by rw [c3]; decide) (by decide) ?_
        refine m_aload_n dX11_size_157 rfl ?_
        refine gf_X11_192 rfl dX11_size_158 ?_
        exact m_iret dX11_size_161 rfl q
      · replace q := q.2.2.2.2.2.2.2.2.2.2 c3
        refine m_tableIn (off := 122) 162 dX11_size_40 (by rw [c3]; decide) (by rw [c3]; decide) (by rw [c3]; decide) (by decide) ?_
        refine m_aload_n dX11_size_162 rfl ?_
        refine gf_X11_195 rfl dX11_size_163 ?_
        exact m_iret dX11_size_166 rfl q
    · replace q := q.2 c2
      refine m_iload_n dX11_size_23 rfl ?_
      refine m_iconst (v := 0) dX11_size_24 (by decide) ?_
      refine m_bipush (v := 9) dX11_size_25 (by decide) ?_
      refine cl_X11_170 rfl (by decide) dX11_size_27 (Nat.le_of_ble_eq_true rfl) (MCi_go q (fun r5 h4 q => ?_))
      refine m_if_eq 37 dX11_size_30 (by decide) (fun c6 => ?_) (fun c6 => ?_)
      · replace q := q.1 c6
        refine m_iconst (v := (-1)) dX11_size_37 (by decide) ?_
        exact m_iret dX11_size_38 rfl q
      · replace q := q.2 c6
        refine m_iconst (v := 0) dX11_size_33 (by decide) ?_
        refine m_goto 38 dX11_size_34 (by decide) ?_
        exact m_iret dX11_size_38 rfl q
  · replace q := q.2 c1
    refine m_aload_n dX11_size_11 rfl ?_
    refine gf_X11_75 rfl dX11_size_12 ?_
    exact m_iret dX11_size_15 rfl q
set_option maxRecDepth 100000 in
theorem e_X11_trouble {g : gT} {h : mh_T} {P : Int32 → mh_T → Prop}  (q : P (mI (wI h 11 0 0) 11 11) (wI h 11 0 0)) : MCi g yX11_trouble uX11_trouble [.ref 11] h P := by
  refine m_enter (by decide) rfl (Nat.le_of_ble_eq_true rfl) (lv := [.ref 11]) rfl ?_
  refine m_aload_n dX11_trouble_0 rfl ?_
  refine m_iconst (v := 0) dX11_trouble_1 (by decide) ?_
  refine pf_X11_69 rfl dX11_trouble_2 ?_
  refine m_aload_n dX11_trouble_5 rfl ?_
  refine gf_X11_72 rfl dX11_trouble_6 ?_
  exact m_iret dX11_trouble_9 rfl q
