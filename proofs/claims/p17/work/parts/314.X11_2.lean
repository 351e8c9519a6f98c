set_option maxRecDepth 100000 in
theorem e_X11_rayLine {g : gT} {h : mh_T} {P : mh_T → Prop}  (q : ((mI h 11 13) = 0 → ∀ x2 : Int32, x2 = (mI h 46 (Int32.toNatClampNeg 85)) → ME g uX11_rayLine 20 [.ref 11, .int x2, .int 0, .int 0, .retAddr 0, .retAddr 0, .retAddr 0] [] h (qV P)) ∧ (¬ (mI h 11 13) = 0 → P h)) : MCv g yX11_rayLine uX11_rayLine [.ref 11] h P := by
  refine m_enter (by decide) rfl (Nat.le_of_ble_eq_true rfl) (lv := [.ref 11, .retAddr 0, .retAddr 0, .retAddr 0, .retAddr 0, .retAddr 0, .retAddr 0]) rfl ?_
  refine m_aload_n dX11_rayLine_0 rfl ?_
  refine gf_X11_107 rfl dX11_rayLine_1 ?_
  refine m_if_eq 8 dX11_rayLine_4 (by decide) (fun c1 => ?_) (fun c1 => ?_)
  · replace q := q.1 c1
    refine m_aload_n dX11_rayLine_8 rfl ?_
    refine gf_X11_23 rfl dX11_rayLine_9 ?_
    refine m_bipush (v := 85) dX11_rayLine_12 (by decide) ?_
    refine m_iaload dX11_rayLine_14 rfl (by decide) (by unfold vp_in; decide) ?_
    obtain ⟨x2, ex2⟩ : ∃ z, z = (mI h 46 (Int32.toNatClampNeg 85)) := ⟨_, rfl⟩
    rw [← ex2]
    replace q := q x2 ex2
    refine m_istore_n (lv' := [.ref 11, .int x2, .retAddr 0, .retAddr 0, .retAddr 0, .retAddr 0, .retAddr 0]) dX11_rayLine_15 (Nat.le_of_ble_eq_true rfl) rfl rfl ?_
    refine m_iconst (v := 0) dX11_rayLine_16 (by decide) ?_
    refine m_istore_n (lv' := [.ref 11, .int x2, .int 0, .retAddr 0, .retAddr 0, .retAddr 0, .retAddr 0]) dX11_rayLine_17 (Nat.le_of_ble_eq_true rfl) rfl rfl ?_
    refine m_iconst (v := 0) dX11_rayLine_18 (by decide) ?_
    refine m_istore_n (lv' := [.ref 11, .int x2, .int 0, .int 0, .retAddr 0, .retAddr 0, .retAddr 0]) dX11_rayLine_19 (Nat.le_of_ble_eq_true rfl) rfl rfl ?_
    exact q
  · replace q := q.2 c1
    exact m_vret dX11_rayLine_7 rfl q
set_option maxRecDepth 100000 in
theorem r_X11_rayLine_20 {g : gT} {h : mh_T} {P : mh_T → Prop} (l1 : Int32) (l2 : Int32) (l3 : Int32) (q : (4 ≤ l3 → (¬ (mI h 11 13) = 0 → P h) ∧ ((mI h 11 13) = 0 → P (wI h 46 (Int32.toNatClampNeg 85) ((mI h 46 (Int32.toNatClampNeg 85)) + 1)))) ∧ (¬ 4 ≤ l3 → (l3 ≤ 0 → ((mI h 11 13) = 0 → (¬ (mI h 11 6) = 45 → (¬ l3 = 3 → MCi g yX11_number uX11_number [.ref 11, .int 0, .int 3] h (fun r10 h9 => (¬ l2 = 0 → (vp_in ((86 + (4 * l1)) + l3) 346) ∧ (ME g uX11_rayLine 20 [.ref 11, .int l1, .int 1, .int (l3 + 1), .retAddr 0, .retAddr 0, .retAddr 0] [] (wI h9 46 ((86 + (4 * l1)) + l3).toNatClampNeg r10) (qV P))) ∧ (l2 = 0 → (r10 ≤ 0 → (vp_in ((86 + (4 * l1)) + l3) 346) ∧ (ME g uX11_rayLine 20 [.ref 11, .int l1, .int 0, .int (l3 + 1), .retAddr 0, .retAddr 0, .retAddr 0] [] (wI h9 46 ((86 + (4 * l1)) + l3).toNatClampNeg r10) (qV P))) ∧ (¬ r10 ≤ 0 → (vp_in ((86 + (4 * l1)) + l3) 346) ∧ (ME g uX11_rayLine 20 [.ref 11, .int l1, .int 1, .int (l3 + 1), .retAddr 0, .retAddr 0, .retAddr 0] [] (wI h9 46 ((86 + (4 * l1)) + l3).toNatClampNeg r10) (qV P)))))) ∧ (l3 = 3 → (¬ l2 = 0 → MCi g yX11_number uX11_number [.ref 11, .int 0, .int 3] h (fun r22 h21 => (¬ l2 = 0 → (vp_in ((86 + (4 * l1)) + l3) 346) ∧ (ME g uX11_rayLine 20 [.ref 11, .int l1, .int 1, .int (l3 + 1), .retAddr 0, .retAddr 0, .retAddr 0] [] (wI h21 46 ((86 + (4 * l1)) + l3).toNatClampNeg r22) (qV P))) ∧ (l2 = 0 → (r22 ≤ 0 → (vp_in ((86 + (4 * l1)) + l3) 346) ∧ (ME g uX11_rayLine 20 [.ref 11, .int l1, .int 0, .int (l3 + 1), .retAddr 0, .retAddr 0, .retAddr 0] [] (wI h21 46 ((86 + (4 * l1)) + l3).toNatClampNeg r22) (qV P))) ∧ (¬ r22 ≤ 0 → (vp_in ((86 + (4 * l1)) + l3) 346) ∧ (ME g uX11_rayLine 20 [.ref 11, .int l1, .int 1, .int (l3 + 1), .retAddr 0, .retAddr 0, .retAddr 0] [] (wI h21 46 ((86 + (4 * l1)) + l3).toNatClampNeg r22) (qV P)))))) ∧ (l2 = 0 → (¬ (mI h 11 6) = 3 → MCi g yX11_number uX11_number [.ref 11, .int 0, .int 3] h (fun r34 h33 => (¬ l2 = 0 → (vp_in ((86 + (4 * l1)) + l3) 346) ∧ (ME g uX11_rayLine 20 [.ref 11, .int l1, .int 1, .int (l3 + 1), .retAddr 0, .retAddr 0, .retAddr 0] [] (wI h33 46 ((86 + (4 * l1)) + l3).toNatClampNeg r34) (qV P))) ∧ (l2 = 0 → (r34 ≤ 0 → (vp_in ((86 + (4 * l1)) + l3) 346) ∧ (ME g uX11_rayLine 20 [.ref 11, .int l1, .int 0, .int (l3 + 1), .retAddr 0, .retAddr 0, .retAddr 0] [] (wI h33 46 ((86 + (4 * l1)) + l3).toNatClampNeg r34) (qV P))) ∧ (¬ r34 ≤ 0 → (vp_in ((86 + (4 * l1)) + l3) 346) ∧ (ME g uX11_rayLine 20 [.ref 11, .int l1, .int 1, .int (l3 + 1), .retAddr 0, .retAddr 0, .retAddr 0] [] (wI h33 46 ((86 + (4 * l1)) + l3).toNatClampNeg r34) (qV P)))))) ∧ ((mI h 11 6) = 3 → (¬ (mI h 11 7) = 0 → MCi g yX11_number uX11_number [.ref 11, .int 0, .int 3] h (fun r46 h45 => (¬ l2 = 0 → (vp_in ((86 + (4 * l1)) + l3) 346) ∧ (ME g uX11_rayLine 20 [.ref 11, .int l1, .int 1, .int (l3 + 1), .retAddr 0, .retAddr 0, .retAddr 0] [] (wI h45 46 ((86 + (4 * l1)) + l3).toNatClampNeg r46) (qV P))) ∧ (l2 = 0 → (r46 ≤ 0 → (vp_in ((86 + (4 * l1)) + l3) 346) ∧ (ME g uX11_rayLine 20 [.ref 11, .int l1, .int 0, .int (l3 + 1), .retAddr 0, .retAddr 0, .retAddr 0] [] (wI h45 46 ((86 + (4 * l1)) + l3).toNatClampNeg r46) (qV P))) ∧ (¬ r46 ≤ 0 → (vp_in ((86 + (4 * l1)) + l3) 346) ∧ (ME g uX11_rayLine 20 [.ref 11, .int l1, .int 1, .int (l3 + 1), .retAddr 0, .retAddr 0, .retAddr 0] [] (wI h45 46 ((86 + (4 * l1)) + l3).toNatClampNeg r46) (qV P)))))) ∧ ((mI h 11 7) = 0 → MCv g yX11_wrong uX11_wrong [.ref 11, .int 4, .int (mI h 11 4)] h (fun h56 => MCi g yX11_number uX11_number [.ref 11, .int 0, .int 3] h56 (fun r58 h57 => (¬ l2 = 0 → (vp_in ((86 + (4 * l1)) + l3) 346) ∧ (ME g uX11_rayLine 20 [.ref 11, .int l1, .int 1, .int (l3 + 1), .retAddr 0, .retAddr 0, .retAddr 0] [] (wI h57 46 ((86 + (4 * l1)) + l3).toNatClampNeg r58) (qV P))) ∧ (l2 = 0 → (r58 ≤ 0 → (vp_in ((86 + (4 * l1)) + l3) 346) ∧ (ME g uX11_rayLine 20 [.ref 11, .int l1, .int 0, .int (l3 + 1), .retAddr 0, .retAddr 0, .retAddr 0] [] (wI h57 46 ((86 + (4 * l1)) + l3).toNatClampNeg r58) (qV P))) ∧ (¬ r58 ≤ 0 → (vp_in ((86 + (4 * l1)) + l3) 346) ∧ (ME g uX11_rayLine 20 [.ref 11, .int l1, .int 1, .int (l3 + 1), .retAddr 0, .retAddr 0, .retAddr 0] [] (wI h57 46 ((86 + (4 * l1)) + l3).toNatClampNeg r58) (qV P))))))))))) ∧ ((mI h 11 6) = 45 → MCv g yX11_next uX11_next [.ref 11] h (fun h68 => (¬ l3 = 3 → MCi g yX11_number uX11_number [.ref 11, .int 0, .int 3] h68 (fun r72 h71 => (¬ l2 = 0 → (vp_in ((86 + (4 * l1)) + l3) 346) ∧ (ME g uX11_rayLine 20 [.ref 11, .int l1, .int 1, .int (l3 + 1), .retAddr 0, .retAddr 0, .retAddr 0] [] (wI h71 46 ((86 + (4 * l1)) + l3).toNatClampNeg (-r72)) (qV P))) ∧ (l2 = 0 → (r72 ≤ 0 → (vp_in ((86 + (4 * l1)) + l3) 346) ∧ (ME g uX11_rayLine 20 [.ref 11, .int l1, .int 0, .int (l3 + 1), .retAddr 0, .retAddr 0, .retAddr 0] [] (wI h71 46 ((86 + (4 * l1)) + l3).toNatClampNeg (-r72)) (qV P))) ∧ (¬ r72 ≤ 0 → (vp_in ((86 + (4 * l1)) + l3) 346) ∧ (ME g uX11_rayLine 20 [.ref 11, .int l1, .int 1, .int (l3 + 1), .retAddr 0, .retAddr 0, .retAddr 0] [] (wI h71 46 ((86 + (4 * l1)) + l3).toNatClampNeg (-r72)) (qV P)))))) ∧ (l3 = 3 → (¬ l2 = 0 → MCi g yX11_number uX11_number [.ref 11, .int 0, .int 3] h68 (fun r84 h83 => (¬ l2 = 0 → (vp_in ((86 + (4 * l1)) + l3) 346) ∧ (ME g uX11_rayLine 20 [.ref 11, .int l1, .int 1, .int (l3 + 1), .retAddr 0, .retAddr 0, .retAddr 0] [] (wI h83 46 ((86 + (4 * l1)) + l3).toNatClampNeg (-r84)) (qV P))) ∧ (l2 = 0 → (r84 ≤ 0 → (vp_in ((86 + (4 * l1)) + l3) 346) ∧ (ME g uX11_rayLine 20 [.ref 11, .int l1, .int 0, .int (l3 + 1), .retAddr 0, .retAddr 0, .retAddr 0] [] (wI h83 46 ((86 + (4 * l1)) + l3).toNatClampNeg (-r84)) (qV P))) ∧ (¬ r84 ≤ 0 → (vp_in ((86 + (4 * l1)) + l3) 346) ∧ (ME g uX11_rayLine 20 [.ref 11, .int l1, .int 1, .int (l3 + 1), .retAddr 0, .retAddr 0, .retAddr 0] [] (wI h83 46 ((86 + (4 * l1)) + l3).toNatClampNeg (-r84)) (qV P)))))) ∧ (l2 = 0 → (¬ (mI h68 11 6) = 3 → MCi g yX11_number uX11_number [.ref 11, .int 0, .int 3] h68 (fun r96 h95 => (¬ l2 = 0 → (vp_in ((86 + (4 * l1)) + l3) 346) ∧ (ME g uX11_rayLine 20 [.ref 11, .int l1, .int 1, .int (l3 + 1), .retAddr 0, .retAddr 0, .retAddr 0] [] (wI h95 46 ((86 + (4 * l1)) + l3).toNatClampNeg (-r96)) (qV P))) ∧ (l2 = 0 → (r96 ≤ 0 → (vp_in ((86 + (4 * l1)) + l3) 346) ∧ (ME g uX11_rayLine 20 [.ref 11, .int l1, .int 0, .int (l3 + 1), .retAddr 0, .retAddr 0, .retAddr 0] [] (wI h95 46 ((86 + (4 * l1)) + l3).toNatClampNeg (-r96)) (qV P))) ∧ (¬ r96 ≤ 0 → (vp_in ((86 + (4 * l1)) + l3) 346) ∧ (ME g uX11_rayLine 20 [.ref 11, .int l1, .int 1, .int (l3 + 1), .retAddr 0, .retAddr 0, .retAddr 0] [] (wI h95 46 ((86 + (4 * l1)) + l3).toNatClampNeg (-r96)) (qV P)))))) ∧ ((mI h68 11 6) = 3 → (¬ (mI h68 11 7) = 0 → MCi g yX11_number uX11_number [.ref 11, .int 0, .int 3] h68 (fun r108 h107 => (¬ l2 = 0 → (vp_in ((86 + (4 * l1)) + l3) 346) ∧ (ME g uX11_rayLine 20 [.ref 11, .int l1, .int 1, .int (l3 + 1), .retAddr 0, .retAddr 0, .retAddr 0] [] (wI h107 46 ((86 + (4 * l1)) + l3).toNatClampNeg (-r108)) (qV P))) ∧ (l2 = 0 → (r108 ≤ 0 → (vp_in ((86 + (4 * l1)) + l3) 346) ∧ (ME g uX11_rayLine 20 [.ref 11, .int l1, .int 0, .int (l3 + 1), .retAddr 0, .retAddr 0, .retAddr 0] [] (wI h107 46 ((86 + (4 * l1)) + l3).toNatClampNeg (-r108)) (qV P))) ∧ (¬ r108 ≤ 0 → (vp_in ((86 + (4 * l1)) + l3) 346) ∧ (ME g uX11_rayLine 20 [.ref 11, .int l1, .int 1, .int (l3 + 1), .retAddr 0, .retAddr 0, .retAddr 0] [] (wI h107 46 ((86 + (4 * l1)) + l3).toNatClampNeg (-r108)) (qV P)))))) ∧ ((mI h68 11 7) = 0 → MCv g yX11_wrong uX11_wrong [.ref 11, .int 4, .int (mI h68 11 4)] h68 (fun h118 => MCi g yX11_number uX11_number [.ref 11, .int 0, .int 3] h118 (fun r120 h119 => (¬ l2 = 0 → (vp_in ((86 + (4 * l1)) + l3) 346) ∧ (ME g uX11_rayLine 20 [.ref 11, .int l1, .int 1, .int (l3 + 1), .retAddr 0, .retAddr 0, .retAddr 0] [] (wI h119 46 ((86 + (4 * l1)) + l3).toNatClampNeg (-r120)) (qV P))) ∧ (l2 = 0 → (r120 ≤ 0 → (vp_in ((86 + (4 * l1)) + l3) 346) ∧ (ME g uX11_rayLine 20 [.ref 11, .int l1, .int 0, .int (l3 + 1), .retAddr 0, .retAddr 0, .retAddr 0] [] (wI h119 46 ((86 + (4 * l1)) + l3).toNatClampNeg (-r120)) (qV P))) ∧ (¬ r120 ≤ 0 → (vp_in ((86 + (4 * l1)) + l3) 346) ∧ (ME g uX11_rayLine 20 [.ref 11, .int l1, .int 1, .int (l3 + 1), .retAddr 0, .retAddr 0, .retAddr 0] [] (wI h119 46 ((86 + (4 * l1)) + l3).toNatClampNeg (-r120)) (qV P))))))))))))) ∧ (¬ (mI h 11 13) = 0 → P h)) ∧ (¬ l3 ≤ 0 → MCv g yX11_mustComma uX11_mustComma [.ref 11] h (fun h129 => ((mI h129 11 13) = 0 → (¬ (mI h129 11 6) = 45 → (¬ l3 = 3 → MCi g yX11_number uX11_number [.ref 11, .int 0, .int 3] h129 (fun r136 h135 => (¬ l2 = 0 → (vp_in ((86 + (4 * l1)) + l3) 346) ∧ (ME g uX11_rayLine 20 [.ref 11, .int l1, .int 1, .int (l3 + 1), .retAddr 0, .retAddr 0, .retAddr 0] [] (wI h135 46 ((86 + (4 * l1)) + l3).toNatClampNeg r136) (qV P))) ∧ (l2 = 0 → (r136 ≤ 0 → (vp_in ((86 + (4 * l1)) + l3) 346) ∧ (ME g uX11_rayLine 20 [.ref 11, .int l1, .int 0, .int (l3 + 1), .retAddr 0, .retAddr 0, .retAddr 0] [] (wI h135 46 ((86 + (4 * l1)) + l3).toNatClampNeg r136) (qV P))) ∧ (¬ r136 ≤ 0 → (vp_in ((86 + (4 * l1)) + l3) 346) ∧ (ME g uX11_rayLine 20 [.ref 11, .int l1, .int 1, .int (l3 + 1), .retAddr 0, .retAddr 0, .retAddr 0] [] (wI h135 46 ((86 + (4 * l1)) + l3).toNatClampNeg r136) (qV P)))))) ∧ (l3 = 3 → (¬ l2 = 0 → MCi g yX11_number uX11_number [.ref 11, .int 0, .int 3] h129 (fun r148 h147 => (¬ l2 = 0 → (vp_in ((86 + (4 * l1)) + l3) 346) ∧ (ME g uX11_rayLine 20 [.ref 11, .int l1, .int 1, .int (l3 + 1), .retAddr 0, .retAddr 0, .retAddr 0] [] (wI h147 46 ((86 + (4 * l1)) + l3).toNatClampNeg r148) (qV P))) ∧ (l2 = 0 → (r148 ≤ 0 → (vp_in ((86 + (4 * l1)) + l3) 346) ∧ (ME g uX11_rayLine 20 [.ref 11, .int l1, .int 0, .int (l3 + 1), .retAddr 0, .retAddr 0, .retAddr 0] [] (wI h147 46 ((86 + (4 * l1)) + l3).toNatClampNeg r148) (qV P))) ∧ (¬ r148 ≤ 0 → (vp_in ((86 + (4 * l1)) + l3) 346) ∧ (ME g uX11_rayLine 20 [.ref 11, .int l1, .int 1, .int (l3 + 1), .retAddr 0, .retAddr 0, .retAddr 0] [] (wI h147 46 ((86 + (4 * l1)) + l3).toNatClampNeg r148) (qV P)))))) ∧ (l2 = 0 → (¬ (mI h129 11 6) = 3 → MCi g yX11_number uX11_number [.ref 11, .int 0, .int 3] h129 (fun r160 h159 => (¬ l2 = 0 → (vp_in ((86 + (4 * l1)) + l3) 346) ∧ (ME g uX11_rayLine 20 [.ref 11, .int l1, .int 1, .int (l3 + 1), .retAddr 0, .retAddr 0, .retAddr 0] [] (wI h159 46 ((86 + (4 * l1)) + l3).toNatClampNeg r160) (qV P))) ∧ (l2 = 0 → (r160 ≤ 0 → (vp_in ((86 + (4 * l1)) + l3) 346) ∧ (ME g uX11_rayLine 20 [.ref 11, .int l1, .int 0, .int (l3 + 1), .retAddr 0, .retAddr 0, .retAddr 0] [] (wI h159 46 ((86 + (4 * l1)) + l3).toNatClampNeg r160) (qV P))) ∧ (¬ r160 ≤ 0 → (vp_in ((86 + (4 * l1)) + l3) 346) ∧ (ME g uX11_rayLine 20 [.ref 11, .int l1, .int 1, .int (l3 + 1), .retAddr 0, .retAddr 0, .retAddr 0] [] (wI h159 46 ((86 + (4 * l1)) + l3).toNatClampNeg r160) (qV P)))))) ∧ ((mI h129 11 6) = 3 → (¬ (mI h129 11 7) = 0 → MCi g yX11_number uX11_number [.ref 11, .int 0, .int 3] h129 (fun r172 h171 => (¬ l2 = 0 → (vp_in ((86 + (4 * l1)) + l3) 346) ∧ (ME g uX11_rayLine 20 [.ref 11, .int l1, .int 1, .int (l3 + 1), .retAddr 0, .retAddr 0, .retAddr 0] [] (wI h171 46 ((86 + (4 * l1)) + l3).toNatClampNeg r172) (qV P))) ∧ (l2 = 0 → (r172 ≤ 0 → (vp_in ((86 + (4 * l1)) + l3) 346) ∧ (ME g uX11_rayLine 20 [.ref 11, .int l1, .int 0, .int (l3 + 1), .retAddr 0, .retAddr 0, .retAddr 0] [] (wI h171 46 ((86 + (4 * l1)) + l3).toNatClampNeg r172) (qV P))) ∧ (¬ r172 ≤ 0 → (vp_in ((86 + (4 * l1)) + l3) 346) ∧ (ME g uX11_rayLine 20 [.ref 11, .int l1, .int 1, .int (l3 + 1), .retAddr 0, .retAddr 0, .retAddr 0] [] (wI h171 46 ((86 + (4 * l1)) + l3).toNatClampNeg r172) (qV P)))))) ∧ ((mI h129 11 7) = 0 → MCv g yX11_wrong uX11_wrong [.ref 11, .int 4, .int (mI h129 11 4)] h129 (fun h182 => MCi g yX11_number uX11_number [.ref 11, .int 0, .int 3] h182 (fun r184 h183 => (¬ l2 = 0 → (vp_in ((86 + (4 * l1)) + l3) 346) ∧ (ME g uX11_rayLine 20 [.ref 11, .int l1, .int 1, .int (l3 + 1), .retAddr 0, .retAddr 0, .retAddr 0] [] (wI h183 46 ((86 + (4 * l1)) + l3).toNatClampNeg r184) (qV P))) ∧ (l2 = 0 → (r184 ≤ 0 → (vp_in ((86 + (4 * l1)) + l3) 346) ∧ (ME g uX11_rayLine 20 [.ref 11, .int l1, .int 0, .int (l3 + 1), .retAddr 0, .retAddr 0, .retAddr 0] [] (wI h183 46 ((86 + (4 * l1)) + l3).toNatClampNeg r184) (qV P))) ∧ (¬ r184 ≤ 0 → (vp_in ((86 + (4 * l1)) + l3) 346) ∧ (ME g uX11_rayLine 20 [.ref 11, .int l1, .int 1, .int (l3 + 1), .retAddr 0, .retAddr 0, .retAddr 0] [] (wI h183 46 ((86 + (4 * l1)) + l3).toNatClampNeg r184) (qV P))))))))))) ∧ ((mI h129 11 6) = 45 → MCv g yX11_next uX11_next [.ref 11] h129 (fun h194 => (¬ l3 = 3 → MCi g yX11_number uX11_number [.ref 11, .int 0, .int 3] h194 (fun r198 h197 => (¬ l2 = 0 → (vp_in ((86 + (4 * l1)) + l3) 346) ∧ (ME g uX11_rayLine 20 [.ref 11, .int l1, .int 1, .int (l3 + 1), .retAddr 0, .retAddr 0, .retAddr 0] [] (wI h197 46 ((86 + (4 * l1)) + l3).toNatClampNeg (-r198)) (qV P))) ∧ (l2 = 0 → (r198 ≤ 0 → (vp_in ((86 + (4 * l1)) + l3) 346) ∧ (ME g uX11_rayLine 20 [.ref 11, .int l1, .int 0, .int (l3 + 1), .retAddr 0, .retAddr 0, .retAddr 0] [] (wI h197 46 ((86 + (4 * l1)) + l3).toNatClampNeg (-r198)) (qV P))) ∧ (¬ r198 ≤ 0 → (vp_in ((86 + (4 * l1)) + l3) 346) ∧ (ME g uX11_rayLine 20 [.ref 11, .int l1, .int 1, .int (l3 + 1), .retAddr 0, .retAddr 0, .retAddr 0] [] (wI h197 46 ((86 + (4 * l1)) + l3).toNatClampNeg (-r198)) (qV P)))))) ∧ (l3 = 3 → (¬ l2 = 0 → MCi g yX11_number uX11_number [.ref 11, .int 0, .int 3] h194 (fun r210 h209 => (¬ l2 = 0 → (vp_in ((86 + (4 * l1)) + l3) 346) ∧ (ME g uX11_rayLine 20 [.ref 11, .int l1, .int 1, .int (l3 + 1), .retAddr 0, .retAddr 0, .retAddr 0] [] (wI h209 46 ((86 + (4 * l1)) + l3).toNatClampNeg (-r210)) (qV P))) ∧ (l2 = 0 → (r210 ≤ 0 → (vp_in ((86 + (4 * l1)) + l3) 346) ∧ (ME g uX11_rayLine 20 [.ref 11, .int l1, .int 0, .int (l3 + 1), .retAddr 0, .retAddr 0, .retAddr 0] [] (wI h209 46 ((86 + (4 * l1)) + l3).toNatClampNeg (-r210)) (qV P))) ∧ (¬ r210 ≤ 0 → (vp_in ((86 + (4 * l1)) + l3) 346) ∧ (ME g uX11_rayLine 20 [.ref 11, .int l1, .int 1, .int (l3 + 1), .retAddr 0, .retAddr 0, .retAddr 0] [] (wI h209 46 ((86 + (4 * l1)) + l3).toNatClampNeg (-r210)) (qV P)))))) ∧ (l2 = 0 → (¬ (mI h194 11 6) = 3 → MCi g yX11_number uX11_number [.ref 11, .int 0, .int 3] h194 (fun r222 h221 => (¬ l2 = 0 → (vp_in ((86 + (4 * l1)) + l3) 346) ∧ (ME g uX11_rayLine 20 [.ref 11, .int l1, .int 1, .int (l3 + 1), .retAddr 0, .retAddr 0, .retAddr 0] [] (wI h221 46 ((86 + (4 * l1)) + l3).toNatClampNeg (-r222)) (qV P))) ∧ (l2 = 0 → (r222 ≤ 0 → (vp_in ((86 + (4 * l1)) + l3) 346) ∧ (ME g uX11_rayLine 20 [.ref 11, .int l1, .int 0, .int (l3 + 1), .retAddr 0, .retAddr 0, .retAddr 0] [] (wI h221 46 ((86 + (4 * l1)) + l3).toNatClampNeg (-r222)) (qV P))) ∧ (¬ r222 ≤ 0 → (vp_in ((86 + (4 * l1)) + l3) 346) ∧ (ME g uX11_rayLine 20 [.ref 11, .int l1, .int 1, .int (l3 + 1), .retAddr 0, .retAddr 0, .retAddr 0] [] (wI h221 46 ((86 + (4 * l1)) + l3).toNatClampNeg (-r222)) (qV P)))))) ∧ ((mI h194 11 6) = 3 → (¬ (mI h194 11 7) = 0 → MCi g yX11_number uX11_number [.ref 11, .int 0, .int 3] h194 (fun r234 h233 => (¬ l2 = 0 → (vp_in ((86 + (4 * l1)) + l3) 346) ∧ (ME g uX11_rayLine 20 [.ref 11, .int l1, .int 1, .int (l3 + 1), .retAddr 0, .retAddr 0, .retAddr 0] [] (wI h233 46 ((86 + (4 * l1)) + l3).toNatClampNeg (-r234)) (qV P))) ∧ (l2 = 0 → (r234 ≤ 0 → (vp_in ((86 + (4 * l1)) + l3) 346) ∧ (ME g uX11_rayLine 20 [.ref 11, .int l1, .int 0, .int (l3 + 1), .retAddr 0, .retAddr 0, .retAddr 0] [] (wI h233 46 ((86 + (4 * l1)) + l3).toNatClampNeg (-r234)) (qV P))) ∧ (¬ r234 ≤ 0 → (vp_in ((86 + (4 * l1)) + l3) 346) ∧ (ME g uX11_rayLine 20 [.ref 11, .int l1, .int 1, .int (l3 + 1), .retAddr 0, .retAddr 0, .retAddr 0] [] (wI h233 46 ((86 + (4 * l1)) + l3).toNatClampNeg (-r234)) (qV P)))))) ∧ ((mI h194 11 7) = 0 → MCv g yX11_wrong uX11_wrong [.ref 11, .int 4, .int (mI h194 11 4)] h194 (fun h244 => MCi g yX11_number uX11_number [.ref 11, .int 0, .int 3] h244 (fun r246 h245 => (¬ l2 = 0 → (vp_in ((86 + (4 * l1)) + l3) 346) ∧ (ME g uX11_rayLine 20 [.ref 11, .int l1, .int 1, .int (l3 + 1), .retAddr 0, .retAddr 0, .retAddr 0] [] (wI h245 46 ((86 + (4 * l1)) + l3).toNatClampNeg (-r246)) (qV P))) ∧ (l2 = 0 → (r246 ≤ 0 → (vp_in ((86 + (4 * l1)) + l3) 346) ∧ (ME g uX11_rayLine 20 [.ref 11, .int l1, .int 0, .int (l3 + 1), .retAddr 0, .retAddr 0, .retAddr 0] [] (wI h245 46 ((86 + (4 * l1)) + l3).toNatClampNeg (-r246)) (qV P))) ∧ (¬ r246 ≤ 0 → (vp_in ((86 + (4 * l1)) + l3) 346) ∧ (ME g uX11_rayLine 20 [.ref 11, .int l1, .int 1, .int (l3 + 1), .retAddr 0, .retAddr 0, .retAddr 0] [] (wI h245 46 ((86 + (4 * l1)) + l3).toNatClampNeg (-r246)) (qV P))))))))))))) ∧ (¬ (mI h129 11 13) = 0 → P h129))))) : ME g uX11_rayLine 20 [.ref 11, .int l1, .int l2, .int l3, .retAddr 0, .retAddr 0, .retAddr 0] [] h (qV P) := by
  refine m_iload_n dX11_rayLine_20 rfl ?_
  refine m_iconst (v := 4) dX11_rayLine_21 (by decide) ?_
  refine m_icmp_ge 166 dX11_rayLine_22 (by decide) (fun c1 => ?_) (fun c1 => ?_)
  · replace q := q.1 c1
    refine m_aload_n dX11_rayLine_166 rfl ?_
    refine gf_X11_107 rfl dX11_rayLine_167 ?_
    refine m_if_ne 184 dX11_rayLine_170 (by decide) (fun c2 => ?_) (fun c2 => ?_)
    · replace q := q.1 c2
      exact m_vret dX11_rayLine_184 rfl q
    · replace q := q.2 c2
      refine m_aload_n dX11_rayLine_173 rfl ?_
      refine gf_X11_23 rfl dX11_rayLine_174 ?_
      refine m_bipush (v := 85) dX11_rayLine_177 (by decide) ?_
      refine m_dup2 dX11_rayLine_179 rfl rfl ?_
      refine m_iaload dX11_rayLine_180 rfl (by decide) (by unfold vp_in; decide) ?_
      refine m_iconst (v := 1) dX11_rayLine_181 (by decide) ?_
      refine m_iadd dX11_rayLine_182 ?_
      refine m_iastore dX11_rayLine_183 rfl (by decide) (by unfold vp_in; decide) ?_
      exact m_vret dX11_rayLine_184 rfl q
  · replace q := q.2 c1
    refine m_iload_n dX11_rayLine_25 rfl ?_
    refine m_if_le 33 dX11_rayLine_26 (by decide) (fun c3 => ?_) (fun c3 => ?_)
    · replace q := q.1 c3
      refine m_aload_n dX11_rayLine_33 rfl ?_
      refine gf_X11_107 rfl dX11_rayLine_34 ?_
      refine m_if_eq 41 dX11_rayLine_37 (by decide) (fun c4 => ?_) (fun c4 => ?_)
      · replace q := q.1 c4
        refine m_aload_n dX11_rayLine_41 rfl ?_
        refine gf_X11_97 rfl dX11_rayLine_42 ?_
        refine m_bipush (v := 45) dX11_rayLine_45 (by decide) ?_
        refine m_icmp_ne 54 dX11_rayLine_47 (by decide) (fun c5 => ?_) (fun c5 => ?_)
        · replace q := q.1 c5
          refine m_iconst (v := 0) dX11_rayLine_54 (by decide) ?_
          refine m_istore (lv' := [.ref 11, .int l1, .int l2, .int l3, .int 0, .retAddr 0, .retAddr 0]) dX11_rayLine_55 (Nat.le_of_ble_eq_true rfl) rfl rfl ?_
          refine m_iload dX11_rayLine_57 rfl ?_
          refine m_if_eq 66 dX11_rayLine_59 (by decide) (fun c6 => ?_) (fun c6 => absurd c6 (by decide))
          refine m_iload_n dX11_rayLine_66 rfl ?_
          refine m_iconst (v := 3) dX11_rayLine_67 (by decide) ?_
          refine m_icmp_ne 94 dX11_rayLine_68 (by decide) (fun c7 => ?_) (fun c7 => ?_)
          · replace q := q.1 c7
            refine m_iconst (v := 0) dX11_rayLine_94 (by decide) ?_
            refine m_istore (lv' := [.ref 11, .int l1, .int l2, .int l3, .int 0, .int 0, .retAddr 0]) dX11_rayLine_95 (Nat.le_of_ble_eq_true rfl) rfl rfl ?_
            refine m_iload dX11_rayLine_97 rfl ?_
            refine m_if_eq 111 dX11_rayLine_99 (by decide) (fun c8 => ?_) (fun c8 => absurd c8 (by decide))
            refine m_aload_n dX11_rayLine_111 rfl ?_
            refine m_iconst (v := 0) dX11_rayLine_112 (by decide) ?_
            refine m_iconst (v := 3) dX11_rayLine_113 (by decide) ?_
            refine cl_X11_227 rfl (by decide) dX11_rayLine_114 (Nat.le_of_ble_eq_true rfl) (MCi_go q (fun r10 h9 q => ?_))
            refine m_istore (lv' := [.ref 11, .int l1, .int l2, .int l3, .int 0, .int 0, .int r10]) dX11_rayLine_117 (Nat.le_of_ble_eq_true rfl) rfl rfl ?_
            refine m_iload_n dX11_rayLine_119 rfl ?_
            refine m_if_ne 128 dX11_rayLine_120 (by decide) (fun c11 => ?_) (fun c11 => ?_)
            · replace q := q.1 c11
              refine m_iconst (v := 1) dX11_rayLine_128 (by decide) ?_
              refine m_goto 133 dX11_rayLine_129 (by decide) ?_
              refine m_istore_n (lv' := [.ref 11, .int l1, .int 1, .int l3, .int 0, .int 0, .int r10]) dX11_rayLine_133 (Nat.le_of_ble_eq_true rfl) rfl rfl ?_
              refine m_aload_n dX11_rayLine_134 rfl ?_
              refine gf_X11_23 rfl dX11_rayLine_135 ?_
              refine m_bipush (v := 86) dX11_rayLine_138 (by decide) ?_
              refine m_iconst (v := 4) dX11_rayLine_140 (by decide) ?_
              refine m_iload_n dX11_rayLine_141 rfl ?_
              refine m_imul dX11_rayLine_142 ?_
              refine m_iadd dX11_rayLine_143 ?_
              refine m_iload_n dX11_rayLine_144 rfl ?_
              refine m_iadd dX11_rayLine_145 ?_
              refine m_iload dX11_rayLine_146 rfl ?_
              refine m_if_eq 157 dX11_rayLine_148 (by decide) (fun c12 => ?_) (fun c12 => absurd c12 (by decide))
              refine m_iload dX11_rayLine_157 rfl ?_
              obtain ⟨b13, q⟩ := q
              refine m_iastore dX11_rayLine_159 rfl (by decide) b13 ?_
              refine m_iinc (v := (l3 + 1)) (lv' := [.ref 11, .int l1, .int 1, .int (l3 + 1), .int 0, .int 0, .int r10]) dX11_rayLine_160 (Nat.le_of_ble_eq_true rfl) rfl (congrArg (fun z => l3 + z) (by decide : Int32.ofInt 1 = 1)) rfl rfl ?_
              refine m_goto 20 dX11_rayLine_163 (by decide) ?_
              refine m_dropK (lv' := [.ref 11, .int l1, .int 1, .int (l3 + 1), .retAddr 0, .retAddr 0, .retAddr 0]) [4, 5, 6] rfl ?_
              exact q
            · replace q := q.2 c11
              refine m_iload dX11_rayLine_123 rfl ?_
              refine m_if_le 132 dX11_rayLine_125 (by decide) (fun c14 => ?_) (fun c14 => ?_)
              · replace q := q.1 c14
                refine m_iconst (v := 0) dX11_rayLine_132 (by decide) ?_
                refine m_istore_n (lv' := [.ref 11, .int l1, .int 0, .int l3, .int 0, .int 0, .int r10]) dX11_rayLine_133 (Nat.le_of_ble_eq_true rfl) rfl rfl ?_
                refine m_aload_n dX11_rayLine_134 rfl ?_
                refine gf_X11_23 rfl dX11_rayLine_135 ?_
                refine m_bipush (v := 86) dX11_rayLine_138 (by decide) ?_
                refine m_iconst (v := 4) dX11_rayLine_140 (by decide) ?_
                refine m_iload_n dX11_rayLine_141 rfl ?_
                refine m_imul dX11_rayLine_142 ?_
                refine m_iadd dX11_rayLine_143 ?_
                refine m_iload_n dX11_rayLine_144 rfl ?_
                refine m_iadd dX11_rayLine_145 ?_
                refine m_iload dX11_rayLine_146 rfl ?_
                refine m_if_eq 157 dX11_rayLine_148 (by decide) (fun c15 => ?_) (fun c15 => absurd c15 (by decide))
                refine m_iload dX11_rayLine_157 rfl ?_
                obtain ⟨b16, q⟩ := q
                refine m_iastore dX11_rayLine_159 rfl (by decide) b16 ?_
                refine m_iinc (v := (l3 + 1)) (lv' := [.ref 11, .int l1, .int 0, .int (l3 + 1), .int 0, .int 0, .int r10]) dX11_rayLine_160 (Nat.le_of_ble_eq_true rfl) rfl (congrArg (fun z => l3 + z) (by decide : Int32.ofInt 1 = 1)) rfl rfl ?_
                refine m_goto 20 dX11_rayLine_163 (by decide) ?_
                refine m_dropK (lv' := [.ref 11, .int l1, .int 0, .int (l3 + 1), .retAddr 0, .retAddr 0, .retAddr 0]) [4, 5, 6] rfl ?_
                exact q
              · replace q := q.2 c14
                refine m_iconst (v := 1) dX11_rayLine_128 (by decide) ?_
                refine m_goto 133 dX11_rayLine_129 (by decide) ?_
                refine m_istore_n (lv' := [.ref 11, .int l1, .int 1, .int l3, .int 0, .int 0, .int r10]) dX11_rayLine_133 (Nat.le_of_ble_eq_true rfl) rfl rfl ?_
                refine m_aload_n dX11_rayLine_134 rfl ?_
                refine gf_X11_23 rfl dX11_rayLine_135 ?_
                refine m_bipush (v := 86) dX11_rayLine_138 (by decide) ?_
                refine m_iconst (v := 4) dX11_rayLine_140 (by decide) ?_
                refine m_iload_n dX11_rayLine_141 rfl ?_
                refine m_imul dX11_rayLine_142 ?_
                refine m_iadd dX11_rayLine_143 ?_
                refine m_iload_n dX11_rayLine_144 rfl ?_
                refine m_iadd dX11_rayLine_145 ?_
                refine m_iload dX11_rayLine_146 rfl ?_
                refine m_if_eq 157 dX11_rayLine_148 (by decide) (fun c17 => ?_) (fun c17 => absurd c17 (by decide))
                refine m_iload dX11_rayLine_157 rfl ?_
                obtain ⟨b18, q⟩ := q
                refine m_iastore dX11_rayLine_159 rfl (by decide) b18 ?_
                refine m_iinc (v := (l3 + 1)) (lv' := [.ref 11, .int l1, .int 1, .int (l3 + 1), .int 0, .int 0, .int r10]) dX11_rayLine_160 (Nat.le_of_ble_eq_true rfl) rfl (congrArg (fun z => l3 + z) (by decide : Int32.ofInt 1 = 1)) rfl rfl ?_
                refine m_goto 20 dX11_rayLine_163 (by decide) ?_
                refine m_dropK (lv' := [.ref 11, .int l1, .int 1, .int (l3 + 1), .retAddr 0, .retAddr 0, .retAddr 0]) [4, 5, 6] rfl ?_
                exact q
          · replace q := q.2 c7
            refine m_iload_n dX11_rayLine_71 rfl ?_
            refine m_if_ne 94 dX11_rayLine_72 (by decide) (fun c19 => ?_) (fun c19 => ?_)
            · replace q := q.1 c19
              refine m_iconst (v := 0) dX11_rayLine_94 (by decide) ?_
              refine m_istore (lv' := [.ref 11, .int l1, .int l2, .int l3, .int 0, .int 0, .retAddr 0]) dX11_rayLine_95 (Nat.le_of_ble_eq_true rfl) rfl rfl ?_
              refine m_iload dX11_rayLine_97 rfl ?_
              refine m_if_eq 111 dX11_rayLine_99 (by decide) (fun c20 => ?_) (fun c20 => absurd c20 (by decide))
              refine m_aload_n dX11_rayLine_111 rfl ?_
              refine m_iconst (v := 0) dX11_rayLine_112 (by decide) ?_
              refine m_iconst (v := 3) dX11_rayLine_113 (by decide) ?_
              refine cl_X11_227 rfl (by decide) dX11_rayLine_114 (Nat.le_of_ble_eq_true rfl) (MCi_go q (fun r22 h21 q => ?_))
              refine m_istore (lv' := [.ref 11, .int l1, .int l2, .int l3, .int 0, .int 0, .int r22]) dX11_rayLine_117 (Nat.le_of_ble_eq_true rfl) rfl rfl ?_
              refine m_iload_n dX11_rayLine_119 rfl ?_
              refine m_if_ne 128 dX11_rayLine_120 (by decide) (fun c23 => ?_) (fun c23 => ?_)
              · replace q := q.1 c23
                refine m_iconst (v := 1) dX11_rayLine_128 (by decide) ?_
                refine m_goto 133 dX11_rayLine_129 (by decide) ?_
                refine m_istore_n (lv' := [.ref 11, .int l1, .int 1, .int l3, .int 0, .int 0, .int r22]) dX11_rayLine_133 (Nat.le_of_ble_eq_true rfl) rfl rfl ?_
                refine m_aload_n dX11_rayLine_134 rfl ?_
                refine gf_X11_23 rfl dX11_rayLine_135 ?_
                refine m_bipush (v := 86) dX11_rayLine_138 (by decide) ?_
                refine m_iconst (v := 4) dX11_rayLine_140 (by decide) ?_
                refine m_iload_n dX11_rayLine_141 rfl ?_
                refine m_imul dX11_rayLine_142 ?_
                refine m_iadd dX11_rayLine_143 ?_
                refine m_iload_n dX11_rayLine_144 rfl ?_
                refine m_iadd dX11_rayLine_145 ?_
                refine m_iload dX11_rayLine_146 rfl ?_
                refine m_if_eq 157 dX11_rayLine_148 (by decide) (fun c24 => ?_) (fun c24 => absurd c24 (by decide))
                refine m_iload dX11_rayLine_157 rfl ?_
                obtain ⟨b25, q⟩ := q
                refine m_iastore dX11_rayLine_159 rfl (by decide) b25 ?_
                refine m_iinc (v := (l3 + 1)) (lv' := [.ref 11, .int l1, .int 1, .int (l3 + 1), .int 0, .int 0, .int r22]) dX11_rayLine_160 (Nat.le_of_ble_eq_true rfl) rfl (congrArg (fun z => l3 + z) (by decide : Int32.ofInt 1 = 1)) rfl rfl ?_
                refine m_goto 20 dX11_rayLine_163 (by decide) ?_
                refine m_dropK (lv' := [.ref 11, .int l1, .int 1, .int (l3 + 1), .retAddr 0, .retAddr 0, .retAddr 0]) [4, 5, 6] rfl ?_
                exact q
              · replace q := q.2 c23
                refine m_iload dX11_rayLine_123 rfl ?_
                refine m_if_le 132 dX11_rayLine_125 (by decide) (fun c26 => ?_) (fun c26 => ?_)
                · replace q := q.1 c26
                  refine m_iconst (v := 0) dX11_rayLine_132 (by decide) ?_
                  refine m_istore_n (lv' := [.ref 11, .int l1, .int 0, .int l3, .int 0, .int 0, .int r22]) dX11_rayLine_133 (Nat.le_of_ble_eq_true rfl) rfl rfl ?_
                  refine m_aload_n dX11_rayLine_134 rfl ?_
                  refine gf_X11_23 rfl dX11_rayLine_135 ?_
                  refine m_bipush (v := 86) dX11_rayLine_138 (by decide) ?_
                  refine m_iconst (v := 4) dX11_rayLine_140 (by decide) ?_
                  refine m_iload_n dX11_rayLine_141 rfl ?_
                  refine m_imul dX11_rayLine_142 ?_
                  refine m_iadd dX11_rayLine_143 ?_
                  refine m_iload_n dX11_rayLine_144 rfl ?_
                  refine m_iadd dX11_rayLine_145 ?_
                  refine m_iload dX11_rayLine_146 rfl ?_
                  refine m_if_eq 157 dX11_rayLine_148 (by decide) (fun c27 => ?_) (fun c27 => absurd c27 (by decide))
                  refine m_iload dX11_rayLine_157 rfl ?_
                  obtain ⟨b28, q⟩ := q
                  refine m_iastore dX11_rayLine_159 rfl (by decide) b28 ?_
                  refine m_iinc (v := (l3 + 1)) (lv' := [.ref 11, .int l1, .int 0, .int (l3 + 1), .int 0, .int 0, .int r22]) dX11_rayLine_160 (Nat.le_of_ble_eq_true rfl) rfl (congrArg (fun z => l3 + z) (by decide : Int32.ofInt 1 = 1)) rfl rfl ?_
                  refine m_goto 20 dX11_rayLine_163 (by decide) ?_
                  refine m_dropK (lv' := [.ref 11, .int l1, .int 0, .int (l3 + 1), .retAddr 0, .retAddr 0, .retAddr 0]) [4, 5, 6] rfl ?_
                  exact q
                · replace q := q.2 c26
                  refine m_iconst (v := 1) dX11_rayLine_128 (by decide) ?_
                  refine m_goto 133 dX11_rayLine_129 (by decide) ?_
                  refine m_istore_n (lv' := [.ref 11, .int l1, .int 1, .int l3, .int 0, .int 0, .int r22]) dX11_rayLine_133 (Nat.le_of_ble_eq_true rfl) rfl rfl ?_
                  refine m_aload_n dX11_rayLine_134 rfl ?_
                  refine gf_X11_23 rfl dX11_rayLine_135 ?_
                  refine m_bipush (v := 86) dX11_rayLine_138 (by decide) ?_
                  refine m_iconst (v := 4) dX11_rayLine_140 (by decide) ?_
                  refine m_iload_n dX11_rayLine_141 rfl ?_
                  refine m_imul dX11_rayLine_142 ?_
                  refine m_iadd dX11_rayLine_143 ?_
                  refine m_iload_n dX11_rayLine_144 rfl ?_
                  refine m_iadd dX11_rayLine_145 ?_
                  refine m_iload dX11_rayLine_146 rfl ?_
                  refine m_if_eq 157 dX11_rayLine_148 (by decide) (fun c29 => ?_) (fun c29 => absurd c29 (by decide))
                  refine m_iload dX11_rayLine_157 rfl ?_
                  obtain ⟨b30, q⟩ := q
                  refine m_iastore dX11_rayLine_159 rfl (by decide) b30 ?_
                  refine m_iinc (v := (l3 + 1)) (lv' := [.ref 11, .int l1, .int 1, .int (l3 + 1), .int 0, .int 0, .int r22]) dX11_rayLine_160 (Nat.le_of_ble_eq_true rfl) rfl (congrArg (fun z => l3 + z) (by decide : Int32.ofInt 1 = 1)) rfl rfl ?_
                  refine m_goto 20 dX11_rayLine_163 (by decide) ?_
                  refine m_dropK (lv' := [.ref 11, .int l1, .int 1, .int (l3 + 1), .retAddr 0, .retAddr 0, .retAddr 0]) [4, 5, 6] rfl ?_
                  exact q
            · replace q := q.2 c19
              refine m_aload_n dX11_rayLine_75 rfl ?_
              refine gf_X11_97 rfl dX11_rayLine_76 ?_
              refine m_iconst (v := 3) dX11_rayLine_79 (by decide) ?_
              refine m_icmp_ne 94 dX11_rayLine_80 (by decide) (fun c31 => ?_) (fun c31 => ?_)
              · replace q := q.1 c31
                refine m_iconst (v := 0) dX11_rayLine_94 (by decide) ?_
                refine m_istore (lv' := [.ref 11, .int l1, .int l2, .int l3, .int 0, .int 0, .retAddr 0]) dX11_rayLine_95 (Nat.le_of_ble_eq_true rfl) rfl rfl ?_
                refine m_iload dX11_rayLine_97 rfl ?_
                refine m_if_eq 111 dX11_rayLine_99 (by decide) (fun c32 => ?_) (fun c32 => absurd c32 (by decide))
                refine m_aload_n dX11_rayLine_111 rfl ?_
                refine m_iconst (v := 0) dX11_rayLine_112 (by decide) ?_
                refine m_iconst (v := 3) dX11_rayLine_113 (by decide) ?_
                refine cl_X11_227 rfl (by decide) dX11_rayLine_114 (Nat.le_of_ble_eq_true rfl) (MCi_go q (fun r34 h33 q => ?_))
                refine m_istore (lv' := [.ref 11, .int l1, .int l2, .int l3, .int 0, .int 0, .int r34]) dX11_rayLine_117 (Nat.le_of_ble_eq_true rfl) rfl rfl ?_
                refine m_iload_n dX11_rayLine_119 rfl ?_
                refine m_if_ne 128 dX11_rayLine_120 (by decide) (fun c35 => ?_) (fun c35 => ?_)
                · replace q := q.1 c35
                  refine m_iconst (v := 1) dX11_rayLine_128 (by decide) ?_
                  refine m_goto 133 dX11_rayLine_129 (by decide) ?_
                  refine m_istore_n (lv' := [.ref 11, .int l1, .int 1, .int l3, .int 0, .int 0, .int r34]) dX11_rayLine_133 (Nat.le_of_ble_eq_true rfl) rfl rfl ?_
                  refine m_aload_n dX11_rayLine_134 rfl ?_
                  refine gf_X11_23 rfl dX11_rayLine_135 ?_
                  refine m_bipush (v := 86) dX11_rayLine_138 (by decide) ?_
                  refine m_iconst (v := 4) dX11_rayLine_140 (by decide) ?_
                  refine m_iload_n dX11_rayLine_141 rfl ?_
                  refine m_imul dX11_rayLine_142 ?_
                  refine m_iadd dX11_rayLine_143 ?_
                  refine m_iload_n dX11_rayLine_144 rfl ?_
                  refine m_iadd dX11_rayLine_145 ?_
                  refine m_iload dX11_rayLine_146 rfl ?_
                  refine m_if_eq 157 dX11_rayLine_148 (by decide) (fun c36 => ?_) (fun c36 => absurd c36 (by decide))
                  refine m_iload dX11_rayLine_157 rfl ?_
                  obtain ⟨b37, q⟩ := q
                  refine m_iastore dX11_rayLine_159 rfl (by decide) b37 ?_
                  refine m_iinc (v := (l3 + 1)) (lv' := [.ref 11, .int l1, .int 1, .int (l3 + 1), .int 0, .int 0, .int r34]) dX11_rayLine_160 (Nat.le_of_ble_eq_true rfl) rfl (congrArg (fun z => l3 + z) (by decide : Int32.ofInt 1 = 1)) rfl rfl ?_
                  refine m_goto 20 dX11_rayLine_163 (by decide) ?_
                  refine m_dropK (lv' := [.ref 11, .int l1, .int 1, .int (l3 + 1), .retAddr 0, .retAddr 0, .retAddr 0]) [4, 5, 6] rfl ?_
                  exact q
                · replace q := q.2 c35
                  refine m_iload dX11_rayLine_123 rfl ?_
                  refine m_if_le 132 dX11_rayLine_125 (by decide) (fun c38 => ?_) (fun c38 => ?_)
                  · replace q := q.1 c38
                    refine m_iconst (v := 0) dX11_rayLine_132 (by decide) ?_
                    refine m_istore_n (lv' := [.ref 11, .int l1, .int 0, .int l3, .int 0, .int 0, .int r34]) dX11_rayLine_133 (Nat.le_of_ble_eq_true rfl) rfl rfl ?_
                    refine m_aload_n dX11_rayLine_134 rfl ?_
                    refine gf_X11_23 rfl dX11_rayLine_135 ?_
                    refine m_bipush (v := 86) dX11_rayLine_138 (by decide) ?_
                    refine m_iconst (v := 4) dX11_rayLine_140 (by decide) ?_
                    refine m_iload_n dX11_rayLine_141 rfl ?_
                    refine m_imul dX11_rayLine_142 ?_
                    refine m_iadd dX11_rayLine_143 ?_
                    refine m_iload_n dX11_rayLine_144 rfl ?_
                    refine m_iadd dX11_rayLine_145 ?_
                    refine m_iload dX11_rayLine_146 rfl ?_
                    refine m_if_eq 157 dX11_rayLine_148 (by decide) (fun c39 => ?_) (fun c39 => absurd c39 (by decide))
                    refine m_iload dX11_rayLine_157 rfl ?_
                    obtain ⟨b40, q⟩ := q
                    refine m_iastore dX11_rayLine_159 rfl (by decide) b40 ?_
                    refine m_iinc (v := (l3 + 1)) (lv' := [.ref 11, .int l1, .int 0, .int (l3 + 1), .int 0, .int 0, .int r34]) dX11_rayLine_160 (Nat.le_of_ble_eq_true rfl) rfl (congrArg (fun z => l3 + z) (by decide : Int32.ofInt 1 = 1)) rfl rfl ?_
                    refine m_goto 20 dX11_rayLine_163 (by decide) ?_
                    refine m_dropK (lv' := [.ref 11, .int l1, .int 0, .int (l3 + 1), .retAddr 0, .retAddr 0, .retAddr 0]) [4, 5, 6] rfl ?_
                    exact q
                  · replace q := q.2 c38
                    refine m_iconst (v := 1) dX11_rayLine_128 (by decide) ?_
                    refine m_goto 133 dX11_rayLine_129 (by decide) ?_
                    refine m_istore_n (lv' := [.ref 11, .int l1, .int 1, .int l3, .int 0, .int 0, .int r34]) dX11_rayLine_133 (Nat.le_of_ble_eq_true rfl) rfl rfl ?_
                    refine m_aload_n dX11_rayLine_134 rfl ?_
                    refine gf_X11_23 rfl dX11_rayLine_135 ?_
                    refine m_bipush (v := 86) dX11_rayLine_138 (by decide) ?_
                    refine m_iconst (v := 4) dX11_rayLine_140 (by decide) ?_
                    refine m_iload_n dX11_rayLine_141 rfl ?_
                    refine m_imul dX11_rayLine_142 ?_
                    refine m_iadd dX11_rayLine_143 ?_
                    refine m_iload_n dX11_rayLine_144 rfl ?_
                    refine m_iadd dX11_rayLine_145 ?_
                    refine m_iload dX11_rayLine_146 rfl ?_
                    refine m_if_eq 157 dX11_rayLine_148 (by decide) (fun c41 => ?_) (fun c41 => absurd c41 (by decide))
                    refine m_iload dX11_rayLine_157 rfl ?_
                    obtain ⟨b42, q⟩ := q
                    refine m_iastore dX11_rayLine_159 rfl (by decide) b42 ?_
                    refine m_iinc (v := (l3 + 1)) (lv' := [.ref 11, .int l1, .int 1, .int (l3 + 1), .int 0, .int 0, .int r34]) dX11_rayLine_160 (Nat.le_of_ble_eq_true rfl) rfl (congrArg (fun z => l3 + z) (by decide : Int32.ofInt 1 = 1)) rfl rfl ?_
                    refine m_goto 20 dX11_rayLine_163 (by decide) ?_
                    refine m_dropK (lv' := [.ref 11, .int l1, .int 1, .int (l3 + 1), .retAddr 0, .retAddr 0, .retAddr 0]) [4, 5, 6] rfl ?_
                    exact q
              · replace q := q.2 c31
                refine m_aload_n dX11_rayLine_83 rfl ?_
                refine gf_X11_94 rfl dX11_rayLine_84 ?_
                refine m_if_ne 94 dX11_rayLine_87 (by decide) (fun c43 => ?_) (fun c43 => ?_)
                · replace q := q.1 c43
                  refine m_iconst (v := 0) dX11_rayLine_94 (by decide) ?_
                  refine m_istore (lv' := [.ref 11, .int l1, .int l2, .int l3, .int 0, .int 0, .retAddr 0]) dX11_rayLine_95 (Nat.le_of_ble_eq_true rfl) rfl rfl ?_
                  refine m_iload dX11_rayLine_97 rfl ?_
                  refine m_if_eq 111 dX11_rayLine_99 (by decide) (fun c44 => ?_) (fun c44 => absurd c44 (by decide))
                  refine m_aload_n dX11_rayLine_111 rfl ?_
                  refine m_iconst (v := 0) dX11_rayLine_112 (by decide) ?_
                  refine m_iconst (v := 3) dX11_rayLine_113 (by decide) ?_
                  refine cl_X11_227 rfl (by decide) dX11_rayLine_114 (Nat.le_of_ble_eq_true rfl) (MCi_go q (fun r46 h45 q => ?_))
                  refine m_istore (lv' := [.ref 11, .int l1, .int l2, .int l3, .int 0, .int 0, .int r46]) dX11_rayLine_117 (Nat.le_of_ble_eq_true rfl) rfl rfl ?_
                  refine m_iload_n dX11_rayLine_119 rfl ?_
                  refine m_if_ne 128 dX11_rayLine_120 (by decide) (fun c47 => ?_) (fun c47 => ?_)
                  · replace q := q.1 c47
                    refine m_iconst (v := 1) dX11_rayLine_128 (by decide) ?_
                    refine m_goto 133 dX11_rayLine_129 (by decide) ?_
                    refine m_istore_n (lv' := [.ref 11, .int l1, .int 1, .int l3, .int 0, .int 0, .int r46]) dX11_rayLine_133 (Nat.le_of_ble_eq_true rfl) rfl rfl ?_
                    refine m_aload_n dX11_rayLine_134 rfl ?_
                    refine gf_X11_23 rfl dX11_rayLine_135 ?_
                    refine m_bipush (v := 86) dX11_rayLine_138 (by decide) ?_
                    refine m_iconst (v := 4) dX11_rayLine_140 (by decide) ?_
                    refine m_iload_n dX11_rayLine_141 rfl ?_
                    refine m_imul dX11_rayLine_142 ?_
                    refine m_iadd dX11_rayLine_143 ?_
                    refine m_iload_n dX11_rayLine_144 rfl ?_
                    refine m_iadd dX11_rayLine_145 ?_
                    refine m_iload dX11_rayLine_146 rfl ?_
                    refine m_if_eq 157 dX11_rayLine_148 (by decide) (fun c48 => ?_) (fun c48 => absurd c48 (by decide))
                    refine m_iload dX11_rayLine_157 rfl ?_
                    obtain ⟨b49, q⟩ := q
                    refine m_iastore dX11_rayLine_159 rfl (by decide) b49 ?_
                    refine m_iinc (v := (l3 + 1)) (lv' := [.ref 11, .int l1, .int 1, .int (l3 + 1), .int 0, .int 0, .int r46]) dX11_rayLine_160 (Nat.le_of_ble_eq_true rfl) rfl (congrArg (fun z => l3 + z) (by decide : Int32.ofInt 1 = 1)) rfl rfl ?_
                    refine m_goto 20 dX11_rayLine_163 (by decide) ?_
                    refine m_dropK (lv' := [.ref 11, .int l1, .int 1, .int (l3 + 1), .retAddr 0, .retAddr 0, .retAddr 0]) [4, 5, 6] rfl ?_
                    exact q
                  · replace q := q.2 c47
                    refine m_iload dX11_rayLine_123 rfl ?_
                    refine m_if_le 132 dX11_rayLine_125 (by decide) (fun c50 => ?_) (fun c50 => ?_)
                    · replace q := q.1 c50
                      refine m_iconst (v := 0) dX11_rayLine_132 (by decide) ?_
                      refine m_istore_n (lv' := [.ref 11, .int l1, .int 0, .int l3, .int 0, .int 0, .int r46]) dX11_rayLine_133 (Nat.le_of_ble_eq_true rfl) rfl rfl ?_
                      refine m_aload_n dX11_rayLine_134 rfl ?_
                      refine gf_X11_23 rfl dX11_rayLine_135 ?_
                      refine m_bipush (v := 86) dX11_rayLine_138 (by decide) ?_
                      refine m_iconst (v := 4) dX11_rayLine_140 (by decide) ?_
                      refine m_iload_n dX11_rayLine_141 rfl ?_
                      refine m_imul dX11_rayLine_142 ?_
                      refine m_iadd dX11_rayLine_143 ?_
                      refine m_iload_n dX11_rayLine_144 rfl ?_
                      refine m_iadd dX11_rayLine_145 ?_
                      refine m_iload dX11_rayLine_146 rfl ?_
                      refine m_if_eq 157 dX11_rayLine_148 (by decide) (fun c51 => ?_) (fun c51 => absurd c51 (by decide))
                      refine m_iload dX11_rayLine_157 rfl ?_
                      obtain ⟨b52, q⟩ := q
                      refine m_iastore dX11_rayLine_159 rfl (by decide) b52 ?_
                      refine m_iinc (v := (l3 + 1)) (lv' := [.ref 11, .int l1, .int 0, .int (l3 + 1), .int 0, .int 0, .int r46]) dX11_rayLine_160 (Nat.le_of_ble_eq_true rfl) rfl (congrArg (fun z => l3 + z) (by decide : Int32.ofInt 1 = 1)) rfl rfl ?_
                      refine m_goto 20 dX11_rayLine_163 (by decide) ?_
                      refine m_dropK (lv' := [.ref 11, .int l1, .int 0, .int (l3 + 1), .retAddr 0, .retAddr 0, .retAddr 0]) [4, 5, 6] rfl ?_
                      exact q
                    · replace q := q.2 c50
                      refine m_iconst (v := 1) dX11_rayLine_128 (by decide) ?_
                      refine m_goto 133 dX11_rayLine_129 (by decide) ?_
                      refine m_istore_n (lv' := [.ref 11, .int l1, .int 1, .int l3, .int 0, .int 0, .int r46]) dX11_rayLine_133 (Nat.le_of_ble_eq_true rfl) rfl rfl ?_
                      refine m_aload_n dX11_rayLine_134 rfl ?_
                      refine gf_X11_23 rfl dX11_rayLine_135 ?_
                      refine m_bipush (v := 86) dX11_rayLine_138 (by decide) ?_
                      refine m_iconst (v := 4) dX11_rayLine_140 (by decide) ?_
                      refine m_iload_n dX11_rayLine_141 rfl ?_
                      refine m_imul dX11_rayLine_142 ?_
                      refine m_iadd dX11_rayLine_143 ?_
                      refine m_iload_n dX11_rayLine_144 rfl ?_
                      refine m_iadd dX11_rayLine_145 ?_
                      refine m_iload dX11_rayLine_146 rfl ?_
                      refine m_if_eq 157 dX11_rayLine_148 (by decide) (fun c53 => ?_) (fun c53 => absurd c53 (by decide))
                      refine m_iload dX11_rayLine_157 rfl ?_
                      obtain ⟨b54, q⟩ := q
                      refine m_iastore dX11_rayLine_159 rfl (by decide) b54 ?_
                      refine m_iinc (v := (l3 + 1)) (lv' := [.ref 11, .int l1, .int 1, .int (l3 + 1), .int 0, .int 0, .int r46]) dX11_rayLine_160 (Nat.le_of_ble_eq_true rfl) rfl (congrArg (fun z => l3 + z) (by decide : Int32.ofInt 1 = 1)) rfl rfl ?_
                      refine m_goto 20 dX11_rayLine_163 (by decide) ?_
                      refine m_dropK (lv' := [.ref 11, .int l1, .int 1, .int (l3 + 1), .retAddr 0, .retAddr 0, .retAddr 0]) [4, 5, 6] rfl ?_
                      exact q
                · replace q := q.2 c43
                  refine m_iconst (v := 1) dX11_rayLine_90 (by decide) ?_
                  refine m_goto 95 dX11_rayLine_91 (by decide) ?_
                  refine m_istore (lv' := [.ref 11, .int l1, .int l2, .int l3, .int 0, .int 1, .retAddr 0]) dX11_rayLine_95 (Nat.le_of_ble_eq_true rfl) rfl rfl ?_
                  refine m_iload dX11_rayLine_97 rfl ?_
                  refine m_if_eq 111 dX11_rayLine_99 (by decide) (fun c55 => absurd c55 (by decide)) (fun c55 => ?_)
                  refine m_aload_n dX11_rayLine_102 rfl ?_
                  refine m_iconst (v := 4) dX11_rayLine_103 (by decide) ?_
                  refine m_aload_n dX11_rayLine_104 rfl ?_
                  refine gf_X11_88 rfl dX11_rayLine_105 ?_
                  refine cl_X11_134 rfl (by decide) dX11_rayLine_108 (Nat.le_of_ble_eq_true rfl) (MCv_go q (fun h56 q => ?_))
                  refine m_aload_n dX11_rayLine_111 rfl ?_
                  refine m_iconst (v := 0) dX11_rayLine_112 (by decide) ?_
                  refine m_iconst (v := 3) dX11_rayLine_113 (by decide) ?_
                  refine cl_X11_227 rfl (by decide) dX11_rayLine_114 (Nat.le_of_ble_eq_true rfl) (MCi_go q (fun r58 h57 q => ?_))
                  refine m_istore (lv' := [.ref 11, .int l1, .int l2, .int l3, .int 0, .int 1, .int r58]) dX11_rayLine_117 (Nat.le_of_ble_eq_true rfl) rfl rfl ?_
                  refine m_iload_n dX11_rayLine_119 rfl ?_
                  refine m_if_ne 128 dX11_rayLine_120 (by decide) (fun c59 => ?_) (fun c59 => ?_)
                  · replace q := q.1 c59
                    refine m_iconst (v := 1) dX11_rayLine_128 (by decide) ?_
                    refine m_goto 133 dX11_rayLine_129 (by decide) ?_
                    refine m_istore_n (lv' := [.ref 11, .int l1, .int 1, .int l3, .int 0, .int 1, .int r58]) dX11_rayLine_133 (Nat.le_of_ble_eq_true rfl) rfl rfl ?_
                    refine m_aload_n dX11_rayLine_134 rfl ?_
                    refine gf_X11_23 rfl dX11_rayLine_135 ?_
                    refine m_bipush (v := 86) dX11_rayLine_138 (by decide) ?_
                    refine m_iconst (v := 4) dX11_rayLine_140 (by decide) ?_
                    refine m_iload_n dX11_rayLine_141 rfl ?_
                    refine m_imul dX11_rayLine_142 ?_
                    refine m_iadd dX11_rayLine_143 ?_
                    refine m_iload_n dX11_rayLine_144 rfl ?_
                    refine m_iadd dX11_rayLine_145 ?_
                    refine m_iload dX11_rayLine_146 rfl ?_
                    refine m_if_eq 157 dX11_rayLine_148 (by decide) (fun c60 => ?_) (fun c60 => absurd c60 (by decide))
                    refine m_iload dX11_rayLine_157 rfl ?_
                    obtain ⟨b61, q⟩ := q
                    refine m_iastore dX11_rayLine_159 rfl (by decide) b61 ?_
                    refine m_iinc (v := (l3 + 1)) (lv' := [.ref 11, .int l1, .int 1, .int (l3 + 1), .int 0, .int 1, .int r58]) dX11_rayLine_160 (Nat.le_of_ble_eq_true rfl) rfl (congrArg (fun z => l3 + z) (by decide : Int32.ofInt 1 = 1)) rfl rfl ?_
                    refine m_goto 20 dX11_rayLine_163 (by decide) ?_
                    refine m_dropK (lv' := [.ref 11, .int l1, .int 1, .int (l3 + 1), .retAddr 0, .retAddr 0, .retAddr 0]) [4, 5, 6] rfl ?_
                    exact q
                  · replace q := q.2 c59
                    refine m_iload dX11_rayLine_123 rfl ?_
                    refine m_if_le 132 dX11_rayLine_125 (by decide) (fun c62 => ?_) (fun c62 => ?_)
                    · replace q := q.1 c62
                      refine m_iconst (v := 0) dX11_rayLine_132 (by decide) ?_
                      refine m_istore_n (lv' := [.ref 11, .int l1, .int 0, .int l3, .int 0, .int 1, .int r58]) dX11_rayLine_133 (Nat.le_of_ble_eq_true rfl) rfl rfl ?_
                      refine m_aload_n dX11_rayLine_134 rfl ?_
                      refine gf_X11_23 rfl dX11_rayLine_135 ?_
                      refine m_bipush (v := 86) dX11_rayLine_138 (by decide) ?_
                      refine m_iconst (v := 4) dX11_rayLine_140 (by decide) ?_
                      refine m_iload_n dX11_rayLine_141 rfl ?_
                      refine m_imul dX11_rayLine_142 ?_
                      refine m_iadd dX11_rayLine_143 ?_
                      refine m_iload_n dX11_rayLine_144 rfl ?_
                      refine m_iadd dX11_rayLine_145 ?_
                      refine m_iload dX11_rayLine_146 rfl ?_
                      refine m_if_eq 157 dX11_rayLine_148 (by decide) (fun c63 => ?_) (fun c63 => absurd c63 (by decide))
                      refine m_iload dX11_rayLine_157 rfl ?_
                      obtain ⟨b64, q⟩ := q
                      refine m_iastore dX11_rayLine_159 rfl (by decide) b64 ?_
                      refine m_iinc (v := (l3 + 1)) (lv' := [.ref 11, .int l1, .int 0, .int (l3 + 1), .int 0, .int 1, .int r58]) dX11_rayLine_160 (Nat.le_of_ble_eq_true rfl) rfl (congrArg (fun z => l3 + z) (by decide : Int32.ofInt 1 = 1)) rfl rfl ?_
                      refine m_goto 20 dX11_rayLine_163 (by decide) ?_
                      refine m_dropK (lv' := [.ref 11, .int l1, .int 0, .int (l3 + 1), .retAddr 0, .retAddr 0, .retAddr 0]) [4, 5, 6] rfl ?_
                      exact q
                    · replace q := q.2 c62
                      refine m_iconst (v := 1) dX11_rayLine_128 (by decide) ?_
                      refine m_goto 133 dX11_rayLine_129 (by decide) ?_
                      refine m_istore_n (lv' := [.ref 11, .int l1, .int 1, .int l3, .int 0, .int 1, .int r58]) dX11_rayLine_133 (Nat.le_of_ble_eq_true rfl) rfl rfl ?_
                      refine m_aload_n dX11_rayLine_134 rfl ?_
                      refine gf_X11_23 rfl dX11_rayLine_135 ?_
                      refine m_bipush (v := 86) dX11_rayLine_138 (by decide) ?_
                      refine m_iconst (v := 4) dX11_rayLine_140 (by decide) ?_
                      refine m_iload_n dX11_rayLine_141 rfl ?_
                      refine m_imul dX11_rayLine_142 ?_
                      refine m_iadd dX11_rayLine_143 ?_
                      refine m_iload_n dX11_rayLine_144 rfl ?_
                      refine m_iadd dX11_rayLine_145 ?_
                      refine m_iload dX11_rayLine_146 rfl ?_
                      refine m_if_eq 157 dX11_rayLine_148 (by decide) (fun c65 => ?_) (fun c65 => absurd c65 (by decide))
                      refine m_iload dX11_rayLine_157 rfl ?_
                      obtain ⟨b66, q⟩ := q
                      refine m_iastore dX11_rayLine_159 rfl (by decide) b66 ?_
                      refine m_iinc (v := (l3 + 1)) (lv' := [.ref 11, .int l1, .int 1, .int (l3 + 1), .int 0, .int 1, .int r58]) dX11_rayLine_160 (Nat.le_of_ble_eq_true rfl) rfl (congrArg (fun z => l3 + z) (by decide : Int32.ofInt 1 = 1)) rfl rfl ?_
                      refine m_goto 20 dX11_rayLine_163 (by decide) ?_
                      refine m_dropK (lv' := [.ref 11, .int l1, .int 1, .int (l3 + 1), .retAddr 0, .retAddr 0, .retAddr 0]) [4, 5, 6] rfl ?_
                      exact q
        · replace q := q.2 c5
          refine m_iconst (v := 1) dX11_rayLine_50 (by decide) ?_
          refine m_goto 55 dX11_rayLine_51 (by decide) ?_
          refine m_istore (lv' := [.ref 11, .int l1, .int l2, .int l3, .int 1, .retAddr 0, .retAddr 0]) dX11_rayLine_55 (Nat.le_of_ble_eq_true rfl) rfl rfl ?_
          refine m_iload dX11_rayLine_57 rfl ?_
          refine m_if_eq 66 dX11_rayLine_59 (by decide) (fun c67 => absurd c67 (by decide)) (fun c67 => ?_)
          refine m_aload_n dX11_rayLine_62 rfl ?_
          refine cl_X11_128 rfl (by decide) dX11_rayLine_63 (Nat.le_of_ble_eq_true rfl) (MCv_go q (fun h68 q => ?_))
          refine m_iload_n dX11_rayLine_66 rfl ?_
          refine m_iconst (v := 3) dX11_rayLine_67 (by decide) ?_
          refine m_icmp_ne 94 dX11_rayLine_68 (by decide) (fun c69 => ?_) (fun c69 => ?_)
          · replace q := q.1 c69
            refine m_iconst (v := 0) dX11_rayLine_94 (by decide) ?_
            refine m_istore (lv' := [.ref 11, .int l1, .int l2, .int l3, .int 1, .int 0, .retAddr 0]) dX11_rayLine_95 (Nat.le_of_ble_eq_true rfl) rfl rfl ?_
            refine m_iload dX11_rayLine_97 rfl ?_
            refine m_if_eq 111 dX11_rayLine_99 (by decide) (fun c70 => ?_) (fun c70 => absurd c70 (by decide))
            refine m_aload_n dX11_rayLine_111 rfl ?_
            refine m_iconst (v := 0) dX11_rayLine_112 (by decide) ?_
            refine m_iconst (v := 3) dX11_rayLine_113 (by decide) ?_
            refine cl_X11_227 rfl (by decide) dX11_rayLine_114 (Nat.le_of_ble_eq_true rfl) (MCi_go q (fun r72 h71 q => ?_))
            refine m_istore (lv' := [.ref 11, .int l1, .int l2, .int l3, .int 1, .int 0, .int r72]) dX11_rayLine_117 (Nat.le_of_ble_eq_true rfl) rfl rfl ?_
            refine m_iload_n dX11_rayLine_119 rfl ?_
            refine m_if_ne 128 dX11_rayLine_120 (by decide) (fun c73 => ?_) (fun c73 => ?_)
            · replace q := q.1 c73
              refine m_iconst (v := 1) dX11_rayLine_128 (by decide) ?_
              refine m_goto 133 dX11_rayLine_129 (by decide) ?_
              refine m_istore_n (lv' := [.ref 11, .int l1, .int 1, .int l3, .int 1, .int 0, .int r72]) dX11_rayLine_133 (Nat.le_of_ble_eq_true rfl) rfl rfl ?_
              refine m_aload_n dX11_rayLine_134 rfl ?_
              refine gf_X11_23 rfl dX11_rayLine_135 ?_
              refine m_bipush (v := 86) dX11_rayLine_138 (by decide) ?_
              refine m_iconst (v := 4) dX11_rayLine_140 (by decide) ?_
              refine m_iload_n dX11_rayLine_141 rfl ?_
              refine m_imul dX11_rayLine_142 ?_
              refine m_iadd dX11_rayLine_143 ?_
              refine m_iload_n dX11_rayLine_144 rfl ?_
              refine m_iadd dX11_rayLine_145 ?_
              refine m_iload dX11_rayLine_146 rfl ?_
              refine m_if_eq 157 dX11_rayLine_148 (by decide) (fun c74 => absurd c74 (by decide)) (fun c74 => ?_)
              refine m_iload dX11_rayLine_151 rfl ?_
              refine m_ineg dX11_rayLine_153 ?_
              refine m_goto 159 dX11_rayLine_154 (by decide) ?_
              obtain ⟨b75, q⟩ := q
              refine m_iastore dX11_rayLine_159 rfl (by decide) b75 ?_
              refine m_iinc (v := (l3 + 1)) (lv' := [.ref 11, .int l1, .int 1, .int (l3 + 1), .int 1, .int 0, .int r72]) dX11_rayLine_160 (Nat.le_of_ble_eq_true rfl) rfl (congrArg (fun z => l3 + z) (by decide : Int32.ofInt 1 = 1)) rfl rfl ?_
              refine m_goto 20 dX11_rayLine_163 (by decide) ?_
              refine m_dropK (lv' := [.ref 11, .int l1, .int 1, .int (l3 + 1), .retAddr 0, .retAddr 0, .retAddr 0]) [4, 5, 6] rfl ?_
              exact q
            · replace q := q.2 c73
              refine m_iload dX11_rayLine_123 rfl ?_
              refine m_if_le 132 dX11_rayLine_125 (by decide) (fun c76 => ?_) (fun c76 => ?_)
              · replace q := q.1 c76
                refine m_iconst (v := 0) dX11_rayLine_132 (by decide) ?_
                refine m_istore_n (lv' := [.ref 11, .int l1, .int 0, .int l3, .int 1, .int 0, .int r72]) dX11_rayLine_133 (Nat.le_of_ble_eq_true rfl) rfl rfl ?_
                refine m_aload_n dX11_rayLine_134 rfl ?_
                refine gf_X11_23 rfl dX11_rayLine_135 ?_
                refine m_bipush (v := 86) dX11_rayLine_138 (by decide) ?_
                refine m_iconst (v := 4) dX11_rayLine_140 (by decide) ?_
                refine m_iload_n dX11_rayLine_141 rfl ?_
                refine m_imul dX11_rayLine_142 ?_
                refine m_iadd dX11_rayLine_143 ?_
                refine m_iload_n dX11_rayLine_144 rfl ?_
                refine m_iadd dX11_rayLine_145 ?_
                refine m_iload dX11_rayLine_146 rfl ?_
                refine m_if_eq 157 dX11_rayLine_148 (by decide) (fun c77 => absurd c77 (by decide)) (fun c77 => ?_)
                refine m_iload dX11_rayLine_151 rfl ?_
                refine m_ineg dX11_rayLine_153 ?_
                refine m_goto 159 dX11_rayLine_154 (by decide) ?_
                obtain ⟨b78, q⟩ := q
                refine m_iastore dX11_rayLine_159 rfl (by decide) b78 ?_
                refine m_iinc (v := (l3 + 1)) (lv' := [.ref 11, .int l1, .int 0, .int (l3 + 1), .int 1, .int 0, .int r72]) dX11_rayLine_160 (Nat.le_of_ble_eq_true rfl) rfl (congrArg (fun z => l3 + z) (by decide : Int32.ofInt 1 = 1)) rfl rfl ?_
                refine m_goto 20 dX11_rayLine_163 (by decide) ?_
                refine m_dropK (lv' := [.ref 11, .int l1, .int 0, .int (l3 + 1), .retAddr 0, .retAddr 0, .retAddr 0]) [4, 5, 6] rfl ?_
                exact q
              · replace q := q.2 c76
                refine m_iconst (v := 1) dX11_rayLine_128 (by decide) ?_
                refine m_goto 133 dX11_rayLine_129 (by decide) ?_
                refine m_istore_n (lv' := [.ref 11, .int l1, .int 1, .int l3, .int 1, .int 0, .int r72]) dX11_rayLine_133 (Nat.le_of_ble_eq_true rfl) rfl rfl ?_
                refine m_aload_n dX11_rayLine_134 rfl ?_
                refine gf_X11_23 rfl dX11_rayLine_135 ?_
                refine m_bipush (v := 86) dX11_rayLine_138 (by decide) ?_
                refine m_iconst (v := 4) dX11_rayLine_140 (by decide) ?_
                refine m_iload_n dX11_rayLine_141 rfl ?_
                refine m_imul dX11_rayLine_142 ?_
                refine m_iadd dX11_rayLine_143 ?_
                refine m_iload_n dX11_rayLine_144 rfl ?_
                refine m_iadd dX11_rayLine_145 ?_
                refine m_iload dX11_rayLine_146 rfl ?_
                refine m_if_eq 157 dX11_rayLine_148 (by decide) (fun c79 => absurd c79 (by decide)) (fun c79 => ?_)
                refine m_iload dX11_rayLine_151 rfl ?_
                refine m_ineg dX11_rayLine_153 ?_
                refine m_goto 159 dX11_rayLine_154 (by decide) ?_
                obtain ⟨b80, q⟩ := q
                refine m_iastore dX11_rayLine_159 rfl (by decide) b80 ?_
                refine m_iinc (v := (l3 + 1)) (lv' := [.ref 11, .int l1, .int 1, .int (l3 + 1), .int 1, .int 0, .int r72]) dX11_rayLine_160 (Nat.le_of_ble_eq_true rfl) rfl (congrArg (fun z => l3 + z) (by decide : Int32.ofInt 1 = 1)) rfl rfl ?_
                refine m_goto 20 dX11_rayLine_163 (by decide) ?_
                refine m_dropK (lv' := [.ref 11, .int l1, .int 1, .int (l3 + 1), .retAddr 0, .retAddr 0, .retAddr 0]) [4, 5, 6] rfl ?_
                exact q
          · replace q := q.2 c69
            refine m_iload_n dX11_rayLine_71 rfl ?_
            refine m_if_ne 94 dX11_rayLine_72 (by decide) (fun c81 => ?_) (fun c81 => ?_)
            · replace q := q.1 c81
              refine m_iconst (v := 0) dX11_rayLine_94 (by decide) ?_
              refine m_istore (lv' := [.ref 11, .int l1, .int l2, .int l3, .int 1, .int 0, .retAddr 0]) dX11_rayLine_95 (Nat.le_of_ble_eq_true rfl) rfl rfl ?_
              refine m_iload dX11_rayLine_97 rfl ?_
              refine m_if_eq 111 dX11_rayLine_99 (by decide) (fun c82 => ?_) (fun c82 => absurd c82 (by decide))
              refine m_aload_n dX11_rayLine_111 rfl ?_
              refine m_iconst (v := 0) dX11_rayLine_112 (by decide) ?_
              refine m_iconst (v := 3) dX11_rayLine_113 (by decide) ?_
              refine cl_X11_227 rfl (by decide) dX11_rayLine_114 (Nat.le_of_ble_eq_true rfl) (MCi_go q (fun r84 h83 q => ?_))
              refine m_istore (lv' := [.ref 11, .int l1, .int l2, .int l3, .int 1, .int 0, .int r84]) dX11_rayLine_117 (Nat.le_of_ble_eq_true rfl) rfl rfl ?_
              refine m_iload_n dX11_rayLine_119 rfl ?_
              refine m_if_ne 128 dX11_rayLine_120 (by decide) (fun c85 => ?_) (fun c85 => ?_)
              · replace q := q.1 c85
                refine m_iconst (v := 1) dX11_rayLine_128 (by decide) ?_
                refine m_goto 133 dX11_rayLine_129 (by decide) ?_
                refine m_istore_n (lv' := [.ref 11, .int l1, .int 1, .int l3, .int 1, .int 0, .int r84]) dX11_rayLine_133 (Nat.le_of_ble_eq_true rfl) rfl rfl ?_
                refine m_aload_n dX11_rayLine_134 rfl ?_
                refine gf_X11_23 rfl dX11_rayLine_135 ?_
                refine m_bipush (v := 86) dX11_rayLine_138 (by decide) ?_
                refine m_iconst (v := 4) dX11_rayLine_140 (by decide) ?_
                refine m_iload_n dX11_rayLine_141 rfl ?_
                refine m_imul dX11_rayLine_142 ?_
                refine m_iadd dX11_rayLine_143 ?_
                refine m_iload_n dX11_rayLine_144 rfl ?_
                refine m_iadd dX11_rayLine_145 ?_
                refine m_iload dX11_rayLine_146 rfl ?_
                refine m_if_eq 157 dX11_rayLine_148 (by decide) (fun c86 => absurd c86 (by decide)) (fun c86 => ?_)
                refine m_iload dX11_rayLine_151 rfl ?_
                refine m_ineg dX11_rayLine_153 ?_
                refine m_goto 159 dX11_rayLine_154 (by decide) ?_
                obtain ⟨b87, q⟩ := q
                refine m_iastore dX11_rayLine_159 rfl (by decide) b87 ?_
                refine m_iinc (v := (l3 + 1)) (lv' := [.ref 11, .int l1, .int 1, .int (l3 + 1), .int 1, .int 0, .int r84]) dX11_rayLine_160 (Nat.le_of_ble_eq_true rfl) rfl (congrArg (fun z => l3 + z) (by decide : Int32.ofInt 1 = 1)) rfl rfl ?_
                refine m_goto 20 dX11_rayLine_163 (by decide) ?_
                refine m_dropK (lv' := [.ref 11, .int l1, .int 1, .int (l3 + 1), .retAddr 0, .retAddr 0, .retAddr 0]) [4, 5, 6] rfl ?_
                exact q
              · replace q := q.2 c85
                refine m_iload dX11_rayLine_123 rfl ?_
                refine m_if_le 132 dX11_rayLine_125 (by decide) (fun c88 => ?_) (fun c88 => ?_)
                · replace q := q.1 c88
                  refine m_iconst (v := 0) dX11_rayLine_132 (by decide) ?_
                  refine m_istore_n (lv' := [.ref 11, .int l1, .int 0, .int l3, .int 1, .int 0, .int r84]) dX11_rayLine_133 (Nat.le_of_ble_eq_true rfl) rfl rfl ?_
                  refine m_aload_n dX11_rayLine_134 rfl ?_
                  refine gf_X11_23 rfl dX11_rayLine_135 ?_
                  refine m_bipush (v := 86) dX11_rayLine_138 (by decide) ?_
                  refine m_iconst (v := 4) dX11_rayLine_140 (by decide) ?_
                  refine m_iload_n dX11_rayLine_141 rfl ?_
                  refine m_imul dX11_rayLine_142 ?_
                  refine m_iadd dX11_rayLine_143 ?_
                  refine m_iload_n dX11_rayLine_144 rfl ?_
                  refine m_iadd dX11_rayLine_145 ?_
                  refine m_iload dX11_rayLine_146 rfl ?_
                  refine m_if_eq 157 dX11_rayLine_148 (by decide) (fun c89 => absurd c89 (by decide)) (fun c89 => ?_)
                  refine m_iload dX11_rayLine_151 rfl ?_
                  refine m_ineg dX11_rayLine_153 ?_
                  refine m_goto 159 dX11_rayLine_154 (by decide) ?_
                  obtain ⟨b90, q⟩ := q
                  refine m_iastore dX11_rayLine_159 rfl (by decide) b90 ?_
                  refine m_iinc (v := (l3 + 1)) (lv' := [.ref 11, .int l1, .int 0, .int (l3 + 1), .int 1, .int 0, .int r84]) dX11_rayLine_160 (Nat.le_of_ble_eq_true rfl) rfl (congrArg (fun z => l3 + z) (by decide : Int32.ofInt 1 = 1)) rfl rfl ?_
                  refine m_goto 20 dX11_rayLine_163 (by decide) ?_
                  refine m_dropK (lv' := [.ref 11, .int l1, .int 0, .int (l3 + 1), .retAddr 0, .retAddr 0, .retAddr 0]) [4, 5, 6] rfl ?_
                  exact q
                · replace q := q.2 c88
                  refine m_iconst (v := 1) dX11_rayLine_128 (by decide) ?_
                  refine m_goto 133 dX11_rayLine_129 (by decide) ?_
                  refine m_istore_n (lv' := [.ref 11, .int l1, .int 1, .int l3, .int 1, .int 0, .int r84]) dX11_rayLine_133 (Nat.le_of_ble_eq_true rfl) rfl rfl ?_
                  refine m_aload_n dX11_rayLine_134 rfl ?_
                  refine gf_X11_23 rfl dX11_rayLine_135 ?_
                  refine m_bipush (v := 86) dX11_rayLine_138 (by decide) ?_
                  refine m_iconst (v := 4) dX11_rayLine_140 (by decide) ?_
                  refine m_iload_n dX11_rayLine_141 rfl ?_
                  refine m_imul dX11_rayLine_142 ?_
                  refine m_iadd dX11_rayLine_143 ?_
                  refine m_iload_n dX11_rayLine_144 rfl ?_
                  refine m_iadd dX11_rayLine_145 ?_
                  refine m_iload dX11_rayLine_146 rfl ?_
                  refine m_if_eq 157 dX11_rayLine_148 (by decide) (fun c91 => absurd c91 (by decide)) (fun c91 => ?_)
                  refine m_iload dX11_rayLine_151 rfl ?_
                  refine m_ineg dX11_rayLine_153 ?_
                  refine m_goto 159 dX11_rayLine_154 (by decide) ?_
                  obtain ⟨b92, q⟩ := q
                  refine m_iastore dX11_rayLine_159 rfl (by decide) b92 ?_
                  refine m_iinc (v := (l3 + 1)) (lv' := [.ref 11, .int l1, .int 1, .int (l3 + 1), .int 1, .int 0, .int r84]) dX11_rayLine_160 (Nat.le_of_ble_eq_true rfl) rfl (congrArg (fun z => l3 + z) (by decide : Int32.ofInt 1 = 1)) rfl rfl ?_
                  refine m_goto 20 dX11_rayLine_163 (by decide) ?_
                  refine m_dropK (lv' := [.ref 11, .int l1, .int 1, .int (l3 + 1), .retAddr 0, .retAddr 0, .retAddr 0]) [4, 5, 6] rfl ?_
                  exact q
            · replace q := q.2 c81
              refine m_aload_n dX11_rayLine_75 rfl ?_
              refine gf_X11_97 rfl dX11_rayLine_76 ?_
              refine m_iconst (v := 3) dX11_rayLine_79 (by decide) ?_
              refine m_icmp_ne 94 dX11_rayLine_80 (by decide) (fun c93 => ?_) (fun c93 => ?_)
              · replace q := q.1 c93
                refine m_iconst (v := 0) dX11_rayLine_94 (by decide) ?_
                refine m_istore (lv' := [.ref 11, .int l1, .int l2, .int l3, .int 1, .int 0, .retAddr 0]) dX11_rayLine_95 (Nat.le_of_ble_eq_true rfl) rfl rfl ?_
                refine m_iload dX11_rayLine_97 rfl ?_
                refine m_if_eq 111 dX11_rayLine_99 (by decide) (fun c94 => ?_) (fun c94 => absurd c94 (by decide))
                refine m_aload_n dX11_rayLine_111 rfl ?_
                refine m_iconst (v := 0) dX11_rayLine_112 (by decide) ?_
                refine m_iconst (v := 3) dX11_rayLine_113 (by decide) ?_
                refine cl_X11_227 rfl (by decide) dX11_rayLine_114 (Nat.le_of_ble_eq_true rfl) (MCi_go q (fun r96 h95 q => ?_))
                refine m_istore (lv' := [.ref 11, .int l1, .int l2, .int l3, .int 1, .int 0, .int r96]) dX11_rayLine_117 (Nat.le_of_ble_eq_true rfl) rfl rfl ?_
                refine m_iload_n dX11_rayLine_119 rfl ?_
                refine m_if_ne 128 dX11_rayLine_120 (by decide) (fun c97 => ?_) (fun c97 => ?_)
                · replace q := q.1 c97
                  refine m_iconst (v := 1) dX11_rayLine_128 (by decide) ?_
                  refine m_goto 133 dX11_rayLine_129 (by decide) ?_
                  refine m_istore_n (lv' := [.ref 11, .int l1, .int 1, .int l3, .int 1, .int 0, .int r96]) dX11_rayLine_133 (Nat.le_of_ble_eq_true rfl) rfl rfl ?_
                  refine m_aload_n dX11_rayLine_134 rfl ?_
                  refine gf_X11_23 rfl dX11_rayLine_135 ?_
                  refine m_bipush (v := 86) dX11_rayLine_138 (by decide) ?_
                  refine m_iconst (v := 4) dX11_rayLine_140 (by decide) ?_
                  refine m_iload_n dX11_rayLine_141 rfl ?_
                  refine m_imul dX11_rayLine_142 ?_
                  refine m_iadd dX11_rayLine_143 ?_
                  refine m_iload_n dX11_rayLine_144 rfl ?_
                  refine m_iadd dX11_rayLine_145 ?_
                  refine m_iload dX11_rayLine_146 rfl ?_
                  refine m_if_eq 157 dX11_rayLine_148 (by decide) (fun c98 => absurd c98 (by decide)) (fun c98 => ?_)
                  refine m_iload dX11_rayLine_151 rfl ?_
                  refine m_ineg dX11_rayLine_153 ?_
                  refine m_goto 159 dX11_rayLine_154 (by decide) ?_
                  obtain ⟨b99, q⟩ := q
                  refine m_iastore dX11_rayLine_159 rfl (by decide) b99 ?_
                  refine m_iinc (v := (l3 + 1)) (lv' := [.ref 11, .int l1, .int 1, .int (l3 + 1), .int 1, .int 0, .int r96]) dX11_rayLine_160 (Nat.le_of_ble_eq_true rfl) rfl (congrArg (fun z => l3 + z) (by decide : Int32.ofInt 1 = 1)) rfl rfl ?_
                  refine m_goto 20 dX11_rayLine_163 (by decide) ?_
                  refine m_dropK (lv' := [.ref 11, .int l1, .int 1, .int (l3 + 1), .retAddr 0, .retAddr 0, .retAddr 0]) [4, 5, 6] rfl ?_
                  exact q
                · replace q := q.2 c97
                  refine m_iload dX11_rayLine_123 rfl ?_
                  refine m_if_le 132 dX11_rayLine_125 (by decide) (fun c100 => ?_) (fun c100 => ?_)
                  · replace q := q.1 c100
                    refine m_iconst (v := 0) dX11_rayLine_132 (by decide) ?_
                    refine m_istore_n (lv' := [.ref 11, .int l1, .int 0, .int l3, .int 1, .int 0, .int r96]) dX11_rayLine_133 (Nat.le_of_ble_eq_true rfl) rfl rfl ?_
                    refine m_aload_n dX11_rayLine_134 rfl ?_
                    refine gf_X11_23 rfl dX11_rayLine_135 ?_
                    refine m_bipush (v := 86) dX11_rayLine_138 (by decide) ?_
                    refine m_iconst (v := 4) dX11_rayLine_140 (by decide) ?_
                    refine m_iload_n dX11_rayLine_141 rfl ?_
                    refine m_imul dX11_rayLine_142 ?_
                    refine m_iadd dX11_rayLine_143 ?_
                    refine m_iload_n dX11_rayLine_144 rfl ?_
                    refine m_iadd dX11_rayLine_145 ?_
                    refine m_iload dX11_rayLine_146 rfl ?_
                    refine m_if_eq 157 dX11_rayLine_148 (by decide) (fun c101 => absurd c101 (by decide)) (fun c101 => ?_)
                    refine m_iload dX11_rayLine_151 rfl ?_
                    refine m_ineg dX11_rayLine_153 ?_
                    refine m_goto 159 dX11_rayLine_154 (by decide) ?_
                    obtain ⟨b102, q⟩ := q
                    refine m_iastore dX11_rayLine_159 rfl (by decide) b102 ?_
                    refine m_iinc (v := (l3 + 1)) (lv' := [.ref 11, .int l1, .int 0, .int (l3 + 1), .int 1, .int 0, .int r96]) dX11_rayLine_160 (Nat.le_of_ble_eq_true rfl) rfl (congrArg (fun z => l3 + z) (by decide : Int32.ofInt 1 = 1)) rfl rfl ?_
                    refine m_goto 20 dX11_rayLine_163 (by decide) ?_
                    refine m_dropK (lv' := [.ref 11, .int l1, .int 0, .int (l3 + 1), .retAddr 0, .retAddr 0, .retAddr 0]) [4, 5, 6] rfl ?_
                    exact q
                  · replace q := q.2 c100
                    refine m_iconst (v := 1) dX11_rayLine_128 (by decide) ?_
                    refine m_goto 133 dX11_rayLine_129 (by decide) ?_
                    refine m_istore_n (lv' := [.ref 11, .int l1, .int 1, .int l3, .int 1, .int 0, .int r96]) dX11_rayLine_133 (Nat.le_of_ble_eq_true rfl) rfl rfl ?_
                    refine m_aload_n dX11_rayLine_134 rfl ?_
                    refine gf_X11_23 rfl dX11_rayLine_135 ?_
                    refine m_bipush (v := 86) dX11_rayLine_138 (by decide) ?_
                    refine m_iconst (v := 4) dX11_rayLine_140 (by decide) ?_
                    refine m_iload_n dX11_rayLine_141 rfl ?_
                    refine m_imul dX11_rayLine_142 ?_
                    refine m_iadd dX11_rayLine_143 ?_
                    refine m_iload_n dX11_rayLine_144 rfl ?_
                    refine m_iadd dX11_rayLine_145 ?_
                    refine m_iload dX11_rayLine_146 rfl ?_
                    refine m_if_eq 157 dX11_rayLine_148 (by decide) (fun c103 => absurd c103 (by decide)) (fun c103 => ?_)
                    refine m_iload dX11_rayLine_151 rfl ?_
                    refine m_ineg dX11_rayLine_153 ?_
                    refine m_goto 159 dX11_rayLine_154 (by decide) ?_
                    obtain ⟨b104, q⟩ := q
                    refine m_iastore dX11_rayLine_159 rfl (by decide) b104 ?_
                    refine m_iinc (v := (l3 + 1)) (lv' := [.ref 11, .int l1, .int 1, .int (l3 + 1), .int 1, .int 0, .int r96]) dX11_rayLine_160 (Nat.le_of_ble_eq_true rfl) rfl (congrArg (fun z => l3 + z) (by decide : Int32.ofInt 1 = 1)) rfl rfl ?_
                    refine m_goto 20 dX11_rayLine_163 (by decide) ?_
                    refine m_dropK (lv' := [.ref 11, .int l1, .int 1, .int (l3 + 1), .retAddr 0, .retAddr 0, .retAddr 0]) [4, 5, 6] rfl ?_
                    exact q
              · replace q := q.2 c93
                refine m_aload_n dX11_rayLine_83 rfl ?_
                refine gf_X11_94 rfl dX11_rayLine_84 ?_
                refine m_if_ne 94 dX11_rayLine_87 (by decide) (fun c105 => ?_) (fun c105 => ?_)
                · replace q := q.1 c105
                  refine m_iconst (v := 0) dX11_rayLine_94 (by decide) ?_
                  refine m_istore (lv' := [.ref 11, .int l1, .int l2, .int l3, .int 1, .int 0, .retAddr 0]) dX11_rayLine_95 (Nat.le_of_ble_eq_true rfl) rfl rfl ?_
                  refine m_iload dX11_rayLine_97 rfl ?_
                  refine m_if_eq 111 dX11_rayLine_99 (by decide) (fun c106 => ?_) (fun c106 => absurd c106 (by decide))
                  refine m_aload_n dX11_rayLine_111 rfl ?_
                  refine m_iconst (v := 0) dX11_rayLine_112 (by decide) ?_
                  refine m_iconst (v := 3) dX11_rayLine_113 (by decide) ?_
                  refine cl_X11_227 rfl (by decide) dX11_rayLine_114 (Nat.le_of_ble_eq_true rfl) (MCi_go q (fun r108 h107 q => ?_))
                  refine m_istore (lv' := [.ref 11, .int l1, .int l2, .int l3, .int 1, .int 0, .int r108]) dX11_rayLine_117 (Nat.le_of_ble_eq_true rfl) rfl rfl ?_
                  refine m_iload_n dX11_rayLine_119 rfl ?_
                  refine m_if_ne 128 dX11_rayLine_120 (by decide) (fun c109 => ?_) (fun c109 => ?_)
                  · replace q := q.1 c109
                    refine m_iconst (v := 1) dX11_rayLine_128 (by decide) ?_
                    refine m_goto 133 dX11_rayLine_129 (by decide) ?_
                    refine m_istore_n (lv' := [.ref 11, .int l1, .int 1, .int l3, .int 1, .int 0, .int r108]) dX11_rayLine_133 (Nat.le_of_ble_eq_true rfl) rfl rfl ?_
                    refine m_aload_n dX11_rayLine_134 rfl ?_
                    refine gf_X11_23 rfl dX11_rayLine_135 ?_
                    refine m_bipush (v := 86) dX11_rayLine_138 (by decide) ?_
                    refine m_iconst (v := 4) dX11_rayLine_140 (by decide) ?_
                    refine m_iload_n dX11_rayLine_141 rfl ?_
                    refine m_imul dX11_rayLine_142 ?_
                    refine m_iadd dX11_rayLine_143 ?_
                    refine m_iload_n dX11_rayLine_144 rfl ?_
                    refine m_iadd dX11_rayLine_145 ?_
                    refine m_iload dX11_rayLine_146 rfl ?_
                    refine m_if_eq 157 dX11_rayLine_148 (by decide) (fun c110 => absurd c110 (by decide)) (fun c110 => ?_)
                    refine m_iload dX11_rayLine_151 rfl ?_
                    refine m_ineg dX11_rayLine_153 ?_
                    refine m_goto 159 dX11_rayLine_154 (by decide) ?_
                    obtain ⟨b111, q⟩ := q
                    refine m_iastore dX11_rayLine_159 rfl (by decide) b111 ?_
                    refine m_iinc (v := (l3 + 1)) (lv' := [.ref 11, .int l1, .int 1, .int (l3 + 1), .int 1, .int 0, .int r108]) dX11_rayLine_160 (Nat.le_of_ble_eq_true rfl) rfl (congrArg (fun z => l3 + z) (by decide : Int32.ofInt 1 = 1)) rfl rfl ?_
                    refine m_goto 20 dX11_rayLine_163 (by decide) ?_
                    refine m_dropK (lv' := [.ref 11, .int l1, .int 1, .int (l3 + 1), .retAddr 0, .retAddr 0, .retAddr 0]) [4, 5, 6] rfl ?_
                    exact q
                  · replace q := q.2 c109
                    refine m_iload dX11_rayLine_123 rfl ?_
                    refine m_if_le 132 dX11_rayLine_125 (by decide) (fun c112 => ?_) (fun c112 => ?_)
                    · replace q := q.1 c112
                      refine m_iconst (v := 0) dX11_rayLine_132 (by decide) ?_
                      refine m_istore_n (lv' := [.ref 11, .int l1, .int 0, .int l3, .int 1, .int 0, .int r108]) dX11_rayLine_133 (Nat.le_of_ble_eq_true rfl) rfl rfl ?_
                      refine m_aload_n dX11_rayLine_134 rfl ?_
                      refine gf_X11_23 rfl dX11_rayLine_135 ?_
                      refine m_bipush (v := 86) dX11_rayLine_138 (by decide) ?_
                      refine m_iconst (v := 4) dX11_rayLine_140 (by decide) ?_
                      refine m_iload_n dX11_rayLine_141 rfl ?_
                      refine m_imul dX11_rayLine_142 ?_
                      refine m_iadd dX11_rayLine_143 ?_
                      refine m_iload_n dX11_rayLine_144 rfl ?_
                      refine m_iadd dX11_rayLine_145 ?_
                      refine m_iload dX11_rayLine_146 rfl ?_
                      refine m_if_eq 157 dX11_rayLine_148 (by decide) (fun c113 => absurd c113 (by decide)) (fun c113 => ?_)
                      refine m_iload dX11_rayLine_151 rfl ?_
                      refine m_ineg dX11_rayLine_153 ?_
                      refine m_goto 159 dX11_rayLine_154 (by decide) ?_
                      obtain ⟨b114, q⟩ := q
                      refine m_iastore dX11_rayLine_159 rfl (by decide) b114 ?_
                      refine m_iinc (v := (l3 + 1)) (lv' := [.ref 11, .int l1, .int 0, .int (l3 + 1), .int 1, .int 0, .int r108]) dX11_rayLine_160 (Nat.le_of_ble_eq_true rfl) rfl (congrArg (fun z => l3 + z) (by decide : Int32.ofInt 1 = 1)) rfl rfl ?_
                      refine m_goto 20 dX11_rayLine_163 (by decide) ?_
                      refine m_dropK (lv' := [.ref 11, .int l1, .int 0, .int (l3 + 1), .retAddr 0, .retAddr 0, .retAddr 0]) [4, 5, 6] rfl ?_
                      exact q
                    · replace q := q.2 c112
                      refine m_iconst (v := 1) dX11_rayLine_128 (by decide) ?_
                      refine m_goto 133 dX11_rayLine_129 (by decide) ?_
                      refine m_istore_n (lv' := [.ref 11, .int l1, .int 1, .int l3, .int 1, .int 0, .int r108]) dX11_rayLine_133 (Nat.le_of_ble_eq_true rfl) rfl rfl ?_
                      refine m_aload_n dX11_rayLine_134 rfl ?_
                      refine gf_X11_23 rfl dX11_rayLine_135 ?_
                      refine m_bipush (v := 86) dX11_rayLine_138 (by decide) ?_
                      refine m_iconst (v := 4) dX11_rayLine_140 (by decide) ?_
                      refine m_iload_n dX11_rayLine_141 rfl ?_
                      refine m_imul dX11_rayLine_142 ?_
                      refine m_iadd dX11_rayLine_143 ?_
                      refine m_iload_n dX11_rayLine_144 rfl ?_
                      refine m_iadd dX11_rayLine_145 ?_
                      refine m_iload dX11_rayLine_146 rfl ?_
                      refine m_if_eq 157 dX11_rayLine_148 (by decide) (fun c115 => absurd c115 (by decide)) (fun c115 => ?_)
                      refine m_iload dX11_rayLine_151 rfl ?_
                      refine m_ineg dX11_rayLine_153 ?_
                      refine m_goto 159 dX11_rayLine_154 (by decide) ?_
                      obtain ⟨b116, q⟩ := q
                      refine m_iastore dX11_rayLine_159 rfl (by decide) b116 ?_
                      refine m_iinc (v := (l3 + 1)) (lv' := [.ref 11, .int l1, .int 1, .int (l3 + 1), .int 1, .int 0, .int r108]) dX11_rayLine_160 (Nat.le_of_ble_eq_true rfl) rfl (congrArg (fun z => l3 + z) (by decide : Int32.ofInt 1 = 1)) rfl rfl ?_
                      refine m_goto 20 dX11_rayLine_163 (by decide) ?_
                      refine m_dropK (lv' := [.ref 11, .int l1, .int 1, .int (l3 + 1), .retAddr 0, .retAddr 0, .retAddr 0]) [4, 5, 6] rfl ?_
                      exact q
                · replace q := q.2 c105
                  refine m_iconst (v := 1) dX11_rayLine_90 (by decide) ?_
                  refine m_goto 95 dX11_rayLine_91 (by decide) ?_
                  refine m_istore (lv' := [.ref 11, .int l1, .int l2, .int l3, .int 1, .int 1, .retAddr 0]) dX11_rayLine_95 (Nat.le_of_ble_eq_true rfl) rfl rfl ?_
                  refine m_iload dX11_rayLine_97 rfl ?_
                  refine m_if_eq 111 dX11_rayLine_99 (by decide) (fun c117 => absurd c117 (by decide)) (fun c117 => ?_)
                  refine m_aload_n dX11_rayLine_102 rfl ?_
                  refine m_iconst (v := 4) dX11_rayLine_103 (by decide) ?_
                  refine m_aload_n dX11_rayLine_104 rfl ?_
                  refine gf_X11_88 rfl dX11_rayLine_105 ?_
                  refine cl_X11_134 rfl (by decide) dX11_rayLine_108 (Nat.le_of_ble_eq_true rfl) (MCv_go q (fun h118 q => ?_))
                  refine m_aload_n dX11_rayLine_111 rfl ?_
                  refine m_iconst (v := 0) dX11_rayLine_112 (by decide) ?_
                  refine m_iconst (v := 3) dX11_rayLine_113 (by decide) ?_
                  refine cl_X11_227 rfl (by decide) dX11_rayLine_114 (Nat.le_of_ble_eq_true rfl) (MCi_go q (fun r120 h119 q => ?_))
                  refine m_istore (lv' := [.ref 11, .int l1, .int l2, .int l3, .int 1, .int 1, .int r120]) dX11_rayLine_117 (Nat.le_of_ble_eq_true rfl) rfl rfl ?_
                  refine m_iload_n dX11_rayLine_119 rfl ?_
                  refine m_if_ne 128 dX11_rayLine_120 (by decide) (fun c121 => ?_) (fun c121 => ?_)
                  · replace q := q.1 c121
                    refine m_iconst (v := 1) dX11_rayLine_128 (by decide) ?_
                    refine m_goto 133 dX11_rayLine_129 (by decide) ?_
                    refine m_istore_n (lv' := [.ref 11, .int l1, .int 1, .int l3, .int 1, .int 1, .int r120]) dX11_rayLine_133 (Nat.le_of_ble_eq_true rfl) rfl rfl ?_
                    refine m_aload_n dX11_rayLine_134 rfl ?_
                    refine gf_X11_23 rfl dX11_rayLine_135 ?_
                    refine m_bipush (v := 86) dX11_rayLine_138 (by decide) ?_
                    refine m_iconst (v := 4) dX11_rayLine_140 (by decide) ?_
                    refine m_iload_n dX11_rayLine_141 rfl ?_
                    refine m_imul dX11_rayLine_142 ?_
                    refine m_iadd dX11_rayLine_143 ?_
                    refine m_iload_n dX11_rayLine_144 rfl ?_
                    refine m_iadd dX11_rayLine_145 ?_
                    refine m_iload dX11_rayLine_146 rfl ?_
                    refine m_if_eq 157 dX11_rayLine_148 (by decide) (fun c122 => absurd c122 (by decide)) (fun c122 => ?_)
                    refine m_iload dX11_rayLine_151 rfl ?_
                    refine m_ineg dX11_rayLine_153 ?_
                    refine m_goto 159 dX11_rayLine_154 (by decide) ?_
                    obtain ⟨b123, q⟩ := q
                    refine m_iastore dX11_rayLine_159 rfl (by decide) b123 ?_
                    refine m_iinc (v := (l3 + 1)) (lv' := [.ref 11, .int l1, .int 1, .int (l3 + 1), .int 1, .int 1, .int r120]) dX11_rayLine_160 (Nat.le_of_ble_eq_true rfl) rfl (congrArg (fun z => l3 + z) (by decide : Int32.ofInt 1 = 1)) rfl rfl ?_
                    refine m_goto 20 dX11_rayLine_163 (by decide) ?_
                    refine m_dropK (lv' := [.ref 11, .int l1, .int 1, .int (l3 + 1), .retAddr 0, .retAddr 0, .retAddr 0]) [4, 5, 6] rfl ?_
                    exact q
                  · replace q := q.2 c121
                    refine m_iload dX11_rayLine_123 rfl ?_
                    refine m_if_le 132 dX11_rayLine_125 (by decide) (fun c124 => ?_) (fun c124 => ?_)
                    · replace q := q.1 c124
                      refine m_iconst (v := 0) dX11_rayLine_132 (by decide) ?_
                      refine m_istore_n (lv' := [.ref 11, .int l1, .int 0, .int l3, .int 1, .int 1, .int r120]) dX11_rayLine_133 (Nat.le_of_ble_eq_true rfl) rfl rfl ?_
                      refine m_aload_n dX11_rayLine_134 rfl ?_
                      refine gf_X11_23 rfl dX11_rayLine_135 ?_
                      refine m_bipush (v := 86) dX11_rayLine_138 (by decide) ?_
                      refine m_iconst (v := 4) dX11_rayLine_140 (by decide) ?_
                      refine m_iload_n dX11_rayLine_141 rfl ?_
                      refine m_imul dX11_rayLine_142 ?_
                      refine m_iadd dX11_rayLine_143 ?_
                      refine m_iload_n dX11_rayLine_144 rfl ?_
                      refine m_iadd dX11_rayLine_145 ?_
                      refine m_iload dX11_rayLine_146 rfl ?_
                      refine m_if_eq 157 dX11_rayLine_148 (by decide) (fun c125 => absurd c125 (by decide)) (fun c125 => ?_)
                      refine m_iload dX11_rayLine_151 rfl ?_
                      refine m_ineg dX11_rayLine_153 ?_
                      refine m_goto 159 dX11_rayLine_154 (by decide) ?_
                      obtain ⟨b126, q⟩ := q
                      refine m_iastore dX11_rayLine_159 rfl (by decide) b126 ?_
                      refine m_iinc (v := (l3 + 1)) (lv' := [.ref 11, .int l1, .int 0, .int (l3 + 1), .int 1, .int 1, .int r120]) dX11_rayLine_160 (Nat.le_of_ble_eq_true rfl) rfl (congrArg (fun z => l3 + z) (by decide : Int32.ofInt 1 = 1)) rfl rfl ?_
                      refine m_goto 20 dX11_rayLine_163 (by decide) ?_
                      refine m_dropK (lv' := [.ref 11, .int l1, .int 0, .int (l3 + 1), .retAddr 0, .retAddr 0, .retAddr 0]) [4, 5, 6] rfl ?_
                      exact q
                    · replace q := q.2 c124
                      refine m_iconst (v := 1) dX11_rayLine_128 (by decide) ?_
                      refine m_goto 133 dX11_rayLine_129 (by decide) ?_
                      refine m_istore_n (lv' := [.ref 11, .int l1, .int 1, .int l3, .int 1, .int 1, .int r120]) dX11_rayLine_133 (Nat.le_of_ble_eq_true rfl) rfl rfl ?_
                      refine m_aload_n dX11_rayLine_134 rfl ?_
                      refine gf_X11_23 rfl dX11_rayLine_135 ?_
                      refine m_bipush (v := 86) dX11_rayLine_138 (by decide) ?_
                      refine m_iconst (v := 4) dX11_rayLine_140 (by decide) ?_
                      refine m_iload_n dX11_rayLine_141 rfl ?_
                      refine m_imul dX11_rayLine_142 ?_
                      refine m_iadd dX11_rayLine_143 ?_
                      refine m_iload_n dX11_rayLine_144 rfl ?_
                      refine m_iadd dX11_rayLine_145 ?_
                      refine m_iload dX11_rayLine_146 rfl ?_
                      refine m_if_eq 157 dX11_rayLine_148 (by decide) (fun c127 => absurd c127 (by decide)) (fun c127 => ?_)
                      refine m_iload dX11_rayLine_151 rfl ?_
                      refine m_ineg dX11_rayLine_153 ?_
                      refine m_goto 159 dX11_rayLine_154 (by decide) ?_
                      obtain ⟨b128, q⟩ := q
                      refine m_iastore dX11_rayLine_159 rfl (by decide) b128 ?_
                      refine m_iinc (v := (l3 + 1)) (lv' := [.ref 11, .int l1, .int 1, .int (l3 + 1), .int 1, .int 1, .int r120]) dX11_rayLine_160 (Nat.le_of_ble_eq_true rfl) rfl (congrArg (fun z => l3 + z) (by decide : Int32.ofInt 1 = 1)) rfl rfl ?_
                      refine m_goto 20 dX11_rayLine_163 (by decide) ?_
                      refine m_dropK (lv' := [.ref 11, .int l1, .int 1, .int (l3 + 1), .retAddr 0, .retAddr 0, .retAddr 0]) [4, 5, 6] rfl ?_
                      exact q
      · replace q := q.2 c4
        exact m_vret dX11_rayLine_40 rfl q
    · replace q := q.2 c3
      refine m_aload_n dX11_rayLine_29 rfl ?_
      refine cl_X11_235 rfl (by decide) dX11_rayLine_30 (Nat.le_of_ble_eq_true rfl) (MCv_go q (fun h129 q => ?_))
      refine m_aload_n dX11_rayLine_33 rfl ?_
      refine gf_X11_107 rfl dX11_rayLine_34 ?_
      refine m_if_eq 41 dX11_rayLine_37 (by decide) (fun c130 => ?_) (fun c130 => ?_)
      · replace q := q.1 c130
        refine m_aload_n dX11_rayLine_41 rfl ?_
        refine gf_X11_97 rfl dX11_rayLine_42 ?_
        refine m_bipush (v := 45) dX11_rayLine_45 (by decide) ?_
        refine m_icmp_ne 54 dX11_rayLine_47 (by decide) (fun c131 => ?_) (fun c131 => ?_)
        · replace q := q.1 c131
          refine m_iconst (v := 0) dX11_rayLine_54 (by decide) ?_
          refine m_istore (lv' := [.ref 11, .int l1, .int l2, .int l3, .int 0, .retAddr 0, .retAddr 0]) dX11_rayLine_55 (Nat.le_of_ble_eq_true rfl) rfl rfl ?_
          refine m_iload dX11_rayLine_57 rfl ?_
          refine m_if_eq 66 dX11_rayLine_59 (by decide) (fun c132 => ?_) (fun c132 => absurd c132 (by decide))
          refine m_iload_n dX11_rayLine_66 rfl ?_
          refine m_iconst (v := 3) dX11_rayLine_67 (by decide) ?_
          refine m_icmp_ne 94 dX11_rayLine_68 (by decide) (fun c133 => ?_) (fun c133 => ?_)
          · replace q := q.1 c133
            refine m_iconst (v := 0) dX11_rayLine_94 (by decide) ?_
            refine m_istore (lv' := [.ref 11, .int l1, .int l2, .int l3, .int 0, .int 0, .retAddr 0]) dX11_rayLine_95 (Nat.le_of_ble_eq_true rfl) rfl rfl ?_
            refine m_iload dX11_rayLine_97 rfl ?_
            refine m_if_eq 111 dX11_rayLine_99 (by decide) (fun c134 => ?_) (fun c134 => absurd c134 (by decide))
            refine m_aload_n dX11_rayLine_111 rfl ?_
            refine m_iconst (v := 0) dX11_rayLine_112 (by decide) ?_
            refine m_iconst (v := 3) dX11_rayLine_113 (by decide) ?_
            refine cl_X11_227 rfl (by decide) dX11_rayLine_114 (Nat.le_of_ble_eq_true rfl) (MCi_go q (fun r136 h135 q => ?_))
            refine m_istore (lv' := [.ref 11, .int l1, .int l2, .int l3, .int 0, .int 0, .int r136]) dX11_rayLine_117 (Nat.le_of_ble_eq_true rfl) rfl rfl ?_
            refine m_iload_n dX11_rayLine_119 rfl ?_
            refine m_if_ne 128 dX11_rayLine_120 (by decide) (fun c137 => ?_) (fun c137 => ?_)
            · replace q := q.1 c137
              refine m_iconst (v := 1) dX11_rayLine_128 (by decide) ?_
              refine m_goto 133 dX11_rayLine_129 (by decide) ?_
              refine m_istore_n (lv' := [.ref 11, .int l1, .int 1, .int l3, .int 0, .int 0, .int r136]) dX11_rayLine_133 (Nat.le_of_ble_eq_true rfl) rfl rfl ?_
              refine m_aload_n dX11_rayLine_134 rfl ?_
              refine gf_X11_23 rfl dX11_rayLine_135 ?_
              refine m_bipush (v := 86) dX11_rayLine_138 (by decide) ?_
              refine m_iconst (v := 4) dX11_rayLine_140 (by decide) ?_
              refine m_iload_n dX11_rayLine_141 rfl ?_
              refine m_imul dX11_rayLine_142 ?_
              refine m_iadd dX11_rayLine_143 ?_
              refine m_iload_n dX11_rayLine_144 rfl ?_
              refine m_iadd dX11_rayLine_145 ?_
              refine m_iload dX11_rayLine_146 rfl ?_
              refine m_if_eq 157 dX11_rayLine_148 (by decide) (fun c138 => ?_) (fun c138 => absurd c138 (by decide))
              refine m_iload dX11_rayLine_157 rfl ?_
              obtain ⟨b139, q⟩ := q
              refine m_iastore dX11_rayLine_159 rfl (by decide) b139 ?_
              refine m_iinc (v := (l3 + 1)) (lv' := [.ref 11, .int l1, .int 1, .int (l3 + 1), .int 0, .int 0, .int r136]) dX11_rayLine_160 (Nat.le_of_ble_eq_true rfl) rfl (congrArg (fun z => l3 + z) (by decide : Int32.ofInt 1 = 1)) rfl rfl ?_
              refine m_goto 20 dX11_rayLine_163 (by decide) ?_
              refine m_dropK (lv' := [.ref 11, .int l1, .int 1, .int (l3 + 1), .retAddr 0, .retAddr 0, .retAddr 0]) [4, 5, 6] rfl ?_
              exact q
            · replace q := q.2 c137
              refine m_iload dX11_rayLine_123 rfl ?_
              refine m_if_le 132 dX11_rayLine_125 (by decide) (fun c140 => ?_) (fun c140 => ?_)
              · replace q := q.1 c140
                refine m_iconst (v := 0) dX11_rayLine_132 (by decide) ?_
                refine m_istore_n (lv' := [.ref 11, .int l1, .int 0, .int l3, .int 0, .int 0, .int r136]) dX11_rayLine_133 (Nat.le_of_ble_eq_true rfl) rfl rfl ?_
                refine m_aload_n dX11_rayLine_134 rfl ?_
                refine gf_X11_23 rfl dX11_rayLine_135 ?_
                refine m_bipush (v := 86) dX11_rayLine_138 (by decide) ?_
                refine m_iconst (v := 4) dX11_rayLine_140 (by decide) ?_
                refine m_iload_n dX11_rayLine_141 rfl ?_
                refine m_imul dX11_rayLine_142 ?_
                refine m_iadd dX11_rayLine_143 ?_
                refine m_iload_n dX11_rayLine_144 rfl ?_
                refine m_iadd dX11_rayLine_145 ?_
                refine m_iload dX11_rayLine_146 rfl ?_
                refine m_if_eq 157 dX11_rayLine_148 (by decide) (fun c141 => ?_) (fun c141 => absurd c141 (by decide))
                refine m_iload dX11_rayLine_157 rfl ?_
                obtain ⟨b142, q⟩ := q
                refine m_iastore dX11_rayLine_159 rfl (by decide) b142 ?_
                refine m_iinc (v := (l3 + 1)) (lv' := [.ref 11, .int l1, .int 0, .int (l3 + 1), .int 0, .int 0, .int r136]) dX11_rayLine_160 (Nat.le_of_ble_eq_true rfl) rfl (congrArg (fun z => l3 + z) (by decide : Int32.ofInt 1 = 1)) rfl rfl ?_
                refine m_goto 20 dX11_rayLine_163 (by decide) ?_
                refine m_dropK (lv' := [.ref 11, .int l1, .int 0, .int (l3 + 1), .retAddr 0, .retAddr 0, .retAddr 0]) [4, 5, 6] rfl ?_
                exact q
              · replace q := q.2 c140
                refine m_iconst (v := 1) dX11_rayLine_128 (by decide) ?_
                refine m_goto 133 dX11_rayLine_129 (by decide) ?_
                refine m_istore_n (lv' := [.ref 11, .int l1, .int 1, .int l3, .int 0, .int 0, .int r136]) dX11_rayLine_133 (Nat.le_of_ble_eq_true rfl) rfl rfl ?_
                refine m_aload_n dX11_rayLine_134 rfl ?_
                refine gf_X11_23 rfl dX11_rayLine_135 ?_
                refine m_bipush (v := 86) dX11_rayLine_138 (by decide) ?_
                refine m_iconst (v := 4) dX11_rayLine_140 (by decide) ?_
                refine m_iload_n dX11_rayLine_141 rfl ?_
                refine m_imul dX11_rayLine_142 ?_
                refine m_iadd dX11_rayLine_143 ?_
                refine m_iload_n dX11_rayLine_144 rfl ?_
                refine m_iadd dX11_rayLine_145 ?_
                refine m_iload dX11_rayLine_146 rfl ?_
                refine m_if_eq 157 dX11_rayLine_148 (by decide) (fun c143 => ?_) (fun c143 => absurd c143 (by decide))
                refine m_iload dX11_rayLine_157 rfl ?_
                obtain ⟨b144, q⟩ := q
                refine m_iastore dX11_rayLine_159 rfl (by decide) b144 ?_
                refine m_iinc (v := (l3 + 1)) (lv' := [.ref 11, .int l1, .int 1, .int (l3 + 1), .int 0, .int 0, .int r136]) dX11_rayLine_160 (Nat.le_of_ble_eq_true rfl) rfl (congrArg (fun z => l3 + z) (by decide : Int32.ofInt 1 = 1)) rfl rfl ?_
                refine m_goto 20 dX11_rayLine_163 (by decide) ?_
                refine m_dropK (lv' := [.ref 11, .int l1, .int 1, .int (l3 + 1), .retAddr 0, .retAddr 0, .retAddr 0]) [4, 5, 6] rfl ?_
                exact q
          · replace q := q.2 c133
            refine m_iload_n dX11_rayLine_71 rfl ?_
            refine m_if_ne 94 dX11_rayLine_72 (by decide) (fun c145 => ?_) (fun c145 => ?_)
            · replace q := q.1 c145
              refine m_iconst (v := 0) dX11_rayLine_94 (by decide) ?_
              refine m_istore (lv' := [.ref 11, .int l1, .int l2, .int l3, .int 0, .int 0, .retAddr 0]) dX11_rayLine_95 (Nat.le_of_ble_eq_true rfl) rfl rfl ?_
              refine m_iload dX11_rayLine_97 rfl ?_
              refine m_if_eq 111 dX11_rayLine_99 (by decide) (fun c146 => ?_) (fun c146 => absurd c146 (by decide))
              refine m_aload_n dX11_rayLine_111 rfl ?_
              refine m_iconst (v := 0) dX11_rayLine_112 (by decide) ?_
              refine m_iconst (v := 3) dX11_rayLine_113 (by decide) ?_
              refine cl_X11_227 rfl (by decide) dX11_rayLine_114 (Nat.le_of_ble_eq_true rfl) (MCi_go q (fun r148 h147 q => ?_))
              refine m_istore (lv' := [.ref 11, .int l1, .int l2, .int l3, .int 0, .int 0, .int r148]) dX11_rayLine_117 (Nat.le_of_ble_eq_true rfl) rfl rfl ?_
              refine m_iload_n dX11_rayLine_119 rfl ?_
              refine m_if_ne 128 dX11_rayLine_120 (by decide) (fun c149 => ?_) (fun c149 => ?_)
              · replace q := q.1 c149
                refine m_iconst (v := 1) dX11_rayLine_128 (by decide) ?_
                refine m_goto 133 dX11_rayLine_129 (by decide) ?_
                refine m_istore_n (lv' := [.ref 11, .int l1, .int 1, .int l3, .int 0, .int 0, .int r148]) dX11_rayLine_133 (Nat.le_of_ble_eq_true rfl) rfl rfl ?_
                refine m_aload_n dX11_rayLine_134 rfl ?_
                refine gf_X11_23 rfl dX11_rayLine_135 ?_
                refine m_bipush (v := 86) dX11_rayLine_138 (by decide) ?_
                refine m_iconst (v := 4) dX11_rayLine_140 (by decide) ?_
                refine m_iload_n dX11_rayLine_141 rfl ?_
                refine m_imul dX11_rayLine_142 ?_
                refine m_iadd dX11_rayLine_143 ?_
                refine m_iload_n dX11_rayLine_144 rfl ?_
                refine m_iadd dX11_rayLine_145 ?_
                refine m_iload dX11_rayLine_146 rfl ?_
                refine m_if_eq 157 dX11_rayLine_148 (by decide) (fun c150 => ?_) (fun c150 => absurd c150 (by decide))
                refine m_iload dX11_rayLine_157 rfl ?_
                obtain ⟨b151, q⟩ := q
                refine m_iastore dX11_rayLine_159 rfl (by decide) b151 ?_
                refine m_iinc (v := (l3 + 1)) (lv' := [.ref 11, .int l1, .int 1, .int (l3 + 1), .int 0, .int 0, .int r148]) dX11_rayLine_160 (Nat.le_of_ble_eq_true rfl) rfl (congrArg (fun z => l3 + z) (by decide : Int32.ofInt 1 = 1)) rfl rfl ?_
                refine m_goto 20 dX11_rayLine_163 (by decide) ?_
                refine m_dropK (lv' := [.ref 11, .int l1, .int 1, .int (l3 + 1), .retAddr 0, .retAddr 0, .retAddr 0]) [4, 5, 6] rfl ?_
                exact q
              · replace q := q.2 c149
                refine m_iload dX11_rayLine_123 rfl ?_
                refine m_if_le 132 dX11_rayLine_125 (by decide) (fun c152 => ?_) (fun c152 => ?_)
                · replace q := q.1 c152
                  refine m_iconst (v := 0) dX11_rayLine_132 (by decide) ?_
                  refine m_istore_n (lv' := [.ref 11, .int l1, .int 0, .int l3, .int 0, .int 0, .int r148]) dX11_rayLine_133 (Nat.le_of_ble_eq_true rfl) rfl rfl ?_
                  refine m_aload_n dX11_rayLine_134 rfl ?_
                  refine gf_X11_23 rfl dX11_rayLine_135 ?_
                  refine m_bipush (v := 86) dX11_rayLine_138 (by decide) ?_
                  refine m_iconst (v := 4) dX11_rayLine_140 (by decide) ?_
                  refine m_iload_n dX11_rayLine_141 rfl ?_
                  refine m_imul dX11_rayLine_142 ?_
                  refine m_iadd dX11_rayLine_143 ?_
                  refine m_iload_n dX11_rayLine_144 rfl ?_
                  refine m_iadd dX11_rayLine_145 ?_
                  refine m_iload dX11_rayLine_146 rfl ?_
                  refine m_if_eq 157 dX11_rayLine_148 (by decide) (fun c153 => ?_) (fun c153 => absurd c153 (by decide))
                  refine m_iload dX11_rayLine_157 rfl ?_
                  obtain ⟨b154, q⟩ := q
                  refine m_iastore dX11_rayLine_159 rfl (by decide) b154 ?_
                  refine m_iinc (v := (l3 + 1)) (lv' := [.ref 11, .int l1, .int 0, .int (l3 + 1), .int 0, .int 0, .int r148]) dX11_rayLine_160 (Nat.le_of_ble_eq_true rfl) rfl (congrArg (fun z => l3 + z) (by decide : Int32.ofInt 1 = 1)) rfl rfl ?_
                  refine m_goto 20 dX11_rayLine_163 (by decide) ?_
                  refine m_dropK (lv' := [.ref 11, .int l1, .int 0, .int (l3 + 1), .retAddr 0, .retAddr 0, .retAddr 0]) [4, 5, 6] rfl ?_
                  exact q
                · replace q := q.2 c152
                  refine m_iconst (v := 1) dX11_rayLine_128 (by decide) ?_
                  refine m_goto 133 dX11_rayLine_129 (by decide) ?_
                  refine m_istore_n (lv' := [.ref 11, .int l1, .int 1, .int l3, .int 0, .int 0, .int r148]) dX11_rayLine_133 (Nat.le_of_ble_eq_true rfl) rfl rfl ?_
                  refine m_aload_n dX11_rayLine_134 rfl ?_
                  refine gf_X11_23 rfl dX11_rayLine_135 ?_
                  refine m_bipush (v := 86) dX11_rayLine_138 (by decide) ?_
                  refine m_iconst (v := 4) dX11_rayLine_140 (by decide) ?_
                  refine m_iload_n dX11_rayLine_141 rfl ?_
                  refine m_imul dX11_rayLine_142 ?_
                  refine m_iadd dX11_rayLine_143 ?_
                  refine m_iload_n dX11_rayLine_144 rfl ?_
                  refine m_iadd dX11_rayLine_145 ?_
                  refine m_iload dX11_rayLine_146 rfl ?_
                  refine m_if_eq 157 dX11_rayLine_148 (by decide) (fun c155 => ?_) (fun c155 => absurd c155 (by decide))
                  refine m_iload dX11_rayLine_157 rfl ?_
                  obtain ⟨b156, q⟩ := q
                  refine m_iastore dX11_rayLine_159 rfl (by decide) b156 ?_
                  refine m_iinc (v := (l3 + 1)) (lv' := [.ref 11, .int l1, .int 1, .int (l3 + 1), .int 0, .int 0, .int r148]) dX11_rayLine_160 (Nat.le_of_ble_eq_true rfl) rfl (congrArg (fun z => l3 + z) (by decide : Int32.ofInt 1 = 1)) rfl rfl ?_
                  refine m_goto 20 dX11_rayLine_163 (by decide) ?_
                  refine m_dropK (lv' := [.ref 11, .int l1, .int 1, .int (l3 + 1), .retAddr 0, .retAddr 0, .retAddr 0]) [4, 5, 6] rfl ?_
                  exact q
            · replace q := q.2 c145
              refine m_aload_n dX11_rayLine_75 rfl ?_
              refine gf_X11_97 rfl dX11_rayLine_76 ?_
              refine m_iconst (v := 3) dX11_rayLine_79 (by decide) ?_
              refine m_icmp_ne 94 dX11_rayLine_80 (by decide) (fun c157 => ?_) (fun c157 => ?_)
              · replace q := q.1 c157
                refine m_iconst (v := 0) dX11_rayLine_94 (by decide) ?_
                refine m_istore (lv' := [.ref 11, .int l1, .int l2, .int l3, .int 0, .int 0, .retAddr 0]) dX11_rayLine_95 (Nat.le_of_ble_eq_true rfl) rfl rfl ?_
                refine m_iload dX11_rayLine_97 rfl ?_
                refine m_if_eq 111 dX11_rayLine_99 (by decide) (fun c158 => ?_) (fun c158 => absurd c158 (by decide))
                refine m_aload_n dX11_rayLine_111 rfl ?_
                refine m_iconst (v := 0) dX11_rayLine_112 (by decide) ?_
                refine m_iconst (v := 3) dX11_rayLine_113 (by decide) ?_
                refine cl_X11_227 rfl (by decide) dX11_rayLine_114 (Nat.le_of_ble_eq_true rfl) (MCi_go q (fun r160 h159 q => ?_))
                refine m_istore (lv' := [.ref 11, .int l1, .int l2, .int l3, .int 0, .int 0, .int r160]) dX11_rayLine_117 (Nat.le_of_ble_eq_true rfl) rfl rfl ?_
                refine m_iload_n dX11_rayLine_119 rfl ?_
                refine m_if_ne 128 dX11_rayLine_120 (by decide) (fun c161 => ?_) (fun c161 => ?_)
                · replace q := q.1 c161
                  refine m_iconst (v := 1) dX11_rayLine_128 (by decide) ?_
                  refine m_goto 133 dX11_rayLine_129 (by decide) ?_
                  refine m_istore_n (lv' := [.ref 11, .int l1, .int 1, .int l3, .int 0, .int 0, .int r160]) dX11_rayLine_133 (Nat.le_of_ble_eq_true rfl) rfl rfl ?_
                  refine m_aload_n dX11_rayLine_134 rfl ?_
                  refine gf_X11_23 rfl dX11_rayLine_135 ?_
                  refine m_bipush (v := 86) dX11_rayLine_138 (by decide) ?_
                  refine m_iconst (v := 4) dX11_rayLine_140 (by decide) ?_
                  refine m_iload_n dX11_rayLine_141 rfl ?_
                  refine m_imul dX11_rayLine_142 ?_
                  refine m_iadd dX11_rayLine_143 ?_
                  refine m_iload_n dX11_rayLine_144 rfl ?_
                  refine m_iadd dX11_rayLine_145 ?_
                  refine m_iload dX11_rayLine_146 rfl ?_
                  refine m_if_eq 157 dX11_rayLine_148 (by decide) (fun c162 => ?_) (fun c162 => absurd c162 (by decide))
                  refine m_iload dX11_rayLine_157 rfl ?_
                  obtain ⟨b163, q⟩ := q
                  refine m_iastore dX11_rayLine_159 rfl (by decide) b163 ?_
                  refine m_iinc (v := (l3 + 1)) (lv' := [.ref 11, .int l1, .int 1, .int (l3 + 1), .int 0, .int 0, .int r160]) dX11_rayLine_160 (Nat.le_of_ble_eq_true rfl) rfl (congrArg (fun z => l3 + z) (by decide : Int32.ofInt 1 = 1)) rfl rfl ?_
                  refine m_goto 20 dX11_rayLine_163 (by decide) ?_
                  refine m_dropK (lv' := [.ref 11, .int l1, .int 1, .int (l3 + 1), .retAddr 0, .retAddr 0, .retAddr 0]) [4, 5, 6] rfl ?_
                  exact q
                · replace q := q.2 c161
                  refine m_iload dX11_rayLine_123 rfl ?_
                  refine m_if_le 132 dX11_rayLine_125 (by decide) (fun c164 => ?_) (fun c164 => ?_)
                  · replace q := q.1 c164
                    refine m_iconst (v := 0) dX11_rayLine_132 (by decide) ?_
                    refine m_istore_n (lv' := [.ref 11, .int l1, .int 0, .int l3, .int 0, .int 0, .int r160]) dX11_rayLine_133 (Nat.le_of_ble_eq_true rfl) rfl rfl ?_
                    refine m_aload_n dX11_rayLine_134 rfl ?_
                    refine gf_X11_23 rfl dX11_rayLine_135 ?_
                    refine m_bipush (v := 86) dX11_rayLine_138 (by decide) ?_
                    refine m_iconst (v := 4) dX11_rayLine_140 (by decide) ?_
                    refine m_iload_n dX11_rayLine_141 rfl ?_
                    refine m_imul dX11_rayLine_142 ?_
                    refine m_iadd dX11_rayLine_143 ?_
                    refine m_iload_n dX11_rayLine_144 rfl ?_
                    refine m_iadd dX11_rayLine_145 ?_
                    refine m_iload dX11_rayLine_146 rfl ?_
                    refine m_if_eq 157 dX11_rayLine_148 (by decide) (fun c165 => ?_) (fun c165 => absurd c165 (by decide))
                    refine m_iload dX11_rayLine_157 rfl ?_
                    obtain ⟨b166, q⟩ := q
                    refine m_iastore dX11_rayLine_159 rfl (by decide) b166 ?_
                    refine m_iinc (v := (l3 + 1)) (lv' := [.ref 11, .int l1, .int 0, .int (l3 + 1), .int 0, .int 0, .int r160]) dX11_rayLine_160 (Nat.le_of_ble_eq_true rfl) rfl (congrArg (fun z => l3 + z) (by decide : Int32.ofInt 1 = 1)) rfl rfl ?_
                    refine m_goto 20 dX11_rayLine_163 (by decide) ?_
                    refine m_dropK (lv' := [.ref 11, .int l1, .int 0, .int (l3 + 1), .retAddr 0, .retAddr 0, .retAddr 0]) [4, 5, 6] rfl ?_
                    exact q
                  · replace q := q.2 c164
                    refine m_iconst (v := 1) dX11_rayLine_128 (by decide) ?_
                    refine m_goto 133 dX11_rayLine_129 (by decide) ?_
                    refine m_istore_n (lv' := [.ref 11, .int l1, .int 1, .int l3, .int 0, .int 0, .int r160]) dX11_rayLine_133 (Nat.le_of_ble_eq_true rfl) rfl rfl ?_
                    refine m_aload_n dX11_rayLine_134 rfl ?_
                    refine gf_X11_23 rfl dX11_rayLine_135 ?_
                    refine m_bipush (v := 86) dX11_rayLine_138 (by decide) ?_
                    refine m_iconst (v := 4) dX11_rayLine_140 (by decide) ?_
                    refine m_iload_n dX11_rayLine_141 rfl ?_
                    refine m_imul dX11_rayLine_142 ?_
                    refine m_iadd dX11_rayLine_143 ?_
                    refine m_iload_n dX11_rayLine_144 rfl ?_
                    refine m_iadd dX11_rayLine_145 ?_
                    refine m_iload dX11_rayLine_146 rfl ?_
                    refine m_if_eq 157 dX11_rayLine_148 (by decide) (fun c167 => ?_) (fun c167 => absurd c167 (by decide))
                    refine m_iload dX11_rayLine_157 rfl ?_
                    obtain ⟨b168, q⟩ := q
                    refine m_iastore dX11_rayLine_159 rfl (by decide) b168 ?_
                    refine m_iinc (v := (l3 + 1)) (lv' := [.ref 11, .int l1, .int 1, .int (l3 + 1), .int 0, .int 0, .int r160]) dX11_rayLine_160 (Nat.le_of_ble_eq_true rfl) rfl (congrArg (fun z => l3 + z) (by decide : Int32.ofInt 1 = 1)) rfl rfl ?_
                    refine m_goto 20 dX11_rayLine_163 (by decide) ?_
                    refine m_dropK (lv' := [.ref 11, .int l1, .int 1, .int (l3 + 1), .retAddr 0, .retAddr 0, .retAddr 0]) [4, 5, 6] rfl ?_
                    exact q
              · replace q := q.2 c157
                refine m_aload_n dX11_rayLine_83 rfl ?_
                refine gf_X11_94 rfl dX11_rayLine_84 ?_
                refine m_if_ne 94 dX11_rayLine_87 (by decide) (fun c169 => ?_) (fun c169 => ?_)
                · replace q := q.1 c169
                  refine m_iconst (v := 0) dX11_rayLine_94 (by decide) ?_
                  refine m_istore (lv' := [.ref 11, .int l1, .int l2, .int l3, .int 0, .int 0, .retAddr 0]) dX11_rayLine_95 (Nat.le_of_ble_eq_true rfl) rfl rfl ?_
                  refine m_iload dX11_rayLine_97 rfl ?_
                  refine m_if_eq 111 dX11_rayLine_99 (by decide) (fun c170 => ?_) (fun c170 => absurd c170 (by decide))
                  refine m_aload_n dX11_rayLine_111 rfl ?_
                  refine m_iconst (v := 0) dX11_rayLine_112 (by decide) ?_
                  refine m_iconst (v := 3) dX11_rayLine_113 (by decide) ?_
                  refine cl_X11_227 rfl (by decide) dX11_rayLine_114 (Nat.le_of_ble_eq_true rfl) (MCi_go q (fun r172 h171 q => ?_))
                  refine m_istore (lv' := [.ref 11, .int l1, .int l2, .int l3, .int 0, .int 0, .int r172]) dX11_rayLine_117 (Nat.le_of_ble_eq_true rfl) rfl rfl ?_
                  refine m_iload_n dX11_rayLine_119 rfl ?_
                  refine m_if_ne 128 dX11_rayLine_120 (by decide) (fun c173 => ?_) (fun c173 => ?_)
                  · replace q := q.1 c173
                    refine m_iconst (v := 1) dX11_rayLine_128 (by decide) ?_
                    refine m_goto 133 dX11_rayLine_129 (by decide) ?_
                    refine m_istore_n (lv' := [.ref 11, .int l1, .int 1, .int l3, .int 0, .int 0, .int r172]) dX11_rayLine_133 (Nat.le_of_ble_eq_true rfl) rfl rfl ?_
                    refine m_aload_n dX11_rayLine_134 rfl ?_
                    refine gf_X11_23 rfl dX11_rayLine_135 ?_
                    refine m_bipush (v := 86) dX11_rayLine_138 (by decide) ?_
                    refine m_iconst (v := 4) dX11_rayLine_140 (by decide) ?_
                    refine m_iload_n dX11_rayLine_141 rfl ?_
                    refine m_imul dX11_rayLine_142 ?_
                    refine m_iadd dX11_rayLine_143 ?_
                    refine m_iload_n dX11_rayLine_144 rfl ?_
                    refine m_iadd dX11_rayLine_145 ?_
                    refine m_iload dX11_rayLine_146 rfl ?_
                    refine m_if_eq 157 dX11_rayLine_148 (by decide) (fun c174 => ?_) (fun c174 => absurd c174 (by decide))
                    refine m_iload dX11_rayLine_157 rfl ?_
                    obtain ⟨b175, q⟩ := q
                    refine m_iastore dX11_rayLine_159 rfl (by decide) b175 ?_
                    refine m_iinc (v := (l3 + 1)) (lv' := [.ref 11, .int l1, .int 1, .int (l3 + 1), .int 0, .int 0, .int r172]) dX11_rayLine_160 (Nat.le_of_ble_eq_true rfl) rfl (congrArg (fun z => l3 + z) (by decide : Int32.ofInt 1 = 1)) rfl rfl ?_
                    refine m_goto 20 dX11_rayLine_163 (by decide) ?_
                    refine m_dropK (lv' := [.ref 11, .int l1, .int 1, .int (l3 + 1), .retAddr 0, .retAddr 0, .retAddr 0]) [4, 5, 6] rfl ?_
                    exact q
                  · replace q := q.2 c173
                    refine m_iload dX11_rayLine_123 rfl ?_
                    refine m_if_le 132 dX11_rayLine_125 (by decide) (fun c176 => ?_) (fun c176 => ?_)
                    · replace q := q.1 c176
                      refine m_iconst (v := 0) dX11_rayLine_132 (by decide) ?_
                      refine m_istore_n (lv' := [.ref 11, .int l1, .int 0, .int l3, .int 0, .int 0, .int r172]) dX11_rayLine_133 (Nat.le_of_ble_eq_true rfl) rfl rfl ?_
                      refine m_aload_n dX11_rayLine_134 rfl ?_
                      refine gf_X11_23 rfl dX11_rayLine_135 ?_
                      refine m_bipush (v := 86) dX11_rayLine_138 (by decide) ?_
                      refine m_iconst (v := 4) dX11_rayLine_140 (by decide) ?_
                      refine m_iload_n dX11_rayLine_141 rfl ?_
                      refine m_imul dX11_rayLine_142 ?_
                      refine m_iadd dX11_rayLine_143 ?_
                      refine m_iload_n dX11_rayLine_144 rfl ?_
                      refine m_iadd dX11_rayLine_145 ?_
                      refine m_iload dX11_rayLine_146 rfl ?_
                      refine m_if_eq 157 dX11_rayLine_148 (by decide) (fun c177 => ?_) (fun c177 => absurd c177 (by decide))
                      refine m_iload dX11_rayLine_157 rfl ?_
                      obtain ⟨b178, q⟩ := q
                      refine m_iastore dX11_rayLine_159 rfl (by decide) b178 ?_
                      refine m_iinc (v := (l3 + 1)) (lv' := [.ref 11, .int l1, .int 0, .int (l3 + 1), .int 0, .int 0, .int r172]) dX11_rayLine_160 (Nat.le_of_ble_eq_true rfl) rfl (congrArg (fun z => l3 + z) (by decide : Int32.ofInt 1 = 1)) rfl rfl ?_
                      refine m_goto 20 dX11_rayLine_163 (by decide) ?_
                      refine m_dropK (lv' := [.ref 11, .int l1, .int 0, .int (l3 + 1), .retAddr 0, .retAddr 0, .retAddr 0]) [4, 5, 6] rfl ?_
                      exact q
                    · replace q := q.2 c176
                      refine m_iconst (v := 1) dX11_rayLine_128 (by decide) ?_
                      refine m_goto 133 dX11_rayLine_129 (by decide) ?_
                      refine m_istore_n (lv' := [.ref 11, .int l1, .int 1, .int l3, .int 0, .int 0, .int r172]) dX11_rayLine_133 (Nat.le_of_ble_eq_true rfl) rfl rfl ?_
                      refine m_aload_n dX11_rayLine_134 rfl ?_
                      refine gf_X11_23 rfl dX11_rayLine_135 ?_
                      refine m_bipush (v := 86) dX11_rayLine_138 (by decide) ?_
                      refine m_iconst (v := 4) dX11_rayLine_140 (by decide) ?_
                      refine m_iload_n dX11_rayLine_141 rfl ?_
                      refine m_imul dX11_rayLine_142 ?_
                      refine m_iadd dX11_rayLine_143 ?_
                      refine m_iload_n dX11_rayLine_144 rfl ?_
                      refine m_iadd dX11_rayLine_145 ?_
                      refine m_iload dX11_rayLine_146 rfl ?_
                      refine m_if_eq 157 dX11_rayLine_148 (by decide) (fun c179 => ?_) (fun c179 => absurd c179 (by decide))
                      refine m_iload dX11_rayLine_157 rfl ?_
                      obtain ⟨b180, q⟩ := q
                      refine m_iastore dX11_rayLine_159 rfl (by decide) b180 ?_
                      refine m_iinc (v := (l3 + 1)) (lv' := [.ref 11, .int l1, .int 1, .int (l3 + 1), .int 0, .int 0, .int r172]) dX11_rayLine_160 (Nat.le_of_ble_eq_true rfl) rfl (congrArg (fun z => l3 + z) (by decide : Int32.ofInt 1 = 1)) rfl rfl ?_
                      refine m_goto 20 dX11_rayLine_163 (by decide) ?_
                      refine m_dropK (lv' := [.ref 11, .int l1, .int 1, .int (l3 + 1), .retAddr 0, .retAddr 0, .retAddr 0]) [4, 5, 6] rfl ?_
                      exact q
                · replace q := q.2 c169
                  refine m_iconst (v := 1) dX11_rayLine_90 (by decide) ?_
                  refine m_goto 95 dX11_rayLine_91 (by decide) ?_
                  refine m_istore (lv' := [.ref 11, .int l1, .int l2, .int l3, .int 0, .int 1, .retAddr 0]) dX11_rayLine_95 (Nat.le_of_ble_eq_true rfl) rfl rfl ?_
                  refine m_iload dX11_rayLine_97 rfl ?_
                  refine m_if_eq 111 dX11_rayLine_99 (by decide) (fun c181 => absurd c181 (by decide)) (fun c181 => ?_)
                  refine m_aload_n dX11_rayLine_102 rfl ?_
                  refine m_iconst (v := 4) dX11_rayLine_103 (by decide) ?_
                  refine m_aload_n dX11_rayLine_104 rfl ?_
                  refine gf_X11_88 rfl dX11_rayLine_105 ?_
                  refine cl_X11_134 rfl (by decide) dX11_rayLine_108 (Nat.le_of_ble_eq_true rfl) (MCv_go q (fun h182 q => ?_))
                  refine m_aload_n dX11_rayLine_111 rfl ?_
                  refine m_iconst (v := 0) dX11_rayLine_112 (by decide) ?_
                  refine m_iconst (v := 3) dX11_rayLine_113 (by decide) ?_
                  refine cl_X11_227 rfl (by decide) dX11_rayLine_114 (Nat.le_of_ble_eq_true rfl) (MCi_go q (fun r184 h183 q => ?_))
                  refine m_istore (lv' := [.ref 11, .int l1, .int l2, .int l3, .int 0, .int 1, .int r184]) dX11_rayLine_117 (Nat.le_of_ble_eq_true rfl) rfl rfl ?_
                  refine m_iload_n dX11_rayLine_119 rfl ?_
                  refine m_if_ne 128 dX11_rayLine_120 (by decide) (fun c185 => ?_) (fun c185 => ?_)
                  · replace q := q.1 c185
                    refine m_iconst (v := 1) dX11_rayLine_128 (by decide) ?_
                    refine m_goto 133 dX11_rayLine_129 (by decide) ?_
                    refine m_istore_n (lv' := [.ref 11, .int l1, .int 1, .int l3, .int 0, .int 1, .int r184]) dX11_rayLine_133 (Nat.le_of_ble_eq_true rfl) rfl rfl ?_
                    refine m_aload_n dX11_rayLine_134 rfl ?_
                    refine gf_X11_23 rfl dX11_rayLine_135 ?_
                    refine m_bipush (v := 86) dX11_rayLine_138 (by decide) ?_
                    refine m_iconst (v := 4) dX11_rayLine_140 (by decide) ?_
                    refine m_iload_n dX11_rayLine_141 rfl ?_
                    refine m_imul dX11_rayLine_142 ?_
                    refine m_iadd dX11_rayLine_143 ?_
                    refine m_iload_n dX11_rayLine_144 rfl ?_
                    refine m_iadd dX11_rayLine_145 ?_
                    refine m_iload dX11_rayLine_146 rfl ?_
                    refine m_if_eq 157 dX11_rayLine_148 (by decide) (fun c186 => ?_) (fun c186 => absurd c186 (by decide))
                    refine m_iload dX11_rayLine_157 rfl ?_
                    obtain ⟨b187, q⟩ := q
                    refine m_iastore dX11_rayLine_159 rfl (by decide) b187 ?_
                    refine m_iinc (v := (l3 + 1)) (lv' := [.ref 11, .int l1, .int 1, .int (l3 + 1), .int 0, .int 1, .int r184]) dX11_rayLine_160 (Nat.le_of_ble_eq_true rfl) rfl (congrArg (fun z => l3 + z) (by decide : Int32.ofInt 1 = 1)) rfl rfl ?_
                    refine m_goto 20 dX11_rayLine_163 (by decide) ?_
                    refine m_dropK (lv' := [.ref 11, .int l1, .int 1, .int (l3 + 1), .retAddr 0, .retAddr 0, .retAddr 0]) [4, 5, 6] rfl ?_
                    exact q
                  · replace q := q.2 c185
                    refine m_iload dX11_rayLine_123 rfl ?_
                    refine m_if_le 132 dX11_rayLine_125 (by decide) (fun c188 => ?_) (fun c188 => ?_)
                    · replace q := q.1 c188
                      refine m_iconst (v := 0) dX11_rayLine_132 (by decide) ?_
                      refine m_istore_n (lv' := [.ref 11, .int l1, .int 0, .int l3, .int 0, .int 1, .int r184]) dX11_rayLine_133 (Nat.le_of_ble_eq_true rfl) rfl rfl ?_
                      refine m_aload_n dX11_rayLine_134 rfl ?_
                      refine gf_X11_23 rfl dX11_rayLine_135 ?_
                      refine m_bipush (v := 86) dX11_rayLine_138 (by decide) ?_
                      refine m_iconst (v := 4) dX11_rayLine_140 (by decide) ?_
                      refine m_iload_n dX11_rayLine_141 rfl ?_
                      refine m_imul dX11_rayLine_142 ?_
                      refine m_iadd dX11_rayLine_143 ?_
                      refine m_iload_n dX11_rayLine_144 rfl ?_
                      refine m_iadd dX11_rayLine_145 ?_
                      refine m_iload dX11_rayLine_146 rfl ?_
                      refine m_if_eq 157 dX11_rayLine_148 (by decide) (fun c189 => ?_) (fun c189 => absurd c189 (by decide))
                      refine m_iload dX11_rayLine_157 rfl ?_
                      obtain ⟨b190, q⟩ := q
                      refine m_iastore dX11_rayLine_159 rfl (by decide) b190 ?_
                      refine m_iinc (v := (l3 + 1)) (lv' := [.ref 11, .int l1, .int 0, .int (l3 + 1), .int 0, .int 1, .int r184]) dX11_rayLine_160 (Nat.le_of_ble_eq_true rfl) rfl (congrArg (fun z => l3 + z) (by decide : Int32.ofInt 1 = 1)) rfl rfl ?_
                      refine m_goto 20 dX11_rayLine_163 (by decide) ?_
                      refine m_dropK (lv' := [.ref 11, .int l1, .int 0, .int (l3 + 1), .retAddr 0, .retAddr 0, .retAddr 0]) [4, 5, 6] rfl ?_
                      exact q
                    · replace q := q.2 c188
                      refine m_iconst (v := 1) dX11_rayLine_128 (by decide) ?_
                      refine m_goto 133 dX11_rayLine_129 (by decide) ?_
                      refine m_istore_n (lv' := [.ref 11, .int l1, .int 1, .int l3, .int 0, .int 1, .int r184]) dX11_rayLine_133 (Nat.le_of_ble_eq_true rfl) rfl rfl ?_
                      refine m_aload_n dX11_rayLine_134 rfl ?_
                      refine gf_X11_23 rfl dX11_rayLine_135 ?_
                      refine m_bipush (v := 86) dX11_rayLine_138 (by decide) ?_
                      refine m_iconst (v := 4) dX11_rayLine_140 (by decide) ?_
                      refine m_iload_n dX11_rayLine_141 rfl ?_
                      refine m_imul dX11_rayLine_142 ?_
                      refine m_iadd dX11_rayLine_143 ?_
                      refine m_iload_n dX11_rayLine_144 rfl ?_
                      refine m_iadd dX11_rayLine_145 ?_
                      refine m_iload dX11_rayLine_146 rfl ?_
                      refine m_if_eq 157 dX11_rayLine_148 (by decide) (fun c191 => ?_) (fun c191 => absurd c191 (by decide))
                      refine m_iload dX11_rayLine_157 rfl ?_
                      obtain ⟨b192, q⟩ := q
                      refine m_iastore dX11_rayLine_159 rfl (by decide) b192 ?_
                      refine m_iinc (v := (l3 + 1)) (lv' := [.ref 11, .int l1, .int 1, .int (l3 + 1), .int 0, .int 1, .int r184]) dX11_rayLine_160 (Nat.le_of_ble_eq_true rfl) rfl (congrArg (fun z => l3 + z) (by decide : Int32.ofInt 1 = 1)) rfl rfl ?_
                      refine m_goto 20 dX11_rayLine_163 (by decide) ?_
                      refine m_dropK (lv' := [.ref 11, .int l1, .int 1, .int (l3 + 1), .retAddr 0, .retAddr 0, .retAddr 0]) [4, 5, 6] rfl ?_
                      exact q
        · replace q := q.2 c131
          refine m_iconst (v := 1) dX11_rayLine_50 (by decide) ?_
          refine m_goto 55 dX11_rayLine_51 (by decide) ?_
          refine m_istore (lv' := [.ref 11, .int l1, .int l2, .int l3, .int 1, .retAddr 0, .retAddr 0]) dX11_rayLine_55 (Nat.le_of_ble_eq_true rfl) rfl rfl ?_
          refine m_iload dX11_rayLine_57 rfl ?_
          refine m_if_eq 66 dX11_rayLine_59 (by decide) (fun c193 => absurd c193 (by decide)) (fun c193 => ?_)
          refine m_aload_n dX11_rayLine_62 rfl ?_
          refine cl_X11_128 rfl (by decide) dX11_rayLine_63 (Nat.le_of_ble_eq_true rfl) (MCv_go q (fun h194 q => ?_))
          refine m_iload_n dX11_rayLine_66 rfl ?_
          refine m_iconst (v := 3) dX11_rayLine_67 (by decide) ?_
          refine m_icmp_ne 94 dX11_rayLine_68 (by decide) (fun c195 => ?_) (fun c195 => ?_)
          · replace q := q.1 c195
            refine m_iconst (v := 0) dX11_rayLine_94 (by decide) ?_
            refine m_istore (lv' := [.ref 11, .int l1, .int l2, .int l3, .int 1, .int 0, .retAddr 0]) dX11_rayLine_95 (Nat.le_of_ble_eq_true rfl) rfl rfl ?_
            refine m_iload dX11_rayLine_97 rfl ?_
            refine m_if_eq 111 dX11_rayLine_99 (by decide) (fun c196 => ?_) (fun c196 => absurd c196 (by decide))
            refine m_aload_n dX11_rayLine_111 rfl ?_
            refine m_iconst (v := 0) dX11_rayLine_112 (by decide) ?_
            refine m_iconst (v := 3) dX11_rayLine_113 (by decide) ?_
            refine cl_X11_227 rfl (by decide) dX11_rayLine_114 (Nat.le_of_ble_eq_true rfl) (MCi_go q (fun r198 h197 q => ?_))
            refine m_istore (lv' := [.ref 11, .int l1, .int l2, .int l3, .int 1, .int 0, .int r198]) dX11_rayLine_117 (Nat.le_of_ble_eq_true rfl) rfl rfl ?_
            refine m_iload_n dX11_rayLine_119 rfl ?_
            refine m_if_ne 128 dX11_rayLine_120 (by decide) (fun c199 => ?_) (fun c199 => ?_)
            · replace q := q.1 c199
              refine m_iconst (v := 1) dX11_rayLine_128 (by decide) ?_
              refine m_goto 133 dX11_rayLine_129 (by decide) ?_
              refine m_istore_n (lv' := [.ref 11, .int l1, .int 1, .int l3, .int 1, .int 0, .int r198]) dX11_rayLine_133 (Nat.le_of_ble_eq_true rfl) rfl rfl ?_
              refine m_aload_n dX11_rayLine_134 rfl ?_
              refine gf_X11_23 rfl dX11_rayLine_135 ?_
              refine m_bipush (v := 86) dX11_rayLine_138 (by decide) ?_
              refine m_iconst (v := 4) dX11_rayLine_140 (by decide) ?_
              refine m_iload_n dX11_rayLine_141 rfl ?_
              refine m_imul dX11_rayLine_142 ?_
              refine m_iadd dX11_rayLine_143 ?_
              refine m_iload_n dX11_rayLine_144 rfl ?_
              refine m_iadd dX11_rayLine_145 ?_
              refine m_iload dX11_rayLine_146 rfl ?_
              refine m_if_eq 157 dX11_rayLine_148 (by decide) (fun c200 => absurd c200 (by decide)) (fun c200 => ?_)
              refine m_iload dX11_rayLine_151 rfl ?_
              refine m_ineg dX11_rayLine_153 ?_
              refine m_goto 159 dX11_rayLine_154 (by decide) ?_
              obtain ⟨b201, q⟩ := q
              refine m_iastore dX11_rayLine_159 rfl (by decide) b201 ?_
              refine m_iinc (v := (l3 + 1)) (lv' := [.ref 11, .int l1, .int 1, .int (l3 + 1), .int 1, .int 0, .int r198]) dX11_rayLine_160 (Nat.le_of_ble_eq_true rfl) rfl (congrArg (fun z => l3 + z) (by decide : Int32.ofInt 1 = 1)) rfl rfl ?_
              refine m_goto 20 dX11_rayLine_163 (by decide) ?_
              refine m_dropK (lv' := [.ref 11, .int l1, .int 1, .int (l3 + 1), .retAddr 0, .retAddr 0, .retAddr 0]) [4, 5, 6] rfl ?_
              exact q
            · replace q := q.2 c199
              refine m_iload dX11_rayLine_123 rfl ?_
              refine m_if_le 132 dX11_rayLine_125 (by decide) (fun c202 => ?_) (fun c202 => ?_)
              · replace q := q.1 c202
                refine m_iconst (v := 0) dX11_rayLine_132 (by decide) ?_
                refine m_istore_n (lv' := [.ref 11, .int l1, .int 0, .int l3, .int 1, .int 0, .int r198]) dX11_rayLine_133 (Nat.le_of_ble_eq_true rfl) rfl rfl ?_
                refine m_aload_n dX11_rayLine_134 rfl ?_
                refine gf_X11_23 rfl dX11_rayLine_135 ?_
                refine m_bipush (v := 86) dX11_rayLine_138 (by decide) ?_
                refine m_iconst (v := 4) dX11_rayLine_140 (by decide) ?_
                refine m_iload_n dX11_rayLine_141 rfl ?_
                refine m_imul dX11_rayLine_142 ?_
                refine m_iadd dX11_rayLine_143 ?_
                refine m_iload_n dX11_rayLine_144 rfl ?_
                refine m_iadd dX11_rayLine_145 ?_
                refine m_iload dX11_rayLine_146 rfl ?_
                refine m_if_eq 157 dX11_rayLine_148 (by decide) (fun c203 => absurd c203 (by decide)) (fun c203 => ?_)
                refine m_iload dX11_rayLine_151 rfl ?_
                refine m_ineg dX11_rayLine_153 ?_
                refine m_goto 159 dX11_rayLine_154 (by decide) ?_
                obtain ⟨b204, q⟩ := q
                refine m_iastore dX11_rayLine_159 rfl (by decide) b204 ?_
                refine m_iinc (v := (l3 + 1)) (lv' := [.ref 11, .int l1, .int 0, .int (l3 + 1), .int 1, .int 0, .int r198]) dX11_rayLine_160 (Nat.le_of_ble_eq_true rfl) rfl (congrArg (fun z => l3 + z) (by decide : Int32.ofInt 1 = 1)) rfl rfl ?_
                refine m_goto 20 dX11_rayLine_163 (by decide) ?_
                refine m_dropK (lv' := [.ref 11, .int l1, .int 0, .int (l3 + 1), .retAddr 0, .retAddr 0, .retAddr 0]) [4, 5, 6] rfl ?_
                exact q
              · replace q := q.2 c202
                refine m_iconst (v := 1) dX11_rayLine_128 (by decide) ?_
                refine m_goto 133 dX11_rayLine_129 (by decide) ?_
                refine m_istore_n (lv' := [.ref 11, .int l1, .int 1, .int l3, .int 1, .int 0, .int r198]) dX11_rayLine_133 (Nat.le_of_ble_eq_true rfl) rfl rfl ?_
                refine m_aload_n dX11_rayLine_134 rfl ?_
                refine gf_X11_23 rfl dX11_rayLine_135 ?_
                refine m_bipush (v := 86) dX11_rayLine_138 (by decide) ?_
                refine m_iconst (v := 4) dX11_rayLine_140 (by decide) ?_
                refine m_iload_n dX11_rayLine_141 rfl ?_
                refine m_imul dX11_rayLine_142 ?_
                refine m_iadd dX11_rayLine_143 ?_
                refine m_iload_n dX11_rayLine_144 rfl ?_
                refine m_iadd dX11_rayLine_145 ?_
                refine m_iload dX11_rayLine_146 rfl ?_
                refine m_if_eq 157 dX11_rayLine_148 (by decide) (fun c205 => absurd c205 (by decide)) (fun c205 => ?_)
                refine m_iload dX11_rayLine_151 rfl ?_
                refine m_ineg dX11_rayLine_153 ?_
                refine m_goto 159 dX11_rayLine_154 (by decide) ?_
                obtain ⟨b206, q⟩ := q
                refine m_iastore dX11_rayLine_159 rfl (by decide) b206 ?_
                refine m_iinc (v := (l3 + 1)) (lv' := [.ref 11, .int l1, .int 1, .int (l3 + 1), .int 1, .int 0, .int r198]) dX11_rayLine_160 (Nat.le_of_ble_eq_true rfl) rfl (congrArg (fun z => l3 + z) (by decide : Int32.ofInt 1 = 1)) rfl rfl ?_
                refine m_goto 20 dX11_rayLine_163 (by decide) ?_
                refine m_dropK (lv' := [.ref 11, .int l1, .int 1, .int (l3 + 1), .retAddr 0, .retAddr 0, .retAddr 0]) [4, 5, 6] rfl ?_
                exact q
          · replace q := q.2 c195
            refine m_iload_n dX11_rayLine_71 rfl ?_
            refine m_if_ne 94 dX11_rayLine_72 (by decide) (fun c207 => ?_) (fun c207 => ?_)
            · replace q := q.1 c207
              refine m_iconst (v := 0) dX11_rayLine_94 (by decide) ?_
              refine m_istore (lv' := [.ref 11, .int l1, .int l2, .int l3, .int 1, .int 0, .retAddr 0]) dX11_rayLine_95 (Nat.le_of_ble_eq_true rfl) rfl rfl ?_
              refine m_iload dX11_rayLine_97 rfl ?_
              refine m_if_eq 111 dX11_rayLine_99 (by decide) (fun c208 => ?_) (fun c208 => absurd c208 (by decide))
              refine m_aload_n dX11_rayLine_111 rfl ?_
              refine m_iconst (v := 0) dX11_rayLine_112 (by decide) ?_
              refine m_iconst (v := 3) dX11_rayLine_113 (by decide) ?_
              refine cl_X11_227 rfl (by decide) dX11_rayLine_114 (Nat.le_of_ble_eq_true rfl) (MCi_go q (fun r210 h209 q => ?_))
              refine m_istore (lv' := [.ref 11, .int l1, .int l2, .int l3, .int 1, .int 0, .int r210]) dX11_rayLine_117 (Nat.le_of_ble_eq_true rfl) rfl rfl ?_
              refine m_iload_n dX11_rayLine_119 rfl ?_
              refine m_if_ne 128 dX11_rayLine_120 (by decide) (fun c211 => ?_) (fun c211 => ?_)
              · replace q := q.1 c211
                refine m_iconst (v := 1) dX11_rayLine_128 (by decide) ?_
                refine m_goto 133 dX11_rayLine_129 (by decide) ?_
                refine m_istore_n (lv' := [.ref 11, .int l1, .int 1, .int l3, .int 1, .int 0, .int r210]) dX11_rayLine_133 (Nat.le_of_ble_eq_true rfl) rfl rfl ?_
                refine m_aload_n dX11_rayLine_134 rfl ?_
                refine gf_X11_23 rfl dX11_rayLine_135 ?_
                refine m_bipush (v := 86) dX11_rayLine_138 (by decide) ?_
                refine m_iconst (v := 4) dX11_rayLine_140 (by decide) ?_
                refine m_iload_n dX11_rayLine_141 rfl ?_
                refine m_imul dX11_rayLine_142 ?_
                refine m_iadd dX11_rayLine_143 ?_
                refine m_iload_n dX11_rayLine_144 rfl ?_
                refine m_iadd dX11_rayLine_145 ?_
                refine m_iload dX11_rayLine_146 rfl ?_
                refine m_if_eq 157 dX11_rayLine_148 (by decide) (fun c212 => absurd c212 (by decide)) (fun c212 => ?_)
                refine m_iload dX11_rayLine_151 rfl ?_
                refine m_ineg dX11_rayLine_153 ?_
                refine m_goto 159 dX11_rayLine_154 (by decide) ?_
                obtain ⟨b213, q⟩ := q
                refine m_iastore dX11_rayLine_159 rfl (by decide) b213 ?_
                refine m_iinc (v := (l3 + 1)) (lv' := [.ref 11, .int l1, .int 1, .int (l3 + 1), .int 1, .int 0, .int r210]) dX11_rayLine_160 (Nat.le_of_ble_eq_true rfl) rfl (congrArg (fun z => l3 + z) (by decide : Int32.ofInt 1 = 1)) rfl rfl ?_
                refine m_goto 20 dX11_rayLine_163 (by decide) ?_
                refine m_dropK (lv' := [.ref 11, .int l1, .int 1, .int (l3 + 1), .retAddr 0, .retAddr 0, .retAddr 0]) [4, 5, 6] rfl ?_
                exact q
              · replace q := q.2 c211
                refine m_iload dX11_rayLine_123 rfl ?_
                refine m_if_le 132 dX11_rayLine_125 (by decide) (fun c214 => ?_) (fun c214 => ?_)
                · replace q := q.1 c214
                  refine m_iconst (v := 0) dX11_rayLine_132 (by decide) ?_
                  refine m_istore_n (lv' := [.ref 11, .int l1, .int 0, .int l3, .int 1, .int 0, .int r210]) dX11_rayLine_133 (Nat.le_of_ble_eq_true rfl) rfl rfl ?_
                  refine m_aload_n dX11_rayLine_134 rfl ?_
                  refine gf_X11_23 rfl dX11_rayLine_135 ?_
                  refine m_bipush (v := 86) dX11_rayLine_138 (by decide) ?_
                  refine m_iconst (v := 4) dX11_rayLine_140 (by decide) ?_
                  refine m_iload_n dX11_rayLine_141 rfl ?_
                  refine m_imul dX11_rayLine_142 ?_
                  refine m_iadd dX11_rayLine_143 ?_
                  refine m_iload_n dX11_rayLine_144 rfl ?_
                  refine m_iadd dX11_rayLine_145 ?_
                  refine m_iload dX11_rayLine_146 rfl ?_
                  refine m_if_eq 157 dX11_rayLine_148 (by decide) (fun c215 => absurd c215 (by decide)) (fun c215 => ?_)
                  refine m_iload dX11_rayLine_151 rfl ?_
                  refine m_ineg dX11_rayLine_153 ?_
                  refine m_goto 159 dX11_rayLine_154 (by decide) ?_
                  obtain ⟨b216, q⟩ := q
                  refine m_iastore dX11_rayLine_159 rfl (by decide) b216 ?_
                  refine m_iinc (v := (l3 + 1)) (lv' := [.ref 11, .int l1, .int 0, .int (l3 + 1), .int 1, .int 0, .int r210]) dX11_rayLine_160 (Nat.le_of_ble_eq_true rfl) rfl (congrArg (fun z => l3 + z) (by decide : Int32.ofInt 1 = 1)) rfl rfl ?_
                  refine m_goto 20 dX11_rayLine_163 (by decide) ?_
                  refine m_dropK (lv' := [.ref 11, .int l1, .int 0, .int (l3 + 1), .retAddr 0, .retAddr 0, .retAddr 0]) [4, 5, 6] rfl ?_
                  exact q
                · replace q := q.2 c214
                  refine m_iconst (v := 1) dX11_rayLine_128 (by decide) ?_
                  refine m_goto 133 dX11_rayLine_129 (by decide) ?_
                  refine m_istore_n (lv' := [.ref 11, .int l1, .int 1, .int l3, .int 1, .int 0, .int r210]) dX11_rayLine_133 (Nat.le_of_ble_eq_true rfl) rfl rfl ?_
                  refine m_aload_n dX11_rayLine_134 rfl ?_
                  refine gf_X11_23 rfl dX11_rayLine_135 ?_
                  refine m_bipush (v := 86) dX11_rayLine_138 (by decide) ?_
                  refine m_iconst (v := 4) dX11_rayLine_140 (by decide) ?_
                  refine m_iload_n dX11_rayLine_141 rfl ?_
                  refine m_imul dX11_rayLine_142 ?_
                  refine m_iadd dX11_rayLine_143 ?_
                  refine m_iload_n dX11_rayLine_144 rfl ?_
                  refine m_iadd dX11_rayLine_145 ?_
                  refine m_iload dX11_rayLine_146 rfl ?_
                  refine m_if_eq 157 dX11_rayLine_148 (by decide) (fun c217 => absurd c217 (by decide)) (fun c217 => ?_)
                  refine m_iload dX11_rayLine_151 rfl ?_
                  refine m_ineg dX11_rayLine_153 ?_
                  refine m_goto 159 dX11_rayLine_154 (by decide) ?_
                  obtain ⟨b218, q⟩ := q
                  refine m_iastore dX11_rayLine_159 rfl (by decide) b218 ?_
                  refine m_iinc (v := (l3 + 1)) (lv' := [.ref 11, .int l1, .int 1, .int (l3 + 1), .int 1, .int 0, .int r210]) dX11_rayLine_160 (Nat.le_of_ble_eq_true rfl) rfl (congrArg (fun z => l3 + z) (by decide : Int32.ofInt 1 = 1)) rfl rfl ?_
                  refine m_goto 20 dX11_rayLine_163 (by decide) ?_
                  refine m_dropK (lv' := [.ref 11, .int l1, .int 1, .int (l3 + 1), .retAddr 0, .retAddr 0, .retAddr 0]) [4, 5, 6] rfl ?_
                  exact q
            · replace q := q.2 c207
              refine m_aload_n dX11_rayLine_75 rfl ?_
              refine gf_X11_97 rfl dX11_rayLine_76 ?_
              refine m_iconst (v := 3) dX11_rayLine_79 (by decide) ?_
              refine m_icmp_ne 94 dX11_rayLine_80 (by decide) (fun c219 => ?_) (fun c219 => ?_)
              · replace q := q.1 c219
                refine m_iconst (v := 0) dX11_rayLine_94 (by decide) ?_
                refine m_istore (lv' := [.ref 11, .int l1, .int l2, .int l3, .int 1, .int 0, .retAddr 0]) dX11_rayLine_95 (Nat.le_of_ble_eq_true rfl) rfl rfl ?_
                refine m_iload dX11_rayLine_97 rfl ?_
                refine m_if_eq 111 dX11_rayLine_99 (by decide) (fun c220 => ?_) (fun c220 => absurd c220 (by decide))
                refine m_aload_n dX11_rayLine_111 rfl ?_
                refine m_iconst (v := 0) dX11_rayLine_112 (by decide) ?_
                refine m_iconst (v := 3) dX11_rayLine_113 (by decide) ?_
                refine cl_X11_227 rfl (by decide) dX11_rayLine_114 (Nat.le_of_ble_eq_true rfl) (MCi_go q (fun r222 h221 q => ?_))
                refine m_istore (lv' := [.ref 11, .int l1, .int l2, .int l3, .int 1, .int 0, .int r222]) dX11_rayLine_117 (Nat.le_of_ble_eq_true rfl) rfl rfl ?_
                refine m_iload_n dX11_rayLine_119 rfl ?_
                refine m_if_ne 128 dX11_rayLine_120 (by decide) (fun c223 => ?_) (fun c223 => ?_)
                · replace q := q.1 c223
                  refine m_iconst (v := 1) dX11_rayLine_128 (by decide) ?_
                  refine m_goto 133 dX11_rayLine_129 (by decide) ?_
                  refine m_istore_n (lv' := [.ref 11, .int l1, .int 1, .int l3, .int 1, .int 0, .int r222]) dX11_rayLine_133 (Nat.le_of_ble_eq_true rfl) rfl rfl ?_
                  refine m_aload_n dX11_rayLine_134 rfl ?_
                  refine gf_X11_23 rfl dX11_rayLine_135 ?_
                  refine m_bipush (v := 86) dX11_rayLine_138 (by decide) ?_
                  refine m_iconst (v := 4) dX11_rayLine_140 (by decide) ?_
                  refine m_iload_n dX11_rayLine_141 rfl ?_
                  refine m_imul dX11_rayLine_142 ?_
                  refine m_iadd dX11_rayLine_143 ?_
                  refine m_iload_n dX11_rayLine_144 rfl ?_
                  refine m_iadd dX11_rayLine_145 ?_
                  refine m_iload dX11_rayLine_146 rfl ?_
                  refine m_if_eq 157 dX11_rayLine_148 (by decide) (fun c224 => absurd c224 (by decide)) (fun c224 => ?_)
                  refine m_iload dX11_rayLine_151 rfl ?_
                  refine m_ineg dX11_rayLine_153 ?_
                  refine m_goto 159 dX11_rayLine_154 (by decide) ?_
                  obtain ⟨b225, q⟩ := q
                  refine m_iastore dX11_rayLine_159 rfl (by decide) b225 ?_
                  refine m_iinc (v := (l3 + 1)) (lv' := [.ref 11, .int l1, .int 1, .int (l3 + 1), .int 1, .int 0, .int r222]) dX11_rayLine_160 (Nat.le_of_ble_eq_true rfl) rfl (congrArg (fun z => l3 + z) (by decide : Int32.ofInt 1 = 1)) rfl rfl ?_
                  refine m_goto 20 dX11_rayLine_163 (by decide) ?_
                  refine m_dropK (lv' := [.ref 11, .int l1, .int 1, .int (l3 + 1), .retAddr 0, .retAddr 0, .retAddr 0]) [4, 5, 6] rfl ?_
                  exact q
                · replace q := q.2 c223
                  refine m_iload dX11_rayLine_123 rfl ?_
                  refine m_if_le 132 dX11_rayLine_125 (by decide) (fun c226 => ?_) (fun c226 => ?_)
                  · replace q := q.1 c226
                    refine m_iconst (v := 0) dX11_rayLine_132 (by decide) ?_
                    refine m_istore_n (lv' := [.ref 11, .int l1, .int 0, .int l3, .int 1, .int 0, .int r222]) dX11_rayLine_133 (Nat.le_of_ble_eq_true rfl) rfl rfl ?_
                    refine m_aload_n dX11_rayLine_134 rfl ?_
                    refine gf_X11_23 rfl dX11_rayLine_135 ?_
                    refine m_bipush (v := 86) dX11_rayLine_138 (by decide) ?_
                    refine m_iconst (v := 4) dX11_rayLine_140 (by decide) ?_
                    refine m_iload_n dX11_rayLine_141 rfl ?_
                    refine m_imul dX11_rayLine_142 ?_
                    refine m_iadd dX11_rayLine_143 ?_
                    refine m_iload_n dX11_rayLine_144 rfl ?_
                    refine m_iadd dX11_rayLine_145 ?_
                    refine m_iload dX11_rayLine_146 rfl ?_
                    refine m_if_eq 157 dX11_rayLine_148 (by decide) (fun c227 => absurd c227 (by decide)) (fun c227 => ?_)
                    refine m_iload dX11_rayLine_151 rfl ?_
                    refine m_ineg dX11_rayLine_153 ?_
                    refine m_goto 159 dX11_rayLine_154 (by decide) ?_
                    obtain ⟨b228, q⟩ := q
                    refine m_iastore dX11_rayLine_159 rfl (by decide) b228 ?_
                    refine m_iinc (v := (l3 + 1)) (lv' := [.ref 11, .int l1, .int 0, .int (l3 + 1), .int 1, .int 0, .int r222]) dX11_rayLine_160 (Nat.le_of_ble_eq_true rfl) rfl (congrArg (fun z => l3 + z) (by decide : Int32.ofInt 1 = 1)) rfl rfl ?_
                    refine m_goto 20 dX11_rayLine_163 (by decide) ?_
                    refine m_dropK (lv' := [.ref 11, .int l1, .int 0, .int (l3 + 1), .retAddr 0, .retAddr 0, .retAddr 0]) [4, 5, 6] rfl ?_
                    exact q
                  · replace q := q.2 c226
                    refine m_iconst (v := 1) dX11_rayLine_128 (by decide) ?_
                    refine m_goto 133 dX11_rayLine_129 (by decide) ?_
                    refine m_istore_n (lv' := [.ref 11, .int l1, .int 1, .int l3, .int 1, .int 0, .int r222]) dX11_rayLine_133 (Nat.le_of_ble_eq_true rfl) rfl rfl ?_
                    refine m_aload_n dX11_rayLine_134 rfl ?_
                    refine gf_X11_23 rfl dX11_rayLine_135 ?_
                    refine m_bipush (v := 86) dX11_rayLine_138 (by decide) ?_
                    refine m_iconst (v := 4) dX11_rayLine_140 (by decide) ?_
                    refine m_iload_n dX11_rayLine_141 rfl ?_
                    refine m_imul dX11_rayLine_142 ?_
                    refine m_iadd dX11_rayLine_143 ?_
                    refine m_iload_n dX11_rayLine_144 rfl ?_
                    refine m_iadd dX11_rayLine_145 ?_
                    refine m_iload dX11_rayLine_146 rfl ?_
                    refine m_if_eq 157 dX11_rayLine_148 (by decide) (fun c229 => absurd c229 (by decide)) (fun c229 => ?_)
                    refine m_iload dX11_rayLine_151 rfl ?_
                    refine m_ineg dX11_rayLine_153 ?_
                    refine m_goto 159 dX11_rayLine_154 (by decide) ?_
                    obtain ⟨b230, q⟩ := q
                    refine m_iastore dX11_rayLine_159 rfl (by decide) b230 ?_
                    refine m_iinc (v := (l3 + 1)) (lv' := [.ref 11, .int l1, .int 1, .int (l3 + 1), .int 1, .int 0, .int r222]) dX11_rayLine_160 (Nat.le_of_ble_eq_true rfl) rfl (congrArg (fun z => l3 + z) (by decide : Int32.ofInt 1 = 1)) rfl rfl ?_
                    refine m_goto 20 dX11_rayLine_163 (by decide) ?_
                    refine m_dropK (lv' := [.ref 11, .int l1, .int 1, .int (l3 + 1), .retAddr 0, .retAddr 0, .retAddr 0]) [4, 5, 6] rfl ?_
                    exact q
              · replace q := q.2 c219
                refine m_aload_n dX11_rayLine_83 rfl ?_
                refine gf_X11_94 rfl dX11_rayLine_84 ?_
                refine m_if_ne 94 dX11_rayLine_87 (by decide) (fun c231 => ?_) (fun c231 => ?_)
                · replace q := q.1 c231
                  refine m_iconst (v := 0) dX11_rayLine_94 (by decide) ?_
                  refine m_istore (lv' := [.ref 11, .int l1, .int l2, .int l3, .int 1, .int 0, .retAddr 0]) dX11_rayLine_95 (Nat.le_of_ble_eq_true rfl) rfl rfl ?_
                  refine m_iload dX11_rayLine_97 rfl ?_
                  refine m_if_eq 111 dX11_rayLine_99 (by decide) (fun c232 => ?_) (fun c232 => absurd c232 (by decide))
                  refine m_aload_n dX11_rayLine_111 rfl ?_
                  refine m_iconst (v := 0) dX11_rayLine_112 (by decide) ?_
                  refine m_iconst (v := 3) dX11_rayLine_113 (by decide) ?_
                  refine cl_X11_227 rfl (by decide) dX11_rayLine_114 (Nat.le_of_ble_eq_true rfl) (MCi_go q (fun r234 h233 q => ?_))
                  refine m_istore (lv' := [.ref 11, .int l1, .int l2, .int l3, .int 1, .int 0, .int r234]) dX11_rayLine_117 (Nat.le_of_ble_eq_true rfl) rfl rfl ?_
                  refine m_iload_n dX11_rayLine_119 rfl ?_
                  refine m_if_ne 128 dX11_rayLine_120 (by decide) (fun c235 => ?_) (fun c235 => ?_)
                  · replace q := q.1 c235
                    refine m_iconst (v := 1) dX11_rayLine_128 (by decide) ?_
                    refine m_goto 133 dX11_rayLine_129 (by decide) ?_
                    refine m_istore_n (lv' := [.ref 11, .int l1, .int 1, .int l3, .int 1, .int 0, .int r234]) dX11_rayLine_133 (Nat.le_of_ble_eq_true rfl) rfl rfl ?_
                    refine m_aload_n dX11_rayLine_134 rfl ?_
                    refine gf_X11_23 rfl dX11_rayLine_135 ?_
                    refine m_bipush (v := 86) dX11_rayLine_138 (by decide) ?_
                    refine m_iconst (v := 4) dX11_rayLine_140 (by decide) ?_
                    refine m_iload_n dX11_rayLine_141 rfl ?_
                    refine m_imul dX11_rayLine_142 ?_
                    refine m_iadd dX11_rayLine_143 ?_
                    refine m_iload_n dX11_rayLine_144 rfl ?_
                    refine m_iadd dX11_rayLine_145 ?_
                    refine m_iload dX11_rayLine_146 rfl ?_
                    refine m_if_eq 157 dX11_rayLine_148 (by decide) (fun c236 => absurd c236 (by decide)) (fun c236 => ?_)
                    refine m_iload dX11_rayLine_151 rfl ?_
                    refine m_ineg dX11_rayLine_153 ?_
                    refine m_goto 159 dX11_rayLine_154 (by decide) ?_
                    obtain ⟨b237, q⟩ := q
                    refine m_iastore dX11_rayLine_159 rfl (by decide) b237 ?_
                    refine m_iinc (v := (l3 + 1)) (lv' := [.ref 11, .int l1, .int 1, .int (l3 + 1), .int 1, .int 0, .int r234]) dX11_rayLine_160 (Nat.le_of_ble_eq_true rfl) rfl (congrArg (fun z => l3 + z) (by decide : Int32.ofInt 1 = 1)) rfl rfl ?_
                    refine m_goto 20 dX11_rayLine_163 (by decide) ?_
                    refine m_dropK (lv' := [.ref 11, .int l1, .int 1, .int (l3 + 1), .retAddr 0, .retAddr 0, .retAddr 0]) [4, 5, 6] rfl ?_
                    exact q
                  · replace q := q.2 c235
                    refine m_iload dX11_rayLine_123 rfl ?_
                    refine m_if_le 132 dX11_rayLine_125 (by decide) (fun c238 => ?_) (fun c238 => ?_)
                    · replace q := q.1 c238
                      refine m_iconst (v := 0) dX11_rayLine_132 (by decide) ?_
                      refine m_istore_n (lv' := [.ref 11, .int l1, .int 0, .int l3, .int 1, .int 0, .int r234]) dX11_rayLine_133 (Nat.le_of_ble_eq_true rfl) rfl rfl ?_
                      refine m_aload_n dX11_rayLine_134 rfl ?_
                      refine gf_X11_23 rfl dX11_rayLine_135 ?_
                      refine m_bipush (v := 86) dX11_rayLine_138 (by decide) ?_
                      refine m_iconst (v := 4) dX11_rayLine_140 (by decide) ?_
                      refine m_iload_n dX11_rayLine_141 rfl ?_
                      refine m_imul dX11_rayLine_142 ?_
                      refine m_iadd dX11_rayLine_143 ?_
                      refine m_iload_n dX11_rayLine_144 rfl ?_
                      refine m_iadd dX11_rayLine_145 ?_
                      refine m_iload dX11_rayLine_146 rfl ?_
                      refine m_if_eq 157 dX11_rayLine_148 (by decide) (fun c239 => absurd c239 (by decide)) (fun c239 => ?_)
                      refine m_iload dX11_rayLine_151 rfl ?_
                      refine m_ineg dX11_rayLine_153 ?_
                      refine m_goto 159 dX11_rayLine_154 (by decide) ?_
                      obtain ⟨b240, q⟩ := q
                      refine m_iastore dX11_rayLine_159 rfl (by decide) b240 ?_
                      refine m_iinc (v := (l3 + 1)) (lv' := [.ref 11, .int l1, .int 0, .int (l3 + 1), .int 1, .int 0, .int r234]) dX11_rayLine_160 (Nat.le_of_ble_eq_true rfl) rfl (congrArg (fun z => l3 + z) (by decide : Int32.ofInt 1 = 1)) rfl rfl ?_
                      refine m_goto 20 dX11_rayLine_163 (by decide) ?_
                      refine m_dropK (lv' := [.ref 11, .int l1, .int 0, .int (l3 + 1), .retAddr 0, .retAddr 0, .retAddr 0]) [4, 5, 6] rfl ?_
                      exact q
                    · replace q := q.2 c238
                      refine m_iconst (v := 1) dX11_rayLine_128 (by decide) ?_
                      refine m_goto 133 dX11_rayLine_129 (by decide) ?_
                      refine m_istore_n (lv' := [.ref 11, .int l1, .int 1, .int l3, .int 1, .int 0, .int r234]) dX11_rayLine_133 (Nat.le_of_ble_eq_true rfl) rfl rfl ?_
                      refine m_aload_n dX11_rayLine_134 rfl ?_
                      refine gf_X11_23 rfl dX11_rayLine_135 ?_
                      refine m_bipush (v := 86) dX11_rayLine_138 (by decide) ?_
                      refine m_iconst (v := 4) dX11_rayLine_140 (by decide) ?_
                      refine m_iload_n dX11_rayLine_141 rfl ?_
                      refine m_imul dX11_rayLine_142 ?_
                      refine m_iadd dX11_rayLine_143 ?_
                      refine m_iload_n dX11_rayLine_144 rfl ?_
                      refine m_iadd dX11_rayLine_145 ?_
                      refine m_iload dX11_rayLine_146 rfl ?_
                      refine m_if_eq 157 dX11_rayLine_148 (by decide) (fun c241 => absurd c241 (by decide)) (fun c241 => ?_)
                      refine m_iload dX11_rayLine_151 rfl ?_
                      refine m_ineg dX11_rayLine_153 ?_
                      refine m_goto 159 dX11_rayLine_154 (by decide) ?_
                      obtain ⟨b242, q⟩ := q
                      refine m_iastore dX11_rayLine_159 rfl (by decide) b242 ?_
                      refine m_iinc (v := (l3 + 1)) (lv' := [.ref 11, .int l1, .int 1, .int (l3 + 1), .int 1, .int 0, .int r234]) dX11_rayLine_160 (Nat.le_of_ble_eq_true rfl) rfl (congrArg (fun z => l3 + z) (by decide : Int32.ofInt 1 = 1)) rfl rfl ?_
                      refine m_goto 20 dX11_rayLine_163 (by decide) ?_
                      refine m_dropK (lv' := [.ref 11, .int l1, .int 1, .int (l3 + 1), .retAddr 0, .retAddr 0, .retAddr 0]) [4, 5, 6] rfl ?_
                      exact q
                · replace q := q.2 c231
                  refine m_iconst (v := 1) dX11_rayLine_90 (by decide) ?_
                  refine m_goto 95 dX11_rayLine_91 (by decide) ?_
                  refine m_istore (lv' := [.ref 11, .int l1, .int l2, .int l3, .int 1, .int 1, .retAddr 0]) dX11_rayLine_95 (Nat.le_of_ble_eq_true rfl) rfl rfl ?_
                  refine m_iload dX11_rayLine_97 rfl ?_
                  refine m_if_eq 111 dX11_rayLine_99 (by decide) (fun c243 => absurd c243 (by decide)) (fun c243 => ?_)
                  refine m_aload_n dX11_rayLine_102 rfl ?_
                  refine m_iconst (v := 4) dX11_rayLine_103 (by decide) ?_
                  refine m_aload_n dX11_rayLine_104 rfl ?_
                  refine gf_X11_88 rfl dX11_rayLine_105 ?_
                  refine cl_X11_134 rfl (by decide) dX11_rayLine_108 (Nat.le_of_ble_eq_true rfl) (MCv_go q (fun h244 q => ?_))
                  refine m_aload_n dX11_rayLine_111 rfl ?_
                  refine m_iconst (v := 0) dX11_rayLine_112 (by decide) ?_
                  refine m_iconst (v := 3) dX11_rayLine_113 (by decide) ?_
                  refine cl_X11_227 rfl (by decide) dX11_rayLine_114 (Nat.le_of_ble_eq_true rfl) (MCi_go q (fun r246 h245 q => ?_))
                  refine m_istore (lv' := [.ref 11, .int l1, .int l2, .int l3, .int 1, .int 1, .int r246]) dX11_rayLine_117 (Nat.le_of_ble_eq_true rfl) rfl rfl ?_
                  refine m_iload_n dX11_rayLine_119 rfl ?_
                  refine m_if_ne 128 dX11_rayLine_120 (by decide) (fun c247 => ?_) (fun c247 => ?_)
                  · replace q := q.1 c247
                    refine m_iconst (v := 1) dX11_rayLine_128 (by decide) ?_
                    refine m_goto 133 dX11_rayLine_129 (by decide) ?_
                    refine m_istore_n (lv' := [.ref 11, .int l1, .int 1, .int l3, .int 1, .int 1, .int r246]) dX11_rayLine_133 (Nat.le_of_ble_eq_true rfl) rfl rfl ?_
                    refine m_aload_n dX11_rayLine_134 rfl ?_
                    refine gf_X11_23 rfl dX11_rayLine_135 ?_
                    refine m_bipush (v := 86) dX11_rayLine_138 (by decide) ?_
                    refine m_iconst (v := 4) dX11_rayLine_140 (by decide) ?_
                    refine m_iload_n dX11_rayLine_141 rfl ?_
                    refine m_imul dX11_rayLine_142 ?_
                    refine m_iadd dX11_rayLine_143 ?_
                    refine m_iload_n dX11_rayLine_144 rfl ?_
                    refine m_iadd dX11_rayLine_145 ?_
                    refine m_iload dX11_rayLine_146 rfl ?_
                    refine m_if_eq 157 dX11_rayLine_148 (by decide) (fun c248 => absurd c248 (by decide)) (fun c248 => ?_)
                    refine m_iload dX11_rayLine_151 rfl ?_
                    refine m_ineg dX11_rayLine_153 ?_
                    refine m_goto 159 dX11_rayLine_154 (by decide) ?_
                    obtain ⟨b249, q⟩ := q
                    refine m_iastore dX11_rayLine_159 rfl (by decide) b249 ?_
                    refine m_iinc (v := (l3 + 1)) (lv' := [.ref 11, .int l1, .int 1, .int (l3 + 1), .int 1, .int 1, .int r246]) dX11_rayLine_160 (Nat.le_of_ble_eq_true rfl) rfl (congrArg (fun z => l3 + z) (by decide : Int32.ofInt 1 = 1)) rfl rfl ?_
                    refine m_goto 20 dX11_rayLine_163 (by decide) ?_
                    refine m_dropK (lv' := [.ref 11, .int l1, .int 1, .int (l3 + 1), .retAddr 0, .retAddr 0, .retAddr 0]) [4, 5, 6] rfl ?_
                    exact q
                  · replace q := q.2 c247
                    refine m_iload dX11_rayLine_123 rfl ?_
                    refine m_if_le 132 dX11_rayLine_125 (by decide) (fun c250 => ?_) (fun c250 => ?_)
                    · replace q := q.1 c250
                      refine m_iconst (v := 0) dX11_rayLine_132 (by decide) ?_
                      refine m_istore_n (lv' := [.ref 11, .int l1, .int 0, .int l3, .int 1, .int 1, .int r246]) dX11_rayLine_133 (Nat.le_of_ble_eq_true rfl) rfl rfl ?_
                      refine m_aload_n dX11_rayLine_134 rfl ?_
                      refine gf_X11_23 rfl dX11_rayLine_135 ?_
                      refine m_bipush (v := 86) dX11_rayLine_138 (by decide) ?_
                      refine m_iconst (v := 4) dX11_rayLine_140 (by decide) ?_
                      refine m_iload_n dX11_rayLine_141 rfl ?_
                      refine m_imul dX11_rayLine_142 ?_
                      refine m_iadd dX11_rayLine_143 ?_
                      refine m_iload_n dX11_rayLine_144 rfl ?_
                      refine m_iadd dX11_rayLine_145 ?_
                      refine m_iload dX11_rayLine_146 rfl ?_
                      refine m_if_eq 157 dX11_rayLine_148 (by decide) (fun c251 => absurd c251 (by decide)) (fun c251 => ?_)
                      refine m_iload dX11_rayLine_151 rfl ?_
                      refine m_ineg dX11_rayLine_153 ?_
                      refine m_goto 159 dX11_rayLine_154 (by decide) ?_
                      obtain ⟨b252, q⟩ := q
                      refine m_iastore dX11_rayLine_159 rfl (by decide) b252 ?_
                      refine m_iinc (v := (l3 + 1)) (lv' := [.ref 11, .int l1, .int 0, .int (l3 + 1), .int 1, .int 1, .int r246]) dX11_rayLine_160 (Nat.le_of_ble_eq_true rfl) rfl (congrArg (fun z => l3 + z) (by decide : Int32.ofInt 1 = 1)) rfl rfl ?_
                      refine m_goto 20 dX11_rayLine_163 (by decide) ?_
                      refine m_dropK (lv' := [.ref 11, .int l1, .int 0, .int (l3 + 1), .retAddr 0, .retAddr 0, .retAddr 0]) [4, 5, 6] rfl ?_
                      exact q
                    · replace q := q.2 c250
                      refine m_iconst (v := 1) dX11_rayLine_128 (by decide) ?_
                      refine m_goto 133 dX11_rayLine_129 (by decide) ?_
                      refine m_istore_n (lv' := [.ref 11, .int l1, .int 1, .int l3, .int 1, .int 1, .int r246]) dX11_rayLine_133 (Nat.le_of_ble_eq_true rfl) rfl rfl ?_
                      refine m_aload_n dX11_rayLine_134 rfl ?_
                      refine gf_X11_23 rfl dX11_rayLine_135 ?_
                      refine m_bipush (v := 86) dX11_rayLine_138 (by decide) ?_
                      refine m_iconst (v := 4) dX11_rayLine_140 (by decide) ?_
                      refine m_iload_n dX11_rayLine_141 rfl ?_
                      refine m_imul dX11_rayLine_142 ?_
                      refine m_iadd dX11_rayLine_143 ?_
                      refine m_iload_n dX11_rayLine_144 rfl ?_
                      refine m_iadd dX11_rayLine_145 ?_
                      refine m_iload dX11_rayLine_146 rfl ?_
                      refine m_if_eq 157 dX11_rayLine_148 (by decide) (fun c253 => absurd c253 (by decide)) (fun c253 => ?_)
                      refine m_iload dX11_rayLine_151 rfl ?_
                      refine m_ineg dX11_rayLine_153 ?_
                      refine m_goto 159 dX11_rayLine_154 (by decide) ?_
                      obtain ⟨b254, q⟩ := q
                      refine m_iastore dX11_rayLine_159 rfl (by decide) b254 ?_
                      refine m_iinc (v := (l3 + 1)) (lv' := [.ref 11, .int l1, .int 1, .int (l3 + 1), .int 1, .int 1, .int r246]) dX11_rayLine_160 (Nat.le_of_ble_eq_true rfl) rfl (congrArg (fun z => l3 + z) (by decide : Int32.ofInt 1 = 1)) rfl rfl ?_
                      refine m_goto 20 dX11_rayLine_163 (by decide) ?_
                      refine m_dropK (lv' := [.ref 11, .int l1, .int 1, .int (l3 + 1), .retAddr 0, .retAddr 0, .retAddr 0]) [4, 5, 6] rfl ?_
                      exact q
      · replace q := q.2 c130
        exact m_vret dX11_rayLine_40 rfl q
