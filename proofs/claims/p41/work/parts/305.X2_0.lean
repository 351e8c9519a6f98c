set_option maxRecDepth 100000 in
theorem e_X2_set {g : gT} {h : mh_T} {P : mh_T → Prop} (l1 : Int64) (l3 : Int64) (q : MCl g yX2_commonPart uX2_commonPart [.long l1, .long l3] h (fun r2 h1 => (¬ (lg_cmp r2 0) = 0 → (¬ r2 = 0) ∧ ((¬ (lg_cmp r2 0) = 0 → (¬ r2 = 0) ∧ (P (wL (wL h1 5 0 (l1 / r2)) 5 1 (l3 / r2)))) ∧ ((lg_cmp r2 0) = 0 → P (wL (wL h1 5 0 (l1 / r2)) 5 1 l3)))) ∧ ((lg_cmp r2 0) = 0 → (¬ (lg_cmp r2 0) = 0 → (¬ r2 = 0) ∧ (P (wL (wL h1 5 0 l1) 5 1 (l3 / r2)))) ∧ ((lg_cmp r2 0) = 0 → P (wL (wL h1 5 0 l1) 5 1 l3))))) : MCv g yX2_set uX2_set [.ref 5, .long l1, .long l3] h P := by
  refine m_enter (by decide) rfl (Nat.le_of_ble_eq_true rfl) (lv := [.ref 5, .long l1, .retAddr 0, .long l3, .retAddr 0, .retAddr 0, .retAddr 0]) rfl ?_
  refine m_lload_n dX2_set_0 rfl ?_
  refine m_lload_n dX2_set_1 rfl ?_
  refine cl_X2_13 rfl (by decide) dX2_set_2 (Nat.le_of_ble_eq_true rfl) (MCl_go q (fun r2 h1 q => ?_))
  refine m_lstore (lv' := [.ref 5, .long l1, .retAddr 0, .long l3, .retAddr 0, .long r2, .retAddr 0]) dX2_set_5 (Nat.le_of_ble_eq_true rfl) rfl rfl ?_
  refine m_aload_n dX2_set_7 rfl ?_
  refine m_lload dX2_set_8 rfl ?_
  refine m_lconst (v := 0) dX2_set_10 (by decide) ?_
  refine m_lcmp dX2_set_11 ?_
  refine m_if_ne 19 dX2_set_12 (by decide) (fun c3 => ?_) (fun c3 => ?_)
  · replace q := q.1 c3
    refine m_lload_n dX2_set_19 rfl ?_
    refine m_lload dX2_set_20 rfl ?_
    obtain ⟨b4, q⟩ := q
    refine m_ldiv dX2_set_22 b4 ?_
    refine pf_X2_17 rfl dX2_set_23 ?_
    refine m_aload_n dX2_set_26 rfl ?_
    refine m_lload dX2_set_27 rfl ?_
    refine m_lconst (v := 0) dX2_set_29 (by decide) ?_
    refine m_lcmp dX2_set_30 ?_
    refine m_if_ne 38 dX2_set_31 (by decide) (fun c5 => ?_) (fun c5 => ?_)
    · replace q := q.1 c5
      refine m_lload_n dX2_set_38 rfl ?_
      refine m_lload dX2_set_39 rfl ?_
      obtain ⟨b6, q⟩ := q
      refine m_ldiv dX2_set_41 b6 ?_
      refine pf_X2_7 rfl dX2_set_42 ?_
      exact m_vret dX2_set_45 rfl q
    · replace q := q.2 c5
      refine m_lload_n dX2_set_34 rfl ?_
      refine m_goto 42 dX2_set_35 (by decide) ?_
      refine pf_X2_7 rfl dX2_set_42 ?_
      exact m_vret dX2_set_45 rfl q
  · replace q := q.2 c3
    refine m_lload_n dX2_set_15 rfl ?_
    refine m_goto 23 dX2_set_16 (by decide) ?_
    refine pf_X2_17 rfl dX2_set_23 ?_
    refine m_aload_n dX2_set_26 rfl ?_
    refine m_lload dX2_set_27 rfl ?_
    refine m_lconst (v := 0) dX2_set_29 (by decide) ?_
    refine m_lcmp dX2_set_30 ?_
    refine m_if_ne 38 dX2_set_31 (by decide) (fun c7 => ?_) (fun c7 => ?_)
    · replace q := q.1 c7
      refine m_lload_n dX2_set_38 rfl ?_
      refine m_lload dX2_set_39 rfl ?_
      obtain ⟨b8, q⟩ := q
      refine m_ldiv dX2_set_41 b8 ?_
      refine pf_X2_7 rfl dX2_set_42 ?_
      exact m_vret dX2_set_45 rfl q
    · replace q := q.2 c7
      refine m_lload_n dX2_set_34 rfl ?_
      refine m_goto 42 dX2_set_35 (by decide) ?_
      refine pf_X2_7 rfl dX2_set_42 ?_
      exact m_vret dX2_set_45 rfl q
set_option maxRecDepth 100000 in
theorem e_X2_part {g : gT} {h : mh_T} {P : Int32 → mh_T → Prop} (l1 : Int32) (q : (l1 = 0 → P (Int64.toInt32 (mL h 5 0)) h) ∧ (¬ l1 = 0 → P (Int64.toInt32 (mL h 5 1)) h)) : MCi g yX2_part uX2_part [.ref 5, .int l1] h P := by
  refine m_enter (by decide) rfl (Nat.le_of_ble_eq_true rfl) (lv := [.ref 5, .int l1]) rfl ?_
  refine m_iload_n dX2_part_0 rfl ?_
  refine m_if_eq 11 dX2_part_1 (by decide) (fun c1 => ?_) (fun c1 => ?_)
  · replace q := q.1 c1
    refine m_aload_n dX2_part_11 rfl ?_
    refine gf_X2_17 rfl dX2_part_12 ?_
    refine m_l2i dX2_part_15 ?_
    exact m_iret dX2_part_16 rfl q
  · replace q := q.2 c1
    refine m_aload_n dX2_part_4 rfl ?_
    refine gf_X2_7 rfl dX2_part_5 ?_
    refine m_goto 15 dX2_part_8 (by decide) ?_
    refine m_l2i dX2_part_15 ?_
    exact m_iret dX2_part_16 rfl q
set_option maxRecDepth 100000 in
theorem e_X2_commonPart {g : gT} {h : mh_T} {P : Int64 → mh_T → Prop} (l0 : Int64) (l2 : Int64) (q : ME g uX2_commonPart 9 [.long l0, .retAddr 0, .long l2, .retAddr 0, .long l0, .retAddr 0, .long l2, .retAddr 0, .int 0, .retAddr 0, .retAddr 0] [] h (qL P)) : MCl g yX2_commonPart uX2_commonPart [.long l0, .long l2] h P := by
  refine m_enter (by decide) rfl (Nat.le_of_ble_eq_true rfl) (lv := [.long l0, .retAddr 0, .long l2, .retAddr 0, .retAddr 0, .retAddr 0, .retAddr 0, .retAddr 0, .retAddr 0, .retAddr 0, .retAddr 0]) rfl ?_
  refine m_lload_n dX2_commonPart_0 rfl ?_
  refine m_lstore (lv' := [.long l0, .retAddr 0, .long l2, .retAddr 0, .long l0, .retAddr 0, .retAddr 0, .retAddr 0, .retAddr 0, .retAddr 0, .retAddr 0]) dX2_commonPart_1 (Nat.le_of_ble_eq_true rfl) rfl rfl ?_
  refine m_lload_n dX2_commonPart_3 rfl ?_
  refine m_lstore (lv' := [.long l0, .retAddr 0, .long l2, .retAddr 0, .long l0, .retAddr 0, .long l2, .retAddr 0, .retAddr 0, .retAddr 0, .retAddr 0]) dX2_commonPart_4 (Nat.le_of_ble_eq_true rfl) rfl rfl ?_
  refine m_iconst (v := 0) dX2_commonPart_6 (by decide) ?_
  refine m_istore (lv' := [.long l0, .retAddr 0, .long l2, .retAddr 0, .long l0, .retAddr 0, .long l2, .retAddr 0, .int 0, .retAddr 0, .retAddr 0]) dX2_commonPart_7 (Nat.le_of_ble_eq_true rfl) rfl rfl ?_
  exact q
set_option maxRecDepth 100000 in
theorem r_X2_commonPart_9 {g : gT} {h : mh_T} {P : Int64 → mh_T → Prop} (l0 : Int64) (l2 : Int64) (l4 : Int64) (l6 : Int64) (l8 : Int32) (q : (128 ≤ l8 → P l4 h) ∧ (¬ 128 ≤ l8 → ((lg_cmp l6 0) = 0 → P l4 h) ∧ (¬ (lg_cmp l6 0) = 0 → (¬ l6 = 0) ∧ (∀ x4 : Int64, x4 = (l4 - l4 / l6 * l6) → ME g uX2_commonPart 9 [.long l0, .retAddr 0, .long l2, .retAddr 0, .long l6, .retAddr 0, .long x4, .retAddr 0, .int (l8 + 1), .retAddr 0, .retAddr 0] [] h (qL P))))) : ME g uX2_commonPart 9 [.long l0, .retAddr 0, .long l2, .retAddr 0, .long l4, .retAddr 0, .long l6, .retAddr 0, .int l8, .retAddr 0, .retAddr 0] [] h (qL P) := by
  refine m_iload dX2_commonPart_9 rfl ?_
  refine m_sipush (v := 128) dX2_commonPart_11 (by decide) ?_
  refine m_icmp_ge 45 dX2_commonPart_14 (by decide) (fun c1 => ?_) (fun c1 => ?_)
  · replace q := q.1 c1
    refine m_lload dX2_commonPart_45 rfl ?_
    exact m_lret dX2_commonPart_47 rfl q
  · replace q := q.2 c1
    refine m_lload dX2_commonPart_17 rfl ?_
    refine m_lconst (v := 0) dX2_commonPart_19 (by decide) ?_
    refine m_lcmp dX2_commonPart_20 ?_
    refine m_if_eq 45 dX2_commonPart_21 (by decide) (fun c2 => ?_) (fun c2 => ?_)
    · replace q := q.1 c2
      refine m_lload dX2_commonPart_45 rfl ?_
      exact m_lret dX2_commonPart_47 rfl q
    · replace q := q.2 c2
      refine m_lload dX2_commonPart_24 rfl ?_
      refine m_lload dX2_commonPart_26 rfl ?_
      obtain ⟨b3, q⟩ := q
      refine m_lrem dX2_commonPart_28 b3 ?_
      obtain ⟨x4, ex4⟩ : ∃ z, z = (l4 - l4 / l6 * l6) := ⟨_, rfl⟩
      rw [← ex4]
      replace q := q x4 ex4
      refine m_lstore (lv' := [.long l0, .retAddr 0, .long l2, .retAddr 0, .long l4, .retAddr 0, .long l6, .retAddr 0, .int l8, .long x4, .retAddr 0]) dX2_commonPart_29 (Nat.le_of_ble_eq_true rfl) rfl rfl ?_
      refine m_lload dX2_commonPart_31 rfl ?_
      refine m_lstore (lv' := [.long l0, .retAddr 0, .long l2, .retAddr 0, .long l6, .retAddr 0, .long l6, .retAddr 0, .int l8, .long x4, .retAddr 0]) dX2_commonPart_33 (Nat.le_of_ble_eq_true rfl) rfl rfl ?_
      refine m_lload dX2_commonPart_35 rfl ?_
      refine m_lstore (lv' := [.long l0, .retAddr 0, .long l2, .retAddr 0, .long l6, .retAddr 0, .long x4, .retAddr 0, .int l8, .long x4, .retAddr 0]) dX2_commonPart_37 (Nat.le_of_ble_eq_true rfl) rfl rfl ?_
      refine m_iinc (v := (l8 + 1)) (lv' := [.long l0, .retAddr 0, .long l2, .retAddr 0, .long l6, .retAddr 0, .long x4, .retAddr 0, .int (l8 + 1), .long x4, .retAddr 0]) dX2_commonPart_39 (Nat.le_of_ble_eq_true rfl) rfl (congrArg (fun z => l8 + z) (by decide : Int32.ofInt 1 = 1)) rfl rfl ?_
      refine m_goto 9 dX2_commonPart_42 (by decide) ?_
      refine m_dropK (lv' := [.long l0, .retAddr 0, .long l2, .retAddr 0, .long l6, .retAddr 0, .long x4, .retAddr 0, .int (l8 + 1), .retAddr 0, .retAddr 0]) [9] rfl ?_
      exact q
