set_option maxRecDepth 100000 in
theorem e_J3_checkIndex_8e157 {g : gT} {h : mh_T} {P : Int32 → mh_T → Prop} (l0 : Int32) (l1 : Int32) (q : (l0 < 0 → False) ∧ (¬ l0 < 0 → (l0 < l1 → P l0 h) ∧ (¬ l0 < l1 → False))) : MCi g yJ3_checkIndex_8e157 uJ3_checkIndex_8e157 [.int l0, .int l1, .retAddr 1] h P := by
  refine m_enter (by decide) rfl (Nat.le_of_ble_eq_true rfl) (lv := [.int l0, .int l1, .retAddr 1]) rfl ?_
  refine m_iload_n dJ3_checkIndex_8e157_0 rfl ?_
  refine m_if_lt 9 dJ3_checkIndex_8e157_1 (by decide) (fun c1 => ?_) (fun c1 => ?_)
  · replace q := q.1 c1
    exact q.elim
  · replace q := q.2 c1
    refine m_iload_n dJ3_checkIndex_8e157_4 rfl ?_
    refine m_iload_n dJ3_checkIndex_8e157_5 rfl ?_
    refine m_icmp_lt 16 dJ3_checkIndex_8e157_6 (by decide) (fun c2 => ?_) (fun c2 => ?_)
    · replace q := q.1 c2
      refine m_iload_n dJ3_checkIndex_8e157_16 rfl ?_
      exact m_iret dJ3_checkIndex_8e157_17 rfl q
    · replace q := q.2 c2
      exact q.elim
