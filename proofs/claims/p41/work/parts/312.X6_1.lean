set_option maxRecDepth 100000 in
theorem e_X6_takeSign {g : gT} {h : mh_T} {P : mh_T → Prop}  (q : ((mI (wI h 1 8 0) 1 6) ≤ (mI (wI h 1 8 0) 1 7) → P (wI h 1 8 0)) ∧ (¬ (mI (wI h 1 8 0) 1 6) ≤ (mI (wI h 1 8 0) 1 7) → (vp_in (mI (wI h 1 8 0) 1 7) 900) ∧ (∀ x3 : Int32, x3 = (mI (wI h 1 8 0) 12 (mI (wI h 1 8 0) 1 7).toNatClampNeg) → (x3 = 59 → P (wI (wI (wI h 1 8 0) 1 8 x3) 1 7 ((mI (wI (wI h 1 8 0) 1 8 x3) 1 7) + 1))) ∧ (¬ x3 = 59 → (x3 = 44 → P (wI (wI (wI h 1 8 0) 1 8 x3) 1 7 ((mI (wI (wI h 1 8 0) 1 8 x3) 1 7) + 1))) ∧ (¬ x3 = 44 → (¬ x3 = 45 → P (wI (wI (wI h 1 8 0) 1 8 1) 1 7 ((mI (wI (wI h 1 8 0) 1 8 1) 1 7) + 1))) ∧ (x3 = 45 → P (wI (wI (wI h 1 8 0) 1 8 x3) 1 7 ((mI (wI (wI h 1 8 0) 1 8 x3) 1 7) + 1)))))))) : MCv g yX6_takeSign uX6_takeSign [.ref 1] h P := by
  refine m_enter (by decide) rfl (Nat.le_of_ble_eq_true rfl) (lv := [.ref 1, .retAddr 0]) rfl ?_
  refine m_aload_n dX6_takeSign_0 rfl ?_
  refine m_iconst (v := 0) dX6_takeSign_1 (by decide) ?_
  refine pf_X6_61 rfl dX6_takeSign_2 ?_
  refine m_aload_n dX6_takeSign_5 rfl ?_
  refine gf_X6_48 rfl dX6_takeSign_6 ?_
  refine m_aload_n dX6_takeSign_9 rfl ?_
  refine gf_X6_45 rfl dX6_takeSign_10 ?_
  refine m_icmp_ge 63 dX6_takeSign_13 (by decide) (fun c1 => ?_) (fun c1 => ?_)
  · replace q := q.1 c1
    exact m_vret dX6_takeSign_63 rfl q
  · replace q := q.2 c1
    refine m_aload_n dX6_takeSign_16 rfl ?_
    refine gf_X6_25 rfl dX6_takeSign_17 ?_
    refine m_aload_n dX6_takeSign_20 rfl ?_
    refine gf_X6_48 rfl dX6_takeSign_21 ?_
    obtain ⟨b2, q⟩ := q
    refine m_iaload dX6_takeSign_24 rfl (by decide) b2 ?_
    obtain ⟨x3, ex3⟩ : ∃ z, z = (mI (wI h 1 8 0) 12 (mI (wI h 1 8 0) 1 7).toNatClampNeg) := ⟨_, rfl⟩
    rw [← ex3]
    replace q := q x3 ex3
    refine m_istore_n (lv' := [.ref 1, .int x3]) dX6_takeSign_25 (Nat.le_of_ble_eq_true rfl) rfl rfl ?_
    refine m_aload_n dX6_takeSign_26 rfl ?_
    refine m_iload_n dX6_takeSign_27 rfl ?_
    refine m_bipush (v := 59) dX6_takeSign_28 (by decide) ?_
    refine m_icmp_eq 45 dX6_takeSign_30 (by decide) (fun c4 => ?_) (fun c4 => ?_)
    · replace q := q.1 c4
      refine m_iload_n dX6_takeSign_45 rfl ?_
      refine m_goto 50 dX6_takeSign_46 (by decide) ?_
      refine pf_X6_61 rfl dX6_takeSign_50 ?_
      refine m_aload_n dX6_takeSign_53 rfl ?_
      refine m_dup dX6_takeSign_54 rfl ?_
      refine gf_X6_48 rfl dX6_takeSign_55 ?_
      refine m_iconst (v := 1) dX6_takeSign_58 (by decide) ?_
      refine m_iadd dX6_takeSign_59 ?_
      refine pf_X6_48 rfl dX6_takeSign_60 ?_
      exact m_vret dX6_takeSign_63 rfl q
    · replace q := q.2 c4
      refine m_iload_n dX6_takeSign_33 rfl ?_
      refine m_bipush (v := 44) dX6_takeSign_34 (by decide) ?_
      refine m_icmp_eq 45 dX6_takeSign_36 (by decide) (fun c5 => ?_) (fun c5 => ?_)
      · replace q := q.1 c5
        refine m_iload_n dX6_takeSign_45 rfl ?_
        refine m_goto 50 dX6_takeSign_46 (by decide) ?_
        refine pf_X6_61 rfl dX6_takeSign_50 ?_
        refine m_aload_n dX6_takeSign_53 rfl ?_
        refine m_dup dX6_takeSign_54 rfl ?_
        refine gf_X6_48 rfl dX6_takeSign_55 ?_
        refine m_iconst (v := 1) dX6_takeSign_58 (by decide) ?_
        refine m_iadd dX6_takeSign_59 ?_
        refine pf_X6_48 rfl dX6_takeSign_60 ?_
        exact m_vret dX6_takeSign_63 rfl q
      · replace q := q.2 c5
        refine m_iload_n dX6_takeSign_39 rfl ?_
        refine m_bipush (v := 45) dX6_takeSign_40 (by decide) ?_
        refine m_icmp_ne 49 dX6_takeSign_42 (by decide) (fun c6 => ?_) (fun c6 => ?_)
        · replace q := q.1 c6
          refine m_iconst (v := 1) dX6_takeSign_49 (by decide) ?_
          refine pf_X6_61 rfl dX6_takeSign_50 ?_
          refine m_aload_n dX6_takeSign_53 rfl ?_
          refine m_dup dX6_takeSign_54 rfl ?_
          refine gf_X6_48 rfl dX6_takeSign_55 ?_
          refine m_iconst (v := 1) dX6_takeSign_58 (by decide) ?_
          refine m_iadd dX6_takeSign_59 ?_
          refine pf_X6_48 rfl dX6_takeSign_60 ?_
          exact m_vret dX6_takeSign_63 rfl q
        · replace q := q.2 c6
          refine m_iload_n dX6_takeSign_45 rfl ?_
          refine m_goto 50 dX6_takeSign_46 (by decide) ?_
          refine pf_X6_61 rfl dX6_takeSign_50 ?_
          refine m_aload_n dX6_takeSign_53 rfl ?_
          refine m_dup dX6_takeSign_54 rfl ?_
          refine gf_X6_48 rfl dX6_takeSign_55 ?_
          refine m_iconst (v := 1) dX6_takeSign_58 (by decide) ?_
          refine m_iadd dX6_takeSign_59 ?_
          refine pf_X6_48 rfl dX6_takeSign_60 ?_
          exact m_vret dX6_takeSign_63 rfl q
set_option maxRecDepth 100000 in
theorem e_X6_isLetter {g : gT} {h : mh_T} {P : Int32 → mh_T → Prop} (l0 : Int32) (q : (l0 < 97 → P 0 h) ∧ (¬ l0 < 97 → (122 < l0 → P 0 h) ∧ (¬ 122 < l0 → P 1 h))) : MCi g yX6_isLetter uX6_isLetter [.int l0] h P := by
  refine m_enter (by decide) rfl (Nat.le_of_ble_eq_true rfl) (lv := [.int l0]) rfl ?_
  refine m_iload_n dX6_isLetter_0 rfl ?_
  refine m_bipush (v := 97) dX6_isLetter_1 (by decide) ?_
  refine m_icmp_lt 16 dX6_isLetter_3 (by decide) (fun c1 => ?_) (fun c1 => ?_)
  · replace q := q.1 c1
    refine m_iconst (v := 0) dX6_isLetter_16 (by decide) ?_
    exact m_zret dX6_isLetter_17 rfl (by decide) q
  · replace q := q.2 c1
    refine m_iload_n dX6_isLetter_6 rfl ?_
    refine m_bipush (v := 122) dX6_isLetter_7 (by decide) ?_
    refine m_icmp_gt 16 dX6_isLetter_9 (by decide) (fun c2 => ?_) (fun c2 => ?_)
    · replace q := q.1 c2
      refine m_iconst (v := 0) dX6_isLetter_16 (by decide) ?_
      exact m_zret dX6_isLetter_17 rfl (by decide) q
    · replace q := q.2 c2
      refine m_iconst (v := 1) dX6_isLetter_12 (by decide) ?_
      refine m_goto 17 dX6_isLetter_13 (by decide) ?_
      exact m_zret dX6_isLetter_17 rfl (by decide) q
set_option maxRecDepth 100000 in
theorem e_X6_isDigit {g : gT} {h : mh_T} {P : Int32 → mh_T → Prop} (l0 : Int32) (q : (l0 < 48 → P 0 h) ∧ (¬ l0 < 48 → (57 < l0 → P 0 h) ∧ (¬ 57 < l0 → P 1 h))) : MCi g yX6_isDigit uX6_isDigit [.int l0] h P := by
  refine m_enter (by decide) rfl (Nat.le_of_ble_eq_true rfl) (lv := [.int l0]) rfl ?_
  refine m_iload_n dX6_isDigit_0 rfl ?_
  refine m_bipush (v := 48) dX6_isDigit_1 (by decide) ?_
  refine m_icmp_lt 16 dX6_isDigit_3 (by decide) (fun c1 => ?_) (fun c1 => ?_)
  · replace q := q.1 c1
    refine m_iconst (v := 0) dX6_isDigit_16 (by decide) ?_
    exact m_zret dX6_isDigit_17 rfl (by decide) q
  · replace q := q.2 c1
    refine m_iload_n dX6_isDigit_6 rfl ?_
    refine m_bipush (v := 57) dX6_isDigit_7 (by decide) ?_
    refine m_icmp_gt 16 dX6_isDigit_9 (by decide) (fun c2 => ?_) (fun c2 => ?_)
    · replace q := q.1 c2
      refine m_iconst (v := 0) dX6_isDigit_16 (by decide) ?_
      exact m_zret dX6_isDigit_17 rfl (by decide) q
    · replace q := q.2 c2
      refine m_iconst (v := 1) dX6_isDigit_12 (by decide) ?_
      refine m_goto 17 dX6_isDigit_13 (by decide) ?_
      exact m_zret dX6_isDigit_17 rfl (by decide) q
