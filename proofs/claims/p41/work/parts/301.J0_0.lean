set_option maxRecDepth 100000 in
theorem e_J0_length_8abf5 {g : gT} {h : mh_T} {P : Int32 → mh_T → Prop} (l0 : Nat) (sl0 : l0 < nJS) (q : MCi g yJ0_coder_7d493 uJ0_coder_7d493 [.ref (1000 + l0)] h (fun r2 h1 => P ((Int32.ofNat (lenJS.getD l0 0)) >>> (r2 &&& 31)) h1)) : MCi g yJ0_length_8abf5 uJ0_length_8abf5 [.ref (1000 + l0)] h P := by
  refine m_enter (by decide) rfl (Nat.le_of_ble_eq_true rfl) (lv := [.ref (1000 + l0)]) rfl ?_
  refine m_aload_n dJ0_length_8abf5_0 rfl ?_
  refine m_getValue dJ0_length_8abf5_1 sl0 tw_3 ?_
  refine m_alenS dJ0_length_8abf5_4 sl0 ?_
  refine m_aload_n dJ0_length_8abf5_5 rfl ?_
  refine cl_J0_335 rfl (by decide) sl0 dJ0_length_8abf5_6 (Nat.le_of_ble_eq_true rfl) (MCi_go q (fun r2 h1 q => ?_))
  refine m_ishr dJ0_length_8abf5_9 ?_
  exact m_iret dJ0_length_8abf5_10 rfl q
set_option maxRecDepth 100000 in
theorem e_J0_charAt_5068e {g : gT} {h : mh_T} {P : Int32 → mh_T → Prop} (l0 : Nat) (l1 : Int32) (sl0 : l0 < nJS) (q : MCi g yJ0_isLatin1_aae02 uJ0_isLatin1_aae02 [.ref (1000 + l0)] h (fun r2 h1 => (r2 = 0 → False) ∧ (¬ r2 = 0 → MCi g yJ1_charAt_3b067 uJ1_charAt_3b067 [.ref (2000 + l0), .int l1] h1 (fun r5 h4 => narrow .char (.int r5) = .int r5 ∧ P r5 h4)))) : MCi g yJ0_charAt_5068e uJ0_charAt_5068e [.ref (1000 + l0), .int l1] h P := by
  refine m_enter (by decide) rfl (Nat.le_of_ble_eq_true rfl) (lv := [.ref (1000 + l0), .int l1]) rfl ?_
  refine m_aload_n dJ0_charAt_5068e_0 rfl ?_
  refine cl_J0_492 rfl (by decide) sl0 dJ0_charAt_5068e_1 (Nat.le_of_ble_eq_true rfl) (MCi_go q (fun r2 h1 q => ?_))
  refine m_if_eq 16 dJ0_charAt_5068e_4 (by decide) (fun c3 => ?_) (fun c3 => ?_)
  · replace q := q.1 c3
    exact q.elim
  · replace q := q.2 c3
    refine m_aload_n dJ0_charAt_5068e_7 rfl ?_
    refine m_getValue dJ0_charAt_5068e_8 sl0 tw_3 ?_
    refine m_iload_n dJ0_charAt_5068e_11 rfl ?_
    refine cl_J0_495 rfl (by decide) dJ0_charAt_5068e_12 (Nat.le_of_ble_eq_true rfl) (MCi_go q (fun r5 h4 q => ?_))
    exact m_cret dJ0_charAt_5068e_15 rfl q.1 q.2
set_option maxRecDepth 100000 in
theorem e_J0_coder_7d493 {g : gT} {h : mh_T} {P : Int32 → mh_T → Prop} (l0 : Nat) (sl0 : l0 < nJS) (q : narrow .byte (.int 0) = .int 0 ∧ P 0 h) : MCi g yJ0_coder_7d493 uJ0_coder_7d493 [.ref (1000 + l0)] h P := by
  refine m_enter (by decide) rfl (Nat.le_of_ble_eq_true rfl) (lv := [.ref (1000 + l0)]) rfl ?_
  refine m_getsC dJ0_coder_7d493_0 tw_17 ?_
  refine m_if_eq 13 dJ0_coder_7d493_3 (by decide) (fun c1 => absurd c1 (by decide)) (fun c1 => ?_)
  refine m_aload_n dJ0_coder_7d493_6 rfl ?_
  refine m_getCoder dJ0_coder_7d493_7 sl0 tw_18 ?_
  refine m_goto 14 dJ0_coder_7d493_10 (by decide) ?_
  exact m_cret dJ0_coder_7d493_14 rfl q.1 q.2
set_option maxRecDepth 100000 in
theorem e_J0_isLatin1_aae02 {g : gT} {h : mh_T} {P : Int32 → mh_T → Prop} (l0 : Nat) (sl0 : l0 < nJS) (q : P 1 h) : MCi g yJ0_isLatin1_aae02 uJ0_isLatin1_aae02 [.ref (1000 + l0)] h P := by
  refine m_enter (by decide) rfl (Nat.le_of_ble_eq_true rfl) (lv := [.ref (1000 + l0)]) rfl ?_
  refine m_getsC dJ0_isLatin1_aae02_0 tw_17 ?_
  refine m_if_eq 17 dJ0_isLatin1_aae02_3 (by decide) (fun c1 => absurd c1 (by decide)) (fun c1 => ?_)
  refine m_aload_n dJ0_isLatin1_aae02_6 rfl ?_
  refine m_getCoder dJ0_isLatin1_aae02_7 sl0 tw_18 ?_
  refine m_if_ne 17 dJ0_isLatin1_aae02_10 (by decide) (fun c2 => absurd c2 (by decide)) (fun c2 => ?_)
  refine m_iconst (v := 1) dJ0_isLatin1_aae02_13 (by decide) ?_
  refine m_goto 18 dJ0_isLatin1_aae02_14 (by decide) ?_
  exact m_zret dJ0_isLatin1_aae02_18 rfl (by decide) q
set_option maxRecDepth 100000 in
theorem e_J0_checkIndex_df160 {g : gT} {h : mh_T} {P : mh_T → Prop} (l0 : Int32) (l1 : Int32) (q : MCi g yJ3_checkIndex_8e157 uJ3_checkIndex_8e157 [.int l0, .int l1, .retAddr 1] h (fun r2 h1 => P h1)) : MCv g yJ0_checkIndex_df160 uJ0_checkIndex_df160 [.int l0, .int l1] h P := by
  refine m_enter (by decide) rfl (Nat.le_of_ble_eq_true rfl) (lv := [.int l0, .int l1]) rfl ?_
  refine m_iload_n dJ0_checkIndex_df160_0 rfl ?_
  refine m_iload_n dJ0_checkIndex_df160_1 rfl ?_
  refine m_getsF dJ0_checkIndex_df160_2 tw_19 ?_
  refine cl_J0_1059 rfl (by decide) dJ0_checkIndex_df160_5 (Nat.le_of_ble_eq_true rfl) (MCi_go q (fun r2 h1 q => ?_))
  refine m_pop dJ0_checkIndex_df160_8 rfl ?_
  exact m_vret dJ0_checkIndex_df160_9 rfl q
