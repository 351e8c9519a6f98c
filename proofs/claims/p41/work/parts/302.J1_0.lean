set_option maxRecDepth 100000 in
theorem e_J1_charAt_3b067 {g : gT} {h : mh_T} {P : Int32 → mh_T → Prop} (l0 : Nat) (l1 : Int32) (sl0 : l0 < nJS) (q : MCv g yJ0_checkIndex_df160 uJ0_checkIndex_df160 [.int l1, .int (Int32.ofNat (lenJS.getD l0 0))] h (fun h1 => (vp_in l1 (lenJS.getD l0 0)) ∧ (narrow .char (.int ((Int32.toUInt32 (((bytJS.getD l0 []).getD l1.toNatClampNeg 0) &&& 255) % 65536).toInt32)) = .int ((Int32.toUInt32 (((bytJS.getD l0 []).getD l1.toNatClampNeg 0) &&& 255) % 65536).toInt32) ∧ P ((Int32.toUInt32 (((bytJS.getD l0 []).getD l1.toNatClampNeg 0) &&& 255) % 65536).toInt32) h1))) : MCi g yJ1_charAt_3b067 uJ1_charAt_3b067 [.ref (2000 + l0), .int l1] h P := by
  refine m_enter (by decide) rfl (Nat.le_of_ble_eq_true rfl) (lv := [.ref (2000 + l0), .int l1]) rfl ?_
  refine m_iload_n dJ1_charAt_3b067_0 rfl ?_
  refine m_aload_n dJ1_charAt_3b067_1 rfl ?_
  refine m_alenS dJ1_charAt_3b067_2 sl0 ?_
  refine cl_J1_9 rfl (by decide) dJ1_charAt_3b067_3 (Nat.le_of_ble_eq_true rfl) (MCv_go q (fun h1 q => ?_))
  refine m_aload_n dJ1_charAt_3b067_6 rfl ?_
  refine m_iload_n dJ1_charAt_3b067_7 rfl ?_
  obtain ⟨b2, q⟩ := q
  refine m_baldS dJ1_charAt_3b067_8 sl0 b2 ?_
  refine m_sipush (v := 255) dJ1_charAt_3b067_9 (by decide) ?_
  refine m_iand dJ1_charAt_3b067_12 ?_
  refine m_i2c dJ1_charAt_3b067_13 ?_
  exact m_cret dJ1_charAt_3b067_14 rfl q.1 q.2
