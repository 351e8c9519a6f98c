set_option maxRecDepth 100000 in
theorem e_X11_noCoins {g : gT} {h : mh_T} {P : mh_T → Prop}  (q : ME g uX11_noCoins 2 [.ref 11, .int 0] [] h (qV P)) : MCv g yX11_noCoins uX11_noCoins [.ref 11] h P := by
  refine m_enter (by decide) rfl (Nat.le_of_ble_eq_true rfl) (lv := [.ref 11, .retAddr 0]) rfl ?_
  refine m_iconst (v := 0) dX11_noCoins_0 (by decide) ?_
  refine m_istore_n (lv' := [.ref 11, .int 0]) dX11_noCoins_1 (Nat.le_of_ble_eq_true rfl) rfl rfl ?_
  exact q
set_option maxRecDepth 100000 in
theorem r_X11_noCoins_2 {g : gT} {h : mh_T} {P : mh_T → Prop} (l1 : Int32) (q : (32 ≤ l1 → P h) ∧ (¬ 32 ≤ l1 → (vp_in l1 32) ∧ (ME g uX11_noCoins 2 [.ref 11, .int (l1 + 1)] [] (wI h 47 l1.toNatClampNeg 0) (qV P)))) : ME g uX11_noCoins 2 [.ref 11, .int l1] [] h (qV P) := by
  refine m_iload_n dX11_noCoins_2 rfl ?_
  refine m_bipush (v := 32) dX11_noCoins_3 (by decide) ?_
  refine m_icmp_ge 21 dX11_noCoins_5 (by decide) (fun c1 => ?_) (fun c1 => ?_)
  · replace q := q.1 c1
    exact m_vret dX11_noCoins_21 rfl q
  · replace q := q.2 c1
    refine m_aload_n dX11_noCoins_8 rfl ?_
    refine gf_X11_26 rfl dX11_noCoins_9 ?_
    refine m_iload_n dX11_noCoins_12 rfl ?_
    refine m_iconst (v := 0) dX11_noCoins_13 (by decide) ?_
    obtain ⟨b2, q⟩ := q
    refine m_iastore dX11_noCoins_14 rfl (by decide) b2 ?_
    refine m_iinc (v := (l1 + 1)) (lv' := [.ref 11, .int (l1 + 1)]) dX11_noCoins_15 (Nat.le_of_ble_eq_true rfl) rfl (congrArg (fun z => l1 + z) (by decide : Int32.ofInt 1 = 1)) rfl rfl ?_
    refine m_goto 2 dX11_noCoins_18 (by decide) ?_
    exact q
set_option maxRecDepth 100000 in
theorem e_X11_begins {g : gT} {h : mh_T} {P : Int32 → mh_T → Prop} (l1 : Nat) (l2 : Int32) (l3 : Int32) (sl1 : l1 < nJS) (q : MCi g yX11_isWord uX11_isWord [.ref 11, .ref (1000 + l1)] h (fun r2 h1 => (¬ r2 = 0 → (¬ l2 = 0 → (¬ (mI h1 11 13) = 0 → P 1 h1) ∧ ((mI h1 11 13) = 0 → MCv g yX11_next uX11_next [.ref 11] h1 (fun h6 => P 1 h6))) ∧ (l2 = 0 → MCv g yX11_wrong uX11_wrong [.ref 11, .int l3, .int (mI h1 11 4)] h1 (fun h7 => (¬ (mI h7 11 13) = 0 → P 1 h7) ∧ ((mI h7 11 13) = 0 → MCv g yX11_next uX11_next [.ref 11] h7 (fun h9 => P 1 h9))))) ∧ (r2 = 0 → P 0 h1))) : MCi g yX11_begins uX11_begins [.ref 11, .ref (1000 + l1), .int l2, .int l3] h P := by
  refine m_enter (by decide) rfl (Nat.le_of_ble_eq_true rfl) (lv := [.ref 11, .ref (1000 + l1), .int l2, .int l3]) rfl ?_
  refine m_aload_n dX11_begins_0 rfl ?_
  refine m_aload_n dX11_begins_1 rfl ?_
  refine cl_X11_124 rfl (by decide) dX11_begins_2 (Nat.le_of_ble_eq_true rfl) (MCi_go q (fun r2 h1 q => ?_))
  refine m_if_ne 10 dX11_begins_5 (by decide) (fun c3 => ?_) (fun c3 => ?_)
  · replace q := q.1 c3
    refine m_iload_n dX11_begins_10 rfl ?_
    refine m_if_ne 23 dX11_begins_11 (by decide) (fun c4 => ?_) (fun c4 => ?_)
    · replace q := q.1 c4
      refine m_aload_n dX11_begins_23 rfl ?_
      refine gf_X11_107 rfl dX11_begins_24 ?_
      refine m_if_ne 34 dX11_begins_27 (by decide) (fun c5 => ?_) (fun c5 => ?_)
      · replace q := q.1 c5
        refine m_iconst (v := 1) dX11_begins_34 (by decide) ?_
        exact m_zret dX11_begins_35 rfl (by decide) q
      · replace q := q.2 c5
        refine m_aload_n dX11_begins_30 rfl ?_
        refine cl_X11_128 rfl (by decide) dX11_begins_31 (Nat.le_of_ble_eq_true rfl) (MCv_go q (fun h6 q => ?_))
        refine m_iconst (v := 1) dX11_begins_34 (by decide) ?_
        exact m_zret dX11_begins_35 rfl (by decide) q
    · replace q := q.2 c4
      refine m_aload_n dX11_begins_14 rfl ?_
      refine m_iload_n dX11_begins_15 rfl ?_
      refine m_aload_n dX11_begins_16 rfl ?_
      refine gf_X11_88 rfl dX11_begins_17 ?_
      refine cl_X11_134 rfl (by decide) dX11_begins_20 (Nat.le_of_ble_eq_true rfl) (MCv_go q (fun h7 q => ?_))
      refine m_aload_n dX11_begins_23 rfl ?_
      refine gf_X11_107 rfl dX11_begins_24 ?_
      refine m_if_ne 34 dX11_begins_27 (by decide) (fun c8 => ?_) (fun c8 => ?_)
      · replace q := q.1 c8
        refine m_iconst (v := 1) dX11_begins_34 (by decide) ?_
        exact m_zret dX11_begins_35 rfl (by decide) q
      · replace q := q.2 c8
        refine m_aload_n dX11_begins_30 rfl ?_
        refine cl_X11_128 rfl (by decide) dX11_begins_31 (Nat.le_of_ble_eq_true rfl) (MCv_go q (fun h9 q => ?_))
        refine m_iconst (v := 1) dX11_begins_34 (by decide) ?_
        exact m_zret dX11_begins_35 rfl (by decide) q
  · replace q := q.2 c3
    refine m_iconst (v := 0) dX11_begins_8 (by decide) ?_
    exact m_zret dX11_begins_9 rfl (by decide) q
set_option maxRecDepth 100000 in
theorem e_X11_readLine {g : gT} {h : mh_T} {P : mh_T → Prop}  (q : (¬ (mI h 46 (Int32.toNatClampNeg 49)) = 0 → MCi g yX11_begins uX11_begins [.ref 11, .ref (1000 + 0), .int 0, .int 3] h (fun r3 h2 => (r3 = 0 → MCi g yX11_begins uX11_begins [.ref 11, .ref (1000 + 1), .int 1, .int 1] h2 (fun r6 h5 => (r6 = 0 → MCi g yX11_begins uX11_begins [.ref 11, .ref (1000 + 2), .int 1, .int 1] h5 (fun r9 h8 => (r9 = 0 → MCi g yX11_isWord uX11_isWord [.ref 11, .ref (1000 + 3)] h8 (fun r12 h11 => (r12 = 0 → (8 ≤ (mI h11 46 (Int32.toNatClampNeg 52)) → MCi g yX11_begins uX11_begins [.ref 11, .ref (1000 + 4), .int 0, .int 5] h11 (fun r16 h15 => (r16 = 0 → (18 ≤ (mI h15 46 (Int32.toNatClampNeg 85)) → MCi g yX11_begins uX11_begins [.ref 11, .ref (1000 + 5), .int 0, .int 5] h15 (fun r20 h19 => (r20 = 0 → (4 ≤ (mI h19 46 (Int32.toNatClampNeg 158)) → MCi g yX11_begins uX11_begins [.ref 11, .ref (1000 + 6), .int 0, .int 5] h19 (fun r24 h23 => (r24 = 0 → MCv g yX11_wrong uX11_wrong [.ref 11, .int 1, .int (mI h23 11 4)] h23 (fun h26 => P h26)) ∧ (¬ r24 = 0 → MCv g yX11_runLine uX11_runLine [.ref 11] h23 (fun h27 => P h27)))) ∧ (¬ 4 ≤ (mI h19 46 (Int32.toNatClampNeg 158)) → MCi g yX11_begins uX11_begins [.ref 11, .ref (1000 + 6), .int 1, .int 5] h19 (fun r29 h28 => (r29 = 0 → MCv g yX11_wrong uX11_wrong [.ref 11, .int 1, .int (mI h28 11 4)] h28 (fun h31 => P h31)) ∧ (¬ r29 = 0 → MCv g yX11_runLine uX11_runLine [.ref 11] h28 (fun h32 => P h32))))) ∧ (¬ r20 = 0 → MCv g yX11_rayLine uX11_rayLine [.ref 11] h19 (fun h33 => P h33)))) ∧ (¬ 18 ≤ (mI h15 46 (Int32.toNatClampNeg 85)) → MCi g yX11_begins uX11_begins [.ref 11, .ref (1000 + 5), .int 1, .int 5] h15 (fun r35 h34 => (r35 = 0 → (4 ≤ (mI h34 46 (Int32.toNatClampNeg 158)) → MCi g yX11_begins uX11_begins [.ref 11, .ref (1000 + 6), .int 0, .int 5] h34 (fun r39 h38 => (r39 = 0 → MCv g yX11_wrong uX11_wrong [.ref 11, .int 1, .int (mI h38 11 4)] h38 (fun h41 => P h41)) ∧ (¬ r39 = 0 → MCv g yX11_runLine uX11_runLine [.ref 11] h38 (fun h42 => P h42)))) ∧ (¬ 4 ≤ (mI h34 46 (Int32.toNatClampNeg 158)) → MCi g yX11_begins uX11_begins [.ref 11, .ref (1000 + 6), .int 1, .int 5] h34 (fun r44 h43 => (r44 = 0 → MCv g yX11_wrong uX11_wrong [.ref 11, .int 1, .int (mI h43 11 4)] h43 (fun h46 => P h46)) ∧ (¬ r44 = 0 → MCv g yX11_runLine uX11_runLine [.ref 11] h43 (fun h47 => P h47))))) ∧ (¬ r35 = 0 → MCv g yX11_rayLine uX11_rayLine [.ref 11] h34 (fun h48 => P h48))))) ∧ (¬ r16 = 0 → MCv g yX11_lineLine uX11_lineLine [.ref 11] h15 (fun h49 => P h49)))) ∧ (¬ 8 ≤ (mI h11 46 (Int32.toNatClampNeg 52)) → MCi g yX11_begins uX11_begins [.ref 11, .ref (1000 + 4), .int 1, .int 5] h11 (fun r51 h50 => (r51 = 0 → (18 ≤ (mI h50 46 (Int32.toNatClampNeg 85)) → MCi g yX11_begins uX11_begins [.ref 11, .ref (1000 + 5), .int 0, .int 5] h50 (fun r55 h54 => (r55 = 0 → (4 ≤ (mI h54 46 (Int32.toNatClampNeg 158)) → MCi g yX11_begins uX11_begins [.ref 11, .ref (1000 + 6), .int 0, .int 5] h54 (fun r59 h58 => (r59 = 0 → MCv g yX11_wrong uX11_wrong [.ref 11, .int 1, .int (mI h58 11 4)] h58 (fun h61 => P h61)) ∧ (¬ r59 = 0 → MCv g yX11_runLine uX11_runLine [.ref 11] h58 (fun h62 => P h62)))) ∧ (¬ 4 ≤ (mI h54 46 (Int32.toNatClampNeg 158)) → MCi g yX11_begins uX11_begins [.ref 11, .ref (1000 + 6), .int 1, .int 5] h54 (fun r64 h63 => (r64 = 0 → MCv g yX11_wrong uX11_wrong [.ref 11, .int 1, .int (mI h63 11 4)] h63 (fun h66 => P h66)) ∧ (¬ r64 = 0 → MCv g yX11_runLine uX11_runLine [.ref 11] h63 (fun h67 => P h67))))) ∧ (¬ r55 = 0 → MCv g yX11_rayLine uX11_rayLine [.ref 11] h54 (fun h68 => P h68)))) ∧ (¬ 18 ≤ (mI h50 46 (Int32.toNatClampNeg 85)) → MCi g yX11_begins uX11_begins [.ref 11, .ref (1000 + 5), .int 1, .int 5] h50 (fun r70 h69 => (r70 = 0 → (4 ≤ (mI h69 46 (Int32.toNatClampNeg 158)) → MCi g yX11_begins uX11_begins [.ref 11, .ref (1000 + 6), .int 0, .int 5] h69 (fun r74 h73 => (r74 = 0 → MCv g yX11_wrong uX11_wrong [.ref 11, .int 1, .int (mI h73 11 4)] h73 (fun h76 => P h76)) ∧ (¬ r74 = 0 → MCv g yX11_runLine uX11_runLine [.ref 11] h73 (fun h77 => P h77)))) ∧ (¬ 4 ≤ (mI h69 46 (Int32.toNatClampNeg 158)) → MCi g yX11_begins uX11_begins [.ref 11, .ref (1000 + 6), .int 1, .int 5] h69 (fun r79 h78 => (r79 = 0 → MCv g yX11_wrong uX11_wrong [.ref 11, .int 1, .int (mI h78 11 4)] h78 (fun h81 => P h81)) ∧ (¬ r79 = 0 → MCv g yX11_runLine uX11_runLine [.ref 11] h78 (fun h82 => P h82))))) ∧ (¬ r70 = 0 → MCv g yX11_rayLine uX11_rayLine [.ref 11] h69 (fun h83 => P h83))))) ∧ (¬ r51 = 0 → MCv g yX11_lineLine uX11_lineLine [.ref 11] h50 (fun h84 => P h84))))) ∧ (¬ r12 = 0 → MCv g yX11_setLine uX11_setLine [.ref 11] h11 (fun h85 => P h85)))) ∧ (¬ r9 = 0 → MCv g yX11_newNames uX11_newNames [.ref 11, .int 51, .int 6, .int 9] h8 (fun h86 => P h86)))) ∧ (¬ r6 = 0 → MCv g yX11_newNames uX11_newNames [.ref 11, .int 50, .int 0, .int 6] h5 (fun h87 => P h87)))) ∧ (¬ r3 = 0 → MCv g yX11_lawLine uX11_lawLine [.ref 11] h2 (fun h88 => P h88)))) ∧ ((mI h 46 (Int32.toNatClampNeg 49)) = 0 → MCi g yX11_begins uX11_begins [.ref 11, .ref (1000 + 0), .int 1, .int 3] h (fun r90 h89 => (r90 = 0 → MCi g yX11_begins uX11_begins [.ref 11, .ref (1000 + 1), .int 1, .int 1] h89 (fun r93 h92 => (r93 = 0 → MCi g yX11_begins uX11_begins [.ref 11, .ref (1000 + 2), .int 1, .int 1] h92 (fun r96 h95 => (r96 = 0 → MCi g yX11_isWord uX11_isWord [.ref 11, .ref (1000 + 3)] h95 (fun r99 h98 => (r99 = 0 → (8 ≤ (mI h98 46 (Int32.toNatClampNeg 52)) → MCi g yX11_begins uX11_begins [.ref 11, .ref (1000 + 4), .int 0, .int 5] h98 (fun r103 h102 => (r103 = 0 → (18 ≤ (mI h102 46 (Int32.toNatClampNeg 85)) → MCi g yX11_begins uX11_begins [.ref 11, .ref (1000 + 5), .int 0, .int 5] h102 (fun r107 h106 => (r107 = 0 → (4 ≤ (mI h106 46 (Int32.toNatClampNeg 158)) → MCi g yX11_begins uX11_begins [.ref 11, .ref (1000 + 6), .int 0, .int 5] h106 (fun r111 h110 => (r111 = 0 → MCv g yX11_wrong uX11_wrong [.ref 11, .int 1, .int (mI h110 11 4)] h110 (fun h113 => P h113)) ∧ (¬ r111 = 0 → MCv g yX11_runLine uX11_runLine [.ref 11] h110 (fun h114 => P h114)))) ∧ (¬ 4 ≤ (mI h106 46 (Int32.toNatClampNeg 158)) → MCi g yX11_begins uX11_begins [.ref 11, .ref (1000 + 6), .int 1, .int 5] h106 (fun r116 h115 => (r116 = 0 → MCv g yX11_wrong uX11_wrong [.ref 11, .int 1, .int (mI h115 11 4)] h115 (fun h118 => P h118)) ∧ (¬ r116 = 0 → MCv g yX11_runLine uX11_runLine [.ref 11] h115 (fun h119 => P h119))))) ∧ (¬ r107 = 0 → MCv g yX11_rayLine uX11_rayLine [.ref 11] h106 (fun h120 => P h120)))) ∧ (¬ 18 ≤ (mI h102 46 (Int32.toNatClampNeg 85)) → MCi g yX11_begins uX11_begins [.ref 11, .ref (1000 + 5), .int 1, .int 5] h102 (fun r122 h121 => (r122 = 0 → (4 ≤ (mI h121 46 (Int32.toNatClampNeg 158)) → MCi g yX11_begins uX11_begins [.ref 11, .ref (1000 + 6), .int 0, .int 5] h121 (fun r126 h125 => (r126 = 0 → MCv g yX11_wrong uX11_wrong [.ref 11, .int 1, .int (mI h125 11 4)] h125 (fun h128 => P h128)) ∧ (¬ r126 = 0 → MCv g yX11_runLine uX11_runLine [.ref 11] h125 (fun h129 => P h129)))) ∧ (¬ 4 ≤ (mI h121 46 (Int32.toNatClampNeg 158)) → MCi g yX11_begins uX11_begins [.ref 11, .ref (1000 + 6), .int 1, .int 5] h121 (fun r131 h130 => (r131 = 0 → MCv g yX11_wrong uX11_wrong [.ref 11, .int 1, .int (mI h130 11 4)] h130 (fun h133 => P h133)) ∧ (¬ r131 = 0 → MCv g yX11_runLine uX11_runLine [.ref 11] h130 (fun h134 => P h134))))) ∧ (¬ r122 = 0 → MCv g yX11_rayLine uX11_rayLine [.ref 11] h121 (fun h135 => P h135))))) ∧ (¬ r103 = 0 → MCv g yX11_lineLine uX11_lineLine [.ref 11] h102 (fun h136 => P h136)))) ∧ (¬ 8 ≤ (mI h98 46 (Int32.toNatClampNeg 52)) → MCi g yX11_begins uX11_begins [.ref 11, .ref (1000 + 4), .int 1, .int 5] h98 (fun r138 h137 => (r138 = 0 → (18 ≤ (mI h137 46 (Int32.toNatClampNeg 85)) → MCi g yX11_begins uX11_begins [.ref 11, .ref (1000 + 5), .int 0, .int 5] h137 (fun r142 h141 => (r142 = 0 → (4 ≤ (mI h141 46 (Int32.toNatClampNeg 158)) → MCi g yX11_begins uX11_begins [.ref 11, .ref (1000 + 6), .int 0, .int 5] h141 (fun r146 h145 => (r146 = 0 → MCv g yX11_wrong uX11_wrong [.ref 11, .int 1, .int (mI h145 11 4)] h145 (fun h148 => P h148)) ∧ (¬ r146 = 0 → MCv g yX11_runLine uX11_runLine [.ref 11] h145 (fun h149 => P h149)))) ∧ (¬ 4 ≤ (mI h141 46 (Int32.toNatClampNeg 158)) → MCi g yX11_begins uX11_begins [.ref 11, .ref (1000 + 6), .int 1, .int 5] h141 (fun r151 h150 => (r151 = 0 → MCv g yX11_wrong uX11_wrong [.ref 11, .int 1, .int (mI h150 11 4)] h150 (fun h153 => P h153)) ∧ (¬ r151 = 0 → MCv g yX11_runLine uX11_runLine [.ref 11] h150 (fun h154 => P h154))))) ∧ (¬ r142 = 0 → MCv g yX11_rayLine uX11_rayLine [.ref 11] h141 (fun h155 => P h155)))) ∧ (¬ 18 ≤ (mI h137 46 (Int32.toNatClampNeg 85)) → MCi g yX11_begins uX11_begins [.ref 11, .ref (1000 + 5), .int 1, .int 5] h137 (fun r157 h156 => (r157 = 0 → (4 ≤ (mI h156 46 (Int32.toNatClampNeg 158)) → MCi g yX11_begins uX11_begins [.ref 11, .ref (1000 + 6), .int 0, .int 5] h156 (fun r161 h160 => (r161 = 0 → MCv g yX11_wrong uX11_wrong [.ref 11, .int 1, .int (mI h160 11 4)] h160 (fun h163 => P h163)) ∧ (¬ r161 = 0 → MCv g yX11_runLine uX11_runLine [.ref 11] h160 (fun h164 => P h164)))) ∧ (¬ 4 ≤ (mI h156 46 (Int32.toNatClampNeg 158)) → MCi g yX11_begins uX11_begins [.ref 11, .ref (1000 + 6), .int 1, .int 5] h156 (fun r166 h165 => (r166 = 0 → MCv g yX11_wrong uX11_wrong [.ref 11, .int 1, .int (mI h165 11 4)] h165 (fun h168 => P h168)) ∧ (¬ r166 = 0 → MCv g yX11_runLine uX11_runLine [.ref 11] h165 (fun h169 => P h169))))) ∧ (¬ r157 = 0 → MCv g yX11_rayLine uX11_rayLine [.ref 11] h156 (fun h170 => P h170))))) ∧ (¬ r138 = 0 → MCv g yX11_lineLine uX11_lineLine [.ref 11] h137 (fun h171 => P h171))))) ∧ (¬ r99 = 0 → MCv g yX11_setLine uX11_setLine [.ref 11] h98 (fun h172 => P h172)))) ∧ (¬ r96 = 0 → MCv g yX11_newNames uX11_newNames [.ref 11, .int 51, .int 6, .int 9] h95 (fun h173 => P h173)))) ∧ (¬ r93 = 0 → MCv g yX11_newNames uX11_newNames [.ref 11, .int 50, .int 0, .int 6] h92 (fun h174 => P h174)))) ∧ (¬ r90 = 0 → MCv g yX11_lawLine uX11_lawLine [.ref 11] h89 (fun h175 => P h175))))) : MCv g yX11_readLine uX11_readLine [.ref 11] h P := by
  refine m_enter (by decide) rfl (Nat.le_of_ble_eq_true rfl) (lv := [.ref 11]) rfl ?_
  refine m_aload_n dX11_readLine_0 rfl ?_
  refine m_ldcS (i := 0) (tx := "law") dX11_readLine_1 (List.mem_of_getElem? (i := 12) rfl) (by decide) ?_
  refine m_aload_n dX11_readLine_3 rfl ?_
  refine gf_X11_23 rfl dX11_readLine_4 ?_
  refine m_bipush (v := 49) dX11_readLine_7 (by decide) ?_
  refine m_iaload dX11_readLine_9 rfl (by decide) (by unfold vp_in; decide) ?_
  refine m_if_ne 17 dX11_readLine_10 (by decide) (fun c1 => ?_) (fun c1 => ?_)
  · replace q := q.1 c1
    refine m_iconst (v := 0) dX11_readLine_17 (by decide) ?_
    refine m_iconst (v := 3) dX11_readLine_18 (by decide) ?_
    refine cl_X11_198 rfl (by decide) dX11_readLine_19 (Nat.le_of_ble_eq_true rfl) (MCi_go q (fun r3 h2 q => ?_))
    refine m_if_eq 32 dX11_readLine_22 (by decide) (fun c4 => ?_) (fun c4 => ?_)
    · replace q := q.1 c4
      refine m_aload_n dX11_readLine_32 rfl ?_
      refine m_ldcS (i := 1) (tx := "look") dX11_readLine_33 (List.mem_of_getElem? (i := 13) rfl) (by decide) ?_
      refine m_iconst (v := 1) dX11_readLine_35 (by decide) ?_
      refine m_iconst (v := 1) dX11_readLine_36 (by decide) ?_
      refine cl_X11_198 rfl (by decide) dX11_readLine_37 (Nat.le_of_ble_eq_true rfl) (MCi_go q (fun r6 h5 q => ?_))
      refine m_if_eq 55 dX11_readLine_40 (by decide) (fun c7 => ?_) (fun c7 => ?_)
      · replace q := q.1 c7
        refine m_aload_n dX11_readLine_55 rfl ?_
        refine m_ldcS (i := 2) (tx := "point") dX11_readLine_56 (List.mem_of_getElem? (i := 14) rfl) (by decide) ?_
        refine m_iconst (v := 1) dX11_readLine_58 (by decide) ?_
        refine m_iconst (v := 1) dX11_readLine_59 (by decide) ?_
        refine cl_X11_198 rfl (by decide) dX11_readLine_60 (Nat.le_of_ble_eq_true rfl) (MCi_go q (fun r9 h8 q => ?_))
        refine m_if_eq 79 dX11_readLine_63 (by decide) (fun c10 => ?_) (fun c10 => ?_)
        · replace q := q.1 c10
          refine m_aload_n dX11_readLine_79 rfl ?_
          refine m_ldcS (i := 3) (tx := "set") dX11_readLine_80 (List.mem_of_getElem? (i := 15) rfl) (by decide) ?_
          refine cl_X11_124 rfl (by decide) dX11_readLine_82 (Nat.le_of_ble_eq_true rfl) (MCi_go q (fun r12 h11 q => ?_))
          refine m_if_eq 95 dX11_readLine_85 (by decide) (fun c13 => ?_) (fun c13 => ?_)
          · replace q := q.1 c13
            refine m_aload_n dX11_readLine_95 rfl ?_
            refine m_ldcS (i := 4) (tx := "line") dX11_readLine_96 (List.mem_of_getElem? (i := 16) rfl) (by decide) ?_
            refine m_aload_n dX11_readLine_98 rfl ?_
            refine gf_X11_23 rfl dX11_readLine_99 ?_
            refine m_bipush (v := 52) dX11_readLine_102 (by decide) ?_
            refine m_iaload dX11_readLine_104 rfl (by decide) (by unfold vp_in; decide) ?_
            refine m_bipush (v := 8) dX11_readLine_105 (by decide) ?_
            refine m_icmp_ge 114 dX11_readLine_107 (by decide) (fun c14 => ?_) (fun c14 => ?_)
            · replace q := q.1 c14
              refine m_iconst (v := 0) dX11_readLine_114 (by decide) ?_
              refine m_iconst (v := 5) dX11_readLine_115 (by decide) ?_
              refine cl_X11_198 rfl (by decide) dX11_readLine_116 (Nat.le_of_ble_eq_true rfl) (MCi_go q (fun r16 h15 q => ?_))
              refine m_if_eq 129 dX11_readLine_119 (by decide) (fun c17 => ?_) (fun c17 => ?_)
              · replace q := q.1 c17
                refine m_aload_n dX11_readLine_129 rfl ?_
                refine m_ldcS (i := 5) (tx := "ray") dX11_readLine_130 (List.mem_of_getElem? (i := 17) rfl) (by decide) ?_
                refine m_aload_n dX11_readLine_132 rfl ?_
                refine gf_X11_23 rfl dX11_readLine_133 ?_
                refine m_bipush (v := 85) dX11_readLine_136 (by decide) ?_
                refine m_iaload dX11_readLine_138 rfl (by decide) (by unfold vp_in; decide) ?_
                refine m_bipush (v := 18) dX11_readLine_139 (by decide) ?_
                refine m_icmp_ge 148 dX11_readLine_141 (by decide) (fun c18 => ?_) (fun c18 => ?_)
                · replace q := q.1 c18
                  refine m_iconst (v := 0) dX11_readLine_148 (by decide) ?_
                  refine m_iconst (v := 5) dX11_readLine_149 (by decide) ?_
                  refine cl_X11_198 rfl (by decide) dX11_readLine_150 (Nat.le_of_ble_eq_true rfl) (MCi_go q (fun r20 h19 q => ?_))
                  refine m_if_eq 163 dX11_readLine_153 (by decide) (fun c21 => ?_) (fun c21 => ?_)
                  · replace q := q.1 c21
                    refine m_aload_n dX11_readLine_163 rfl ?_
                    refine m_ldcS (i := 6) (tx := "run") dX11_readLine_164 (List.mem_of_getElem? (i := 18) rfl) (by decide) ?_
                    refine m_aload_n dX11_readLine_166 rfl ?_
                    refine gf_X11_23 rfl dX11_readLine_167 ?_
                    refine m_sipush (v := 158) dX11_readLine_170 (by decide) ?_
                    refine m_iaload dX11_readLine_173 rfl (by decide) (by unfold vp_in; decide) ?_
                    refine m_iconst (v := 4) dX11_readLine_174 (by decide) ?_
                    refine m_icmp_ge 182 dX11_readLine_175 (by decide) (fun c22 => ?_) (fun c22 => ?_)
                    · replace q := q.1 c22
                      refine m_iconst (v := 0) dX11_readLine_182 (by decide) ?_
                      refine m_iconst (v := 5) dX11_readLine_183 (by decide) ?_
                      refine cl_X11_198 rfl (by decide) dX11_readLine_184 (Nat.le_of_ble_eq_true rfl) (MCi_go q (fun r24 h23 q => ?_))
                      refine m_if_eq 197 dX11_readLine_187 (by decide) (fun c25 => ?_) (fun c25 => ?_)
                      · replace q := q.1 c25
                        refine m_aload_n dX11_readLine_197 rfl ?_
                        refine m_iconst (v := 1) dX11_readLine_198 (by decide) ?_
                        refine m_aload_n dX11_readLine_199 rfl ?_
                        refine gf_X11_88 rfl dX11_readLine_200 ?_
                        refine cl_X11_134 rfl (by decide) dX11_readLine_203 (Nat.le_of_ble_eq_true rfl) (MCv_go q (fun h26 q => ?_))
                        exact m_vret dX11_readLine_206 rfl q
                      · replace q := q.2 c25
                        refine m_aload_n dX11_readLine_190 rfl ?_
                        refine cl_X11_218 rfl (by decide) dX11_readLine_191 (Nat.le_of_ble_eq_true rfl) (MCv_go q (fun h27 q => ?_))
                        refine m_goto 206 dX11_readLine_194 (by decide) ?_
                        exact m_vret dX11_readLine_206 rfl q
                    · replace q := q.2 c22
                      refine m_iconst (v := 1) dX11_readLine_178 (by decide) ?_
                      refine m_goto 183 dX11_readLine_179 (by decide) ?_
                      refine m_iconst (v := 5) dX11_readLine_183 (by decide) ?_
                      refine cl_X11_198 rfl (by decide) dX11_readLine_184 (Nat.le_of_ble_eq_true rfl) (MCi_go q (fun r29 h28 q => ?_))
                      refine m_if_eq 197 dX11_readLine_187 (by decide) (fun c30 => ?_) (fun c30 => ?_)
                      · replace q := q.1 c30
                        refine m_aload_n dX11_readLine_197 rfl ?_
                        refine m_iconst (v := 1) dX11_readLine_198 (by decide) ?_
                        refine m_aload_n dX11_readLine_199 rfl ?_
                        refine gf_X11_88 rfl dX11_readLine_200 ?_
                        refine cl_X11_134 rfl (by decide) dX11_readLine_203 (Nat.le_of_ble_eq_true rfl) (MCv_go q (fun h31 q => ?_))
                        exact m_vret dX11_readLine_206 rfl q
                      · replace q := q.2 c30
                        refine m_aload_n dX11_readLine_190 rfl ?_
                        refine cl_X11_218 rfl (by decide) dX11_readLine_191 (Nat.le_of_ble_eq_true rfl) (MCv_go q (fun h32 q => ?_))
                        refine m_goto 206 dX11_readLine_194 (by decide) ?_
                        exact m_vret dX11_readLine_206 rfl q
                  · replace q := q.2 c21
                    refine m_aload_n dX11_readLine_156 rfl ?_
                    refine cl_X11_215 rfl (by decide) dX11_readLine_157 (Nat.le_of_ble_eq_true rfl) (MCv_go q (fun h33 q => ?_))
                    refine m_goto 206 dX11_readLine_160 (by decide) ?_
                    exact m_vret dX11_readLine_206 rfl q
                · replace q := q.2 c18
                  refine m_iconst (v := 1) dX11_readLine_144 (by decide) ?_
                  refine m_goto 149 dX11_readLine_145 (by decide) ?_
                  refine m_iconst (v := 5) dX11_readLine_149 (by decide) ?_
                  refine cl_X11_198 rfl (by decide) dX11_readLine_150 (Nat.le_of_ble_eq_true rfl) (MCi_go q (fun r35 h34 q => ?_))
                  refine m_if_eq 163 dX11_readLine_153 (by decide) (fun c36 => ?_) (fun c36 => ?_)
                  · replace q := q.1 c36
                    refine m_aload_n dX11_readLine_163 rfl ?_
                    refine m_ldcS (i := 6) (tx := "run") dX11_readLine_164 (List.mem_of_getElem? (i := 18) rfl) (by decide) ?_
                    refine m_aload_n dX11_readLine_166 rfl ?_
                    refine gf_X11_23 rfl dX11_readLine_167 ?_
                    refine m_sipush (v := 158) dX11_readLine_170 (by decide) ?_
                    refine m_iaload dX11_readLine_173 rfl (by decide) (by unfold vp_in; decide) ?_
                    refine m_iconst (v := 4) dX11_readLine_174 (by decide) ?_
                    refine m_icmp_ge 182 dX11_readLine_175 (by decide) (fun c37 => ?_) (fun c37 => ?_)
                    · replace q := q.1 c37
                      refine m_iconst (v := 0) dX11_readLine_182 (by decide) ?_
                      refine m_iconst (v := 5) dX11_readLine_183 (by decide) ?_
                      refine cl_X11_198 rfl (by decide) dX11_readLine_184 (Nat.le_of_ble_eq_true rfl) (MCi_go q (fun r39 h38 q => ?_))
                      refine m_if_eq 197 dX11_readLine_187 (by decide) (fun c40 => ?_) (fun c40 => ?_)
                      · replace q := q.1 c40
                        refine m_aload_n dX11_readLine_197 rfl ?_
                        refine m_iconst (v := 1) dX11_readLine_198 (by decide) ?_
                        refine m_aload_n dX11_readLine_199 rfl ?_
                        refine gf_X11_88 rfl dX11_readLine_200 ?_
                        refine cl_X11_134 rfl (by decide) dX11_readLine_203 (Nat.le_of_ble_eq_true rfl) (MCv_go q (fun h41 q => ?_))
                        exact m_vret dX11_readLine_206 rfl q
                      · replace q := q.2 c40
                        refine m_aload_n dX11_readLine_190 rfl ?_
                        refine cl_X11_218 rfl (by decide) dX11_readLine_191 (Nat.le_of_ble_eq_true rfl) (MCv_go q (fun h42 q => ?_))
                        refine m_goto 206 dX11_readLine_194 (by decide) ?_
                        exact m_vret dX11_readLine_206 rfl q
                    · replace q := q.2 c37
                      refine m_iconst (v := 1) dX11_readLine_178 (by decide) ?_
                      refine m_goto 183 dX11_readLine_179 (by decide) ?_
                      refine m_iconst (v := 5) dX11_readLine_183 (by decide) ?_
                      refine cl_X11_198 rfl (by decide) dX11_readLine_184 (Nat.le_of_ble_eq_true rfl) (MCi_go q (fun r44 h43 q => ?_))
                      refine m_if_eq 197 dX11_readLine_187 (by decide) (fun c45 => ?_) (fun c45 => ?_)
                      · replace q := q.1 c45
                        refine m_aload_n dX11_readLine_197 rfl ?_
                        refine m_iconst (v := 1) dX11_readLine_198 (by decide) ?_
                        refine m_aload_n dX11_readLine_199 rfl ?_
                        refine gf_X11_88 rfl dX11_readLine_200 ?_
                        refine cl_X11_134 rfl (by decide) dX11_readLine_203 (Nat.le_of_ble_eq_true rfl) (MCv_go q (fun h46 q => ?_))
                        exact m_vret dX11_readLine_206 rfl q
                      · replace q := q.2 c45
                        refine m_aload_n dX11_readLine_190 rfl ?_
                        refine cl_X11_218 rfl (by decide) dX11_readLine_191 (Nat.le_of_ble_eq_true rfl) (MCv_go q (fun h47 q => ?_))
                        refine m_goto 206 dX11_readLine_194 (by decide) ?_
                        exact m_vret dX11_readLine_206 rfl q
                  · replace q := q.2 c36
                    refine m_aload_n dX11_readLine_156 rfl ?_
                    refine cl_X11_215 rfl (by decide) dX11_readLine_157 (Nat.le_of_ble_eq_true rfl) (MCv_go q (fun h48 q => ?_))
                    refine m_goto 206 dX11_readLine_160 (by decide) ?_
                    exact m_vret dX11_readLine_206 rfl q
              · replace q := q.2 c17
                refine m_aload_n dX11_readLine_122 rfl ?_
                refine cl_X11_212 rfl (by decide) dX11_readLine_123 (Nat.le_of_ble_eq_true rfl) (MCv_go q (fun h49 q => ?_))
                refine m_goto 206 dX11_readLine_126 (by decide) ?_
                exact m_vret dX11_readLine_206 rfl q
            · replace q := q.2 c14
              refine m_iconst (v := 1) dX11_readLine_110 (by decide) ?_
              refine m_goto 115 dX11_readLine_111 (by decide) ?_
              refine m_iconst (v := 5) dX11_readLine_115 (by decide) ?_
              refine cl_X11_198 rfl (by decide) dX11_readLine_116 (Nat.le_of_ble_eq_true rfl) (MCi_go q (fun r51 h50 q => ?_))
              refine m_if_eq 129 dX11_readLine_119 (by decide) (fun c52 => ?_) (fun c52 => ?_)
              · replace q := q.1 c52
                refine m_aload_n dX11_readLine_129 rfl ?_
                refine m_ldcS (i := 5) (tx := "ray") dX11_readLine_130 (List.mem_of_getElem? (i := 17) rfl) (by decide) ?_
                refine m_aload_n dX11_readLine_132 rfl ?_
                refine gf_X11_23 rfl dX11_readLine_133 ?_
                refine m_bipush (v := 85) dX11_readLine_136 (by decide) ?_
                refine m_iaload dX11_readLine_138 rfl (by decide) (by unfold vp_in; decide) ?_
                refine m_bipush (v := 18) dX11_readLine_139 (by decide) ?_
                refine m_icmp_ge 148 dX11_readLine_141 (by decide) (fun c53 => ?_) (fun c53 => ?_)
                · replace q := q.1 c53
                  refine m_iconst (v := 0) dX11_readLine_148 (by decide) ?_
                  refine m_iconst (v := 5) dX11_readLine_149 (by decide) ?_
                  refine cl_X11_198 rfl (by decide) dX11_readLine_150 (Nat.le_of_ble_eq_true rfl) (MCi_go q (fun r55 h54 q => ?_))
                  refine m_if_eq 163 dX11_readLine_153 (by decide) (fun c56 => ?_) (fun c56 => ?_)
                  · replace q := q.1 c56
                    refine m_aload_n dX11_readLine_163 rfl ?_
                    refine m_ldcS (i := 6) (tx := "run") dX11_readLine_164 (List.mem_of_getElem? (i := 18) rfl) (by decide) ?_
                    refine m_aload_n dX11_readLine_166 rfl ?_
                    refine gf_X11_23 rfl dX11_readLine_167 ?_
                    refine m_sipush (v := 158) dX11_readLine_170 (by decide) ?_
                    refine m_iaload dX11_readLine_173 rfl (by decide) (by unfold vp_in; decide) ?_
                    refine m_iconst (v := 4) dX11_readLine_174 (by decide) ?_
                    refine m_icmp_ge 182 dX11_readLine_175 (by decide) (fun c57 => ?_) (fun c57 => ?_)
                    · replace q := q.1 c57
                      refine m_iconst (v := 0) dX11_readLine_182 (by decide) ?_
                      refine m_iconst (v := 5) dX11_readLine_183 (by decide) ?_
                      refine cl_X11_198 rfl (by decide) dX11_readLine_184 (Nat.le_of_ble_eq_true rfl) (MCi_go q (fun r59 h58 q => ?_))
                      refine m_if_eq 197 dX11_readLine_187 (by decide) (fun c60 => ?_) (fun c60 => ?_)
                      · replace q := q.1 c60
                        refine m_aload_n dX11_readLine_197 rfl ?_
                        refine m_iconst (v := 1) dX11_readLine_198 (by decide) ?_
                        refine m_aload_n dX11_readLine_199 rfl ?_
                        refine gf_X11_88 rfl dX11_readLine_200 ?_
                        refine cl_X11_134 rfl (by decide) dX11_readLine_203 (Nat.le_of_ble_eq_true rfl) (MCv_go q (fun h61 q => ?_))
                        exact m_vret dX11_readLine_206 rfl q
                      · replace q := q.2 c60
                        refine m_aload_n dX11_readLine_190 rfl ?_
                        refine cl_X11_218 rfl (by decide) dX11_readLine_191 (Nat.le_of_ble_eq_true rfl) (MCv_go q (fun h62 q => ?_))
                        refine m_goto 206 dX11_readLine_194 (by decide) ?_
                        exact m_vret dX11_readLine_206 rfl q
                    · replace q := q.2 c57
                      refine m_iconst (v := 1) dX11_readLine_178 (by decide) ?_
                      refine m_goto 183 dX11_readLine_179 (by decide) ?_
                      refine m_iconst (v := 5) dX11_readLine_183 (by decide) ?_
                      refine cl_X11_198 rfl (by decide) dX11_readLine_184 (Nat.le_of_ble_eq_true rfl) (MCi_go q (fun r64 h63 q => ?_))
                      refine m_if_eq 197 dX11_readLine_187 (by decide) (fun c65 => ?_) (fun c65 => ?_)
                      · replace q := q.1 c65
                        refine m_aload_n dX11_readLine_197 rfl ?_
                        refine m_iconst (v := 1) dX11_readLine_198 (by decide) ?_
                        refine m_aload_n dX11_readLine_199 rfl ?_
                        refine gf_X11_88 rfl dX11_readLine_200 ?_
                        refine cl_X11_134 rfl (by decide) dX11_readLine_203 (Nat.le_of_ble_eq_true rfl) (MCv_go q (fun h66 q => ?_))
                        exact m_vret dX11_readLine_206 rfl q
                      · replace q := q.2 c65
                        refine m_aload_n dX11_readLine_190 rfl ?_
                        refine cl_X11_218 rfl (by decide) dX11_readLine_191 (Nat.le_of_ble_eq_true rfl) (MCv_go q (fun h67 q => ?_))
                        refine m_goto 206 dX11_readLine_194 (by decide) ?_
                        exact m_vret dX11_readLine_206 rfl q
                  · replace q := q.2 c56
                    refine m_aload_n dX11_readLine_156 rfl ?_
                    refine cl_X11_215 rfl (by decide) dX11_readLine_157 (Nat.le_of_ble_eq_true rfl) (MCv_go q (fun h68 q => ?_))
                    refine m_goto 206 dX11_readLine_160 (by decide) ?_
                    exact m_vret dX11_readLine_206 rfl q
                · replace q := q.2 c53
                  refine m_iconst (v := 1) dX11_readLine_144 (by decide) ?_
                  refine m_goto 149 dX11_readLine_145 (by decide) ?_
                  refine m_iconst (v := 5) dX11_readLine_149 (by decide) ?_
                  refine cl_X11_198 rfl (by decide) dX11_readLine_150 (Nat.le_of_ble_eq_true rfl) (MCi_go q (fun r70 h69 q => ?_))
                  refine m_if_eq 163 dX11_readLine_153 (by decide) (fun c71 => ?_) (fun c71 => ?_)
                  · replace q := q.1 c71
                    refine m_aload_n dX11_readLine_163 rfl ?_
                    refine m_ldcS (i := 6) (tx := "run") dX11_readLine_164 (List.mem_of_getElem? (i := 18) rfl) (by decide) ?_
                    refine m_aload_n dX11_readLine_166 rfl ?_
                    refine gf_X11_23 rfl dX11_readLine_167 ?_
                    refine m_sipush (v := 158) dX11_readLine_170 (by decide) ?_
                    refine m_iaload dX11_readLine_173 rfl (by decide) (by unfold vp_in; decide) ?_
                    refine m_iconst (v := 4) dX11_readLine_174 (by decide) ?_
                    refine m_icmp_ge 182 dX11_readLine_175 (by decide) (fun c72 => ?_) (fun c72 => ?_)
                    · replace q := q.1 c72
                      refine m_iconst (v := 0) dX11_readLine_182 (by decide) ?_
                      refine m_iconst (v := 5) dX11_readLine_183 (by decide) ?_
                      refine cl_X11_198 rfl (by decide) dX11_readLine_184 (Nat.le_of_ble_eq_true rfl) (MCi_go q (fun r74 h73 q => ?_))
                      refine m_if_eq 197 dX11_readLine_187 (by decide) (fun c75 => ?_) (fun c75 => ?_)
                      · replace q := q.1 c75
                        refine m_aload_n dX11_readLine_197 rfl ?_
                        refine m_iconst (v := 1) dX11_readLine_198 (by decide) ?_
                        refine m_aload_n dX11_readLine_199 rfl ?_
                        refine gf_X11_88 rfl dX11_readLine_200 ?_
                        refine cl_X11_134 rfl (by decide) dX11_readLine_203 (Nat.le_of_ble_eq_true rfl) (MCv_go q (fun h76 q => ?_))
                        exact m_vret dX11_readLine_206 rfl q
                      · replace q := q.2 c75
                        refine m_aload_n dX11_readLine_190 rfl ?_
                        refine cl_X11_218 rfl (by decide) dX11_readLine_191 (Nat.le_of_ble_eq_true rfl) (MCv_go q (fun h77 q => ?_))
                        refine m_goto 206 dX11_readLine_194 (by decide) ?_
                        exact m_vret dX11_readLine_206 rfl q
                    · replace q := q.2 c72
                      refine m_iconst (v := 1) dX11_readLine_178 (by decide) ?_
                      refine m_goto 183 dX11_readLine_179 (by decide) ?_
                      refine m_iconst (v := 5) dX11_readLine_183 (by decide) ?_
                      refine cl_X11_198 rfl (by decide) dX11_readLine_184 (Nat.le_of_ble_eq_true rfl) (MCi_go q (fun r79 h78 q => ?_))
                      refine m_if_eq 197 dX11_readLine_187 (by decide) (fun c80 => ?_) (fun c80 => ?_)
                      · replace q := q.1 c80
                        refine m_aload_n dX11_readLine_197 rfl ?_
                        refine m_iconst (v := 1) dX11_readLine_198 (by decide) ?_
                        refine m_aload_n dX11_readLine_199 rfl ?_
                        refine gf_X11_88 rfl dX11_readLine_200 ?_
                        refine cl_X11_134 rfl (by decide) dX11_readLine_203 (Nat.le_of_ble_eq_true rfl) (MCv_go q (fun h81 q => ?_))
                        exact m_vret dX11_readLine_206 rfl q
                      · replace q := q.2 c80
                        refine m_aload_n dX11_readLine_190 rfl ?_
                        refine cl_X11_218 rfl (by decide) dX11_readLine_191 (Nat.le_of_ble_eq_true rfl) (MCv_go q (fun h82 q => ?_))
                        refine m_goto 206 dX11_readLine_194 (by decide) ?_
                        exact m_vret dX11_readLine_206 rfl q
                  · replace q := q.2 c71
                    refine m_aload_n dX11_readLine_156 rfl ?_
                    refine cl_X11_215 rfl (by decide) dX11_readLine_157 (Nat.le_of_ble_eq_true rfl) (MCv_go q (fun h83 q => ?_))
                    refine m_goto 206 dX11_readLine_160 (by decide) ?_
                    exact m_vret dX11_readLine_206 rfl q
              · replace q := q.2 c52
                refine m_aload_n dX11_readLine_122 rfl ?_
                refine cl_X11_212 rfl (by decide) dX11_readLine_123 (Nat.le_of_ble_eq_true rfl) (MCv_go q (fun h84 q => ?_))
                refine m_goto 206 dX11_readLine_126 (by decide) ?_
                exact m_vret dX11_readLine_206 rfl q
          · replace q := q.2 c13
            refine m_aload_n dX11_readLine_88 rfl ?_
            refine cl_X11_209 rfl (by decide) dX11_readLine_89 (Nat.le_of_ble_eq_true rfl) (MCv_go q (fun h85 q => ?_))
            refine m_goto 206 dX11_readLine_92 (by decide) ?_
            exact m_vret dX11_readLine_206 rfl q
        · replace q := q.2 c10
          refine m_aload_n dX11_readLine_66 rfl ?_
          refine m_bipush (v := 51) dX11_readLine_67 (by decide) ?_
          refine m_bipush (v := 6) dX11_readLine_69 (by decide) ?_
          refine m_bipush (v := 9) dX11_readLine_71 (by decide) ?_
          refine cl_X11_205 rfl (by decide) dX11_readLine_73 (Nat.le_of_ble_eq_true rfl) (MCv_go q (fun h86 q => ?_))
          refine m_goto 206 dX11_readLine_76 (by decide) ?_
          exact m_vret dX11_readLine_206 rfl q
      · replace q := q.2 c7
        refine m_aload_n dX11_readLine_43 rfl ?_
        refine m_bipush (v := 50) dX11_readLine_44 (by decide) ?_
        refine m_iconst (v := 0) dX11_readLine_46 (by decide) ?_
        refine m_bipush (v := 6) dX11_readLine_47 (by decide) ?_
        refine cl_X11_205 rfl (by decide) dX11_readLine_49 (Nat.le_of_ble_eq_true rfl) (MCv_go q (fun h87 q => ?_))
        refine m_goto 206 dX11_readLine_52 (by decide) ?_
        exact m_vret dX11_readLine_206 rfl q
    · replace q := q.2 c4
      refine m_aload_n dX11_readLine_25 rfl ?_
      refine cl_X11_202 rfl (by decide) dX11_readLine_26 (Nat.le_of_ble_eq_true rfl) (MCv_go q (fun h88 q => ?_))
      refine m_goto 206 dX11_readLine_29 (by decide) ?_
      exact m_vret dX11_readLine_206 rfl q
  · replace q := q.2 c1
    refine m_iconst (v := 1) dX11_readLine_13 (by decide) ?_
    refine m_goto 18 dX11_readLine_14 (by decide) ?_
    refine m_iconst (v := 3) dX11_readLine_18 (by decide) ?_
    refine cl_X11_198 rfl (by decide) dX11_readLine_19 (Nat.le_of_ble_eq_true rfl) (MCi_go q (fun r90 h89 q => ?_))
    refine m_if_eq 32 dX11_readLine_22 (by decide) (fun c91 => ?_) (fun c91 => ?_)
    · replace q := q.1 c91
      refine m_aload_n dX11_readLine_32 rfl ?_
      refine m_ldcS (i := 1) (tx := "look") dX11_readLine_33 (List.mem_of_getElem? (i := 13) rfl) (by decide) ?_
      refine m_iconst (v := 1) dX11_readLine_35 (by decide) ?_
      refine m_iconst (v := 1) dX11_readLine_36 (by decide) ?_
      refine cl_X11_198 rfl (by decide) dX11_readLine_37 (Nat.le_of_ble_eq_true rfl) (MCi_go q (fun r93 h92 q => ?_))
      refine m_if_eq 55 dX11_readLine_40 (by decide) (fun c94 => ?_) (fun c94 => ?_)
      · replace q := q.1 c94
        refine m_aload_n dX11_readLine_55 rfl ?_
        refine m_ldcS (i := 2) (tx := "point") dX11_readLine_56 (List.mem_of_getElem? (i := 14) rfl) (by decide) ?_
        refine m_iconst (v := 1) dX11_readLine_58 (by decide) ?_
        refine m_iconst (v := 1) dX11_readLine_59 (by decide) ?_
        refine cl_X11_198 rfl (by decide) dX11_readLine_60 (Nat.le_of_ble_eq_true rfl) (MCi_go q (fun r96 h95 q => ?_))
        refine m_if_eq 79 dX11_readLine_63 (by decide) (fun c97 => ?_) (fun c97 => ?_)
        · replace q := q.1 c97
          refine m_aload_n dX11_readLine_79 rfl ?_
          refine m_ldcS (i := 3) (tx := "set") dX11_readLine_80 (List.mem_of_getElem? (i := 15) rfl) (by decide) ?_
          refine cl_X11_124 rfl (by decide) dX11_readLine_82 (Nat.le_of_ble_eq_true rfl) (MCi_go q (fun r99 h98 q => ?_))
          refine m_if_eq 95 dX11_readLine_85 (by decide) (fun c100 => ?_) (fun c100 => ?_)
          · replace q := q.1 c100
            refine m_aload_n dX11_readLine_95 rfl ?_
            refine m_ldcS (i := 4) (tx := "line") dX11_readLine_96 (List.mem_of_getElem? (i := 16) rfl) (by decide) ?_
            refine m_aload_n dX11_readLine_98 rfl ?_
            refine gf_X11_23 rfl dX11_readLine_99 ?_
            refine m_bipush (v := 52) dX11_readLine_102 (by decide) ?_
            refine m_iaload dX11_readLine_104 rfl (by decide) (by unfold vp_in; decide) ?_
            refine m_bipush (v := 8) dX11_readLine_105 (by decide) ?_
            refine m_icmp_ge 114 dX11_readLine_107 (by decide) (fun c101 => ?_) (fun c101 => ?_)
            · replace q := q.1 c101
              refine m_iconst (v := 0) dX11_readLine_114 (by decide) ?_
              refine m_iconst (v := 5) dX11_readLine_115 (by decide) ?_
              refine cl_X11_198 rfl (by decide) dX11_readLine_116 (Nat.le_of_ble_eq_true rfl) (MCi_go q (fun r103 h102 q => ?_))
              refine m_if_eq 129 dX11_readLine_119 (by decide) (fun c104 => ?_) (fun c104 => ?_)
              · replace q := q.1 c104
                refine m_aload_n dX11_readLine_129 rfl ?_
                refine m_ldcS (i := 5) (tx := "ray") dX11_readLine_130 (List.mem_of_getElem? (i := 17) rfl) (by decide) ?_
                refine m_aload_n dX11_readLine_132 rfl ?_
                refine gf_X11_23 rfl dX11_readLine_133 ?_
                refine m_bipush (v := 85) dX11_readLine_136 (by decide) ?_
                refine m_iaload dX11_readLine_138 rfl (by decide) (by unfold vp_in; decide) ?_
                refine m_bipush (v := 18) dX11_readLine_139 (by decide) ?_
                refine m_icmp_ge 148 dX11_readLine_141 (by decide) (fun c105 => ?_) (fun c105 => ?_)
                · replace q := q.1 c105
                  refine m_iconst (v := 0) dX11_readLine_148 (by decide) ?_
                  refine m_iconst (v := 5) dX11_readLine_149 (by decide) ?_
                  refine cl_X11_198 rfl (by decide) dX11_readLine_150 (Nat.le_of_ble_eq_true rfl) (MCi_go q (fun r107 h106 q => ?_))
                  refine m_if_eq 163 dX11_readLine_153 (by decide) (fun c108 => ?_) (fun c108 => ?_)
                  · replace q := q.1 c108
                    refine m_aload_n dX11_readLine_163 rfl ?_
                    refine m_ldcS (i := 6) (tx := "run") dX11_readLine_164 (List.mem_of_getElem? (i := 18) rfl) (by decide) ?_
                    refine m_aload_n dX11_readLine_166 rfl ?_
                    refine gf_X11_23 rfl dX11_readLine_167 ?_
                    refine m_sipush (v := 158) dX11_readLine_170 (by decide) ?_
                    refine m_iaload dX11_readLine_173 rfl (by decide) (by unfold vp_in; decide) ?_
                    refine m_iconst (v := 4) dX11_readLine_174 (by decide) ?_
                    refine m_icmp_ge 182 dX11_readLine_175 (by decide) (fun c109 => ?_) (fun c109 => ?_)
                    · replace q := q.1 c109
                      refine m_iconst (v := 0) dX11_readLine_182 (by decide) ?_
                      refine m_iconst (v := 5) dX11_readLine_183 (by decide) ?_
                      refine cl_X11_198 rfl (by decide) dX11_readLine_184 (Nat.le_of_ble_eq_true rfl) (MCi_go q (fun r111 h110 q => ?_))
                      refine m_if_eq 197 dX11_readLine_187 (by decide) (fun c112 => ?_) (fun c112 => ?_)
                      · replace q := q.1 c112
                        refine m_aload_n dX11_readLine_197 rfl ?_
                        refine m_iconst (v := 1) dX11_readLine_198 (by decide) ?_
                        refine m_aload_n dX11_readLine_199 rfl ?_
                        refine gf_X11_88 rfl dX11_readLine_200 ?_
                        refine cl_X11_134 rfl (by decide) dX11_readLine_203 (Nat.le_of_ble_eq_true rfl) (MCv_go q (fun h113 q => ?_))
                        exact m_vret dX11_readLine_206 rfl q
                      · replace q := q.2 c112
                        refine m_aload_n dX11_readLine_190 rfl ?_
                        refine cl_X11_218 rfl (by decide) dX11_readLine_191 (Nat.le_of_ble_eq_true rfl) (MCv_go q (fun h114 q => ?_))
                        refine m_goto 206 dX11_readLine_194 (by decide) ?_
                        exact m_vret dX11_readLine_206 rfl q
                    · replace q := q.2 c109
                      refine m_iconst (v := 1) dX11_readLine_178 (by decide) ?_
                      refine m_goto 183 dX11_readLine_179 (by decide) ?_
                      refine m_iconst (v := 5) dX11_readLine_183 (by decide) ?_
                      refine cl_X11_198 rfl (by decide) dX11_readLine_184 (Nat.le_of_ble_eq_true rfl) (MCi_go q (fun r116 h115 q => ?_))
                      refine m_if_eq 197 dX11_readLine_187 (by decide) (fun c117 => ?_) (fun c117 => ?_)
                      · replace q := q.1 c117
                        refine m_aload_n dX11_readLine_197 rfl ?_
                        refine m_iconst (v := 1) dX11_readLine_198 (by decide) ?_
                        refine m_aload_n dX11_readLine_199 rfl ?_
                        refine gf_X11_88 rfl dX11_readLine_200 ?_
                        refine cl_X11_134 rfl (by decide) dX11_readLine_203 (Nat.le_of_ble_eq_true rfl) (MCv_go q (fun h118 q => ?_))
                        exact m_vret dX11_readLine_206 rfl q
                      · replace q := q.2 c117
                        refine m_aload_n dX11_readLine_190 rfl ?_
                        refine cl_X11_218 rfl (by decide) dX11_readLine_191 (Nat.le_of_ble_eq_true rfl) (MCv_go q (fun h119 q => ?_))
                        refine m_goto 206 dX11_readLine_194 (by decide) ?_
                        exact m_vret dX11_readLine_206 rfl q
                  · replace q := q.2 c108
                    refine m_aload_n dX11_readLine_156 rfl ?_
                    refine cl_X11_215 rfl (by decide) dX11_readLine_157 (Nat.le_of_ble_eq_true rfl) (MCv_go q (fun h120 q => ?_))
                    refine m_goto 206 dX11_readLine_160 (by decide) ?_
                    exact m_vret dX11_readLine_206 rfl q
                · replace q := q.2 c105
                  refine m_iconst (v := 1) dX11_readLine_144 (by decide) ?_
                  refine m_goto 149 dX11_readLine_145 (by decide) ?_
                  refine m_iconst (v := 5) dX11_readLine_149 (by decide) ?_
                  refine cl_X11_198 rfl (by decide) dX11_readLine_150 (Nat.le_of_ble_eq_true rfl) (MCi_go q (fun r122 h121 q => ?_))
                  refine m_if_eq 163 dX11_readLine_153 (by decide) (fun c123 => ?_) (fun c123 => ?_)
                  · replace q := q.1 c123
                    refine m_aload_n dX11_readLine_163 rfl ?_
                    refine m_ldcS (i := 6) (tx := "run") dX11_readLine_164 (List.mem_of_getElem? (i := 18) rfl) (by decide) ?_
                    refine m_aload_n dX11_readLine_166 rfl ?_
                    refine gf_X11_23 rfl dX11_readLine_167 ?_
                    refine m_sipush (v := 158) dX11_readLine_170 (by decide) ?_
                    refine m_iaload dX11_readLine_173 rfl (by decide) (by unfold vp_in; decide) ?_
                    refine m_iconst (v := 4) dX11_readLine_174 (by decide) ?_
                    refine m_icmp_ge 182 dX11_readLine_175 (by decide) (fun c124 => ?_) (fun c124 => ?_)
                    · replace q := q.1 c124
                      refine m_iconst (v := 0) dX11_readLine_182 (by decide) ?_
                      refine m_iconst (v := 5) dX11_readLine_183 (by decide) ?_
                      refine cl_X11_198 rfl (by decide) dX11_readLine_184 (Nat.le_of_ble_eq_true rfl) (MCi_go q (fun r126 h125 q => ?_))
                      refine m_if_eq 197 dX11_readLine_187 (by decide) (fun c127 => ?_) (fun c127 => ?_)
                      · replace q := q.1 c127
                        refine m_aload_n dX11_readLine_197 rfl ?_
                        refine m_iconst (v := 1) dX11_readLine_198 (by decide) ?_
                        refine m_aload_n dX11_readLine_199 rfl ?_
                        refine gf_X11_88 rfl dX11_readLine_200 ?_
                        refine cl_X11_134 rfl (by decide) dX11_readLine_203 (Nat.le_of_ble_eq_true rfl) (MCv_go q (fun h128 q => ?_))
                        exact m_vret dX11_readLine_206 rfl q
                      · replace q := q.2 c127
                        refine m_aload_n dX11_readLine_190 rfl ?_
                        refine cl_X11_218 rfl (by decide) dX11_readLine_191 (Nat.le_of_ble_eq_true rfl) (MCv_go q (fun h129 q => ?_))
                        refine m_goto 206 dX11_readLine_194 (by decide) ?_
                        exact m_vret dX11_readLine_206 rfl q
                    · replace q := q.2 c124
                      refine m_iconst (v := 1) dX11_readLine_178 (by decide) ?_
                      refine m_goto 183 dX11_readLine_179 (by decide) ?_
                      refine m_iconst (v := 5) dX11_readLine_183 (by decide) ?_
                      refine cl_X11_198 rfl (by decide) dX11_readLine_184 (Nat.le_of_ble_eq_true rfl) (MCi_go q (fun r131 h130 q => ?_))
                      refine m_if_eq 197 dX11_readLine_187 (by decide) (fun c132 => ?_) (fun c132 => ?_)
                      · replace q := q.1 c132
                        refine m_aload_n dX11_readLine_197 rfl ?_
                        refine m_iconst (v := 1) dX11_readLine_198 (by decide) ?_
                        refine m_aload_n dX11_readLine_199 rfl ?_
                        refine gf_X11_88 rfl dX11_readLine_200 ?_
                        refine cl_X11_134 rfl (by decide) dX11_readLine_203 (Nat.le_of_ble_eq_true rfl) (MCv_go q (fun h133 q => ?_))
                        exact m_vret dX11_readLine_206 rfl q
                      · replace q := q.2 c132
                        refine m_aload_n dX11_readLine_190 rfl ?_
                        refine cl_X11_218 rfl (by decide) dX11_readLine_191 (Nat.le_of_ble_eq_true rfl) (MCv_go q (fun h134 q => ?_))
                        refine m_goto 206 dX11_readLine_194 (by decide) ?_
                        exact m_vret dX11_readLine_206 rfl q
                  · replace q := q.2 c123
                    refine m_aload_n dX11_readLine_156 rfl ?_
                    refine cl_X11_215 rfl (by decide) dX11_readLine_157 (Nat.le_of_ble_eq_true rfl) (MCv_go q (fun h135 q => ?_))
                    refine m_goto 206 dX11_readLine_160 (by decide) ?_
                    exact m_vret dX11_readLine_206 rfl q
              · replace q := q.2 c104
                refine m_aload_n dX11_readLine_122 rfl ?_
                refine cl_X11_212 rfl (by decide) dX11_readLine_123 (Nat.le_of_ble_eq_true rfl) (MCv_go q (fun h136 q => ?_))
                refine m_goto 206 dX11_readLine_126 (by decide) ?_
                exact m_vret dX11_readLine_206 rfl q
            · replace q := q.2 c101
              refine m_iconst (v := 1) dX11_readLine_110 (by decide) ?_
              refine m_goto 115 dX11_readLine_111 (by decide) ?_
              refine m_iconst (v := 5) dX11_readLine_115 (by decide) ?_
              refine cl_X11_198 rfl (by decide) dX11_readLine_116 (Nat.le_of_ble_eq_true rfl) (MCi_go q (fun r138 h137 q => ?_))
              refine m_if_eq 129 dX11_readLine_119 (by decide) (fun c139 => ?_) (fun c139 => ?_)
              · replace q := q.1 c139
                refine m_aload_n dX11_readLine_129 rfl ?_
                refine m_ldcS (i := 5) (tx := "ray") dX11_readLine_130 (List.mem_of_getElem? (i := 17) rfl) (by decide) ?_
                refine m_aload_n dX11_readLine_132 rfl ?_
                refine gf_X11_23 rfl dX11_readLine_133 ?_
                refine m_bipush (v := 85) dX11_readLine_136 (by decide) ?_
                refine m_iaload dX11_readLine_138 rfl (by decide) (by unfold vp_in; decide) ?_
                refine m_bipush (v := 18) dX11_readLine_139 (by decide) ?_
                refine m_icmp_ge 148 dX11_readLine_141 (by decide) (fun c140 => ?_) (fun c140 => ?_)
                · replace q := q.1 c140
                  refine m_iconst (v := 0) dX11_readLine_148 (by decide) ?_
                  refine m_iconst (v := 5) dX11_readLine_149 (by decide) ?_
                  refine cl_X11_198 rfl (by decide) dX11_readLine_150 (Nat.le_of_ble_eq_true rfl) (MCi_go q (fun r142 h141 q => ?_))
                  refine m_if_eq 163 dX11_readLine_153 (by decide) (fun c143 => ?_) (fun c143 => ?_)
                  · replace q := q.1 c143
                    refine m_aload_n dX11_readLine_163 rfl ?_
                    refine m_ldcS (i := 6) (tx := "run") dX11_readLine_164 (List.mem_of_getElem? (i := 18) rfl) (by decide) ?_
                    refine m_aload_n dX11_readLine_166 rfl ?_
                    refine gf_X11_23 rfl dX11_readLine_167 ?_
                    refine m_sipush (v := 158) dX11_readLine_170 (by decide) ?_
                    refine m_iaload dX11_readLine_173 rfl (by decide) (by unfold vp_in; decide) ?_
                    refine m_iconst (v := 4) dX11_readLine_174 (by decide) ?_
                    refine m_icmp_ge 182 dX11_readLine_175 (by decide) (fun c144 => ?_) (fun c144 => ?_)
                    · replace q := q.1 c144
                      refine m_iconst (v := 0) dX11_readLine_182 (by decide) ?_
                      refine m_iconst (v := 5) dX11_readLine_183 (by decide) ?_
                      refine cl_X11_198 rfl (by decide) dX11_readLine_184 (Nat.le_of_ble_eq_true rfl) (MCi_go q (fun r146 h145 q => ?_))
                      refine m_if_eq 197 dX11_readLine_187 (by decide) (fun c147 => ?_) (fun c147 => ?_)
                      · replace q := q.1 c147
                        refine m_aload_n dX11_readLine_197 rfl ?_
                        refine m_iconst (v := 1) dX11_readLine_198 (by decide) ?_
                        refine m_aload_n dX11_readLine_199 rfl ?_
                        refine gf_X11_88 rfl dX11_readLine_200 ?_
                        refine cl_X11_134 rfl (by decide) dX11_readLine_203 (Nat.le_of_ble_eq_true rfl) (MCv_go q (fun h148 q => ?_))
                        exact m_vret dX11_readLine_206 rfl q
                      · replace q := q.2 c147
                        refine m_aload_n dX11_readLine_190 rfl ?_
                        refine cl_X11_218 rfl (by decide) dX11_readLine_191 (Nat.le_of_ble_eq_true rfl) (MCv_go q (fun h149 q => ?_))
                        refine m_goto 206 dX11_readLine_194 (by decide) ?_
                        exact m_vret dX11_readLine_206 rfl q
                    · replace q := q.2 c144
                      refine m_iconst (v := 1) dX11_readLine_178 (by decide) ?_
                      refine m_goto 183 dX11_readLine_179 (by decide) ?_
                      refine m_iconst (v := 5) dX11_readLine_183 (by decide) ?_
                      refine cl_X11_198 rfl (by decide) dX11_readLine_184 (Nat.le_of_ble_eq_true rfl) (MCi_go q (fun r151 h150 q => ?_))
                      refine m_if_eq 197 dX11_readLine_187 (by decide) (fun c152 => ?_) (fun c152 => ?_)
                      · replace q := q.1 c152
                        refine m_aload_n dX11_readLine_197 rfl ?_
                        refine m_iconst (v := 1) dX11_readLine_198 (by decide) ?_
                        refine m_aload_n dX11_readLine_199 rfl ?_
                        refine gf_X11_88 rfl dX11_readLine_200 ?_
                        refine cl_X11_134 rfl (by decide) dX11_readLine_203 (Nat.le_of_ble_eq_true rfl) (MCv_go q (fun h153 q => ?_))
                        exact m_vret dX11_readLine_206 rfl q
                      · replace q := q.2 c152
                        refine m_aload_n dX11_readLine_190 rfl ?_
                        refine cl_X11_218 rfl (by decide) dX11_readLine_191 (Nat.le_of_ble_eq_true rfl) (MCv_go q (fun h154 q => ?_))
                        refine m_goto 206 dX11_readLine_194 (by decide) ?_
                        exact m_vret dX11_readLine_206 rfl q
                  · replace q := q.2 c143
                    refine m_aload_n dX11_readLine_156 rfl ?_
                    refine cl_X11_215 rfl (by decide) dX11_readLine_157 (Nat.le_of_ble_eq_true rfl) (MCv_go q (fun h155 q => ?_))
                    refine m_goto 206 dX11_readLine_160 (by decide) ?_
                    exact m_vret dX11_readLine_206 rfl q
                · replace q := q.2 c140
                  refine m_iconst (v := 1) dX11_readLine_144 (by decide) ?_
                  refine m_goto 149 dX11_readLine_145 (by decide) ?_
                  refine m_iconst (v := 5) dX11_readLine_149 (by decide) ?_
                  refine cl_X11_198 rfl (by decide) dX11_readLine_150 (Nat.le_of_ble_eq_true rfl) (MCi_go q (fun r157 h156 q => ?_))
                  refine m_if_eq 163 dX11_readLine_153 (by decide) (fun c158 => ?_) (fun c158 => ?_)
                  · replace q := q.1 c158
                    refine m_aload_n dX11_readLine_163 rfl ?_
                    refine m_ldcS (i := 6) (tx := "run") dX11_readLine_164 (List.mem_of_getElem? (i := 18) rfl) (by decide) ?_
                    refine m_aload_n dX11_readLine_166 rfl ?_
                    refine gf_X11_23 rfl dX11_readLine_167 ?_
                    refine m_sipush (v := 158) dX11_readLine_170 (by decide) ?_
                    refine m_iaload dX11_readLine_173 rfl (by decide) (by unfold vp_in; decide) ?_
                    refine m_iconst (v := 4) dX11_readLine_174 (by decide) ?_
                    refine m_icmp_ge 182 dX11_readLine_175 (by decide) (fun c159 => ?_) (fun c159 => ?_)
                    · replace q := q.1 c159
                      refine m_iconst (v := 0) dX11_readLine_182 (by decide) ?_
                      refine m_iconst (v := 5) dX11_readLine_183 (by decide) ?_
                      refine cl_X11_198 rfl (by decide) dX11_readLine_184 (Nat.le_of_ble_eq_true rfl) (MCi_go q (fun r161 h160 q => ?_))
                      refine m_if_eq 197 dX11_readLine_187 (by decide) (fun c162 => ?_) (fun c162 => ?_)
                      · replace q := q.1 c162
                        refine m_aload_n dX11_readLine_197 rfl ?_
                        refine m_iconst (v := 1) dX11_readLine_198 (by decide) ?_
                        refine m_aload_n dX11_readLine_199 rfl ?_
                        refine gf_X11_88 rfl dX11_readLine_200 ?_
                        refine cl_X11_134 rfl (by decide) dX11_readLine_203 (Nat.le_of_ble_eq_true rfl) (MCv_go q (fun h163 q => ?_))
                        exact m_vret dX11_readLine_206 rfl q
                      · replace q := q.2 c162
                        refine m_aload_n dX11_readLine_190 rfl ?_
                        refine cl_X11_218 rfl (by decide) dX11_readLine_191 (Nat.le_of_ble_eq_true rfl) (MCv_go q (fun h164 q => ?_))
                        refine m_goto 206 dX11_readLine_194 (by decide) ?_
                        exact m_vret dX11_readLine_206 rfl q
                    · replace q := q.2 c159
                      refine m_iconst (v := 1) dX11_readLine_178 (by decide) ?_
                      refine m_goto 183 dX11_readLine_179 (by decide) ?_
                      refine m_iconst (v := 5) dX11_readLine_183 (by decide) ?_
                      refine cl_X11_198 rfl (by decide) dX11_readLine_184 (Nat.le_of_ble_eq_true rfl) (MCi_go q (fun r166 h165 q => ?_))
                      refine m_if_eq 197 dX11_readLine_187 (by decide) (fun c167 => ?_) (fun c167 => ?_)
                      · replace q := q.1 c167
                        refine m_aload_n dX11_readLine_197 rfl ?_
                        refine m_iconst (v := 1) dX11_readLine_198 (by decide) ?_
                        refine m_aload_n dX11_readLine_199 rfl ?_
                        refine gf_X11_88 rfl dX11_readLine_200 ?_
                        refine cl_X11_134 rfl (by decide) dX11_readLine_203 (Nat.le_of_ble_eq_true rfl) (MCv_go q (fun h168 q => ?_))
                        exact m_vret dX11_readLine_206 rfl q
                      · replace q := q.2 c167
                        refine m_aload_n dX11_readLine_190 rfl ?_
                        refine cl_X11_218 rfl (by decide) dX11_readLine_191 (Nat.le_of_ble_eq_true rfl) (MCv_go q (fun h169 q => ?_))
                        refine m_goto 206 dX11_readLine_194 (by decide) ?_
                        exact m_vret dX11_readLine_206 rfl q
                  · replace q := q.2 c158
                    refine m_aload_n dX11_readLine_156 rfl ?_
                    refine cl_X11_215 rfl (by decide) dX11_readLine_157 (Nat.le_of_ble_eq_true rfl) (MCv_go q (fun h170 q => ?_))
                    refine m_goto 206 dX11_readLine_160 (by decide) ?_
                    exact m_vret dX11_readLine_206 rfl q
              · replace q := q.2 c139
                refine m_aload_n dX11_readLine_122 rfl ?_
                refine cl_X11_212 rfl (by decide) dX11_readLine_123 (Nat.le_of_ble_eq_true rfl) (MCv_go q (fun h171 q => ?_))
                refine m_goto 206 dX11_readLine_126 (by decide) ?_
                exact m_vret dX11_readLine_206 rfl q
          · replace q := q.2 c100
            refine m_aload_n dX11_readLine_88 rfl ?_
            refine cl_X11_209 rfl (by decide) dX11_readLine_89 (Nat.le_of_ble_eq_true rfl) (MCv_go q (fun h172 q => ?_))
            refine m_goto 206 dX11_readLine_92 (by decide) ?_
            exact m_vret dX11_readLine_206 rfl q
        · replace q := q.2 c97
          refine m_aload_n dX11_readLine_66 rfl ?_
          refine m_bipush (v := 51) dX11_readLine_67 (by decide) ?_
          refine m_bipush (v := 6) dX11_readLine_69 (by decide) ?_
          refine m_bipush (v := 9) dX11_readLine_71 (by decide) ?_
          refine cl_X11_205 rfl (by decide) dX11_readLine_73 (Nat.le_of_ble_eq_true rfl) (MCv_go q (fun h173 q => ?_))
          refine m_goto 206 dX11_readLine_76 (by decide) ?_
          exact m_vret dX11_readLine_206 rfl q
      · replace q := q.2 c94
        refine m_aload_n dX11_readLine_43 rfl ?_
        refine m_bipush (v := 50) dX11_readLine_44 (by decide) ?_
        refine m_iconst (v := 0) dX11_readLine_46 (by decide) ?_
        refine m_bipush (v := 6) dX11_readLine_47 (by decide) ?_
        refine cl_X11_205 rfl (by decide) dX11_readLine_49 (Nat.le_of_ble_eq_true rfl) (MCv_go q (fun h174 q => ?_))
        refine m_goto 206 dX11_readLine_52 (by decide) ?_
        exact m_vret dX11_readLine_206 rfl q
    · replace q := q.2 c91
      refine m_aload_n dX11_readLine_25 rfl ?_
      refine cl_X11_202 rfl (by decide) dX11_readLine_26 (Nat.le_of_ble_eq_true rfl) (MCv_go q (fun h175 q => ?_))
      refine m_goto 206 dX11_readLine_29 (by decide) ?_
      exact m_vret dX11_readLine_206 rfl q
set_option maxRecDepth 100000 in
theorem e_X11_lawLine {g : gT} {h : mh_T} {P : mh_T → Prop}  (q : MCv g yX11_pass uX11_pass [.ref 11, .ref (1000 + 7)] h (fun h1 => MCi g yX11_number uX11_number [.ref 11, .int 1, .int 60] h1 (fun r3 h2 => (¬ (mI h2 11 13) = 0 → P h2) ∧ ((mI h2 11 13) = 0 → P (wI h2 46 (Int32.toNatClampNeg 49) r3))))) : MCv g yX11_lawLine uX11_lawLine [.ref 11] h P := by
  refine m_enter (by decide) rfl (Nat.le_of_ble_eq_true rfl) (lv := [.ref 11, .retAddr 0]) rfl ?_
  refine m_aload_n dX11_lawLine_0 rfl ?_
  refine m_ldcS (i := 7) (tx := "of") dX11_lawLine_1 (List.mem_of_getElem? (i := 19) rfl) (by decide) ?_
  refine cl_X11_223 rfl (by decide) dX11_lawLine_3 (Nat.le_of_ble_eq_true rfl) (MCv_go q (fun h1 q => ?_))
  refine m_aload_n dX11_lawLine_6 rfl ?_
  refine m_iconst (v := 1) dX11_lawLine_7 (by decide) ?_
  refine m_bipush (v := 60) dX11_lawLine_8 (by decide) ?_
  refine cl_X11_227 rfl (by decide) dX11_lawLine_10 (Nat.le_of_ble_eq_true rfl) (MCi_go q (fun r3 h2 q => ?_))
  refine m_istore_n (lv' := [.ref 11, .int r3]) dX11_lawLine_13 (Nat.le_of_ble_eq_true rfl) rfl rfl ?_
  refine m_aload_n dX11_lawLine_14 rfl ?_
  refine gf_X11_107 rfl dX11_lawLine_15 ?_
  refine m_if_ne 29 dX11_lawLine_18 (by decide) (fun c4 => ?_) (fun c4 => ?_)
  · replace q := q.1 c4
    exact m_vret dX11_lawLine_29 rfl q
  · replace q := q.2 c4
    refine m_aload_n dX11_lawLine_21 rfl ?_
    refine gf_X11_23 rfl dX11_lawLine_22 ?_
    refine m_bipush (v := 49) dX11_lawLine_25 (by decide) ?_
    refine m_iload_n dX11_lawLine_27 rfl ?_
    refine m_iastore dX11_lawLine_28 rfl (by decide) (by unfold vp_in; decide) ?_
    exact m_vret dX11_lawLine_29 rfl q
set_option maxRecDepth 100000 in
theorem e_X11_setLine {g : gT} {h : mh_T} {P : mh_T → Prop}  (q : (¬ (mI h 46 (Int32.toNatClampNeg 0)) = 8 → (¬ (mI h 46 (Int32.toNatClampNeg 49)) = 0 → ((mI h 11 13) = 0 → MCv g yX11_next uX11_next [.ref 11] h (fun h4 => ∀ x5 : Int32, x5 = (mI h4 46 (Int32.toNatClampNeg 0)) → MCi g yX11_passed uX11_passed [.ref 11, .int 1, .int 0] h4 (fun r7 h6 => (vp_in (1 + x5) 346) ∧ ((vp_in (9 + x5) 346) ∧ (MCi g yX11_comma uX11_comma [.ref 11] (wI (wI h6 46 (1 + x5).toNatClampNeg r7) 46 (9 + x5).toNatClampNeg (-2)) (fun r11 h10 => (r11 = 0 → MCv g yX11_pass uX11_pass [.ref 11, .ref (1000 + 8)] h10 (fun h13 => (vp_in (9 + x5) 346) ∧ ((¬ (mI h13 46 (9 + x5).toNatClampNeg) = (-2) → ME g uX11_setLine 142 [.ref 11, .int x5, .int r7, .int 4, .int 0, .int 0, .retAddr 0, .retAddr 0] [] h13 (qV P)) ∧ ((mI h13 46 (9 + x5).toNatClampNeg) = (-2) → ME g uX11_setLine 142 [.ref 11, .int x5, .int r7, .int 2, .int 0, .int 0, .retAddr 0, .retAddr 0] [] h13 (qV P))))) ∧ (¬ r11 = 0 → MCi g yX11_passed uX11_passed [.ref 11, .int 1, .int (1 <<< (r7 &&& 31))] h10 (fun r17 h16 => (vp_in (9 + x5) 346) ∧ (MCv g yX11_pass uX11_pass [.ref 11, .ref (1000 + 8)] (wI h16 46 (9 + x5).toNatClampNeg r17) (fun h19 => (vp_in (9 + x5) 346) ∧ ((¬ (mI h19 46 (9 + x5).toNatClampNeg) = (-2) → ME g uX11_setLine 142 [.ref 11, .int x5, .int r7, .int 4, .int 0, .int 0, .retAddr 0, .retAddr 0] [] h19 (qV P)) ∧ ((mI h19 46 (9 + x5).toNatClampNeg) = (-2) → ME g uX11_setLine 142 [.ref 11, .int x5, .int r7, .int 2, .int 0, .int 0, .retAddr 0, .retAddr 0] [] h19 (qV P))))))))))))) ∧ (¬ (mI h 11 13) = 0 → P h)) ∧ ((mI h 46 (Int32.toNatClampNeg 49)) = 0 → MCv g yX11_wrong uX11_wrong [.ref 11, .int 6, .int (mI h 11 4)] h (fun h22 => ((mI h22 11 13) = 0 → MCv g yX11_next uX11_next [.ref 11] h22 (fun h24 => ∀ x25 : Int32, x25 = (mI h24 46 (Int32.toNatClampNeg 0)) → MCi g yX11_passed uX11_passed [.ref 11, .int 1, .int 0] h24 (fun r27 h26 => (vp_in (1 + x25) 346) ∧ ((vp_in (9 + x25) 346) ∧ (MCi g yX11_comma uX11_comma [.ref 11] (wI (wI h26 46 (1 + x25).toNatClampNeg r27) 46 (9 + x25).toNatClampNeg (-2)) (fun r31 h30 => (r31 = 0 → MCv g yX11_pass uX11_pass [.ref 11, .ref (1000 + 8)] h30 (fun h33 => (vp_in (9 + x25) 346) ∧ ((¬ (mI h33 46 (9 + x25).toNatClampNeg) = (-2) → ME g uX11_setLine 142 [.ref 11, .int x25, .int r27, .int 4, .int 0, .int 0, .retAddr 0, .retAddr 0] [] h33 (qV P)) ∧ ((mI h33 46 (9 + x25).toNatClampNeg) = (-2) → ME g uX11_setLine 142 [.ref 11, .int x25, .int r27, .int 2, .int 0, .int 0, .retAddr 0, .retAddr 0] [] h33 (qV P))))) ∧ (¬ r31 = 0 → MCi g yX11_passed uX11_passed [.ref 11, .int 1, .int (1 <<< (r27 &&& 31))] h30 (fun r37 h36 => (vp_in (9 + x25) 346) ∧ (MCv g yX11_pass uX11_pass [.ref 11, .ref (1000 + 8)] (wI h36 46 (9 + x25).toNatClampNeg r37) (fun h39 => (vp_in (9 + x25) 346) ∧ ((¬ (mI h39 46 (9 + x25).toNatClampNeg) = (-2) → ME g uX11_setLine 142 [.ref 11, .int x25, .int r27, .int 4, .int 0, .int 0, .retAddr 0, .retAddr 0] [] h39 (qV P)) ∧ ((mI h39 46 (9 + x25).toNatClampNeg) = (-2) → ME g uX11_setLine 142 [.ref 11, .int x25, .int r27, .int 2, .int 0, .int 0, .retAddr 0, .retAddr 0] [] h39 (qV P))))))))))))) ∧ (¬ (mI h22 11 13) = 0 → P h22)))) ∧ ((mI h 46 (Int32.toNatClampNeg 0)) = 8 → MCv g yX11_wrong uX11_wrong [.ref 11, .int 5, .int (mI h 11 4)] h (fun h42 => (¬ (mI h42 46 (Int32.toNatClampNeg 49)) = 0 → ((mI h42 11 13) = 0 → MCv g yX11_next uX11_next [.ref 11] h42 (fun h45 => ∀ x46 : Int32, x46 = (mI h45 46 (Int32.toNatClampNeg 0)) → MCi g yX11_passed uX11_passed [.ref 11, .int 1, .int 0] h45 (fun r48 h47 => (vp_in (1 + x46) 346) ∧ ((vp_in (9 + x46) 346) ∧ (MCi g yX11_comma uX11_comma [.ref 11] (wI (wI h47 46 (1 + x46).toNatClampNeg r48) 46 (9 + x46).toNatClampNeg (-2)) (fun r52 h51 => (r52 = 0 → MCv g yX11_pass uX11_pass [.ref 11, .ref (1000 + 8)] h51 (fun h54 => (vp_in (9 + x46) 346) ∧ ((¬ (mI h54 46 (9 + x46).toNatClampNeg) = (-2) → ME g uX11_setLine 142 [.ref 11, .int x46, .int r48, .int 4, .int 0, .int 0, .retAddr 0, .retAddr 0] [] h54 (qV P)) ∧ ((mI h54 46 (9 + x46).toNatClampNeg) = (-2) → ME g uX11_setLine 142 [.ref 11, .int x46, .int r48, .int 2, .int 0, .int 0, .retAddr 0, .retAddr 0] [] h54 (qV P))))) ∧ (¬ r52 = 0 → MCi g yX11_passed uX11_passed [.ref 11, .int 1, .int (1 <<< (r48 &&& 31))] h51 (fun r58 h57 => (vp_in (9 + x46) 346) ∧ (MCv g yX11_pass uX11_pass [.ref 11, .ref (1000 + 8)] (wI h57 46 (9 + x46).toNatClampNeg r58) (fun h60 => (vp_in (9 + x46) 346) ∧ ((¬ (mI h60 46 (9 + x46).toNatClampNeg) = (-2) → ME g uX11_setLine 142 [.ref 11, .int x46, .int r48, .int 4, .int 0, .int 0, .retAddr 0, .retAddr 0] [] h60 (qV P)) ∧ ((mI h60 46 (9 + x46).toNatClampNeg) = (-2) → ME g uX11_setLine 142 [.ref 11, .int x46, .int r48, .int 2, .int 0, .int 0, .retAddr 0, .retAddr 0] [] h60 (qV P))))))))))))) ∧ (¬ (mI h42 11 13) = 0 → P h42)) ∧ ((mI h42 46 (Int32.toNatClampNeg 49)) = 0 → MCv g yX11_wrong uX11_wrong [.ref 11, .int 6, .int (mI h42 11 4)] h42 (fun h63 => ((mI h63 11 13) = 0 → MCv g yX11_next uX11_next [.ref 11] h63 (fun h65 => ∀ x66 : Int32, x66 = (mI h65 46 (Int32.toNatClampNeg 0)) → MCi g yX11_passed uX11_passed [.ref 11, .int 1, .int 0] h65 (fun r68 h67 => (vp_in (1 + x66) 346) ∧ ((vp_in (9 + x66) 346) ∧ (MCi g yX11_comma uX11_comma [.ref 11] (wI (wI h67 46 (1 + x66).toNatClampNeg r68) 46 (9 + x66).toNatClampNeg (-2)) (fun r72 h71 => (r72 = 0 → MCv g yX11_pass uX11_pass [.ref 11, .ref (1000 + 8)] h71 (fun h74 => (vp_in (9 + x66) 346) ∧ ((¬ (mI h74 46 (9 + x66).toNatClampNeg) = (-2) → ME g uX11_setLine 142 [.ref 11, .int x66, .int r68, .int 4, .int 0, .int 0, .retAddr 0, .retAddr 0] [] h74 (qV P)) ∧ ((mI h74 46 (9 + x66).toNatClampNeg) = (-2) → ME g uX11_setLine 142 [.ref 11, .int x66, .int r68, .int 2, .int 0, .int 0, .retAddr 0, .retAddr 0] [] h74 (qV P))))) ∧ (¬ r72 = 0 → MCi g yX11_passed uX11_passed [.ref 11, .int 1, .int (1 <<< (r68 &&& 31))] h71 (fun r78 h77 => (vp_in (9 + x66) 346) ∧ (MCv g yX11_pass uX11_pass [.ref 11, .ref (1000 + 8)] (wI h77 46 (9 + x66).toNatClampNeg r78) (fun h80 => (vp_in (9 + x66) 346) ∧ ((¬ (mI h80 46 (9 + x66).toNatClampNeg) = (-2) → ME g uX11_setLine 142 [.ref 11, .int x66, .int r68, .int 4, .int 0, .int 0, .retAddr 0, .retAddr 0] [] h80 (qV P)) ∧ ((mI h80 46 (9 + x66).toNatClampNeg) = (-2) → ME g uX11_setLine 142 [.ref 11, .int x66, .int r68, .int 2, .int 0, .int 0, .retAddr 0, .retAddr 0] [] h80 (qV P))))))))))))) ∧ (¬ (mI h63 11 13) = 0 → P h63)))))) : MCv g yX11_setLine uX11_setLine [.ref 11] h P := by
  refine m_enter (by decide) rfl (Nat.le_of_ble_eq_true rfl) (lv := [.ref 11, .retAddr 0, .retAddr 0, .retAddr 0, .retAddr 0, .retAddr 0, .retAddr 0, .retAddr 0]) rfl ?_
  refine m_aload_n dX11_setLine_0 rfl ?_
  refine gf_X11_23 rfl dX11_setLine_1 ?_
  refine m_iconst (v := 0) dX11_setLine_4 (by decide) ?_
  refine m_iaload dX11_setLine_5 rfl (by decide) (by unfold vp_in; decide) ?_
  refine m_bipush (v := 8) dX11_setLine_6 (by decide) ?_
  refine m_icmp_ne 20 dX11_setLine_8 (by decide) (fun c1 => ?_) (fun c1 => ?_)
  · replace q := q.1 c1
    refine m_aload_n dX11_setLine_20 rfl ?_
    refine gf_X11_23 rfl dX11_setLine_21 ?_
    refine m_bipush (v := 49) dX11_setLine_24 (by decide) ?_
    refine m_iaload dX11_setLine_26 rfl (by decide) (by unfold vp_in; decide) ?_
    refine m_if_ne 40 dX11_setLine_27 (by decide) (fun c2 => ?_) (fun c2 => ?_)
    · replace q := q.1 c2
      refine m_aload_n dX11_setLine_40 rfl ?_
      refine gf_X11_107 rfl dX11_setLine_41 ?_
      refine m_if_eq 48 dX11_setLine_44 (by decide) (fun c3 => ?_) (fun c3 => ?_)
      · replace q := q.1 c3
        refine m_aload_n dX11_setLine_48 rfl ?_
        refine cl_X11_128 rfl (by decide) dX11_setLine_49 (Nat.le_of_ble_eq_true rfl) (MCv_go q (fun h4 q => ?_))
        refine m_aload_n dX11_setLine_52 rfl ?_
        refine gf_X11_23 rfl dX11_setLine_53 ?_
        refine m_iconst (v := 0) dX11_setLine_56 (by decide) ?_
        refine m_iaload dX11_setLine_57 rfl (by decide) (by unfold vp_in; decide) ?_
        obtain ⟨x5, ex5⟩ : ∃ z, z = (mI h4 46 (Int32.toNatClampNeg 0)) := ⟨_, rfl⟩
        rw [← ex5]
        replace q := q x5 ex5
        refine m_istore_n (lv' := [.ref 11, .int x5, .retAddr 0, .retAddr 0, .retAddr 0, .retAddr 0, .retAddr 0, .retAddr 0]) dX11_setLine_58 (Nat.le_of_ble_eq_true rfl) rfl rfl ?_
        refine m_aload_n dX11_setLine_59 rfl ?_
        refine m_iconst (v := 1) dX11_setLine_60 (by decide) ?_
        refine m_iconst (v := 0) dX11_setLine_61 (by decide) ?_
        refine cl_X11_231 rfl (by decide) dX11_setLine_62 (Nat.le_of_ble_eq_true rfl) (MCi_go q (fun r7 h6 q => ?_))
        refine m_istore_n (lv' := [.ref 11, .int x5, .int r7, .retAddr 0, .retAddr 0, .retAddr 0, .retAddr 0, .retAddr 0]) dX11_setLine_65 (Nat.le_of_ble_eq_true rfl) rfl rfl ?_
        refine m_aload_n dX11_setLine_66 rfl ?_
        refine gf_X11_23 rfl dX11_setLine_67 ?_
        refine m_iconst (v := 1) dX11_setLine_70 (by decide) ?_
        refine m_iload_n dX11_setLine_71 rfl ?_
        refine m_iadd dX11_setLine_72 ?_
        refine m_iload_n dX11_setLine_73 rfl ?_
        obtain ⟨b8, q⟩ := q
        refine m_iastore dX11_setLine_74 rfl (by decide) b8 ?_
        refine m_aload_n dX11_setLine_75 rfl ?_
        refine gf_X11_23 rfl dX11_setLine_76 ?_
        refine m_bipush (v := 9) dX11_setLine_79 (by decide) ?_
        refine m_iload_n dX11_setLine_81 rfl ?_
        refine m_iadd dX11_setLine_82 ?_
        refine m_bipush (v := (-2)) dX11_setLine_83 (by decide) ?_
        obtain ⟨b9, q⟩ := q
        refine m_iastore dX11_setLine_85 rfl (by decide) b9 ?_
        refine m_aload_n dX11_setLine_86 rfl ?_
        refine cl_X11_158 rfl (by decide) dX11_setLine_87 (Nat.le_of_ble_eq_true rfl) (MCi_go q (fun r11 h10 q => ?_))
        refine m_if_eq 110 dX11_setLine_90 (by decide) (fun c12 => ?_) (fun c12 => ?_)
        · replace q := q.1 c12
          refine m_aload_n dX11_setLine_110 rfl ?_
          refine m_ldcS (i := 8) (tx := "tells") dX11_setLine_111 (List.mem_of_getElem? (i := 20) rfl) (by decide) ?_
          refine cl_X11_223 rfl (by decide) dX11_setLine_113 (Nat.le_of_ble_eq_true rfl) (MCv_go q (fun h13 q => ?_))
          refine m_aload_n dX11_setLine_116 rfl ?_
          refine gf_X11_23 rfl dX11_setLine_117 ?_
          refine m_bipush (v := 9) dX11_setLine_120 (by decide) ?_
          refine m_iload_n dX11_setLine_122 rfl ?_
          refine m_iadd dX11_setLine_123 ?_
          obtain ⟨b14, q⟩ := q
          refine m_iaload dX11_setLine_124 rfl (by decide) b14 ?_
          refine m_bipush (v := (-2)) dX11_setLine_125 (by decide) ?_
          refine m_icmp_ne 134 dX11_setLine_127 (by decide) (fun c15 => ?_) (fun c15 => ?_)
          · replace q := q.1 c15
            refine m_iconst (v := 4) dX11_setLine_134 (by decide) ?_
            refine m_istore_n (lv' := [.ref 11, .int x5, .int r7, .int 4, .retAddr 0, .retAddr 0, .retAddr 0, .retAddr 0]) dX11_setLine_135 (Nat.le_of_ble_eq_true rfl) rfl rfl ?_
            refine m_iconst (v := 0) dX11_setLine_136 (by decide) ?_
            refine m_istore (lv' := [.ref 11, .int x5, .int r7, .int 4, .int 0, .retAddr 0, .retAddr 0, .retAddr 0]) dX11_setLine_137 (Nat.le_of_ble_eq_true rfl) rfl rfl ?_
            refine m_iconst (v := 0) dX11_setLine_139 (by decide) ?_
            refine m_istore (lv' := [.ref 11, .int x5, .int r7, .int 4, .int 0, .int 0, .retAddr 0, .retAddr 0]) dX11_setLine_140 (Nat.le_of_ble_eq_true rfl) rfl rfl ?_
            exact q
          · replace q := q.2 c15
            refine m_iconst (v := 2) dX11_setLine_130 (by decide) ?_
            refine m_goto 135 dX11_setLine_131 (by decide) ?_
            refine m_istore_n (lv' := [.ref 11, .int x5, .int r7, .int 2, .retAddr 0, .retAddr 0, .retAddr 0, .retAddr 0]) dX11_setLine_135 (Nat.le_of_ble_eq_true rfl) rfl rfl ?_
            refine m_iconst (v := 0) dX11_setLine_136 (by decide) ?_
            refine m_istore (lv' := [.ref 11, .int x5, .int r7, .int 2, .int 0, .retAddr 0, .retAddr 0, .retAddr 0]) dX11_setLine_137 (Nat.le_of_ble_eq_true rfl) rfl rfl ?_
            refine m_iconst (v := 0) dX11_setLine_139 (by decide) ?_
            refine m_istore (lv' := [.ref 11, .int x5, .int r7, .int 2, .int 0, .int 0, .retAddr 0, .retAddr 0]) dX11_setLine_140 (Nat.le_of_ble_eq_true rfl) rfl rfl ?_
            exact q
        · replace q := q.2 c12
          refine m_aload_n dX11_setLine_93 rfl ?_
          refine gf_X11_23 rfl dX11_setLine_94 ?_
          refine m_bipush (v := 9) dX11_setLine_97 (by decide) ?_
          refine m_iload_n dX11_setLine_99 rfl ?_
          refine m_iadd dX11_setLine_100 ?_
          refine m_aload_n dX11_setLine_101 rfl ?_
          refine m_iconst (v := 1) dX11_setLine_102 (by decide) ?_
          refine m_iconst (v := 1) dX11_setLine_103 (by decide) ?_
          refine m_iload_n dX11_setLine_104 rfl ?_
          refine m_ishl dX11_setLine_105 ?_
          refine cl_X11_231 rfl (by decide) dX11_setLine_106 (Nat.le_of_ble_eq_true rfl) (MCi_go q (fun r17 h16 q => ?_))
          obtain ⟨b18, q⟩ := q
          refine m_iastore dX11_setLine_109 rfl (by decide) b18 ?_
          refine m_aload_n dX11_setLine_110 rfl ?_
          refine m_ldcS (i := 8) (tx := "tells") dX11_setLine_111 (List.mem_of_getElem? (i := 20) rfl) (by decide) ?_
          refine cl_X11_223 rfl (by decide) dX11_setLine_113 (Nat.le_of_ble_eq_true rfl) (MCv_go q (fun h19 q => ?_))
          refine m_aload_n dX11_setLine_116 rfl ?_
          refine gf_X11_23 rfl dX11_setLine_117 ?_
          refine m_bipush (v := 9) dX11_setLine_120 (by decide) ?_
          refine m_iload_n dX11_setLine_122 rfl ?_
          refine m_iadd dX11_setLine_123 ?_
          obtain ⟨b20, q⟩ := q
          refine m_iaload dX11_setLine_124 rfl (by decide) b20 ?_
          refine m_bipush (v := (-2)) dX11_setLine_125 (by decide) ?_
          refine m_icmp_ne 134 dX11_setLine_127 (by decide) (fun c21 => ?_) (fun c21 => ?_)
          · replace q := q.1 c21
            refine m_iconst (v := 4) dX11_setLine_134 (by decide) ?_
            refine m_istore_n (lv' := [.ref 11, .int x5, .int r7, .int 4, .retAddr 0, .retAddr 0, .retAddr 0, .retAddr 0]) dX11_setLine_135 (Nat.le_of_ble_eq_true rfl) rfl rfl ?_
            refine m_iconst (v := 0) dX11_setLine_136 (by decide) ?_
            refine m_istore (lv' := [.ref 11, .int x5, .int r7, .int 4, .int 0, .retAddr 0, .retAddr 0, .retAddr 0]) dX11_setLine_137 (Nat.le_of_ble_eq_true rfl) rfl rfl ?_
            refine m_iconst (v := 0) dX11_setLine_139 (by decide) ?_
            refine m_istore (lv' := [.ref 11, .int x5, .int r7, .int 4, .int 0, .int 0, .retAddr 0, .retAddr 0]) dX11_setLine_140 (Nat.le_of_ble_eq_true rfl) rfl rfl ?_
            exact q
          · replace q := q.2 c21
            refine m_iconst (v := 2) dX11_setLine_130 (by decide) ?_
            refine m_goto 135 dX11_setLine_131 (by decide) ?_
            refine m_istore_n (lv' := [.ref 11, .int x5, .int r7, .int 2, .retAddr 0, .retAddr 0, .retAddr 0, .retAddr 0]) dX11_setLine_135 (Nat.le_of_ble_eq_true rfl) rfl rfl ?_
            refine m_iconst (v := 0) dX11_setLine_136 (by decide) ?_
            refine m_istore (lv' := [.ref 11, .int x5, .int r7, .int 2, .int 0, .retAddr 0, .retAddr 0, .retAddr 0]) dX11_setLine_137 (Nat.le_of_ble_eq_true rfl) rfl rfl ?_
            refine m_iconst (v := 0) dX11_setLine_139 (by decide) ?_
            refine m_istore (lv' := [.ref 11, .int x5, .int r7, .int 2, .int 0, .int 0, .retAddr 0, .retAddr 0]) dX11_setLine_140 (Nat.le_of_ble_eq_true rfl) rfl rfl ?_
            exact q
      · replace q := q.2 c3
        exact m_vret dX11_setLine_47 rfl q
    · replace q := q.2 c2
      refine m_aload_n dX11_setLine_30 rfl ?_
      refine m_bipush (v := 6) dX11_setLine_31 (by decide) ?_
      refine m_aload_n dX11_setLine_33 rfl ?_
      refine gf_X11_88 rfl dX11_setLine_34 ?_
      refine cl_X11_134 rfl (by decide) dX11_setLine_37 (Nat.le_of_ble_eq_true rfl) (MCv_go q (fun h22 q => ?_))
      refine m_aload_n dX11_setLine_40 rfl ?_
      refine gf_X11_107 rfl dX11_setLine_41 ?_
      refine m_if_eq 48 dX11_setLine_44 (by decide) (fun c23 => ?_) (fun c23 => ?_)
      · replace q := q.1 c23
        refine m_aload_n dX11_setLine_48 rfl ?_
        refine cl_X11_128 rfl (by decide) dX11_setLine_49 (Nat.le_of_ble_eq_true rfl) (MCv_go q (fun h24 q => ?_))
        refine m_aload_n dX11_setLine_52 rfl ?_
        refine gf_X11_23 rfl dX11_setLine_53 ?_
        refine m_iconst (v := 0) dX11_setLine_56 (by decide) ?_
        refine m_iaload dX11_setLine_57 rfl (by decide) (by unfold vp_in; decide) ?_
        obtain ⟨x25, ex25⟩ : ∃ z, z = (mI h24 46 (Int32.toNatClampNeg 0)) := ⟨_, rfl⟩
        rw [← ex25]
        replace q := q x25 ex25
        refine m_istore_n (lv' := [.ref 11, .int x25, .retAddr 0, .retAddr 0, .retAddr 0, .retAddr 0, .retAddr 0, .retAddr 0]) dX11_setLine_58 (Nat.le_of_ble_eq_true rfl) rfl rfl ?_
        refine m_aload_n dX11_setLine_59 rfl ?_
        refine m_iconst (v := 1) dX11_setLine_60 (by decide) ?_
        refine m_iconst (v := 0) dX11_setLine_61 (by decide) ?_
        refine cl_X11_231 rfl (by decide) dX11_setLine_62 (Nat.le_of_ble_eq_true rfl) (MCi_go q (fun r27 h26 q => ?_))
        refine m_istore_n (lv' := [.ref 11, .int x25, .int r27, .retAddr 0, .retAddr 0, .retAddr 0, .retAddr 0, .retAddr 0]) dX11_setLine_65 (Nat.le_of_ble_eq_true rfl) rfl rfl ?_
        refine m_aload_n dX11_setLine_66 rfl ?_
        refine gf_X11_23 rfl dX11_setLine_67 ?_
        refine m_iconst (v := 1) dX11_setLine_70 (by decide) ?_
        refine m_iload_n dX11_setLine_71 rfl ?_
        refine m_iadd dX11_setLine_72 ?_
        refine m_iload_n dX11_setLine_73 rfl ?_
        obtain ⟨b28, q⟩ := q
        refine m_iastore dX11_setLine_74 rfl (by decide) b28 ?_
        refine m_aload_n dX11_setLine_75 rfl ?_
        refine gf_X11_23 rfl dX11_setLine_76 ?_
        refine m_bipush (v := 9) dX11_setLine_79 (by decide) ?_
        refine m_iload_n dX11_setLine_81 rfl ?_
        refine m_iadd dX11_setLine_82 ?_
        refine m_bipush (v := (-2)) dX11_setLine_83 (by decide) ?_
        obtain ⟨b29, q⟩ := q
        refine m_iastore dX11_setLine_85 rfl (by decide) b29 ?_
        refine m_aload_n dX11_setLine_86 rfl ?_
        refine cl_X11_158 rfl (by decide) dX11_setLine_87 (Nat.le_of_ble_eq_true rfl) (MCi_go q (fun r31 h30 q => ?_))
        refine m_if_eq 110 dX11_setLine_90 (by decide) (fun c32 => ?_) (fun c32 => ?_)
        · replace q := q.1 c32
          refine m_aload_n dX11_setLine_110 rfl ?_
          refine m_ldcS (i := 8) (tx := "tells") dX11_setLine_111 (List.mem_of_getElem? (i := 20) rfl) (by decide) ?_
          refine cl_X11_223 rfl (by decide) dX11_setLine_113 (Nat.le_of_ble_eq_true rfl) (MCv_go q (fun h33 q => ?_))
          refine m_aload_n dX11_setLine_116 rfl ?_
          refine gf_X11_23 rfl dX11_setLine_117 ?_
          refine m_bipush (v := 9) dX11_setLine_120 (by decide) ?_
          refine m_iload_n dX11_setLine_122 rfl ?_
          refine m_iadd dX11_setLine_123 ?_
          obtain ⟨b34, q⟩ := q
          refine m_iaload dX11_setLine_124 rfl (by decide) b34 ?_
          refine m_bipush (v := (-2)) dX11_setLine_125 (by decide) ?_
          refine m_icmp_ne 134 dX11_setLine_127 (by decide) (fun c35 => ?_) (fun c35 => ?_)
          · replace q := q.1 c35
            refine m_iconst (v := 4) dX11_setLine_134 (by decide) ?_
            refine m_istore_n (lv' := [.ref 11, .int x25, .int r27, .int 4, .retAddr 0, .retAddr 0, .retAddr 0, .retAddr 0]) dX11_setLine_135 (Nat.le_of_ble_eq_true rfl) rfl rfl ?_
            refine m_iconst (v := 0) dX11_setLine_136 (by decide) ?_
            refine m_istore (lv' := [.ref 11, .int x25, .int r27, .int 4, .int 0, .retAddr 0, .retAddr 0, .retAddr 0]) dX11_setLine_137 (Nat.le_of_ble_eq_true rfl) rfl rfl ?_
            refine m_iconst (v := 0) dX11_setLine_139 (by decide) ?_
            refine m_istore (lv' := [.ref 11, .int x25, .int r27, .int 4, .int 0, .int 0, .retAddr 0, .retAddr 0]) dX11_setLine_140 (Nat.le_of_ble_eq_true rfl) rfl rfl ?_
            exact q
          · replace q := q.2 c35
            refine m_iconst (v := 2) dX11_setLine_130 (by decide) ?_
            refine m_goto 135 dX11_setLine_131 (by decide) ?_
            refine m_istore_n (lv' := [.ref 11, .int x25, .int r27, .int 2, .retAddr 0, .retAddr 0, .retAddr 0, .retAddr 0]) dX11_setLine_135 (Nat.le_of_ble_eq_true rfl) rfl rfl ?_
            refine m_iconst (v := 0) dX11_setLine_136 (by decide) ?_
            refine m_istore (lv' := [.ref 11, .int x25, .int r27, .int 2, .int 0, .retAddr 0, .retAddr 0, .retAddr 0]) dX11_setLine_137 (Nat.le_of_ble_eq_true rfl) rfl rfl ?_
            refine m_iconst (v := 0) dX11_setLine_139 (by decide) ?_
            refine m_istore (lv' := [.ref 11, .int x25, .int r27, .int 2, .int 0, .int 0, .retAddr 0, .retAddr 0]) dX11_setLine_140 (Nat.le_of_ble_eq_true rfl) rfl rfl ?_
            exact q
        · replace q := q.2 c32
          refine m_aload_n dX11_setLine_93 rfl ?_
          refine gf_X11_23 rfl dX11_setLine_94 ?_
          refine m_bipush (v := 9) dX11_setLine_97 (by decide) ?_
          refine m_iload_n dX11_setLine_99 rfl ?_
          refine m_iadd dX11_setLine_100 ?_
          refine m_aload_n dX11_setLine_101 rfl ?_
          refine m_iconst (v := 1) dX11_setLine_102 (by decide) ?_
          refine m_iconst (v := 1) dX11_setLine_103 (by decide) ?_
          refine m_iload_n dX11_setLine_104 rfl ?_
          refine m_ishl dX11_setLine_105 ?_
          refine cl_X11_231 rfl (by decide) dX11_setLine_106 (Nat.le_of_ble_eq_true rfl) (MCi_go q (fun r37 h36 q => ?_))
          obtain ⟨b38, q⟩ := q
          refine m_iastore dX11_setLine_109 rfl (by decide) b38 ?_
          refine m_aload_n dX11_setLine_110 rfl ?_
          refine m_ldcS (i := 8) (tx := "tells") dX11_setLine_111 (List.mem_of_getElem? (i := 20) rfl) (by decide) ?_
          refine cl_X11_223 rfl (by decide) dX11_setLine_113 (Nat.le_of_ble_eq_true rfl) (MCv_go q (fun h39 q => ?_))
          refine m_aload_n dX11_setLine_116 rfl ?_
          refine gf_X11_23 rfl dX11_setLine_117 ?_
          refine m_bipush (v := 9) dX11_setLine_120 (by decide) ?_
          refine m_iload_n dX11_setLine_122 rfl ?_
          refine m_iadd dX11_setLine_123 ?_
          obtain ⟨b40, q⟩ := q
          refine m_iaload dX11_setLine_124 rfl (by decide) b40 ?_
          refine m_bipush (v := (-2)) dX11_setLine_125 (by decide) ?_
          refine m_icmp_ne 134 dX11_setLine_127 (by decide) (fun c41 => ?_) (fun c41 => ?_)
          · replace q := q.1 c41
            refine m_iconst (v := 4) dX11_setLine_134 (by decide) ?_
            refine m_istore_n (lv' := [.ref 11, .int x25, .int r27, .int 4, .retAddr 0, .retAddr 0, .retAddr 0, .retAddr 0]) dX11_setLine_135 (Nat.le_of_ble_eq_true rfl) rfl rfl ?_
            refine m_iconst (v := 0) dX11_setLine_136 (by decide) ?_
            refine m_istore (lv' := [.ref 11, .int x25, .int r27, .int 4, .int 0, .retAddr 0, .retAddr 0, .retAddr 0]) dX11_setLine_137 (Nat.le_of_ble_eq_true rfl) rfl rfl ?_
            refine m_iconst (v := 0) dX11_setLine_139 (by decide) ?_
            refine m_istore (lv' := [.ref 11, .int x25, .int r27, .int 4, .int 0, .int 0, .retAddr 0, .retAddr 0]) dX11_setLine_140 (Nat.le_of_ble_eq_true rfl) rfl rfl ?_
            exact q
          · replace q := q.2 c41
            refine m_iconst (v := 2) dX11_setLine_130 (by decide) ?_
            refine m_goto 135 dX11_setLine_131 (by decide) ?_
            refine m_istore_n (lv' := [.ref 11, .int x25, .int r27, .int 2, .retAddr 0, .retAddr 0, .retAddr 0, .retAddr 0]) dX11_setLine_135 (Nat.le_of_ble_eq_true rfl) rfl rfl ?_
            refine m_iconst (v := 0) dX11_setLine_136 (by decide) ?_
            refine m_istore (lv' := [.ref 11, .int x25, .int r27, .int 2, .int 0, .retAddr 0, .retAddr 0, .retAddr 0]) dX11_setLine_137 (Nat.le_of_ble_eq_true rfl) rfl rfl ?_
            refine m_iconst (v := 0) dX11_setLine_139 (by decide) ?_
            refine m_istore (lv' := [.ref 11, .int x25, .int r27, .int 2, .int 0, .int 0, .retAddr 0, .retAddr 0]) dX11_setLine_140 (Nat.le_of_ble_eq_true rfl) rfl rfl ?_
            exact q
      · replace q := q.2 c23
        exact m_vret dX11_setLine_47 rfl q
  · replace q := q.2 c1
    refine m_aload_n dX11_setLine_11 rfl ?_
    refine m_iconst (v := 5) dX11_setLine_12 (by decide) ?_
    refine m_aload_n dX11_setLine_13 rfl ?_
    refine gf_X11_88 rfl dX11_setLine_14 ?_
    refine cl_X11_134 rfl (by decide) dX11_setLine_17 (Nat.le_of_ble_eq_true rfl) (MCv_go q (fun h42 q => ?_))
    refine m_aload_n dX11_setLine_20 rfl ?_
    refine gf_X11_23 rfl dX11_setLine_21 ?_
    refine m_bipush (v := 49) dX11_setLine_24 (by decide) ?_
    refine m_iaload dX11_setLine_26 rfl (by decide) (by unfold vp_in; decide) ?_
    refine m_if_ne 40 dX11_setLine_27 (by decide) (fun c43 => ?_) (fun c43 => ?_)
    · replace q := q.1 c43
      refine m_aload_n dX11_setLine_40 rfl ?_
      refine gf_X11_107 rfl dX11_setLine_41 ?_
      refine m_if_eq 48 dX11_setLine_44 (by decide) (fun c44 => ?_) (fun c44 => ?_)
      · replace q := q.1 c44
        refine m_aload_n dX11_setLine_48 rfl ?_
        refine cl_X11_128 rfl (by decide) dX11_setLine_49 (Nat.le_of_ble_eq_true rfl) (MCv_go q (fun h45 q => ?_))
        refine m_aload_n dX11_setLine_52 rfl ?_
        refine gf_X11_23 rfl dX11_setLine_53 ?_
        refine m_iconst (v := 0) dX11_setLine_56 (by decide) ?_
        refine m_iaload dX11_setLine_57 rfl (by decide) (by unfold vp_in; decide) ?_
        obtain ⟨x46, ex46⟩ : ∃ z, z = (mI h45 46 (Int32.toNatClampNeg 0)) := ⟨_, rfl⟩
        rw [← ex46]
        replace q := q x46 ex46
        refine m_istore_n (lv' := [.ref 11, .int x46, .retAddr 0, .retAddr 0, .retAddr 0, .retAddr 0, .retAddr 0, .retAddr 0]) dX11_setLine_58 (Nat.le_of_ble_eq_true rfl) rfl rfl ?_
        refine m_aload_n dX11_setLine_59 rfl ?_
        refine m_iconst (v := 1) dX11_setLine_60 (by decide) ?_
        refine m_iconst (v := 0) dX11_setLine_61 (by decide) ?_
        refine cl_X11_231 rfl (by decide) dX11_setLine_62 (Nat.le_of_ble_eq_true rfl) (MCi_go q (fun r48 h47 q => ?_))
        refine m_istore_n (lv' := [.ref 11, .int x46, .int r48, .retAddr 0, .retAddr 0, .retAddr 0, .retAddr 0, .retAddr 0]) dX11_setLine_65 (Nat.le_of_ble_eq_true rfl) rfl rfl ?_
        refine m_aload_n dX11_setLine_66 rfl ?_
        refine gf_X11_23 rfl dX11_setLine_67 ?_
        refine m_iconst (v := 1) dX11_setLine_70 (by decide) ?_
        refine m_iload_n dX11_setLine_71 rfl ?_
        refine m_iadd dX11_setLine_72 ?_
        refine m_iload_n dX11_setLine_73 rfl ?_
        obtain ⟨b49, q⟩ := q
        refine m_iastore dX11_setLine_74 rfl (by decide) b49 ?_
        refine m_aload_n dX11_setLine_75 rfl ?_
        refine gf_X11_23 rfl dX11_setLine_76 ?_
        refine m_bipush (v := 9) dX11_setLine_79 (by decide) ?_
        refine m_iload_n dX11_setLine_81 rfl ?_
        refine m_iadd dX11_setLine_82 ?_
        refine m_bipush (v := (-2)) dX11_setLine_83 (by decide) ?_
        obtain ⟨b50, q⟩ := q
        refine m_iastore dX11_setLine_85 rfl (by decide) b50 ?_
        refine m_aload_n dX11_setLine_86 rfl ?_
        refine cl_X11_158 rfl (by decide) dX11_setLine_87 (Nat.le_of_ble_eq_true rfl) (MCi_go q (fun r52 h51 q => ?_))
        refine m_if_eq 110 dX11_setLine_90 (by decide) (fun c53 => ?_) (fun c53 => ?_)
        · replace q := q.1 c53
          refine m_aload_n dX11_setLine_110 rfl ?_
          refine m_ldcS (i := 8) (tx := "tells") dX11_setLine_111 (List.mem_of_getElem? (i := 20) rfl) (by decide) ?_
          refine cl_X11_223 rfl (by decide) dX11_setLine_113 (Nat.le_of_ble_eq_true rfl) (MCv_go q (fun h54 q => ?_))
          refine m_aload_n dX11_setLine_116 rfl ?_
          refine gf_X11_23 rfl dX11_setLine_117 ?_
          refine m_bipush (v := 9) dX11_setLine_120 (by decide) ?_
          refine m_iload_n dX11_setLine_122 rfl ?_
          refine m_iadd dX11_setLine_123 ?_
          obtain ⟨b55, q⟩ := q
          refine m_iaload dX11_setLine_124 rfl (by decide) b55 ?_
          refine m_bipush (v := (-2)) dX11_setLine_125 (by decide) ?_
          refine m_icmp_ne 134 dX11_setLine_127 (by decide) (fun c56 => ?_) (fun c56 => ?_)
          · replace q := q.1 c56
            refine m_iconst (v := 4) dX11_setLine_134 (by decide) ?_
            refine m_istore_n (lv' := [.ref 11, .int x46, .int r48, .int 4, .retAddr 0, .retAddr 0, .retAddr 0, .retAddr 0]) dX11_setLine_135 (Nat.le_of_ble_eq_true rfl) rfl rfl ?_
            refine m_iconst (v := 0) dX11_setLine_136 (by decide) ?_
            refine m_istore (lv' := [.ref 11, .int x46, .int r48, .int 4, .int 0, .retAddr 0, .retAddr 0, .retAddr 0]) dX11_setLine_137 (Nat.le_of_ble_eq_true rfl) rfl rfl ?_
            refine m_iconst (v := 0) dX11_setLine_139 (by decide) ?_
            refine m_istore (lv' := [.ref 11, .int x46, .int r48, .int 4, .int 0, .int 0, .retAddr 0, .retAddr 0]) dX11_setLine_140 (Nat.le_of_ble_eq_true rfl) rfl rfl ?_
            exact q
          · replace q := q.2 c56
            refine m_iconst (v := 2) dX11_setLine_130 (by decide) ?_
            refine m_goto 135 dX11_setLine_131 (by decide) ?_
            refine m_istore_n (lv' := [.ref 11, .int x46, .int r48, .int 2, .retAddr 0, .retAddr 0, .retAddr 0, .retAddr 0]) dX11_setLine_135 (Nat.le_of_ble_eq_true rfl) rfl rfl ?_
            refine m_iconst (v := 0) dX11_setLine_136 (by decide) ?_
            refine m_istore (lv' := [.ref 11, .int x46, .int r48, .int 2, .int 0, .retAddr 0, .retAddr 0, .retAddr 0]) dX11_setLine_137 (Nat.le_of_ble_eq_true rfl) rfl rfl ?_
            refine m_iconst (v := 0) dX11_setLine_139 (by decide) ?_
            refine m_istore (lv' := [.ref 11, .int x46, .int r48, .int 2, .int 0, .int 0, .retAddr 0, .retAddr 0]) dX11_setLine_140 (Nat.le_of_ble_eq_true rfl) rfl rfl ?_
            exact q
        · replace q := q.2 c53
          refine m_aload_n dX11_setLine_93 rfl ?_
          refine gf_X11_23 rfl dX11_setLine_94 ?_
          refine m_bipush (v := 9) dX11_setLine_97 (by decide) ?_
          refine m_iload_n dX11_setLine_99 rfl ?_
          refine m_iadd dX11_setLine_100 ?_
          refine m_aload_n dX11_setLine_101 rfl ?_
          refine m_iconst (v := 1) dX11_setLine_102 (by decide) ?_
          refine m_iconst (v := 1) dX11_setLine_103 (by decide) ?_
          refine m_iload_n dX11_setLine_104 rfl ?_
          refine m_ishl dX11_setLine_105 ?_
          refine cl_X11_231 rfl (by decide) dX11_setLine_106 (Nat.le_of_ble_eq_true rfl) (MCi_go q (fun r58 h57 q => ?_))
          obtain ⟨b59, q⟩ := q
          refine m_iastore dX11_setLine_109 rfl (by decide) b59 ?_
          refine m_aload_n dX11_setLine_110 rfl ?_
          refine m_ldcS (i := 8) (tx := "tells") dX11_setLine_111 (List.mem_of_getElem? (i := 20) rfl) (by decide) ?_
          refine cl_X11_223 rfl (by decide) dX11_setLine_113 (Nat.le_of_ble_eq_true rfl) (MCv_go q (fun h60 q => ?_))
          refine m_aload_n dX11_setLine_116 rfl ?_
          refine gf_X11_23 rfl dX11_setLine_117 ?_
          refine m_bipush (v := 9) dX11_setLine_120 (by decide) ?_
          refine m_iload_n dX11_setLine_122 rfl ?_
          refine m_iadd dX11_setLine_123 ?_
          obtain ⟨b61, q⟩ := q
          refine m_iaload dX11_setLine_124 rfl (by decide) b61 ?_
          refine m_bipush (v := (-2)) dX11_setLine_125 (by decide) ?_
          refine m_icmp_ne 134 dX11_setLine_127 (by decide) (fun c62 => ?_) (fun c62 => ?_)
          · replace q := q.1 c62
            refine m_iconst (v := 4) dX11_setLine_134 (by decide) ?_
            refine m_istore_n (lv' := [.ref 11, .int x46, .int r48, .int 4, .retAddr 0, .retAddr 0, .retAddr 0, .retAddr 0]) dX11_setLine_135 (Nat.le_of_ble_eq_true rfl) rfl rfl ?_
            refine m_iconst (v := 0) dX11_setLine_136 (by decide) ?_
            refine m_istore (lv' := [.ref 11, .int x46, .int r48, .int 4, .int 0, .retAddr 0, .retAddr 0, .retAddr 0]) dX11_setLine_137 (Nat.le_of_ble_eq_true rfl) rfl rfl ?_
            refine m_iconst (v := 0) dX11_setLine_139 (by decide) ?_
            refine m_istore (lv' := [.ref 11, .int x46, .int r48, .int 4, .int 0, .int 0, .retAddr 0, .retAddr 0]) dX11_setLine_140 (Nat.le_of_ble_eq_true rfl) rfl rfl ?_
            exact q
          · replace q := q.2 c62
            refine m_iconst (v := 2) dX11_setLine_130 (by decide) ?_
            refine m_goto 135 dX11_setLine_131 (by decide) ?_
            refine m_istore_n (lv' := [.ref 11, .int x46, .int r48, .int 2, .retAddr 0, .retAddr 0, .retAddr 0, .retAddr 0]) dX11_setLine_135 (Nat.le_of_ble_eq_true rfl) rfl rfl ?_
            refine m_iconst (v := 0) dX11_setLine_136 (by decide) ?_
            refine m_istore (lv' := [.ref 11, .int x46, .int r48, .int 2, .int 0, .retAddr 0, .retAddr 0, .retAddr 0]) dX11_setLine_137 (Nat.le_of_ble_eq_true rfl) rfl rfl ?_
            refine m_iconst (v := 0) dX11_setLine_139 (by decide) ?_
            refine m_istore (lv' := [.ref 11, .int x46, .int r48, .int 2, .int 0, .int 0, .retAddr 0, .retAddr 0]) dX11_setLine_140 (Nat.le_of_ble_eq_true rfl) rfl rfl ?_
            exact q
      · replace q := q.2 c44
        exact m_vret dX11_setLine_47 rfl q
    · replace q := q.2 c43
      refine m_aload_n dX11_setLine_30 rfl ?_
      refine m_bipush (v := 6) dX11_setLine_31 (by decide) ?_
      refine m_aload_n dX11_setLine_33 rfl ?_
      refine gf_X11_88 rfl dX11_setLine_34 ?_
      refine cl_X11_134 rfl (by decide) dX11_setLine_37 (Nat.le_of_ble_eq_true rfl) (MCv_go q (fun h63 q => ?_))
      refine m_aload_n dX11_setLine_40 rfl ?_
      refine gf_X11_107 rfl dX11_setLine_41 ?_
      refine m_if_eq 48 dX11_setLine_44 (by decide) (fun c64 => ?_) (fun c64 => ?_)
      · replace q := q.1 c64
        refine m_aload_n dX11_setLine_48 rfl ?_
        refine cl_X11_128 rfl (by decide) dX11_setLine_49 (Nat.le_of_ble_eq_true rfl) (MCv_go q (fun h65 q => ?_))
        refine m_aload_n dX11_setLine_52 rfl ?_
        refine gf_X11_23 rfl dX11_setLine_53 ?_
        refine m_iconst (v := 0) dX11_setLine_56 (by decide) ?_
        refine m_iaload dX11_setLine_57 rfl (by decide) (by unfold vp_in; decide) ?_
        obtain ⟨x66, ex66⟩ : ∃ z, z = (mI h65 46 (Int32.toNatClampNeg 0)) := ⟨_, rfl⟩
        rw [← ex66]
        replace q := q x66 ex66
        refine m_istore_n (lv' := [.ref 11, .int x66, .retAddr 0, .retAddr 0, .retAddr 0, .retAddr 0, .retAddr 0, .retAddr 0]) dX11_setLine_58 (Nat.le_of_ble_eq_true rfl) rfl rfl ?_
        refine m_aload_n dX11_setLine_59 rfl ?_
        refine m_iconst (v := 1) dX11_setLine_60 (by decide) ?_
        refine m_iconst (v := 0) dX11_setLine_61 (by decide) ?_
        refine cl_X11_231 rfl (by decide) dX11_setLine_62 (Nat.le_of_ble_eq_true rfl) (MCi_go q (fun r68 h67 q => ?_))
        refine m_istore_n (lv' := [.ref 11, .int x66, .int r68, .retAddr 0, .retAddr 0, .retAddr 0, .retAddr 0, .retAddr 0]) dX11_setLine_65 (Nat.le_of_ble_eq_true rfl) rfl rfl ?_
        refine m_aload_n dX11_setLine_66 rfl ?_
        refine gf_X11_23 rfl dX11_setLine_67 ?_
        refine m_iconst (v := 1) dX11_setLine_70 (by decide) ?_
        refine m_iload_n dX11_setLine_71 rfl ?_
        refine m_iadd dX11_setLine_72 ?_
        refine m_iload_n dX11_setLine_73 rfl ?_
        obtain ⟨b69, q⟩ := q
        refine m_iastore dX11_setLine_74 rfl (by decide) b69 ?_
        refine m_aload_n dX11_setLine_75 rfl ?_
        refine gf_X11_23 rfl dX11_setLine_76 ?_
        refine m_bipush (v := 9) dX11_setLine_79 (by decide) ?_
        refine m_iload_n dX11_setLine_81 rfl ?_
        refine m_iadd dX11_setLine_82 ?_
        refine m_bipush (v := (-2)) dX11_setLine_83 (by decide) ?_
        obtain ⟨b70, q⟩ := q
        refine m_iastore dX11_setLine_85 rfl (by decide) b70 ?_
        refine m_aload_n dX11_setLine_86 rfl ?_
        refine cl_X11_158 rfl (by decide) dX11_setLine_87 (Nat.le_of_ble_eq_true rfl) (MCi_go q (fun r72 h71 q => ?_))
        refine m_if_eq 110 dX11_setLine_90 (by decide) (fun c73 => ?_) (fun c73 => ?_)
        · replace q := q.1 c73
          refine m_aload_n dX11_setLine_110 rfl ?_
          refine m_ldcS (i := 8) (tx := "tells") dX11_setLine_111 (List.mem_of_getElem? (i := 20) rfl) (by decide) ?_
          refine cl_X11_223 rfl (by decide) dX11_setLine_113 (Nat.le_of_ble_eq_true rfl) (MCv_go q (fun h74 q => ?_))
          refine m_aload_n dX11_setLine_116 rfl ?_
          refine gf_X11_23 rfl dX11_setLine_117 ?_
          refine m_bipush (v := 9) dX11_setLine_120 (by decide) ?_
          refine m_iload_n dX11_setLine_122 rfl ?_
          refine m_iadd dX11_setLine_123 ?_
          obtain ⟨b75, q⟩ := q
          refine m_iaload dX11_setLine_124 rfl (by decide) b75 ?_
          refine m_bipush (v := (-2)) dX11_setLine_125 (by decide) ?_
          refine m_icmp_ne 134 dX11_setLine_127 (by decide) (fun c76 => ?_) (fun c76 => ?_)
          · replace q := q.1 c76
            refine m_iconst (v := 4) dX11_setLine_134 (by decide) ?_
            refine m_istore_n (lv' := [.ref 11, .int x66, .int r68, .int 4, .retAddr 0, .retAddr 0, .retAddr 0, .retAddr 0]) dX11_setLine_135 (Nat.le_of_ble_eq_true rfl) rfl rfl ?_
            refine m_iconst (v := 0) dX11_setLine_136 (by decide) ?_
            refine m_istore (lv' := [.ref 11, .int x66, .int r68, .int 4, .int 0, .retAddr 0, .retAddr 0, .retAddr 0]) dX11_setLine_137 (Nat.le_of_ble_eq_true rfl) rfl rfl ?_
            refine m_iconst (v := 0) dX11_setLine_139 (by decide) ?_
            refine m_istore (lv' := [.ref 11, .int x66, .int r68, .int 4, .int 0, .int 0, .retAddr 0, .retAddr 0]) dX11_setLine_140 (Nat.le_of_ble_eq_true rfl) rfl rfl ?_
            exact q
          · replace q := q.2 c76
            refine m_iconst (v := 2) dX11_setLine_130 (by decide) ?_
            refine m_goto 135 dX11_setLine_131 (by decide) ?_
            refine m_istore_n (lv' := [.ref 11, .int x66, .int r68, .int 2, .retAddr 0, .retAddr 0, .retAddr 0, .retAddr 0]) dX11_setLine_135 (Nat.le_of_ble_eq_true rfl) rfl rfl ?_
            refine m_iconst (v := 0) dX11_setLine_136 (by decide) ?_
            refine m_istore (lv' := [.ref 11, .int x66, .int r68, .int 2, .int 0, .retAddr 0, .retAddr 0, .retAddr 0]) dX11_setLine_137 (Nat.le_of_ble_eq_true rfl) rfl rfl ?_
            refine m_iconst (v := 0) dX11_setLine_139 (by decide) ?_
            refine m_istore (lv' := [.ref 11, .int x66, .int r68, .int 2, .int 0, .int 0, .retAddr 0, .retAddr 0]) dX11_setLine_140 (Nat.le_of_ble_eq_true rfl) rfl rfl ?_
            exact q
        · replace q := q.2 c73
          refine m_aload_n dX11_setLine_93 rfl ?_
          refine gf_X11_23 rfl dX11_setLine_94 ?_
          refine m_bipush (v := 9) dX11_setLine_97 (by decide) ?_
          refine m_iload_n dX11_setLine_99 rfl ?_
          refine m_iadd dX11_setLine_100 ?_
          refine m_aload_n dX11_setLine_101 rfl ?_
          refine m_iconst (v := 1) dX11_setLine_102 (by decide) ?_
          refine m_iconst (v := 1) dX11_setLine_103 (by decide) ?_
          refine m_iload_n dX11_setLine_104 rfl ?_
          refine m_ishl dX11_setLine_105 ?_
          refine cl_X11_231 rfl (by decide) dX11_setLine_106 (Nat.le_of_ble_eq_true rfl) (MCi_go q (fun r78 h77 q => ?_))
          obtain ⟨b79, q⟩ := q
          refine m_iastore dX11_setLine_109 rfl (by decide) b79 ?_
          refine m_aload_n dX11_setLine_110 rfl ?_
          refine m_ldcS (i := 8) (tx := "tells") dX11_setLine_111 (List.mem_of_getElem? (i := 20) rfl) (by decide) ?_
          refine cl_X11_223 rfl (by decide) dX11_setLine_113 (Nat.le_of_ble_eq_true rfl) (MCv_go q (fun h80 q => ?_))
          refine m_aload_n dX11_setLine_116 rfl ?_
          refine gf_X11_23 rfl dX11_setLine_117 ?_
          refine m_bipush (v := 9) dX11_setLine_120 (by decide) ?_
          refine m_iload_n dX11_setLine_122 rfl ?_
          refine m_iadd dX11_setLine_123 ?_
          obtain ⟨b81, q⟩ := q
          refine m_iaload dX11_setLine_124 rfl (by decide) b81 ?_
          refine m_bipush (v := (-2)) dX11_setLine_125 (by decide) ?_
          refine m_icmp_ne 134 dX11_setLine_127 (by decide) (fun c82 => ?_) (fun c82 => ?_)
          · replace q := q.1 c82
            refine m_iconst (v := 4) dX11_setLine_134 (by decide) ?_
            refine m_istore_n (lv' := [.ref 11, .int x66, .int r68, .int 4, .retAddr 0, .retAddr 0, .retAddr 0, .retAddr 0]) dX11_setLine_135 (Nat.le_of_ble_eq_true rfl) rfl rfl ?_
            refine m_iconst (v := 0) dX11_setLine_136 (by decide) ?_
            refine m_istore (lv' := [.ref 11, .int x66, .int r68, .int 4, .int 0, .retAddr 0, .retAddr 0, .retAddr 0]) dX11_setLine_137 (Nat.le_of_ble_eq_true rfl) rfl rfl ?_
            refine m_iconst (v := 0) dX11_setLine_139 (by decide) ?_
            refine m_istore (lv' := [.ref 11, .int x66, .int r68, .int 4, .int 0, .int 0, .retAddr 0, .retAddr 0]) dX11_setLine_140 (Nat.le_of_ble_eq_true rfl) rfl rfl ?_
            exact q
          · replace q := q.2 c82
            refine m_iconst (v := 2) dX11_setLine_130 (by decide) ?_
            refine m_goto 135 dX11_setLine_131 (by decide) ?_
            refine m_istore_n (lv' := [.ref 11, .int x66, .int r68, .int 2, .retAddr 0, .retAddr 0, .retAddr 0, .retAddr 0]) dX11_setLine_135 (Nat.le_of_ble_eq_true rfl) rfl rfl ?_
            refine m_iconst (v := 0) dX11_setLine_136 (by decide) ?_
            refine m_istore (lv' := [.ref 11, .int x66, .int r68, .int 2, .int 0, .retAddr 0, .retAddr 0, .retAddr 0]) dX11_setLine_137 (Nat.le_of_ble_eq_true rfl) rfl rfl ?_
            refine m_iconst (v := 0) dX11_setLine_139 (by decide) ?_
            refine m_istore (lv' := [.ref 11, .int x66, .int r68, .int 2, .int 0, .int 0, .retAddr 0, .retAddr 0]) dX11_setLine_140 (Nat.le_of_ble_eq_true rfl) rfl rfl ?_
            exact q
      · replace q := q.2 c64
        exact m_vret dX11_setLine_47 rfl q
set_option maxRecDepth 100000 in
theorem r_X11_setLine_142 {g : gT} {h : mh_T} {P : mh_T → Prop} (l1 : Int32) (l2 : Int32) (l3 : Int32) (l4 : Int32) (l5 : Int32) (q : (l3 ≤ l5 → (¬ (mI h 11 13) = 0 → P h) ∧ ((mI h 11 13) = 0 → P (wI h 46 (Int32.toNatClampNeg 0) ((mI h 46 (Int32.toNatClampNeg 0)) + 1)))) ∧ (¬ l3 ≤ l5 → (l5 ≤ 0 → ((mI h 11 13) = 0 → (¬ l5 = (l3 - 1) → MCi g yX11_number uX11_number [.ref 11, .int 0, .int 60] h (fun r8 h7 => (vp_in ((17 + (4 * l1)) + l5) 346) ∧ (∀ x10 : Int32, x10 = (l4 + r8) → ME g uX11_setLine 142 [.ref 11, .int l1, .int l2, .int l3, .int x10, .int (l5 + 1), .retAddr 0, .retAddr 0] [] (wI h7 46 ((17 + (4 * l1)) + l5).toNatClampNeg r8) (qV P)))) ∧ (l5 = (l3 - 1) → (¬ (mI h 11 6) = 3 → MCi g yX11_number uX11_number [.ref 11, .int 0, .int 60] h (fun r14 h13 => (vp_in ((17 + (4 * l1)) + l5) 346) ∧ (∀ x16 : Int32, x16 = (l4 + r14) → ME g uX11_setLine 142 [.ref 11, .int l1, .int l2, .int l3, .int x16, .int (l5 + 1), .retAddr 0, .retAddr 0] [] (wI h13 46 ((17 + (4 * l1)) + l5).toNatClampNeg r14) (qV P)))) ∧ ((mI h 11 6) = 3 → MCi g yX11_within uX11_within [.int (mI h 11 7), .int 0, .int 60] h (fun r18 h17 => (r18 = 0 → MCi g yX11_number uX11_number [.ref 11, .int 0, .int 60] h17 (fun r22 h21 => (vp_in ((17 + (4 * l1)) + l5) 346) ∧ (∀ x24 : Int32, x24 = (l4 + r22) → ME g uX11_setLine 142 [.ref 11, .int l1, .int l2, .int l3, .int x24, .int (l5 + 1), .retAddr 0, .retAddr 0] [] (wI h21 46 ((17 + (4 * l1)) + l5).toNatClampNeg r22) (qV P)))) ∧ (¬ r18 = 0 → ((l4 + (mI h17 11 7)) = (mI h17 46 (Int32.toNatClampNeg 49)) → MCi g yX11_number uX11_number [.ref 11, .int 0, .int 60] h17 (fun r28 h27 => (vp_in ((17 + (4 * l1)) + l5) 346) ∧ (∀ x30 : Int32, x30 = (l4 + r28) → ME g uX11_setLine 142 [.ref 11, .int l1, .int l2, .int l3, .int x30, .int (l5 + 1), .retAddr 0, .retAddr 0] [] (wI h27 46 ((17 + (4 * l1)) + l5).toNatClampNeg r28) (qV P)))) ∧ (¬ (l4 + (mI h17 11 7)) = (mI h17 46 (Int32.toNatClampNeg 49)) → MCv g yX11_wrong uX11_wrong [.ref 11, .int 4, .int (mI h17 11 4)] h17 (fun h31 => MCi g yX11_number uX11_number [.ref 11, .int 0, .int 60] h31 (fun r33 h32 => (vp_in ((17 + (4 * l1)) + l5) 346) ∧ (∀ x35 : Int32, x35 = (l4 + r33) → ME g uX11_setLine 142 [.ref 11, .int l1, .int l2, .int l3, .int x35, .int (l5 + 1), .retAddr 0, .retAddr 0] [] (wI h32 46 ((17 + (4 * l1)) + l5).toNatClampNeg r33) (qV P)))))))))) ∧ (¬ (mI h 11 13) = 0 → P h)) ∧ (¬ l5 ≤ 0 → MCv g yX11_mustComma uX11_mustComma [.ref 11] h (fun h36 => ((mI h36 11 13) = 0 → (¬ l5 = (l3 - 1) → MCi g yX11_number uX11_number [.ref 11, .int 0, .int 60] h36 (fun r41 h40 => (vp_in ((17 + (4 * l1)) + l5) 346) ∧ (∀ x43 : Int32, x43 = (l4 + r41) → ME g uX11_setLine 142 [.ref 11, .int l1, .int l2, .int l3, .int x43, .int (l5 + 1), .retAddr 0, .retAddr 0] [] (wI h40 46 ((17 + (4 * l1)) + l5).toNatClampNeg r41) (qV P)))) ∧ (l5 = (l3 - 1) → (¬ (mI h36 11 6) = 3 → MCi g yX11_number uX11_number [.ref 11, .int 0, .int 60] h36 (fun r47 h46 => (vp_in ((17 + (4 * l1)) + l5) 346) ∧ (∀ x49 : Int32, x49 = (l4 + r47) → ME g uX11_setLine 142 [.ref 11, .int l1, .int l2, .int l3, .int x49, .int (l5 + 1), .retAddr 0, .retAddr 0] [] (wI h46 46 ((17 + (4 * l1)) + l5).toNatClampNeg r47) (qV P)))) ∧ ((mI h36 11 6) = 3 → MCi g yX11_within uX11_within [.int (mI h36 11 7), .int 0, .int 60] h36 (fun r51 h50 => (r51 = 0 → MCi g yX11_number uX11_number [.ref 11, .int 0, .int 60] h50 (fun r55 h54 => (vp_in ((17 + (4 * l1)) + l5) 346) ∧ (∀ x57 : Int32, x57 = (l4 + r55) → ME g uX11_setLine 142 [.ref 11, .int l1, .int l2, .int l3, .int x57, .int (l5 + 1), .retAddr 0, .retAddr 0] [] (wI h54 46 ((17 + (4 * l1)) + l5).toNatClampNeg r55) (qV P)))) ∧ (¬ r51 = 0 → ((l4 + (mI h50 11 7)) = (mI h50 46 (Int32.toNatClampNeg 49)) → MCi g yX11_number uX11_number [.ref 11, .int 0, .int 60] h50 (fun r61 h60 => (vp_in ((17 + (4 * l1)) + l5) 346) ∧ (∀ x63 : Int32, x63 = (l4 + r61) → ME g uX11_setLine 142 [.ref 11, .int l1, .int l2, .int l3, .int x63, .int (l5 + 1), .retAddr 0, .retAddr 0] [] (wI h60 46 ((17 + (4 * l1)) + l5).toNatClampNeg r61) (qV P)))) ∧ (¬ (l4 + (mI h50 11 7)) = (mI h50 46 (Int32.toNatClampNeg 49)) → MCv g yX11_wrong uX11_wrong [.ref 11, .int 4, .int (mI h50 11 4)] h50 (fun h64 => MCi g yX11_number uX11_number [.ref 11, .int 0, .int 60] h64 (fun r66 h65 => (vp_in ((17 + (4 * l1)) + l5) 346) ∧ (∀ x68 : Int32, x68 = (l4 + r66) → ME g uX11_setLine 142 [.ref 11, .int l1, .int l2, .int l3, .int x68, .int (l5 + 1), .retAddr 0, .retAddr 0] [] (wI h65 46 ((17 + (4 * l1)) + l5).toNatClampNeg r66) (qV P)))))))))) ∧ (¬ (mI h36 11 13) = 0 → P h36))))) : ME g uX11_setLine 142 [.ref 11, .int l1, .int l2, .int l3, .int l4, .int l5, .retAddr 0, .retAddr 0] [] h (qV P) := by
  refine m_iload dX11_setLine_142 rfl ?_
  refine m_iload_n dX11_setLine_144 rfl ?_
  refine m_icmp_ge 270 dX11_setLine_145 (by decide) (fun c1 => ?_) (fun c1 => ?_)
  · replace q := q.1 c1
    refine m_aload_n dX11_setLine_270 rfl ?_
    refine gf_X11_107 rfl dX11_setLine_271 ?_
    refine m_if_ne 287 dX11_setLine_274 (by decide) (fun c2 => ?_) (fun c2 => ?_)
    · replace q := q.1 c2
      exact m_vret dX11_setLine_287 rfl q
    · replace q := q.2 c2
      refine m_aload_n dX11_setLine_277 rfl ?_
      refine gf_X11_23 rfl dX11_setLine_278 ?_
      refine m_iconst (v := 0) dX11_setLine_281 (by decide) ?_
      refine m_dup2 dX11_setLine_282 rfl rfl ?_
      refine m_iaload dX11_setLine_283 rfl (by decide) (by unfold vp_in; decide) ?_
      refine m_iconst (v := 1) dX11_setLine_284 (by decide) ?_
      refine m_iadd dX11_setLine_285 ?_
      refine m_iastore dX11_setLine_286 rfl (by decide) (by unfold vp_in; decide) ?_
      exact m_vret dX11_setLine_287 rfl q
  · replace q := q.2 c1
    refine m_iload dX11_setLine_148 rfl ?_
    refine m_if_le 157 dX11_setLine_150 (by decide) (fun c3 => ?_) (fun c3 => ?_)
    · replace q := q.1 c3
      refine m_aload_n dX11_setLine_157 rfl ?_
      refine gf_X11_107 rfl dX11_setLine_158 ?_
      refine m_if_eq 165 dX11_setLine_161 (by decide) (fun c4 => ?_) (fun c4 => ?_)
      · replace q := q.1 c4
        refine m_iload dX11_setLine_165 rfl ?_
        refine m_iload_n dX11_setLine_167 rfl ?_
        refine m_iconst (v := 1) dX11_setLine_168 (by decide) ?_
        refine m_isub dX11_setLine_169 ?_
        refine m_icmp_ne 198 dX11_setLine_170 (by decide) (fun c5 => ?_) (fun c5 => ?_)
        · replace q := q.1 c5
          refine m_iconst (v := 0) dX11_setLine_198 (by decide) ?_
          refine m_istore (lv' := [.ref 11, .int l1, .int l2, .int l3, .int l4, .int l5, .int 0, .retAddr 0]) dX11_setLine_199 (Nat.le_of_ble_eq_true rfl) rfl rfl ?_
          refine m_iload dX11_setLine_201 rfl ?_
          refine m_if_eq 232 dX11_setLine_203 (by decide) (fun c6 => ?_) (fun c6 => absurd c6 (by decide))
          refine m_aload_n dX11_setLine_232 rfl ?_
          refine m_iconst (v := 0) dX11_setLine_233 (by decide) ?_
          refine m_bipush (v := 60) dX11_setLine_234 (by decide) ?_
          refine cl_X11_227 rfl (by decide) dX11_setLine_236 (Nat.le_of_ble_eq_true rfl) (MCi_go q (fun r8 h7 q => ?_))
          refine m_istore (lv' := [.ref 11, .int l1, .int l2, .int l3, .int l4, .int l5, .int 0, .int r8]) dX11_setLine_239 (Nat.le_of_ble_eq_true rfl) rfl rfl ?_
          refine m_aload_n dX11_setLine_241 rfl ?_
          refine gf_X11_23 rfl dX11_setLine_242 ?_
          refine m_bipush (v := 17) dX11_setLine_245 (by decide) ?_
          refine m_iconst (v := 4) dX11_setLine_247 (by decide) ?_
          refine m_iload_n dX11_setLine_248 rfl ?_
          refine m_imul dX11_setLine_249 ?_
          refine m_iadd dX11_setLine_250 ?_
          refine m_iload dX11_setLine_251 rfl ?_
          refine m_iadd dX11_setLine_253 ?_
          refine m_iload dX11_setLine_254 rfl ?_
          obtain ⟨b9, q⟩ := q
          refine m_iastore dX11_setLine_256 rfl (by decide) b9 ?_
          refine m_iload dX11_setLine_257 rfl ?_
          refine m_iload dX11_setLine_259 rfl ?_
          refine m_iadd dX11_setLine_261 ?_
          obtain ⟨x10, ex10⟩ : ∃ z, z = (l4 + r8) := ⟨_, rfl⟩
          rw [← ex10]
          replace q := q x10 ex10
          refine m_istore (lv' := [.ref 11, .int l1, .int l2, .int l3, .int x10, .int l5, .int 0, .int r8]) dX11_setLine_262 (Nat.le_of_ble_eq_true rfl) rfl rfl ?_
          refine m_iinc (v := (l5 + 1)) (lv' := [.ref 11, .int l1, .int l2, .int l3, .int x10, .int (l5 + 1), .int 0, .int r8]) dX11_setLine_264 (Nat.le_of_ble_eq_true rfl) rfl (congrArg (fun z => l5 + z) (by decide : Int32.ofInt 1 = 1)) rfl rfl ?_
          refine m_goto 142 dX11_setLine_267 (by decide) ?_
          refine m_dropK (lv' := [.ref 11, .int l1, .int l2, .int l3, .int x10, .int (l5 + 1), .retAddr 0, .retAddr 0]) [6, 7] rfl ?_
          exact q
        · replace q := q.2 c5
          refine m_aload_n dX11_setLine_173 rfl ?_
          refine gf_X11_97 rfl dX11_setLine_174 ?_
          refine m_iconst (v := 3) dX11_setLine_177 (by decide) ?_
          refine m_icmp_ne 198 dX11_setLine_178 (by decide) (fun c11 => ?_) (fun c11 => ?_)
          · replace q := q.1 c11
            refine m_iconst (v := 0) dX11_setLine_198 (by decide) ?_
            refine m_istore (lv' := [.ref 11, .int l1, .int l2, .int l3, .int l4, .int l5, .int 0, .retAddr 0]) dX11_setLine_199 (Nat.le_of_ble_eq_true rfl) rfl rfl ?_
            refine m_iload dX11_setLine_201 rfl ?_
            refine m_if_eq 232 dX11_setLine_203 (by decide) (fun c12 => ?_) (fun c12 => absurd c12 (by decide))
            refine m_aload_n dX11_setLine_232 rfl ?_
            refine m_iconst (v := 0) dX11_setLine_233 (by decide) ?_
            refine m_bipush (v := 60) dX11_setLine_234 (by decide) ?_
            refine cl_X11_227 rfl (by decide) dX11_setLine_236 (Nat.le_of_ble_eq_true rfl) (MCi_go q (fun r14 h13 q => ?_))
            refine m_istore (lv' := [.ref 11, .int l1, .int l2, .int l3, .int l4, .int l5, .int 0, .int r14]) dX11_setLine_239 (Nat.le_of_ble_eq_true rfl) rfl rfl ?_
            refine m_aload_n dX11_setLine_241 rfl ?_
            refine gf_X11_23 rfl dX11_setLine_242 ?_
            refine m_bipush (v := 17) dX11_setLine_245 (by decide) ?_
            refine m_iconst (v := 4) dX11_setLine_247 (by decide) ?_
            refine m_iload_n dX11_setLine_248 rfl ?_
            refine m_imul dX11_setLine_249 ?_
            refine m_iadd dX11_setLine_250 ?_
            refine m_iload dX11_setLine_251 rfl ?_
            refine m_iadd dX11_setLine_253 ?_
            refine m_iload dX11_setLine_254 rfl ?_
            obtain ⟨b15, q⟩ := q
            refine m_iastore dX11_setLine_256 rfl (by decide) b15 ?_
            refine m_iload dX11_setLine_257 rfl ?_
            refine m_iload dX11_setLine_259 rfl ?_
            refine m_iadd dX11_setLine_261 ?_
            obtain ⟨x16, ex16⟩ : ∃ z, z = (l4 + r14) := ⟨_, rfl⟩
            rw [← ex16]
            replace q := q x16 ex16
            refine m_istore (lv' := [.ref 11, .int l1, .int l2, .int l3, .int x16, .int l5, .int 0, .int r14]) dX11_setLine_262 (Nat.le_of_ble_eq_true rfl) rfl rfl ?_
            refine m_iinc (v := (l5 + 1)) (lv' := [.ref 11, .int l1, .int l2, .int l3, .int x16, .int (l5 + 1), .int 0, .int r14]) dX11_setLine_264 (Nat.le_of_ble_eq_true rfl) rfl (congrArg (fun z => l5 + z) (by decide : Int32.ofInt 1 = 1)) rfl rfl ?_
            refine m_goto 142 dX11_setLine_267 (by decide) ?_
            refine m_dropK (lv' := [.ref 11, .int l1, .int l2, .int l3, .int x16, .int (l5 + 1), .retAddr 0, .retAddr 0]) [6, 7] rfl ?_
            exact q
          · replace q := q.2 c11
            refine m_aload_n dX11_setLine_181 rfl ?_
            refine gf_X11_94 rfl dX11_setLine_182 ?_
            refine m_iconst (v := 0) dX11_setLine_185 (by decide) ?_
            refine m_bipush (v := 60) dX11_setLine_186 (by decide) ?_
            refine cl_X11_170 rfl (by decide) dX11_setLine_188 (Nat.le_of_ble_eq_true rfl) (MCi_go q (fun r18 h17 q => ?_))
            refine m_if_eq 198 dX11_setLine_191 (by decide) (fun c19 => ?_) (fun c19 => ?_)
            · replace q := q.1 c19
              refine m_iconst (v := 0) dX11_setLine_198 (by decide) ?_
              refine m_istore (lv' := [.ref 11, .int l1, .int l2, .int l3, .int l4, .int l5, .int 0, .retAddr 0]) dX11_setLine_199 (Nat.le_of_ble_eq_true rfl) rfl rfl ?_
              refine m_iload dX11_setLine_201 rfl ?_
              refine m_if_eq 232 dX11_setLine_203 (by decide) (fun c20 => ?_) (fun c20 => absurd c20 (by decide))
              refine m_aload_n dX11_setLine_232 rfl ?_
              refine m_iconst (v := 0) dX11_setLine_233 (by decide) ?_
              refine m_bipush (v := 60) dX11_setLine_234 (by decide) ?_
              refine cl_X11_227 rfl (by decide) dX11_setLine_236 (Nat.le_of_ble_eq_true rfl) (MCi_go q (fun r22 h21 q => ?_))
              refine m_istore (lv' := [.ref 11, .int l1, .int l2, .int l3, .int l4, .int l5, .int 0, .int r22]) dX11_setLine_239 (Nat.le_of_ble_eq_true rfl) rfl rfl ?_
              refine m_aload_n dX11_setLine_241 rfl ?_
              refine gf_X11_23 rfl dX11_setLine_242 ?_
              refine m_bipush (v := 17) dX11_setLine_245 (by decide) ?_
              refine m_iconst (v := 4) dX11_setLine_247 (by decide) ?_
              refine m_iload_n dX11_setLine_248 rfl ?_
              refine m_imul dX11_setLine_249 ?_
              refine m_iadd dX11_setLine_250 ?_
              refine m_iload dX11_setLine_251 rfl ?_
              refine m_iadd dX11_setLine_253 ?_
              refine m_iload dX11_setLine_254 rfl ?_
              obtain ⟨b23, q⟩ := q
              refine m_iastore dX11_setLine_256 rfl (by decide) b23 ?_
              refine m_iload dX11_setLine_257 rfl ?_
              refine m_iload dX11_setLine_259 rfl ?_
              refine m_iadd dX11_setLine_261 ?_
              obtain ⟨x24, ex24⟩ : ∃ z, z = (l4 + r22) := ⟨_, rfl⟩
              rw [← ex24]
              replace q := q x24 ex24
              refine m_istore (lv' := [.ref 11, .int l1, .int l2, .int l3, .int x24, .int l5, .int 0, .int r22]) dX11_setLine_262 (Nat.le_of_ble_eq_true rfl) rfl rfl ?_
              refine m_iinc (v := (l5 + 1)) (lv' := [.ref 11, .int l1, .int l2, .int l3, .int x24, .int (l5 + 1), .int 0, .int r22]) dX11_setLine_264 (Nat.le_of_ble_eq_true rfl) rfl (congrArg (fun z => l5 + z) (by decide : Int32.ofInt 1 = 1)) rfl rfl ?_
              refine m_goto 142 dX11_setLine_267 (by decide) ?_
              refine m_dropK (lv' := [.ref 11, .int l1, .int l2, .int l3, .int x24, .int (l5 + 1), .retAddr 0, .retAddr 0]) [6, 7] rfl ?_
              exact q
            · replace q := q.2 c19
              refine m_iconst (v := 1) dX11_setLine_194 (by decide) ?_
              refine m_goto 199 dX11_setLine_195 (by decide) ?_
              refine m_istore (lv' := [.ref 11, .int l1, .int l2, .int l3, .int l4, .int l5, .int 1, .retAddr 0]) dX11_setLine_199 (Nat.le_of_ble_eq_true rfl) rfl rfl ?_
              refine m_iload dX11_setLine_201 rfl ?_
              refine m_if_eq 232 dX11_setLine_203 (by decide) (fun c25 => absurd c25 (by decide)) (fun c25 => ?_)
              refine m_iload dX11_setLine_206 rfl ?_
              refine m_aload_n dX11_setLine_208 rfl ?_
              refine gf_X11_94 rfl dX11_setLine_209 ?_
              refine m_iadd dX11_setLine_212 ?_
              refine m_aload_n dX11_setLine_213 rfl ?_
              refine gf_X11_23 rfl dX11_setLine_214 ?_
              refine m_bipush (v := 49) dX11_setLine_217 (by decide) ?_
              refine m_iaload dX11_setLine_219 rfl (by decide) (by unfold vp_in; decide) ?_
              refine m_icmp_eq 232 dX11_setLine_220 (by decide) (fun c26 => ?_) (fun c26 => ?_)
              · replace q := q.1 c26
                refine m_aload_n dX11_setLine_232 rfl ?_
                refine m_iconst (v := 0) dX11_setLine_233 (by decide) ?_
                refine m_bipush (v := 60) dX11_setLine_234 (by decide) ?_
                refine cl_X11_227 rfl (by decide) dX11_setLine_236 (Nat.le_of_ble_eq_true rfl) (MCi_go q (fun r28 h27 q => ?_))
                refine m_istore (lv' := [.ref 11, .int l1, .int l2, .int l3, .int l4, .int l5, .int 1, .int r28]) dX11_setLine_239 (Nat.le_of_ble_eq_true rfl) rfl rfl ?_
                refine m_aload_n dX11_setLine_241 rfl ?_
                refine gf_X11_23 rfl dX11_setLine_242 ?_
                refine m_bipush (v := 17) dX11_setLine_245 (by decide) ?_
                refine m_iconst (v := 4) dX11_setLine_247 (by decide) ?_
                refine m_iload_n dX11_setLine_248 rfl ?_
                refine m_imul dX11_setLine_249 ?_
                refine m_iadd dX11_setLine_250 ?_
                refine m_iload dX11_setLine_251 rfl ?_
                refine m_iadd dX11_setLine_253 ?_
                refine m_iload dX11_setLine_254 rfl ?_
                obtain ⟨b29, q⟩ := q
                refine m_iastore dX11_setLine_256 rfl (by decide) b29 ?_
                refine m_iload dX11_setLine_257 rfl ?_
                refine m_iload dX11_setLine_259 rfl ?_
                refine m_iadd dX11_setLine_261 ?_
                obtain ⟨x30, ex30⟩ : ∃ z, z = (l4 + r28) := ⟨_, rfl⟩
                rw [← ex30]
                replace q := q x30 ex30
                refine m_istore (lv' := [.ref 11, .int l1, .int l2, .int l3, .int x30, .int l5, .int 1, .int r28]) dX11_setLine_262 (Nat.le_of_ble_eq_true rfl) rfl rfl ?_
                refine m_iinc (v := (l5 + 1)) (lv' := [.ref 11, .int l1, .int l2, .int l3, .int x30, .int (l5 + 1), .int 1, .int r28]) dX11_setLine_264 (Nat.le_of_ble_eq_true rfl) rfl (congrArg (fun z => l5 + z) (by decide : Int32.ofInt 1 = 1)) rfl rfl ?_
                refine m_goto 142 dX11_setLine_267 (by decide) ?_
                refine m_dropK (lv' := [.ref 11, .int l1, .int l2, .int l3, .int x30, .int (l5 + 1), .retAddr 0, .retAddr 0]) [6, 7] rfl ?_
                exact q
              · replace q := q.2 c26
                refine m_aload_n dX11_setLine_223 rfl ?_
                refine m_iconst (v := 4) dX11_setLine_224 (by decide) ?_
                refine m_aload_n dX11_setLine_225 rfl ?_
                refine gf_X11_88 rfl dX11_setLine_226 ?_
                refine cl_X11_134 rfl (by decide) dX11_setLine_229 (Nat.le_of_ble_eq_true rfl) (MCv_go q (fun h31 q => ?_))
                refine m_aload_n dX11_setLine_232 rfl ?_
                refine m_iconst (v := 0) dX11_setLine_233 (by decide) ?_
                refine m_bipush (v := 60) dX11_setLine_234 (by decide) ?_
                refine cl_X11_227 rfl (by decide) dX11_setLine_236 (Nat.le_of_ble_eq_true rfl) (MCi_go q (fun r33 h32 q => ?_))
                refine m_istore (lv' := [.ref 11, .int l1, .int l2, .int l3, .int l4, .int l5, .int 1, .int r33]) dX11_setLine_239 (Nat.le_of_ble_eq_true rfl) rfl rfl ?_
                refine m_aload_n dX11_setLine_241 rfl ?_
                refine gf_X11_23 rfl dX11_setLine_242 ?_
                refine m_bipush (v := 17) dX11_setLine_245 (by decide) ?_
                refine m_iconst (v := 4) dX11_setLine_247 (by decide) ?_
                refine m_iload_n dX11_setLine_248 rfl ?_
                refine m_imul dX11_setLine_249 ?_
                refine m_iadd dX11_setLine_250 ?_
                refine m_iload dX11_setLine_251 rfl ?_
                refine m_iadd dX11_setLine_253 ?_
                refine m_iload dX11_setLine_254 rfl ?_
                obtain ⟨b34, q⟩ := q
                refine m_iastore dX11_setLine_256 rfl (by decide) b34 ?_
                refine m_iload dX11_setLine_257 rfl ?_
                refine m_iload dX11_setLine_259 rfl ?_
                refine m_iadd dX11_setLine_261 ?_
                obtain ⟨x35, ex35⟩ : ∃ z, z = (l4 + r33) := ⟨_, rfl⟩
                rw [← ex35]
                replace q := q x35 ex35
                refine m_istore (lv' := [.ref 11, .int l1, .int l2, .int l3, .int x35, .int l5, .int 1, .int r33]) dX11_setLine_262 (Nat.le_of_ble_eq_true rfl) rfl rfl ?_
                refine m_iinc (v := (l5 + 1)) (lv' := [.ref 11, .int l1, .int l2, .int l3, .int x35, .int (l5 + 1), .int 1, .int r33]) dX11_setLine_264 (Nat.le_of_ble_eq_true rfl) rfl (congrArg (fun z => l5 + z) (by decide : Int32.ofInt 1 = 1)) rfl rfl ?_
                refine m_goto 142 dX11_setLine_267 (by decide) ?_
                refine m_dropK (lv' := [.ref 11, .int l1, .int l2, .int l3, .int x35, .int (l5 + 1), .retAddr 0, .retAddr 0]) [6, 7] rfl ?_
                exact q
      · replace q := q.2 c4
        exact m_vret dX11_setLine_164 rfl q
    · replace q := q.2 c3
      refine m_aload_n dX11_setLine_153 rfl ?_
      refine cl_X11_235 rfl (by decide) dX11_setLine_154 (Nat.le_of_ble_eq_true rfl) (MCv_go q (fun h36 q => ?_))
      refine m_aload_n dX11_setLine_157 rfl ?_
      refine gf_X11_107 rfl dX11_setLine_158 ?_
      refine m_if_eq 165 dX11_setLine_161 (by decide) (fun c37 => ?_) (fun c37 => ?_)
      · replace q := q.1 c37
        refine m_iload dX11_setLine_165 rfl ?_
        refine m_iload_n dX11_setLine_167 rfl ?_
        refine m_iconst (v := 1) dX11_setLine_168 (by decide) ?_
        refine m_isub dX11_setLine_169 ?_
        refine m_icmp_ne 198 dX11_setLine_170 (by decide) (fun c38 => ?_) (fun c38 => ?_)
        · replace q := q.1 c38
          refine m_iconst (v := 0) dX11_setLine_198 (by decide) ?_
          refine m_istore (lv' := [.ref 11, .int l1, .int l2, .int l3, .int l4, .int l5, .int 0, .retAddr 0]) dX11_setLine_199 (Nat.le_of_ble_eq_true rfl) rfl rfl ?_
          refine m_iload dX11_setLine_201 rfl ?_
          refine m_if_eq 232 dX11_setLine_203 (by decide) (fun c39 => ?_) (fun c39 => absurd c39 (by decide))
          refine m_aload_n dX11_setLine_232 rfl ?_
          refine m_iconst (v := 0) dX11_setLine_233 (by decide) ?_
          refine m_bipush (v := 60) dX11_setLine_234 (by decide) ?_
          refine cl_X11_227 rfl (by decide) dX11_setLine_236 (Nat.le_of_ble_eq_true rfl) (MCi_go q (fun r41 h40 q => ?_))
          refine m_istore (lv' := [.ref 11, .int l1, .int l2, .int l3, .int l4, .int l5, .int 0, .int r41]) dX11_setLine_239 (Nat.le_of_ble_eq_true rfl) rfl rfl ?_
          refine m_aload_n dX11_setLine_241 rfl ?_
          refine gf_X11_23 rfl dX11_setLine_242 ?_
          refine m_bipush (v := 17) dX11_setLine_245 (by decide) ?_
          refine m_iconst (v := 4) dX11_setLine_247 (by decide) ?_
          refine m_iload_n dX11_setLine_248 rfl ?_
          refine m_imul dX11_setLine_249 ?_
          refine m_iadd dX11_setLine_250 ?_
          refine m_iload dX11_setLine_251 rfl ?_
          refine m_iadd dX11_setLine_253 ?_
          refine m_iload dX11_setLine_254 rfl ?_
          obtain ⟨b42, q⟩ := q
          refine m_iastore dX11_setLine_256 rfl (by decide) b42 ?_
          refine m_iload dX11_setLine_257 rfl ?_
          refine m_iload dX11_setLine_259 rfl ?_
          refine m_iadd dX11_setLine_261 ?_
          obtain ⟨x43, ex43⟩ : ∃ z, z = (l4 + r41) := ⟨_, rfl⟩
          rw [← ex43]
          replace q := q x43 ex43
          refine m_istore (lv' := [.ref 11, .int l1, .int l2, .int l3, .int x43, .int l5, .int 0, .int r41]) dX11_setLine_262 (Nat.le_of_ble_eq_true rfl) rfl rfl ?_
          refine m_iinc (v := (l5 + 1)) (lv' := [.ref 11, .int l1, .int l2, .int l3, .int x43, .int (l5 + 1), .int 0, .int r41]) dX11_setLine_264 (Nat.le_of_ble_eq_true rfl) rfl (congrArg (fun z => l5 + z) (by decide : Int32.ofInt 1 = 1)) rfl rfl ?_
          refine m_goto 142 dX11_setLine_267 (by decide) ?_
          refine m_dropK (lv' := [.ref 11, .int l1, .int l2, .int l3, .int x43, .int (l5 + 1), .retAddr 0, .retAddr 0]) [6, 7] rfl ?_
          exact q
        · replace q := q.2 c38
          refine m_aload_n dX11_setLine_173 rfl ?_
          refine gf_X11_97 rfl dX11_setLine_174 ?_
          refine m_iconst (v := 3) dX11_setLine_177 (by decide) ?_
          refine m_icmp_ne 198 dX11_setLine_178 (by decide) (fun c44 => ?_) (fun c44 => ?_)
          · replace q := q.1 c44
            refine m_iconst (v := 0) dX11_setLine_198 (by decide) ?_
            refine m_istore (lv' := [.ref 11, .int l1, .int l2, .int l3, .int l4, .int l5, .int 0, .retAddr 0]) dX11_setLine_199 (Nat.le_of_ble_eq_true rfl) rfl rfl ?_
            refine m_iload dX11_setLine_201 rfl ?_
            refine m_if_eq 232 dX11_setLine_203 (by decide) (fun c45 => ?_) (fun c45 => absurd c45 (by decide))
            refine m_aload_n dX11_setLine_232 rfl ?_
            refine m_iconst (v := 0) dX11_setLine_233 (by decide) ?_
            refine m_bipush (v := 60) dX11_setLine_234 (by decide) ?_
            refine cl_X11_227 rfl (by decide) dX11_setLine_236 (Nat.le_of_ble_eq_true rfl) (MCi_go q (fun r47 h46 q => ?_))
            refine m_istore (lv' := [.ref 11, .int l1, .int l2, .int l3, .int l4, .int l5, .int 0, .int r47]) dX11_setLine_239 (Nat.le_of_ble_eq_true rfl) rfl rfl ?_
            refine m_aload_n dX11_setLine_241 rfl ?_
            refine gf_X11_23 rfl dX11_setLine_242 ?_
            refine m_bipush (v := 17) dX11_setLine_245 (by decide) ?_
            refine m_iconst (v := 4) dX11_setLine_247 (by decide) ?_
            refine m_iload_n dX11_setLine_248 rfl ?_
            refine m_imul dX11_setLine_249 ?_
            refine m_iadd dX11_setLine_250 ?_
            refine m_iload dX11_setLine_251 rfl ?_
            refine m_iadd dX11_setLine_253 ?_
            refine m_iload dX11_setLine_254 rfl ?_
            obtain ⟨b48, q⟩ := q
            refine m_iastore dX11_setLine_256 rfl (by decide) b48 ?_
            refine m_iload dX11_setLine_257 rfl ?_
            refine m_iload dX11_setLine_259 rfl ?_
            refine m_iadd dX11_setLine_261 ?_
            obtain ⟨x49, ex49⟩ : ∃ z, z = (l4 + r47) := ⟨_, rfl⟩
            rw [← ex49]
            replace q := q x49 ex49
            refine m_istore (lv' := [.ref 11, .int l1, .int l2, .int l3, .int x49, .int l5, .int 0, .int r47]) dX11_setLine_262 (Nat.le_of_ble_eq_true rfl) rfl rfl ?_
            refine m_iinc (v := (l5 + 1)) (lv' := [.ref 11, .int l1, .int l2, .int l3, .int x49, .int (l5 + 1), .int 0, .int r47]) dX11_setLine_264 (Nat.le_of_ble_eq_true rfl) rfl (congrArg (fun z => l5 + z) (by decide : Int32.ofInt 1 = 1)) rfl rfl ?_
            refine m_goto 142 dX11_setLine_267 (by decide) ?_
            refine m_dropK (lv' := [.ref 11, .int l1, .int l2, .int l3, .int x49, .int (l5 + 1), .retAddr 0, .retAddr 0]) [6, 7] rfl ?_
            exact q
          · replace q := q.2 c44
            refine m_aload_n dX11_setLine_181 rfl ?_
            refine gf_X11_94 rfl dX11_setLine_182 ?_
            refine m_iconst (v := 0) dX11_setLine_185 (by decide) ?_
            refine m_bipush (v := 60) dX11_setLine_186 (by decide) ?_
            refine cl_X11_170 rfl (by decide) dX11_setLine_188 (Nat.le_of_ble_eq_true rfl) (MCi_go q (fun r51 h50 q => ?_))
            refine m_if_eq 198 dX11_setLine_191 (by decide) (fun c52 => ?_) (fun c52 => ?_)
            · replace q := q.1 c52
              refine m_iconst (v := 0) dX11_setLine_198 (by decide) ?_
              refine m_istore (lv' := [.ref 11, .int l1, .int l2, .int l3, .int l4, .int l5, .int 0, .retAddr 0]) dX11_setLine_199 (Nat.le_of_ble_eq_true rfl) rfl rfl ?_
              refine m_iload dX11_setLine_201 rfl ?_
              refine m_if_eq 232 dX11_setLine_203 (by decide) (fun c53 => ?_) (fun c53 => absurd c53 (by decide))
              refine m_aload_n dX11_setLine_232 rfl ?_
              refine m_iconst (v := 0) dX11_setLine_233 (by decide) ?_
              refine m_bipush (v := 60) dX11_setLine_234 (by decide) ?_
              refine cl_X11_227 rfl (by decide) dX11_setLine_236 (Nat.le_of_ble_eq_true rfl) (MCi_go q (fun r55 h54 q => ?_))
              refine m_istore (lv' := [.ref 11, .int l1, .int l2, .int l3, .int l4, .int l5, .int 0, .int r55]) dX11_setLine_239 (Nat.le_of_ble_eq_true rfl) rfl rfl ?_
              refine m_aload_n dX11_setLine_241 rfl ?_
              refine gf_X11_23 rfl dX11_setLine_242 ?_
              refine m_bipush (v := 17) dX11_setLine_245 (by decide) ?_
              refine m_iconst (v := 4) dX11_setLine_247 (by decide) ?_
              refine m_iload_n dX11_setLine_248 rfl ?_
              refine m_imul dX11_setLine_249 ?_
              refine m_iadd dX11_setLine_250 ?_
              refine m_iload dX11_setLine_251 rfl ?_
              refine m_iadd dX11_setLine_253 ?_
              refine m_iload dX11_setLine_254 rfl ?_
              obtain ⟨b56, q⟩ := q
              refine m_iastore dX11_setLine_256 rfl (by decide) b56 ?_
              refine m_iload dX11_setLine_257 rfl ?_
              refine m_iload dX11_setLine_259 rfl ?_
              refine m_iadd dX11_setLine_261 ?_
              obtain ⟨x57, ex57⟩ : ∃ z, z = (l4 + r55) := ⟨_, rfl⟩
              rw [← ex57]
              replace q := q x57 ex57
              refine m_istore (lv' := [.ref 11, .int l1, .int l2, .int l3, .int x57, .int l5, .int 0, .int r55]) dX11_setLine_262 (Nat.le_of_ble_eq_true rfl) rfl rfl ?_
              refine m_iinc (v := (l5 + 1)) (lv' := [.ref 11, .int l1, .int l2, .int l3, .int x57, .int (l5 + 1), .int 0, .int r55]) dX11_setLine_264 (Nat.le_of_ble_eq_true rfl) rfl (congrArg (fun z => l5 + z) (by decide : Int32.ofInt 1 = 1)) rfl rfl ?_
              refine m_goto 142 dX11_setLine_267 (by decide) ?_
              refine m_dropK (lv' := [.ref 11, .int l1, .int l2, .int l3, .int x57, .int (l5 + 1), .retAddr 0, .retAddr 0]) [6, 7] rfl ?_
              exact q
            · replace q := q.2 c52
              refine m_iconst (v := 1) dX11_setLine_194 (by decide) ?_
              refine m_goto 199 dX11_setLine_195 (by decide) ?_
              refine m_istore (lv' := [.ref 11, .int l1, .int l2, .int l3, .int l4, .int l5, .int 1, .retAddr 0]) dX11_setLine_199 (Nat.le_of_ble_eq_true rfl) rfl rfl ?_
              refine m_iload dX11_setLine_201 rfl ?_
              refine m_if_eq 232 dX11_setLine_203 (by decide) (fun c58 => absurd c58 (by decide)) (fun c58 => ?_)
              refine m_iload dX11_setLine_206 rfl ?_
              refine m_aload_n dX11_setLine_208 rfl ?_
              refine gf_X11_94 rfl dX11_setLine_209 ?_
              refine m_iadd dX11_setLine_212 ?_
              refine m_aload_n dX11_setLine_213 rfl ?_
              refine gf_X11_23 rfl dX11_setLine_214 ?_
              refine m_bipush (v := 49) dX11_setLine_217 (by decide) ?_
              refine m_iaload dX11_setLine_219 rfl (by decide) (by unfold vp_in; decide) ?_
              refine m_icmp_eq 232 dX11_setLine_220 (by decide) (fun c59 => ?_) (fun c59 => ?_)
              · replace q := q.1 c59
                refine m_aload_n dX11_setLine_232 rfl ?_
                refine m_iconst (v := 0) dX11_setLine_233 (by decide) ?_
                refine m_bipush (v := 60) dX11_setLine_234 (by decide) ?_
                refine cl_X11_227 rfl (by decide) dX11_setLine_236 (Nat.le_of_ble_eq_true rfl) (MCi_go q (fun r61 h60 q => ?_))
                refine m_istore (lv' := [.ref 11, .int l1, .int l2, .int l3, .int l4, .int l5, .int 1, .int r61]) dX11_setLine_239 (Nat.le_of_ble_eq_true rfl) rfl rfl ?_
                refine m_aload_n dX11_setLine_241 rfl ?_
                refine gf_X11_23 rfl dX11_setLine_242 ?_
                refine m_bipush (v := 17) dX11_setLine_245 (by decide) ?_
                refine m_iconst (v := 4) dX11_setLine_247 (by decide) ?_
                refine m_iload_n dX11_setLine_248 rfl ?_
                refine m_imul dX11_setLine_249 ?_
                refine m_iadd dX11_setLine_250 ?_
                refine m_iload dX11_setLine_251 rfl ?_
                refine m_iadd dX11_setLine_253 ?_
                refine m_iload dX11_setLine_254 rfl ?_
                obtain ⟨b62, q⟩ := q
                refine m_iastore dX11_setLine_256 rfl (by decide) b62 ?_
                refine m_iload dX11_setLine_257 rfl ?_
                refine m_iload dX11_setLine_259 rfl ?_
                refine m_iadd dX11_setLine_261 ?_
                obtain ⟨x63, ex63⟩ : ∃ z, z = (l4 + r61) := ⟨_, rfl⟩
                rw [← ex63]
                replace q := q x63 ex63
                refine m_istore (lv' := [.ref 11, .int l1, .int l2, .int l3, .int x63, .int l5, .int 1, .int r61]) dX11_setLine_262 (Nat.le_of_ble_eq_true rfl) rfl rfl ?_
                refine m_iinc (v := (l5 + 1)) (lv' := [.ref 11, .int l1, .int l2, .int l3, .int x63, .int (l5 + 1), .int 1, .int r61]) dX11_setLine_264 (Nat.le_of_ble_eq_true rfl) rfl (congrArg (fun z => l5 + z) (by decide : Int32.ofInt 1 = 1)) rfl rfl ?_
                refine m_goto 142 dX11_setLine_267 (by decide) ?_
                refine m_dropK (lv' := [.ref 11, .int l1, .int l2, .int l3, .int x63, .int (l5 + 1), .retAddr 0, .retAddr 0]) [6, 7] rfl ?_
                exact q
              · replace q := q.2 c59
                refine m_aload_n dX11_setLine_223 rfl ?_
                refine m_iconst (v := 4) dX11_setLine_224 (by decide) ?_
                refine m_aload_n dX11_setLine_225 rfl ?_
                refine gf_X11_88 rfl dX11_setLine_226 ?_
                refine cl_X11_134 rfl (by decide) dX11_setLine_229 (Nat.le_of_ble_eq_true rfl) (MCv_go q (fun h64 q => ?_))
                refine m_aload_n dX11_setLine_232 rfl ?_
                refine m_iconst (v := 0) dX11_setLine_233 (by decide) ?_
                refine m_bipush (v := 60) dX11_setLine_234 (by decide) ?_
                refine cl_X11_227 rfl (by decide) dX11_setLine_236 (Nat.le_of_ble_eq_true rfl) (MCi_go q (fun r66 h65 q => ?_))
                refine m_istore (lv' := [.ref 11, .int l1, .int l2, .int l3, .int l4, .int l5, .int 1, .int r66]) dX11_setLine_239 (Nat.le_of_ble_eq_true rfl) rfl rfl ?_
                refine m_aload_n dX11_setLine_241 rfl ?_
                refine gf_X11_23 rfl dX11_setLine_242 ?_
                refine m_bipush (v := 17) dX11_setLine_245 (by decide) ?_
                refine m_iconst (v := 4) dX11_setLine_247 (by decide) ?_
                refine m_iload_n dX11_setLine_248 rfl ?_
                refine m_imul dX11_setLine_249 ?_
                refine m_iadd dX11_setLine_250 ?_
                refine m_iload dX11_setLine_251 rfl ?_
                refine m_iadd dX11_setLine_253 ?_
                refine m_iload dX11_setLine_254 rfl ?_
                obtain ⟨b67, q⟩ := q
                refine m_iastore dX11_setLine_256 rfl (by decide) b67 ?_
                refine m_iload dX11_setLine_257 rfl ?_
                refine m_iload dX11_setLine_259 rfl ?_
                refine m_iadd dX11_setLine_261 ?_
                obtain ⟨x68, ex68⟩ : ∃ z, z = (l4 + r66) := ⟨_, rfl⟩
                rw [← ex68]
                replace q := q x68 ex68
                refine m_istore (lv' := [.ref 11, .int l1, .int l2, .int l3, .int x68, .int l5, .int 1, .int r66]) dX11_setLine_262 (Nat.le_of_ble_eq_true rfl) rfl rfl ?_
                refine m_iinc (v := (l5 + 1)) (lv' := [.ref 11, .int l1, .int l2, .int l3, .int x68, .int (l5 + 1), .int 1, .int r66]) dX11_setLine_264 (Nat.le_of_ble_eq_true rfl) rfl (congrArg (fun z => l5 + z) (by decide : Int32.ofInt 1 = 1)) rfl rfl ?_
                refine m_goto 142 dX11_setLine_267 (by decide) ?_
                refine m_dropK (lv' := [.ref 11, .int l1, .int l2, .int l3, .int x68, .int (l5 + 1), .retAddr 0, .retAddr 0]) [6, 7] rfl ?_
                exact q
      · replace q := q.2 c37
        exact m_vret dX11_setLine_164 rfl q
set_option maxRecDepth 100000 in
theorem e_X11_lineLine {g : gT} {h : mh_T} {P : mh_T → Prop}  (q : ((mI h 11 13) = 0 → ∀ x2 : Int32, x2 = (mI h 46 (Int32.toNatClampNeg 52)) → ME g uX11_lineLine 20 [.ref 11, .int x2, .int 0, .int 0, .retAddr 0] [] h (qV P)) ∧ (¬ (mI h 11 13) = 0 → P h)) : MCv g yX11_lineLine uX11_lineLine [.ref 11] h P := by
  refine m_enter (by decide) rfl (Nat.le_of_ble_eq_true rfl) (lv := [.ref 11, .retAddr 0, .retAddr 0, .retAddr 0, .retAddr 0]) rfl ?_
  refine m_aload_n dX11_lineLine_0 rfl ?_
  refine gf_X11_107 rfl dX11_lineLine_1 ?_
  refine m_if_eq 8 dX11_lineLine_4 (by decide) (fun c1 => ?_) (fun c1 => ?_)
  · replace q := q.1 c1
    refine m_aload_n dX11_lineLine_8 rfl ?_
    refine gf_X11_23 rfl dX11_lineLine_9 ?_
    refine m_bipush (v := 52) dX11_lineLine_12 (by decide) ?_
    refine m_iaload dX11_lineLine_14 rfl (by decide) (by unfold vp_in; decide) ?_
    obtain ⟨x2, ex2⟩ : ∃ z, z = (mI h 46 (Int32.toNatClampNeg 52)) := ⟨_, rfl⟩
    rw [← ex2]
    replace q := q x2 ex2
    refine m_istore_n (lv' := [.ref 11, .int x2, .retAddr 0, .retAddr 0, .retAddr 0]) dX11_lineLine_15 (Nat.le_of_ble_eq_true rfl) rfl rfl ?_
    refine m_iconst (v := 0) dX11_lineLine_16 (by decide) ?_
    refine m_istore_n (lv' := [.ref 11, .int x2, .int 0, .retAddr 0, .retAddr 0]) dX11_lineLine_17 (Nat.le_of_ble_eq_true rfl) rfl rfl ?_
    refine m_iconst (v := 0) dX11_lineLine_18 (by decide) ?_
    refine m_istore_n (lv' := [.ref 11, .int x2, .int 0, .int 0, .retAddr 0]) dX11_lineLine_19 (Nat.le_of_ble_eq_true rfl) rfl rfl ?_
    exact q
  · replace q := q.2 c1
    exact m_vret dX11_lineLine_7 rfl q
set_option maxRecDepth 100000 in
theorem r_X11_lineLine_20 {g : gT} {h : mh_T} {P : mh_T → Prop} (l1 : Int32) (l2 : Int32) (l3 : Int32) (q : (3 ≤ l3 → MCv g yX11_pass uX11_pass [.ref 11, .ref (1000 + 9)] h (fun h2 => ((mI h2 11 13) = 0 → MCi g yX11_takes uX11_takes [.ref 11, .ref (1000 + 11)] h2 (fun r5 h4 => (r5 = 0 → MCv g yX11_pass uX11_pass [.ref 11, .ref (1000 + 10)] h4 (fun h7 => P (wI h7 46 (Int32.toNatClampNeg 52) ((mI h7 46 (Int32.toNatClampNeg 52)) + 1)))) ∧ (¬ r5 = 0 → (vp_in (77 + l1) 346) ∧ (P (wI (wI h4 46 (77 + l1).toNatClampNeg 1) 46 (Int32.toNatClampNeg 52) ((mI (wI h4 46 (77 + l1).toNatClampNeg 1) 46 (Int32.toNatClampNeg 52)) + 1)))))) ∧ (¬ (mI h2 11 13) = 0 → P h2))) ∧ (¬ 3 ≤ l3 → (l3 ≤ 0 → MCi g yX11_passed uX11_passed [.ref 11, .int 0, .int l2] h (fun r11 h10 => ((mI h10 11 13) = 0 → ∀ x13 : Int32, x13 = (l2 ||| (1 <<< (r11 &&& 31))) → (vp_in ((53 + (3 * l1)) + l3) 346) ∧ (ME g uX11_lineLine 20 [.ref 11, .int l1, .int x13, .int (l3 + 1), .retAddr 0] [] (wI h10 46 ((53 + (3 * l1)) + l3).toNatClampNeg r11) (qV P))) ∧ (¬ (mI h10 11 13) = 0 → P h10))) ∧ (¬ l3 ≤ 0 → MCv g yX11_mustComma uX11_mustComma [.ref 11] h (fun h15 => MCi g yX11_passed uX11_passed [.ref 11, .int 0, .int l2] h15 (fun r17 h16 => ((mI h16 11 13) = 0 → ∀ x19 : Int32, x19 = (l2 ||| (1 <<< (r17 &&& 31))) → (vp_in ((53 + (3 * l1)) + l3) 346) ∧ (ME g uX11_lineLine 20 [.ref 11, .int l1, .int x19, .int (l3 + 1), .retAddr 0] [] (wI h16 46 ((53 + (3 * l1)) + l3).toNatClampNeg r17) (qV P))) ∧ (¬ (mI h16 11 13) = 0 → P h16)))))) : ME g uX11_lineLine 20 [.ref 11, .int l1, .int l2, .int l3, .retAddr 0] [] h (qV P) := by
  refine m_iload_n dX11_lineLine_20 rfl ?_
  refine m_iconst (v := 3) dX11_lineLine_21 (by decide) ?_
  refine m_icmp_ge 77 dX11_lineLine_22 (by decide) (fun c1 => ?_) (fun c1 => ?_)
  · replace q := q.1 c1
    refine m_aload_n dX11_lineLine_77 rfl ?_
    refine m_ldcS (i := 9) (tx := "is") dX11_lineLine_78 (List.mem_of_getElem? (i := 21) rfl) (by decide) ?_
    refine cl_X11_223 rfl (by decide) dX11_lineLine_80 (Nat.le_of_ble_eq_true rfl) (MCv_go q (fun h2 q => ?_))
    refine m_aload_n dX11_lineLine_83 rfl ?_
    refine gf_X11_107 rfl dX11_lineLine_84 ?_
    refine m_if_eq 91 dX11_lineLine_87 (by decide) (fun c3 => ?_) (fun c3 => ?_)
    · replace q := q.1 c3
      refine m_aload_n dX11_lineLine_91 rfl ?_
      refine m_ldcS (i := 11) (tx := "odd") dX11_lineLine_92 (List.mem_of_getElem? (i := 22) rfl) (by decide) ?_
      refine cl_X11_131 rfl (by decide) dX11_lineLine_94 (Nat.le_of_ble_eq_true rfl) (MCi_go q (fun r5 h4 q => ?_))
      refine m_if_eq 113 dX11_lineLine_97 (by decide) (fun c6 => ?_) (fun c6 => ?_)
      · replace q := q.1 c6
        refine m_aload_n dX11_lineLine_113 rfl ?_
        refine m_ldcS (i := 10) (tx := "even") dX11_lineLine_114 (List.mem_of_getElem? (i := 23) rfl) (by decide) ?_
        refine cl_X11_223 rfl (by decide) dX11_lineLine_116 (Nat.le_of_ble_eq_true rfl) (MCv_go q (fun h7 q => ?_))
        refine m_aload_n dX11_lineLine_119 rfl ?_
        refine gf_X11_23 rfl dX11_lineLine_120 ?_
        refine m_bipush (v := 52) dX11_lineLine_123 (by decide) ?_
        refine m_dup2 dX11_lineLine_125 rfl rfl ?_
        refine m_iaload dX11_lineLine_126 rfl (by decide) (by unfold vp_in; decide) ?_
        refine m_iconst (v := 1) dX11_lineLine_127 (by decide) ?_
        refine m_iadd dX11_lineLine_128 ?_
        refine m_iastore dX11_lineLine_129 rfl (by decide) (by unfold vp_in; decide) ?_
        exact m_vret dX11_lineLine_130 rfl q
      · replace q := q.2 c6
        refine m_aload_n dX11_lineLine_100 rfl ?_
        refine gf_X11_23 rfl dX11_lineLine_101 ?_
        refine m_bipush (v := 77) dX11_lineLine_104 (by decide) ?_
        refine m_iload_n dX11_lineLine_106 rfl ?_
        refine m_iadd dX11_lineLine_107 ?_
        refine m_iconst (v := 1) dX11_lineLine_108 (by decide) ?_
        obtain ⟨b8, q⟩ := q
        refine m_iastore dX11_lineLine_109 rfl (by decide) b8 ?_
        refine m_goto 119 dX11_lineLine_110 (by decide) ?_
        refine m_aload_n dX11_lineLine_119 rfl ?_
        refine gf_X11_23 rfl dX11_lineLine_120 ?_
        refine m_bipush (v := 52) dX11_lineLine_123 (by decide) ?_
        refine m_dup2 dX11_lineLine_125 rfl rfl ?_
        refine m_iaload dX11_lineLine_126 rfl (by decide) (by unfold vp_in; decide) ?_
        refine m_iconst (v := 1) dX11_lineLine_127 (by decide) ?_
        refine m_iadd dX11_lineLine_128 ?_
        refine m_iastore dX11_lineLine_129 rfl (by decide) (by unfold vp_in; decide) ?_
        exact m_vret dX11_lineLine_130 rfl q
    · replace q := q.2 c3
      exact m_vret dX11_lineLine_90 rfl q
  · replace q := q.2 c1
    refine m_iload_n dX11_lineLine_25 rfl ?_
    refine m_if_le 33 dX11_lineLine_26 (by decide) (fun c9 => ?_) (fun c9 => ?_)
    · replace q := q.1 c9
      refine m_aload_n dX11_lineLine_33 rfl ?_
      refine m_iconst (v := 0) dX11_lineLine_34 (by decide) ?_
      refine m_iload_n dX11_lineLine_35 rfl ?_
      refine cl_X11_231 rfl (by decide) dX11_lineLine_36 (Nat.le_of_ble_eq_true rfl) (MCi_go q (fun r11 h10 q => ?_))
      refine m_istore (lv' := [.ref 11, .int l1, .int l2, .int l3, .int r11]) dX11_lineLine_39 (Nat.le_of_ble_eq_true rfl) rfl rfl ?_
      refine m_aload_n dX11_lineLine_41 rfl ?_
      refine gf_X11_107 rfl dX11_lineLine_42 ?_
      refine m_if_eq 49 dX11_lineLine_45 (by decide) (fun c12 => ?_) (fun c12 => ?_)
      · replace q := q.1 c12
        refine m_iload_n dX11_lineLine_49 rfl ?_
        refine m_iconst (v := 1) dX11_lineLine_50 (by decide) ?_
        refine m_iload dX11_lineLine_51 rfl ?_
        refine m_ishl dX11_lineLine_53 ?_
        refine m_ior dX11_lineLine_54 ?_
        obtain ⟨x13, ex13⟩ : ∃ z, z = (l2 ||| (1 <<< (r11 &&& 31))) := ⟨_, rfl⟩
        rw [← ex13]
        replace q := q x13 ex13
        refine m_istore_n (lv' := [.ref 11, .int l1, .int x13, .int l3, .int r11]) dX11_lineLine_55 (Nat.le_of_ble_eq_true rfl) rfl rfl ?_
        refine m_aload_n dX11_lineLine_56 rfl ?_
        refine gf_X11_23 rfl dX11_lineLine_57 ?_
        refine m_bipush (v := 53) dX11_lineLine_60 (by decide) ?_
        refine m_iconst (v := 3) dX11_lineLine_62 (by decide) ?_
        refine m_iload_n dX11_lineLine_63 rfl ?_
        refine m_imul dX11_lineLine_64 ?_
        refine m_iadd dX11_lineLine_65 ?_
        refine m_iload_n dX11_lineLine_66 rfl ?_
        refine m_iadd dX11_lineLine_67 ?_
        refine m_iload dX11_lineLine_68 rfl ?_
        obtain ⟨b14, q⟩ := q
        refine m_iastore dX11_lineLine_70 rfl (by decide) b14 ?_
        refine m_iinc (v := (l3 + 1)) (lv' := [.ref 11, .int l1, .int x13, .int (l3 + 1), .int r11]) dX11_lineLine_71 (Nat.le_of_ble_eq_true rfl) rfl (congrArg (fun z => l3 + z) (by decide : Int32.ofInt 1 = 1)) rfl rfl ?_
        refine m_goto 20 dX11_lineLine_74 (by decide) ?_
        refine m_dropK (lv' := [.ref 11, .int l1, .int x13, .int (l3 + 1), .retAddr 0]) [4] rfl ?_
        exact q
      · replace q := q.2 c12
        exact m_vret dX11_lineLine_48 rfl q
    · replace q := q.2 c9
      refine m_aload_n dX11_lineLine_29 rfl ?_
      refine cl_X11_235 rfl (by decide) dX11_lineLine_30 (Nat.le_of_ble_eq_true rfl) (MCv_go q (fun h15 q => ?_))
      refine m_aload_n dX11_lineLine_33 rfl ?_
      refine m_iconst (v := 0) dX11_lineLine_34 (by decide) ?_
      refine m_iload_n dX11_lineLine_35 rfl ?_
      refine cl_X11_231 rfl (by decide) dX11_lineLine_36 (Nat.le_of_ble_eq_true rfl) (MCi_go q (fun r17 h16 q => ?_))
      refine m_istore (lv' := [.ref 11, .int l1, .int l2, .int l3, .int r17]) dX11_lineLine_39 (Nat.le_of_ble_eq_true rfl) rfl rfl ?_
      refine m_aload_n dX11_lineLine_41 rfl ?_
      refine gf_X11_107 rfl dX11_lineLine_42 ?_
      refine m_if_eq 49 dX11_lineLine_45 (by decide) (fun c18 => ?_) (fun c18 => ?_)
      · replace q := q.1 c18
        refine m_iload_n dX11_lineLine_49 rfl ?_
        refine m_iconst (v := 1) dX11_lineLine_50 (by decide) ?_
        refine m_iload dX11_lineLine_51 rfl ?_
        refine m_ishl dX11_lineLine_53 ?_
        refine m_ior dX11_lineLine_54 ?_
        obtain ⟨x19, ex19⟩ : ∃ z, z = (l2 ||| (1 <<< (r17 &&& 31))) := ⟨_, rfl⟩
        rw [← ex19]
        replace q := q x19 ex19
        refine m_istore_n (lv' := [.ref 11, .int l1, .int x19, .int l3, .int r17]) dX11_lineLine_55 (Nat.le_of_ble_eq_true rfl) rfl rfl ?_
        refine m_aload_n dX11_lineLine_56 rfl ?_
        refine gf_X11_23 rfl dX11_lineLine_57 ?_
        refine m_bipush (v := 53) dX11_lineLine_60 (by decide) ?_
        refine m_iconst (v := 3) dX11_lineLine_62 (by decide) ?_
        refine m_iload_n dX11_lineLine_63 rfl ?_
        refine m_imul dX11_lineLine_64 ?_
        refine m_iadd dX11_lineLine_65 ?_
        refine m_iload_n dX11_lineLine_66 rfl ?_
        refine m_iadd dX11_lineLine_67 ?_
        refine m_iload dX11_lineLine_68 rfl ?_
        obtain ⟨b20, q⟩ := q
        refine m_iastore dX11_lineLine_70 rfl (by decide) b20 ?_
        refine m_iinc (v := (l3 + 1)) (lv' := [.ref 11, .int l1, .int x19, .int (l3 + 1), .int r17]) dX11_lineLine_71 (Nat.le_of_ble_eq_true rfl) rfl (congrArg (fun z => l3 + z) (by decide : Int32.ofInt 1 = 1)) rfl rfl ?_
        refine m_goto 20 dX11_lineLine_74 (by decide) ?_
        refine m_dropK (lv' := [.ref 11, .int l1, .int x19, .int (l3 + 1), .retAddr 0]) [4] rfl ?_
        exact q
      · replace q := q.2 c18
        exact m_vret dX11_lineLine_48 rfl q
