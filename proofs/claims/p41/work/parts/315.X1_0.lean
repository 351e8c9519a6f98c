set_option maxRecDepth 20000 in
theorem tw_1004 : Cond.fieldLink RX1 18 "NotAtOnce$Draft" "times" "[I" ∈ lw_tbl := tk_1 (j := 71) rfl
set_option maxRecDepth 20000 in
theorem tw_1005 : Cond.fieldLink RX1 39 "NotAtOnce$Draft" "law" "I" ∈ lw_tbl := tk_1 (j := 44) rfl
set_option maxRecDepth 20000 in
theorem tw_1006 : Cond.fieldLink RX1 43 "NotAtOnce$Draft" "looks" "I" ∈ lw_tbl := tk_1 (j := 47) rfl
set_option maxRecDepth 20000 in
theorem tw_1007 : Cond.fieldLink RX1 46 "NotAtOnce$Draft" "points" "I" ∈ lw_tbl := tk_1 (j := 51) rfl
set_option maxRecDepth 20000 in
theorem tw_1008 : Cond.fieldLink RX1 49 "NotAtOnce$Draft" "sets" "I" ∈ lw_tbl := tk_1 (j := 53) rfl
set_option maxRecDepth 20000 in
theorem tw_1009 : Cond.fieldLink RX1 52 "NotAtOnce$Draft" "lines" "I" ∈ lw_tbl := tk_1 (j := 57) rfl
set_option maxRecDepth 20000 in
theorem tw_1010 : Cond.fieldLink RX1 55 "NotAtOnce$Draft" "rays" "I" ∈ lw_tbl := tk_1 (j := 60) rfl
set_option maxRecDepth 20000 in
theorem tw_1011 : Cond.fieldLink RX1 58 "NotAtOnce$Draft" "runs" "I" ∈ lw_tbl := tk_1 (j := 63) rfl
set_option maxRecDepth 100000 in
theorem gf_X1_18 {g : gT} {u : uT} {pc : Nat} {lv st : List Value} {h : mh_T} {Q : Option Value → mh_T → Prop} (hu : u.1 = RX1) (hd : decode u.2.1 pc = .ok (.getfield 18, 3)) (kk : ME g u (pc + 3) lv (.ref 17 :: st) h Q) : ME g u pc lv (.ref 2 :: st) h Q := m_getR (k' := 17) (ci := 1) (k := 2) (j := 9) (q := (RX1, TX1, 16)) (ref := "NotAtOnce$Draft") hd rfl (by decide) (by decide) rfl rfl tinX1 tgX1 (by rw [hu]; exact tw_1004) rfl rfl rfl (by decide) kk
set_option maxRecDepth 100000 in
theorem pf_X1_39 {g : gT} {u : uT} {pc : Nat} {lv st : List Value} {h : mh_T} {Q : Option Value → mh_T → Prop} {v : Int32} (hu : u.1 = RX1) (hd : decode u.2.1 pc = .ok (.putfield 39, 3)) (kk : ME g u (pc + 3) lv st (wI h 2 0 v) Q) : ME g u pc lv (.int v :: .ref 2 :: st) h Q := m_putI (ty := .int) (ci := 1) (k := 2) (j := 0) (q := (RX1, TX1, 16)) (ref := "NotAtOnce$Draft") hd rfl (by decide) (by decide) rfl rfl tinX1 tgX1 (by rw [hu]; exact tw_1005) rfl tyX1 tyX1_ok nmX1 rfl (by decide +kernel) rfl rfl rfl kk
set_option maxRecDepth 100000 in
theorem pf_X1_43 {g : gT} {u : uT} {pc : Nat} {lv st : List Value} {h : mh_T} {Q : Option Value → mh_T → Prop} {v : Int32} (hu : u.1 = RX1) (hd : decode u.2.1 pc = .ok (.putfield 43, 3)) (kk : ME g u (pc + 3) lv st (wI h 2 1 v) Q) : ME g u pc lv (.int v :: .ref 2 :: st) h Q := m_putI (ty := .int) (ci := 1) (k := 2) (j := 1) (q := (RX1, TX1, 16)) (ref := "NotAtOnce$Draft") hd rfl (by decide) (by decide) rfl rfl tinX1 tgX1 (by rw [hu]; exact tw_1006) rfl tyX1 tyX1_ok nmX1 rfl (by decide +kernel) rfl rfl rfl kk
set_option maxRecDepth 100000 in
theorem pf_X1_46 {g : gT} {u : uT} {pc : Nat} {lv st : List Value} {h : mh_T} {Q : Option Value → mh_T → Prop} {v : Int32} (hu : u.1 = RX1) (hd : decode u.2.1 pc = .ok (.putfield 46, 3)) (kk : ME g u (pc + 3) lv st (wI h 2 2 v) Q) : ME g u pc lv (.int v :: .ref 2 :: st) h Q := m_putI (ty := .int) (ci := 1) (k := 2) (j := 2) (q := (RX1, TX1, 16)) (ref := "NotAtOnce$Draft") hd rfl (by decide) (by decide) rfl rfl tinX1 tgX1 (by rw [hu]; exact tw_1007) rfl tyX1 tyX1_ok nmX1 rfl (by decide +kernel) rfl rfl rfl kk
set_option maxRecDepth 100000 in
theorem pf_X1_49 {g : gT} {u : uT} {pc : Nat} {lv st : List Value} {h : mh_T} {Q : Option Value → mh_T → Prop} {v : Int32} (hu : u.1 = RX1) (hd : decode u.2.1 pc = .ok (.putfield 49, 3)) (kk : ME g u (pc + 3) lv st (wI h 2 3 v) Q) : ME g u pc lv (.int v :: .ref 2 :: st) h Q := m_putI (ty := .int) (ci := 1) (k := 2) (j := 3) (q := (RX1, TX1, 16)) (ref := "NotAtOnce$Draft") hd rfl (by decide) (by decide) rfl rfl tinX1 tgX1 (by rw [hu]; exact tw_1008) rfl tyX1 tyX1_ok nmX1 rfl (by decide +kernel) rfl rfl rfl kk
set_option maxRecDepth 100000 in
theorem pf_X1_52 {g : gT} {u : uT} {pc : Nat} {lv st : List Value} {h : mh_T} {Q : Option Value → mh_T → Prop} {v : Int32} (hu : u.1 = RX1) (hd : decode u.2.1 pc = .ok (.putfield 52, 3)) (kk : ME g u (pc + 3) lv st (wI h 2 4 v) Q) : ME g u pc lv (.int v :: .ref 2 :: st) h Q := m_putI (ty := .int) (ci := 1) (k := 2) (j := 4) (q := (RX1, TX1, 16)) (ref := "NotAtOnce$Draft") hd rfl (by decide) (by decide) rfl rfl tinX1 tgX1 (by rw [hu]; exact tw_1009) rfl tyX1 tyX1_ok nmX1 rfl (by decide +kernel) rfl rfl rfl kk
set_option maxRecDepth 100000 in
theorem pf_X1_55 {g : gT} {u : uT} {pc : Nat} {lv st : List Value} {h : mh_T} {Q : Option Value → mh_T → Prop} {v : Int32} (hu : u.1 = RX1) (hd : decode u.2.1 pc = .ok (.putfield 55, 3)) (kk : ME g u (pc + 3) lv st (wI h 2 5 v) Q) : ME g u pc lv (.int v :: .ref 2 :: st) h Q := m_putI (ty := .int) (ci := 1) (k := 2) (j := 5) (q := (RX1, TX1, 16)) (ref := "NotAtOnce$Draft") hd rfl (by decide) (by decide) rfl rfl tinX1 tgX1 (by rw [hu]; exact tw_1010) rfl tyX1 tyX1_ok nmX1 rfl (by decide +kernel) rfl rfl rfl kk
set_option maxRecDepth 100000 in
theorem pf_X1_58 {g : gT} {u : uT} {pc : Nat} {lv st : List Value} {h : mh_T} {Q : Option Value → mh_T → Prop} {v : Int32} (hu : u.1 = RX1) (hd : decode u.2.1 pc = .ok (.putfield 58, 3)) (kk : ME g u (pc + 3) lv st (wI h 2 6 v) Q) : ME g u pc lv (.int v :: .ref 2 :: st) h Q := m_putI (ty := .int) (ci := 1) (k := 2) (j := 6) (q := (RX1, TX1, 16)) (ref := "NotAtOnce$Draft") hd rfl (by decide) (by decide) rfl rfl tinX1 tgX1 (by rw [hu]; exact tw_1011) rfl tyX1 tyX1_ok nmX1 rfl (by decide +kernel) rfl rfl rfl kk
theorem dX1_clear_0 : decode cX1_clear 0 = .ok (.aload_n 0, 1) := by decide +kernel
theorem dX1_clear_1 : decode cX1_clear 1 = .ok (.iconst 0, 1) := by decide +kernel
theorem dX1_clear_2 : decode cX1_clear 2 = .ok (.putfield 39, 3) := by decide +kernel
theorem dX1_clear_5 : decode cX1_clear 5 = .ok (.aload_n 0, 1) := by decide +kernel
theorem dX1_clear_6 : decode cX1_clear 6 = .ok (.iconst 0, 1) := by decide +kernel
theorem dX1_clear_7 : decode cX1_clear 7 = .ok (.putfield 43, 3) := by decide +kernel
theorem dX1_clear_10 : decode cX1_clear 10 = .ok (.aload_n 0, 1) := by decide +kernel
theorem dX1_clear_11 : decode cX1_clear 11 = .ok (.iconst 0, 1) := by decide +kernel
theorem dX1_clear_12 : decode cX1_clear 12 = .ok (.putfield 46, 3) := by decide +kernel
theorem dX1_clear_15 : decode cX1_clear 15 = .ok (.aload_n 0, 1) := by decide +kernel
theorem dX1_clear_16 : decode cX1_clear 16 = .ok (.iconst 0, 1) := by decide +kernel
theorem dX1_clear_17 : decode cX1_clear 17 = .ok (.putfield 49, 3) := by decide +kernel
theorem dX1_clear_20 : decode cX1_clear 20 = .ok (.aload_n 0, 1) := by decide +kernel
theorem dX1_clear_21 : decode cX1_clear 21 = .ok (.iconst 0, 1) := by decide +kernel
theorem dX1_clear_22 : decode cX1_clear 22 = .ok (.putfield 52, 3) := by decide +kernel
theorem dX1_clear_25 : decode cX1_clear 25 = .ok (.aload_n 0, 1) := by decide +kernel
theorem dX1_clear_26 : decode cX1_clear 26 = .ok (.iconst 0, 1) := by decide +kernel
theorem dX1_clear_27 : decode cX1_clear 27 = .ok (.putfield 55, 3) := by decide +kernel
theorem dX1_clear_30 : decode cX1_clear 30 = .ok (.aload_n 0, 1) := by decide +kernel
theorem dX1_clear_31 : decode cX1_clear 31 = .ok (.iconst 0, 1) := by decide +kernel
theorem dX1_clear_32 : decode cX1_clear 32 = .ok (.putfield 58, 3) := by decide +kernel
theorem dX1_clear_35 : decode cX1_clear 35 = .ok (.iconst 0, 1) := by decide +kernel
theorem dX1_clear_36 : decode cX1_clear 36 = .ok (.istore_n 1, 1) := by decide +kernel
theorem dX1_clear_37 : decode cX1_clear 37 = .ok (.iload_n 1, 1) := by decide +kernel
theorem dX1_clear_38 : decode cX1_clear 38 = .ok (.aload_n 0, 1) := by decide +kernel
theorem dX1_clear_39 : decode cX1_clear 39 = .ok (.getfield 18, 3) := by decide +kernel
theorem dX1_clear_42 : decode cX1_clear 42 = .ok (.arraylength, 1) := by decide +kernel
theorem dX1_clear_43 : decode cX1_clear 43 = .ok (.if_icmp .ge 16, 3) := by decide +kernel
theorem dX1_clear_59 : decode cX1_clear 59 = .ok (.return_, 1) := by decide +kernel
theorem dX1_clear_46 : decode cX1_clear 46 = .ok (.aload_n 0, 1) := by decide +kernel
theorem dX1_clear_47 : decode cX1_clear 47 = .ok (.getfield 18, 3) := by decide +kernel
theorem dX1_clear_50 : decode cX1_clear 50 = .ok (.iload_n 1, 1) := by decide +kernel
theorem dX1_clear_51 : decode cX1_clear 51 = .ok (.iconst 0, 1) := by decide +kernel
theorem dX1_clear_52 : decode cX1_clear 52 = .ok (.iastore, 1) := by decide +kernel
theorem dX1_clear_53 : decode cX1_clear 53 = .ok (.iinc 1 1, 3) := by decide +kernel
theorem dX1_clear_56 : decode cX1_clear 56 = .ok (.goto (-19), 3) := by decide +kernel
set_option maxRecDepth 100000 in
theorem e_X1_clear {g : gT} {h : mh_T} {P : mh_T → Prop}  (q : ME g uX1_clear 37 [.ref 2, .int 0] [] (wI (wI (wI (wI (wI (wI (wI h 2 0 0) 2 1 0) 2 2 0) 2 3 0) 2 4 0) 2 5 0) 2 6 0) (qV P)) : MCv g yX1_clear uX1_clear [.ref 2] h P := by
  refine m_enter (by decide) rfl (Nat.le_of_ble_eq_true rfl) (lv := [.ref 2, .retAddr 0]) rfl ?_
  refine m_aload_n dX1_clear_0 rfl ?_
  refine m_iconst (v := 0) dX1_clear_1 (by decide) ?_
  refine pf_X1_39 rfl dX1_clear_2 ?_
  refine m_aload_n dX1_clear_5 rfl ?_
  refine m_iconst (v := 0) dX1_clear_6 (by decide) ?_
  refine pf_X1_43 rfl dX1_clear_7 ?_
  refine m_aload_n dX1_clear_10 rfl ?_
  refine m_iconst (v := 0) dX1_clear_11 (by decide) ?_
  refine pf_X1_46 rfl dX1_clear_12 ?_
  refine m_aload_n dX1_clear_15 rfl ?_
  refine m_iconst (v := 0) dX1_clear_16 (by decide) ?_
  refine pf_X1_49 rfl dX1_clear_17 ?_
  refine m_aload_n dX1_clear_20 rfl ?_
  refine m_iconst (v := 0) dX1_clear_21 (by decide) ?_
  refine pf_X1_52 rfl dX1_clear_22 ?_
  refine m_aload_n dX1_clear_25 rfl ?_
  refine m_iconst (v := 0) dX1_clear_26 (by decide) ?_
  refine pf_X1_55 rfl dX1_clear_27 ?_
  refine m_aload_n dX1_clear_30 rfl ?_
  refine m_iconst (v := 0) dX1_clear_31 (by decide) ?_
  refine pf_X1_58 rfl dX1_clear_32 ?_
  refine m_iconst (v := 0) dX1_clear_35 (by decide) ?_
  refine m_istore_n (lv' := [.ref 2, .int 0]) dX1_clear_36 (Nat.le_of_ble_eq_true rfl) rfl rfl ?_
  exact q
set_option maxRecDepth 100000 in
theorem r_X1_clear_37 {g : gT} {h : mh_T} {P : mh_T → Prop} (l1 : Int32) (q : (32 ≤ l1 → P h) ∧ (¬ 32 ≤ l1 → (vp_in l1 32) ∧ (ME g uX1_clear 37 [.ref 2, .int (l1 + 1)] [] (wI h 17 l1.toNatClampNeg 0) (qV P)))) : ME g uX1_clear 37 [.ref 2, .int l1] [] h (qV P) := by
  refine m_iload_n dX1_clear_37 rfl ?_
  refine m_aload_n dX1_clear_38 rfl ?_
  refine gf_X1_18 rfl dX1_clear_39 ?_
  refine m_alen (v := 32) dX1_clear_42 rfl (by decide) (by decide) (by decide) ?_
  refine m_icmp_ge 59 dX1_clear_43 (by decide) (fun c1 => ?_) (fun c1 => ?_)
  · replace q := q.1 c1
    exact m_vret dX1_clear_59 rfl q
  · replace q := q.2 c1
    refine m_aload_n dX1_clear_46 rfl ?_
    refine gf_X1_18 rfl dX1_clear_47 ?_
    refine m_iload_n dX1_clear_50 rfl ?_
    refine m_iconst (v := 0) dX1_clear_51 (by decide) ?_
    obtain ⟨b2, q⟩ := q
    refine m_iastore dX1_clear_52 rfl (by decide) b2 ?_
    refine m_iinc (v := (l1 + 1)) (lv' := [.ref 2, .int (l1 + 1)]) dX1_clear_53 (Nat.le_of_ble_eq_true rfl) rfl (congrArg (fun z => l1 + z) (by decide : Int32.ofInt 1 = 1)) rfl rfl ?_
    refine m_goto 37 dX1_clear_56 (by decide) ?_
    exact q
