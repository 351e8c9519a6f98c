set_option maxRecDepth 20000 in
theorem iw_X10_put_X10_c_put : ∀ w ∈ wsX100, w ∈ wsX10_put := by decide +kernel
set_option maxHeartbeats 4000000 in
set_option maxRecDepth 100000 in
/-- put(number): four bytes come behind THE TAPE -/
theorem c_put (l : Launch) (dC : Nat → ClassId) (dI : Nat → Nat → Nat) (sz : Nat) (h0 : Nat) (tp : Nat) (rd : Nat) (tb : Nat) (rg : Nat) (bl : Nat) (pa : Nat) (fm : Nat) (te : Nat) (hi : Nat) (fr : Nat) (rf : Int32) (lf : Int32) (fp : Int32) (k : Nat) (cT : ClassId) (f : Nat → Int32) (p0 : Int32) (hk : k + 4 ≤ 900) : Met l yX10_put wsX10_put ({ frames := 0, cells := 0, slots := 0, locals := 0 }) (va_Pc [.ref h0, .int p0] (fun U => U.heap.size = sz ∧ va_P (dC, dI) vwCl [(h0, .inr (10, [.ref tp, .ref rd, .ref tb, .ref rg, .ref bl, .ref pa, .ref fm, .ref te, .ref hi, .ref fr, .int (nI k), .int rf, .int lf, .int fp])), (tp, .inl (cT, 900, .inl (f)))] U.heap ∧ va_K (dC, dI) vwCl [(cT, .int)] U ∧ va_D (fun _ => True) [(h0, .inr (10, [.ref tp, .ref rd, .ref tb, .ref rg, .ref bl, .ref pa, .ref fm, .ref te, .ref hi, .ref fr, .int (nI k), .int rf, .int lf, .int fp])), (tp, .inl (cT, 900, .inl (f)))])) (va_Qv (fun (_ : Unit) => True) (fun _ t => ∃ (f_19 : Nat → Int32), va_P (dC, dI) vwCl [(h0, .inr (10, [.ref tp, .ref rd, .ref tb, .ref rg, .ref bl, .ref pa, .ref fm, .ref te, .ref hi, .ref fr, .int (nI (k + 1 + 1 + 1 + 1)), .int rf, .int lf, .int fp])), (tp, .inl (cT, 900, .inl (f_19)))] t.heap ∧ va_K (dC, dI) vwCl [(cT, .int)] t ∧ va_D (va_A [(h0, .inr (10, [.ref tp, .ref rd, .ref tb, .ref rg, .ref bl, .ref pa, .ref fm, .ref te, .ref hi, .ref fr, .int (nI k), .int rf, .int lf, .int fp])), (tp, .inl (cT, 900, .inl (f)))] sz) [(h0, .inr (10, [.ref tp, .ref rd, .ref tb, .ref rg, .ref bl, .ref pa, .ref fm, .ref te, .ref hi, .ref fr, .int (nI (k + 1 + 1 + 1 + 1)), .int rf, .int lf, .int fp])), (tp, .inl (cT, 900, .inl (f_19)))]) (va_A [(h0, .inr (10, [.ref tp, .ref rd, .ref tb, .ref rg, .ref bl, .ref pa, .ref fm, .ref te, .ref hi, .ref fr, .int (nI k), .int rf, .int lf, .int fp])), (tp, .inl (cT, 900, .inl (f)))] sz)) 0 0 (va_A [(h0, .inr (10, [.ref tp, .ref rd, .ref tb, .ref rg, .ref bl, .ref pa, .ref fm, .ref te, .ref hi, .ref fr, .int (nI k), .int rf, .int lf, .int fp])), (tp, .inl (cT, 900, .inl (f)))] sz) := by
  refine Met.ofW (cc := cX10_put) (maxL := 3) (ret := none) (by decide) rfl ?_
  intro p e s m args below meth c s₁ B hml hv
  obtain ⟨rfl, hsz, hP, hK, hD0⟩ := hv
  have hx := B.exec
  have hb := B.bytes
  have hr := B.returns
  have hts := atoms_spec (ws := wsX10_put) B.pre
  have hown : s.vm.findClass RX10 = some m.cls := findClass_of_methodNamed B.named
  have hlocks := B.notSynchronized
  subst hsz
  have hD := hD0.self (sz := s.heap.size)
  generalize hAe : va_A [(h0, .inr (10, [.ref tp, .ref rd, .ref tb, .ref rg, .ref bl, .ref pa, .ref fm, .ref te, .ref hi, .ref fr, .int (nI k), .int rf, .int lf, .int fp])), (tp, .inl (cT, 900, .inl (f)))] s.heap.size = A at hD ⊢
  have hA : ∀ q : Nat, s.heap.size ≤ q → A q := fun q h => by rw [← hAe]; exact Or.inr h
  have hS : va_S A s.heap s.heap [] := va_S.rf
  have hP : va_P (dC, dI) vwCl [(h0, .inr (10, [.ref tp, .ref rd, .ref tb, .ref rg, .ref bl, .ref pa, .ref fm, .ref te, .ref hi, .ref fr, .int (nI k), .int rf, .int lf, .int fp])), (tp, .inl (cT, 900, .inl (f)))] s.heap := hP
  have hl := lv_entry ([.ref h0, .int p0]) (n := 3) (Nat.le_of_ble_eq_true rfl)
  rw [lg_entry_eq]
  generalize (lg_sl ([.ref h0, .int p0]) ++ List.replicate (3 - (lg_sl ([.ref h0, .int p0])).length) Slot.unset).toArray = ls at hl ⊢
  have hl : lv_has ls 3 [(0, .ref h0), (1, .int p0)] := hl
  refine lv_bipush (v := 24) hx hb dX10_put_0 (by decide) ?_
  refine lv_istore_n (lv' := [(2, .int 24), (0, .ref h0), (1, .int p0)]) hx hb dX10_put_2 rfl hl (by decide) rfl (fun ls hl => ?_)
  refine lv_iload_n hx hb dX10_put_3 rfl (lv_at hl 0 rfl) ?_
  refine lv_if_lt (tgt := 39) hx hb dX10_put_4 (by decide) (fun c_1 => absurd c_1 (by decide)) (fun c_1 => ?_)
  refine lv_aload_n hx hb dX10_put_7 rfl (lv_at hl 1 rfl) ?_
  refine va_get (D := (dC, dI)) (ci := 10) (v := .ref tp) (C := RX10) (T := TX10) (N := 14) hx hb hts iw_X10_put_X10_c_put hown hK hP 0 rfl rfl 0 (by decide) (hts (.fieldLink RX10 9 "NotAtOnce" "tape" "[I") (by decide +kernel)) (fun _ h9 => h9) rfl dX10_put_8 ?_
  refine lv_aload_n hx hb dX10_put_11 rfl (lv_at hl 1 rfl) ?_
  refine va_get (D := (dC, dI)) (ci := 10) (v := .int (nI k)) (C := RX10) (T := TX10) (N := 14) hx hb hts iw_X10_put_X10_c_put hown hK hP 0 rfl rfl 10 (by decide) (hts (.fieldLink RX10 82 "NotAtOnce" "fed" "I") (by decide +kernel)) (fun _ h9 => h9) rfl dX10_put_12 ?_
  refine lv_iload_n hx hb dX10_put_15 rfl (lv_at hl 2 rfl) ?_
  refine lv_iload_n hx hb dX10_put_16 rfl (lv_at hl 0 rfl) ?_
  refine lv_iushr hx hb dX10_put_17 rfl ?_
  refine lv_topi (fun v_2 ev_2 => ?_)
  refine lv_sipush (v := 255) hx hb dX10_put_18 (by decide) ?_
  refine lv_iand hx hb dX10_put_21 ?_
  refine lv_topi (fun v_3 ev_3 => ?_)
  refine va_iast hx hb hK hP hD hS 1 0 rfl rfl (vp_in_nI (by omega) (by decide)) dX10_put_22 (fun H locs hP hD hS => ?_)
  obtain ⟨f_4, ef_4⟩ : ∃ g : Nat → Int32, g = upd (f) (Int32.toNatClampNeg (nI k)) v_3 := ⟨_, rfl⟩
  have hP : va_P (dC, dI) vwCl [(h0, .inr (10, [.ref tp, .ref rd, .ref tb, .ref rg, .ref bl, .ref pa, .ref fm, .ref te, .ref hi, .ref fr, .int (nI k), .int rf, .int lf, .int fp])), (tp, .inl (cT, 900, .inl (f_4)))] H := by rw [ef_4]; exact hP
  have hD : va_D A [(h0, .inr (10, [.ref tp, .ref rd, .ref tb, .ref rg, .ref bl, .ref pa, .ref fm, .ref te, .ref hi, .ref fr, .int (nI k), .int rf, .int lf, .int fp])), (tp, .inl (cT, 900, .inl (f_4)))] := by rw [ef_4]; exact hD
  refine lv_aload_n hx hb dX10_put_23 rfl (lv_at hl 1 rfl) ?_
  refine lv_dup hx hb dX10_put_24 rfl ?_
  refine va_get (D := (dC, dI)) (ci := 10) (v := .int (nI k)) (C := RX10) (T := TX10) (N := 14) hx hb hts iw_X10_put_X10_c_put hown hK hP 0 rfl rfl 10 (by decide) (hts (.fieldLink RX10 82 "NotAtOnce" "fed" "I") (by decide +kernel)) (fun _ h9 => h9) rfl dX10_put_25 ?_
  refine lv_iconst (v := 1) hx hb dX10_put_28 (by decide) ?_
  refine lv_iadd hx hb dX10_put_29 ?_
  refine lv_topi (fun v_5 ev_5 => ?_)
  obtain rfl : v_5 = nI (k + 1) := ev_5.trans (by rw [show (1 : Int32) = nI 1 from by decide, nI_add])
  refine va_put (D := (dC, dI)) (ci := 10) (v := .int (nI (k + 1))) (ty := .int) (C := RX10) (T := TX10) (N := 14) hx hb hts iw_X10_put_X10_c_put tyX10 tyX10_ok nmX10 hown hK hP hD hS 0 rfl rfl 10 (by decide) (hts (.fieldLink RX10 82 "NotAtOnce" "fed" "I") (by decide +kernel)) (fun _ h9 => h9) rfl (by decide +kernel) rfl rfl (Nat.le_of_ble_eq_true rfl) dX10_put_30 (fun H locs hP hD hS => ?_)
  have hP : va_P (dC, dI) vwCl [(h0, .inr (10, [.ref tp, .ref rd, .ref tb, .ref rg, .ref bl, .ref pa, .ref fm, .ref te, .ref hi, .ref fr, .int (nI (k + 1)), .int rf, .int lf, .int fp])), (tp, .inl (cT, 900, .inl (f_4)))] H := hP
  have hD : va_D A [(h0, .inr (10, [.ref tp, .ref rd, .ref tb, .ref rg, .ref bl, .ref pa, .ref fm, .ref te, .ref hi, .ref fr, .int (nI (k + 1)), .int rf, .int lf, .int fp])), (tp, .inl (cT, 900, .inl (f_4)))] := hD
  refine lv_iinc (v := 16) (lv' := [(2, .int 16), (0, .ref h0), (1, .int p0)]) hx hb dX10_put_33 hl (k := 0) rfl (by decide) (by decide) rfl (fun ls hl => ?_)
  refine lv_goto (tgt := 3) hx hb dX10_put_36 (by decide) ?_
  refine lv_iload_n hx hb dX10_put_3 rfl (lv_at hl 0 rfl) ?_
  refine lv_if_lt (tgt := 39) hx hb dX10_put_4 (by decide) (fun c_6 => absurd c_6 (by decide)) (fun c_6 => ?_)
  refine lv_aload_n hx hb dX10_put_7 rfl (lv_at hl 1 rfl) ?_
  refine va_get (D := (dC, dI)) (ci := 10) (v := .ref tp) (C := RX10) (T := TX10) (N := 14) hx hb hts iw_X10_put_X10_c_put hown hK hP 0 rfl rfl 0 (by decide) (hts (.fieldLink RX10 9 "NotAtOnce" "tape" "[I") (by decide +kernel)) (fun _ h9 => h9) rfl dX10_put_8 ?_
  refine lv_aload_n hx hb dX10_put_11 rfl (lv_at hl 1 rfl) ?_
  refine va_get (D := (dC, dI)) (ci := 10) (v := .int (nI (k + 1))) (C := RX10) (T := TX10) (N := 14) hx hb hts iw_X10_put_X10_c_put hown hK hP 0 rfl rfl 10 (by decide) (hts (.fieldLink RX10 82 "NotAtOnce" "fed" "I") (by decide +kernel)) (fun _ h9 => h9) rfl dX10_put_12 ?_
  refine lv_iload_n hx hb dX10_put_15 rfl (lv_at hl 2 rfl) ?_
  refine lv_iload_n hx hb dX10_put_16 rfl (lv_at hl 0 rfl) ?_
  refine lv_iushr hx hb dX10_put_17 rfl ?_
  refine lv_topi (fun v_7 ev_7 => ?_)
  refine lv_sipush (v := 255) hx hb dX10_put_18 (by decide) ?_
  refine lv_iand hx hb dX10_put_21 ?_
  refine lv_topi (fun v_8 ev_8 => ?_)
  refine va_iast hx hb hK hP hD hS 1 0 rfl rfl (vp_in_nI (by omega) (by decide)) dX10_put_22 (fun H locs hP hD hS => ?_)
  obtain ⟨f_9, ef_9⟩ : ∃ g : Nat → Int32, g = upd (f_4) (Int32.toNatClampNeg (nI (k + 1))) v_8 := ⟨_, rfl⟩
  have hP : va_P (dC, dI) vwCl [(h0, .inr (10, [.ref tp, .ref rd, .ref tb, .ref rg, .ref bl, .ref pa, .ref fm, .ref te, .ref hi, .ref fr, .int (nI (k + 1)), .int rf, .int lf, .int fp])), (tp, .inl (cT, 900, .inl (f_9)))] H := by rw [ef_9]; exact hP
  have hD : va_D A [(h0, .inr (10, [.ref tp, .ref rd, .ref tb, .ref rg, .ref bl, .ref pa, .ref fm, .ref te, .ref hi, .ref fr, .int (nI (k + 1)), .int rf, .int lf, .int fp])), (tp, .inl (cT, 900, .inl (f_9)))] := by rw [ef_9]; exact hD
  refine lv_aload_n hx hb dX10_put_23 rfl (lv_at hl 1 rfl) ?_
  refine lv_dup hx hb dX10_put_24 rfl ?_
  refine va_get (D := (dC, dI)) (ci := 10) (v := .int (nI (k + 1))) (C := RX10) (T := TX10) (N := 14) hx hb hts iw_X10_put_X10_c_put hown hK hP 0 rfl rfl 10 (by decide) (hts (.fieldLink RX10 82 "NotAtOnce" "fed" "I") (by decide +kernel)) (fun _ h9 => h9) rfl dX10_put_25 ?_
  refine lv_iconst (v := 1) hx hb dX10_put_28 (by decide) ?_
  refine lv_iadd hx hb dX10_put_29 ?_
  refine lv_topi (fun v_10 ev_10 => ?_)
  obtain rfl : v_10 = nI (k + 1 + 1) := ev_10.trans (by rw [show (1 : Int32) = nI 1 from by decide, nI_add])
  refine va_put (D := (dC, dI)) (ci := 10) (v := .int (nI (k + 1 + 1))) (ty := .int) (C := RX10) (T := TX10) (N := 14) hx hb hts iw_X10_put_X10_c_put tyX10 tyX10_ok nmX10 hown hK hP hD hS 0 rfl rfl 10 (by decide) (hts (.fieldLink RX10 82 "NotAtOnce" "fed" "I") (by decide +kernel)) (fun _ h9 => h9) rfl (by decide +kernel) rfl rfl (Nat.le_of_ble_eq_true rfl) dX10_put_30 (fun H locs hP hD hS => ?_)
  have hP : va_P (dC, dI) vwCl [(h0, .inr (10, [.ref tp, .ref rd, .ref tb, .ref rg, .ref bl, .ref pa, .ref fm, .ref te, .ref hi, .ref fr, .int (nI (k + 1 + 1)), .int rf, .int lf, .int fp])), (tp, .inl (cT, 900, .inl (f_9)))] H := hP
  have hD : va_D A [(h0, .inr (10, [.ref tp, .ref rd, .ref tb, .ref rg, .ref bl, .ref pa, .ref fm, .ref te, .ref hi, .ref fr, .int (nI (k + 1 + 1)), .int rf, .int lf, .int fp])), (tp, .inl (cT, 900, .inl (f_9)))] := hD
  refine lv_iinc (v := 8) (lv' := [(2, .int 8), (0, .ref h0), (1, .int p0)]) hx hb dX10_put_33 hl (k := 0) rfl (by decide) (by decide) rfl (fun ls hl => ?_)
  refine lv_goto (tgt := 3) hx hb dX10_put_36 (by decide) ?_
  refine lv_iload_n hx hb dX10_put_3 rfl (lv_at hl 0 rfl) ?_
  refine lv_if_lt (tgt := 39) hx hb dX10_put_4 (by decide) (fun c_11 => absurd c_11 (by decide)) (fun c_11 => ?_)
  refine lv_aload_n hx hb dX10_put_7 rfl (lv_at hl 1 rfl) ?_
  refine va_get (D := (dC, dI)) (ci := 10) (v := .ref tp) (C := RX10) (T := TX10) (N := 14) hx hb hts iw_X10_put_X10_c_put hown hK hP 0 rfl rfl 0 (by decide) (hts (.fieldLink RX10 9 "NotAtOnce" "tape" "[I") (by decide +kernel)) (fun _ h9 => h9) rfl dX10_put_8 ?_
  refine lv_aload_n hx hb dX10_put_11 rfl (lv_at hl 1 rfl) ?_
  refine va_get (D := (dC, dI)) (ci := 10) (v := .int (nI (k + 1 + 1))) (C := RX10) (T := TX10) (N := 14) hx hb hts iw_X10_put_X10_c_put hown hK hP 0 rfl rfl 10 (by decide) (hts (.fieldLink RX10 82 "NotAtOnce" "fed" "I") (by decide +kernel)) (fun _ h9 => h9) rfl dX10_put_12 ?_
  refine lv_iload_n hx hb dX10_put_15 rfl (lv_at hl 2 rfl) ?_
  refine lv_iload_n hx hb dX10_put_16 rfl (lv_at hl 0 rfl) ?_
  refine lv_iushr hx hb dX10_put_17 rfl ?_
  refine lv_topi (fun v_12 ev_12 => ?_)
  refine lv_sipush (v := 255) hx hb dX10_put_18 (by decide) ?_
  refine lv_iand hx hb dX10_put_21 ?_
  refine lv_topi (fun v_13 ev_13 => ?_)
  refine va_iast hx hb hK hP hD hS 1 0 rfl rfl (vp_in_nI (by omega) (by decide)) dX10_put_22 (fun H locs hP hD hS => ?_)
  obtain ⟨f_14, ef_14⟩ : ∃ g : Nat → Int32, g = upd (f_9) (Int32.toNatClampNeg (nI (k + 1 + 1))) v_13 := ⟨_, rfl⟩
  have hP : va_P (dC, dI) vwCl [(h0, .inr (10, [.ref tp, .ref rd, .ref tb, .ref rg, .ref bl, .ref pa, .ref fm, .ref te, .ref hi, .ref fr, .int (nI (k + 1 + 1)), .int rf, .int lf, .int fp])), (tp, .inl (cT, 900, .inl (f_14)))] H := by rw [ef_14]; exact hP
  have hD : va_D A [(h0, .inr (10, [.ref tp, .ref rd, .ref tb, .ref rg, .ref bl, .ref pa, .ref fm, .ref te, .ref hi, .ref fr, .int (nI (k + 1 + 1)), .int rf, .int lf, .int fp])), (tp, .inl (cT, 900, .inl (f_14)))] := by rw [ef_14]; exact hD
  refine lv_aload_n hx hb dX10_put_23 rfl (lv_at hl 1 rfl) ?_
  refine lv_dup hx hb dX10_put_24 rfl ?_
  refine va_get (D := (dC, dI)) (ci := 10) (v := .int (nI (k + 1 + 1))) (C := RX10) (T := TX10) (N := 14) hx hb hts iw_X10_put_X10_c_put hown hK hP 0 rfl rfl 10 (by decide) (hts (.fieldLink RX10 82 "NotAtOnce" "fed" "I") (by decide +kernel)) (fun _ h9 => h9) rfl dX10_put_25 ?_
  refine lv_iconst (v := 1) hx hb dX10_put_28 (by decide) ?_
  refine lv_iadd hx hb dX10_put_29 ?_
  refine lv_topi (fun v_15 ev_15 => ?_)
  obtain rfl : v_15 = nI (k + 1 + 1 + 1) := ev_15.trans (by rw [show (1 : Int32) = nI 1 from by decide, nI_add])
  refine va_put (D := (dC, dI)) (ci := 10) (v := .int (nI (k + 1 + 1 + 1))) (ty := .int) (C := RX10) (T := TX10) (N := 14) hx hb hts iw_X10_put_X10_c_put tyX10 tyX10_ok nmX10 hown hK hP hD hS 0 rfl rfl 10 (by decide) (hts (.fieldLink RX10 82 "NotAtOnce" "fed" "I") (by decide +kernel)) (fun _ h9 => h9) rfl (by decide +kernel) rfl rfl (Nat.le_of_ble_eq_true rfl) dX10_put_30 (fun H locs hP hD hS => ?_)
  have hP : va_P (dC, dI) vwCl [(h0, .inr (10, [.ref tp, .ref rd, .ref tb, .ref rg, .ref bl, .ref pa, .ref fm, .ref te, .ref hi, .ref fr, .int (nI (k + 1 + 1 + 1)), .int rf, .int lf, .int fp])), (tp, .inl (cT, 900, .inl (f_14)))] H := hP
  have hD : va_D A [(h0, .inr (10, [.ref tp, .ref rd, .ref tb, .ref rg, .ref bl, .ref pa, .ref fm, .ref te, .ref hi, .ref fr, .int (nI (k + 1 + 1 + 1)), .int rf, .int lf, .int fp])), (tp, .inl (cT, 900, .inl (f_14)))] := hD
  refine lv_iinc (v := 0) (lv' := [(2, .int 0), (0, .ref h0), (1, .int p0)]) hx hb dX10_put_33 hl (k := 0) rfl (by decide) (by decide) rfl (fun ls hl => ?_)
  refine lv_goto (tgt := 3) hx hb dX10_put_36 (by decide) ?_
  refine lv_iload_n hx hb dX10_put_3 rfl (lv_at hl 0 rfl) ?_
  refine lv_if_lt (tgt := 39) hx hb dX10_put_4 (by decide) (fun c_16 => absurd c_16 (by decide)) (fun c_16 => ?_)
  refine lv_aload_n hx hb dX10_put_7 rfl (lv_at hl 1 rfl) ?_
  refine va_get (D := (dC, dI)) (ci := 10) (v := .ref tp) (C := RX10) (T := TX10) (N := 14) hx hb hts iw_X10_put_X10_c_put hown hK hP 0 rfl rfl 0 (by decide) (hts (.fieldLink RX10 9 "NotAtOnce" "tape" "[I") (by decide +kernel)) (fun _ h9 => h9) rfl dX10_put_8 ?_
  refine lv_aload_n hx hb dX10_put_11 rfl (lv_at hl 1 rfl) ?_
  refine va_get (D := (dC, dI)) (ci := 10) (v := .int (nI (k + 1 + 1 + 1))) (C := RX10) (T := TX10) (N := 14) hx hb hts iw_X10_put_X10_c_put hown hK hP 0 rfl rfl 10 (by decide) (hts (.fieldLink RX10 82 "NotAtOnce" "fed" "I") (by decide +kernel)) (fun _ h9 => h9) rfl dX10_put_12 ?_
  refine lv_iload_n hx hb dX10_put_15 rfl (lv_at hl 2 rfl) ?_
  refine lv_iload_n hx hb dX10_put_16 rfl (lv_at hl 0 rfl) ?_
  refine lv_iushr hx hb dX10_put_17 rfl ?_
  refine lv_topi (fun v_17 ev_17 => ?_)
  refine lv_sipush (v := 255) hx hb dX10_put_18 (by decide) ?_
  refine lv_iand hx hb dX10_put_21 ?_
  refine lv_topi (fun v_18 ev_18 => ?_)
  refine va_iast hx hb hK hP hD hS 1 0 rfl rfl (vp_in_nI (by omega) (by decide)) dX10_put_22 (fun H locs hP hD hS => ?_)
  obtain ⟨f_19, ef_19⟩ : ∃ g : Nat → Int32, g = upd (f_14) (Int32.toNatClampNeg (nI (k + 1 + 1 + 1))) v_18 := ⟨_, rfl⟩
  have hP : va_P (dC, dI) vwCl [(h0, .inr (10, [.ref tp, .ref rd, .ref tb, .ref rg, .ref bl, .ref pa, .ref fm, .ref te, .ref hi, .ref fr, .int (nI (k + 1 + 1 + 1)), .int rf, .int lf, .int fp])), (tp, .inl (cT, 900, .inl (f_19)))] H := by rw [ef_19]; exact hP
  have hD : va_D A [(h0, .inr (10, [.ref tp, .ref rd, .ref tb, .ref rg, .ref bl, .ref pa, .ref fm, .ref te, .ref hi, .ref fr, .int (nI (k + 1 + 1 + 1)), .int rf, .int lf, .int fp])), (tp, .inl (cT, 900, .inl (f_19)))] := by rw [ef_19]; exact hD
  refine lv_aload_n hx hb dX10_put_23 rfl (lv_at hl 1 rfl) ?_
  refine lv_dup hx hb dX10_put_24 rfl ?_
  refine va_get (D := (dC, dI)) (ci := 10) (v := .int (nI (k + 1 + 1 + 1))) (C := RX10) (T := TX10) (N := 14) hx hb hts iw_X10_put_X10_c_put hown hK hP 0 rfl rfl 10 (by decide) (hts (.fieldLink RX10 82 "NotAtOnce" "fed" "I") (by decide +kernel)) (fun _ h9 => h9) rfl dX10_put_25 ?_
  refine lv_iconst (v := 1) hx hb dX10_put_28 (by decide) ?_
  refine lv_iadd hx hb dX10_put_29 ?_
  refine lv_topi (fun v_20 ev_20 => ?_)
  obtain rfl : v_20 = nI (k + 1 + 1 + 1 + 1) := ev_20.trans (by rw [show (1 : Int32) = nI 1 from by decide, nI_add])
  refine va_put (D := (dC, dI)) (ci := 10) (v := .int (nI (k + 1 + 1 + 1 + 1))) (ty := .int) (C := RX10) (T := TX10) (N := 14) hx hb hts iw_X10_put_X10_c_put tyX10 tyX10_ok nmX10 hown hK hP hD hS 0 rfl rfl 10 (by decide) (hts (.fieldLink RX10 82 "NotAtOnce" "fed" "I") (by decide +kernel)) (fun _ h9 => h9) rfl (by decide +kernel) rfl rfl (Nat.le_of_ble_eq_true rfl) dX10_put_30 (fun H locs hP hD hS => ?_)
  have hP : va_P (dC, dI) vwCl [(h0, .inr (10, [.ref tp, .ref rd, .ref tb, .ref rg, .ref bl, .ref pa, .ref fm, .ref te, .ref hi, .ref fr, .int (nI (k + 1 + 1 + 1 + 1)), .int rf, .int lf, .int fp])), (tp, .inl (cT, 900, .inl (f_19)))] H := hP
  have hD : va_D A [(h0, .inr (10, [.ref tp, .ref rd, .ref tb, .ref rg, .ref bl, .ref pa, .ref fm, .ref te, .ref hi, .ref fr, .int (nI (k + 1 + 1 + 1 + 1)), .int rf, .int lf, .int fp])), (tp, .inl (cT, 900, .inl (f_19)))] := hD
  refine lv_iinc (v := (-8)) (lv' := [(2, .int ((-8))), (0, .ref h0), (1, .int p0)]) hx hb dX10_put_33 hl (k := 0) rfl (by decide) (by decide) rfl (fun ls hl => ?_)
  refine lv_goto (tgt := 3) hx hb dX10_put_36 (by decide) ?_
  refine lv_iload_n hx hb dX10_put_3 rfl (lv_at hl 0 rfl) ?_
  refine lv_if_lt (tgt := 39) hx hb dX10_put_4 (by decide) (fun c_21 => ?_) (fun c_21 => absurd c_21 (by decide))
  have hP9 := hP.sub (ws' := [(h0, .inr (10, [.ref tp, .ref rd, .ref tb, .ref rg, .ref bl, .ref pa, .ref fm, .ref te, .ref hi, .ref fr, .int (nI (k + 1 + 1 + 1 + 1)), .int rf, .int lf, .int fp])), (tp, .inl (cT, 900, .inl (f_19)))]) [0, 1] rfl
  have hD9 := hD.sub (ws' := [(h0, .inr (10, [.ref tp, .ref rd, .ref tb, .ref rg, .ref bl, .ref pa, .ref fm, .ref te, .ref hi, .ref fr, .int (nI (k + 1 + 1 + 1 + 1)), .int rf, .int lf, .int fp])), (tp, .inl (cT, 900, .inl (f_19)))]) [0, 1] (by decide) rfl
  have hK9 := hK.sub (tys' := [(cT, .int)]) [0] rfl
  refine W.widen (k := 0) (n := 0) (Nat.le_of_ble_eq_true rfl) (Nat.le_of_ble_eq_true rfl) ?_
  exact W.vret hx hb hr (fun t ht hW => ⟨⟨(), rfl, trivial, f_19, by rw [ht]; exact hP9, va_K.moved hW.alike hK9, hD9⟩, hS.F ht⟩) hS.2.2 dX10_put_39

set_option maxRecDepth 20000 in
theorem iw_X10_feed_X10_c_feed_ok : ∀ w ∈ wsX100, w ∈ wsX10_feed := by decide +kernel
set_option maxHeartbeats 4000000 in
set_option maxRecDepth 100000 in
/-- feed: twenty bytes come where there is room -/
theorem c_feed_ok (l : Launch) (dC : Nat → ClassId) (dI : Nat → Nat → Nat) (sz : Nat) (h0 : Nat) (tp : Nat) (rd : Nat) (tb : Nat) (rg : Nat) (bl : Nat) (pa : Nat) (fm : Nat) (te : Nat) (hi : Nat) (fr : Nat) (rf : Int32) (lf : Int32) (fp : Int32) (k : Nat) (cT : ClassId) (f : Nat → Int32) (p0 : Int32) (p1 : Int32) (p2 : Int32) (p3 : Int32) (p4 : Int32) (hk : k + 20 ≤ 900) : Met l yX10_feed wsX10_feed ({ frames := 1, cells := 0, slots := 0, locals := 22 }) (va_Pc [.ref h0, .int p0, .int p1, .int p2, .int p3, .int p4] (fun U => U.heap.size = sz ∧ va_P (dC, dI) vwCl [(h0, .inr (10, [.ref tp, .ref rd, .ref tb, .ref rg, .ref bl, .ref pa, .ref fm, .ref te, .ref hi, .ref fr, .int (nI k), .int rf, .int lf, .int fp])), (tp, .inl (cT, 900, .inl (f)))] U.heap ∧ va_K (dC, dI) vwCl [(cT, .int)] U ∧ va_D (fun _ => True) [(h0, .inr (10, [.ref tp, .ref rd, .ref tb, .ref rg, .ref bl, .ref pa, .ref fm, .ref te, .ref hi, .ref fr, .int (nI k), .int rf, .int lf, .int fp])), (tp, .inl (cT, 900, .inl (f)))])) (va_Qi (fun (r : Int32) (_ : Unit) => r = nI (k + 20)) (fun _ t => ∃ (f_7 : Nat → Int32), va_P (dC, dI) vwCl [(h0, .inr (10, [.ref tp, .ref rd, .ref tb, .ref rg, .ref bl, .ref pa, .ref fm, .ref te, .ref hi, .ref fr, .int (nI (((((k + 1 + 1 + 1 + 1) + 1 + 1 + 1 + 1) + 1 + 1 + 1 + 1) + 1 + 1 + 1 + 1) + 1 + 1 + 1 + 1)), .int rf, .int lf, .int fp])), (tp, .inl (cT, 900, .inl (f_7)))] t.heap ∧ va_K (dC, dI) vwCl [(cT, .int)] t ∧ va_D (va_A [(h0, .inr (10, [.ref tp, .ref rd, .ref tb, .ref rg, .ref bl, .ref pa, .ref fm, .ref te, .ref hi, .ref fr, .int (nI k), .int rf, .int lf, .int fp])), (tp, .inl (cT, 900, .inl (f)))] sz) [(h0, .inr (10, [.ref tp, .ref rd, .ref tb, .ref rg, .ref bl, .ref pa, .ref fm, .ref te, .ref hi, .ref fr, .int (nI (((((k + 1 + 1 + 1 + 1) + 1 + 1 + 1 + 1) + 1 + 1 + 1 + 1) + 1 + 1 + 1 + 1) + 1 + 1 + 1 + 1)), .int rf, .int lf, .int fp])), (tp, .inl (cT, 900, .inl (f_7)))]) (va_A [(h0, .inr (10, [.ref tp, .ref rd, .ref tb, .ref rg, .ref bl, .ref pa, .ref fm, .ref te, .ref hi, .ref fr, .int (nI k), .int rf, .int lf, .int fp])), (tp, .inl (cT, 900, .inl (f)))] sz)) 0 0 (va_A [(h0, .inr (10, [.ref tp, .ref rd, .ref tb, .ref rg, .ref bl, .ref pa, .ref fm, .ref te, .ref hi, .ref fr, .int (nI k), .int rf, .int lf, .int fp])), (tp, .inl (cT, 900, .inl (f)))] sz) := by
  refine Met.ofW (cc := cX10_feed) (maxL := 6) (ret := (some .int)) (by decide) rfl ?_
  intro p e s m args below meth c s₁ B hml hv
  obtain ⟨rfl, hsz, hP, hK, hD0⟩ := hv
  have hx := B.exec
  have hb := B.bytes
  have hr := B.returns
  have hts := atoms_spec (ws := wsX10_feed) B.pre
  have hown : s.vm.findClass RX10 = some m.cls := findClass_of_methodNamed B.named
  have hlocks := B.notSynchronized
  subst hsz
  have hD := hD0.self (sz := s.heap.size)
  generalize hAe : va_A [(h0, .inr (10, [.ref tp, .ref rd, .ref tb, .ref rg, .ref bl, .ref pa, .ref fm, .ref te, .ref hi, .ref fr, .int (nI k), .int rf, .int lf, .int fp])), (tp, .inl (cT, 900, .inl (f)))] s.heap.size = A at hD ⊢
  have hA : ∀ q : Nat, s.heap.size ≤ q → A q := fun q h => by rw [← hAe]; exact Or.inr h
  have hS : va_S A s.heap s.heap [] := va_S.rf
  have hP : va_P (dC, dI) vwCl [(h0, .inr (10, [.ref tp, .ref rd, .ref tb, .ref rg, .ref bl, .ref pa, .ref fm, .ref te, .ref hi, .ref fr, .int (nI k), .int rf, .int lf, .int fp])), (tp, .inl (cT, 900, .inl (f)))] s.heap := hP
  have hl := lv_entry ([.ref h0, .int p0, .int p1, .int p2, .int p3, .int p4]) (n := 6) (Nat.le_of_ble_eq_true rfl)
  rw [lg_entry_eq]
  generalize (lg_sl ([.ref h0, .int p0, .int p1, .int p2, .int p3, .int p4]) ++ List.replicate (6 - (lg_sl ([.ref h0, .int p0, .int p1, .int p2, .int p3, .int p4])).length) Slot.unset).toArray = ls at hl ⊢
  have hl : lv_has ls 6 [(0, .ref h0), (1, .int p0), (2, .int p1), (3, .int p2), (4, .int p3), (5, .int p4)] := hl
  refine lv_aload_n hx hb dX10_feed_0 rfl (lv_at hl 0 rfl) ?_
  refine va_get (D := (dC, dI)) (ci := 10) (v := .int (nI k)) (C := RX10) (T := TX10) (N := 14) hx hb hts iw_X10_feed_X10_c_feed_ok hown hK hP 0 rfl rfl 10 (by decide) (hts (.fieldLink RX10 82 "NotAtOnce" "fed" "I") (by decide +kernel)) (fun _ h9 => h9) rfl dX10_feed_1 ?_
  refine lv_bipush (v := 20) hx hb dX10_feed_4 (by decide) ?_
  refine lv_iadd hx hb dX10_feed_6 ?_
  refine lv_topi (fun v_1 ev_1 => ?_)
  obtain rfl : v_1 = nI (k + 20) := ev_1.trans (by rw [show (20 : Int32) = nI 20 from by decide, nI_add])
  refine lv_sipush (v := 900) hx hb dX10_feed_7 (by decide) ?_
  refine lv_icmp_le (tgt := 15) hx hb dX10_feed_10 (by decide) (fun c_2 => ?_) (fun c_2 => absurd (nI_le (by omega) (by decide)) c_2)
  refine lv_aload_n hx hb dX10_feed_15 rfl (lv_at hl 0 rfl) ?_
  refine lv_iload_n hx hb dX10_feed_16 rfl (lv_at hl 1 rfl) ?_
  have hPc := hP.sub (ws' := [(h0, .inr (10, [.ref tp, .ref rd, .ref tb, .ref rg, .ref bl, .ref pa, .ref fm, .ref te, .ref hi, .ref fr, .int (nI k), .int rf, .int lf, .int fp])), (tp, .inl (cT, 900, .inl (f)))]) [0, 1] rfl
  have hDc := hD.sub (ws' := [(h0, .inr (10, [.ref tp, .ref rd, .ref tb, .ref rg, .ref bl, .ref pa, .ref fm, .ref te, .ref hi, .ref fr, .int (nI k), .int rf, .int lf, .int fp])), (tp, .inl (cT, 900, .inl (f)))]) [0, 1] (by decide) rfl
  have hKc := hK.sub (tys' := [(cT, .int)]) [0] rfl
  have hFc := va_free (wc := [(h0, .inr (10, [.ref tp, .ref rd, .ref tb, .ref rg, .ref bl, .ref pa, .ref fm, .ref te, .ref hi, .ref fr, .int (nI k), .int rf, .int lf, .int fp])), (tp, .inl (cT, 900, .inl (f)))]) hD hS hA [0, 1] rfl
  refine va_callv (va_runV (As := [.int p0]) (rest := []) ⟨hx, hb, hml, hown, hts⟩ (c_put l dC dI s.heap.size h0 tp rd tb rg bl pa fm te hi fr rf lf fp k cT f p0 (by omega)) (cwV 1 hts gX10_feed_X10_put rfl rfl rfl (by decide +kernel) ⟨Nat.le_of_ble_eq_true rfl, Nat.le_of_ble_eq_true rfl⟩) ⟨fun a U g mk q => by obtain ⟨q0, q1, qP, qK, qD⟩ := q; exact ⟨q0, q1, qP, va_K.moved (u := U) (U := U.calling g mk a) (Vm.Alike.refl U.vm) qK, qD⟩, va_recv hKc hPc (ci := 10) (q0 := 0) rfl rfl, fun U hU hW => ⟨rfl, by rw [hU], by rw [hU]; exact hPc, va_K.moved hW.alike hKc, hDc.weaken (fun _ _ _ _ => trivial)⟩⟩ rfl rfl hl.1 rfl (lv_room (Nat.le_of_ble_eq_true rfl)) dX10_feed_17 ⟨Nat.le_of_ble_eq_true rfl, Nat.le_of_ble_eq_true rfl⟩) hS (fun q _ h => hFc q h) hFc (fun u t H1 locs ht hvm hw hB hz1 hk1 hS => ?_)
  obtain ⟨f_3, hP1, hK1, hD1⟩ := hB
  rw [ht] at hP1
  have hK1 := va_K.moved hvm.symm hK1
  try dsimp only at hw
  obtain ⟨hP, hD⟩ := va_join (wr := []) (w1 := [(h0, .inr (10, [.ref tp, .ref rd, .ref tb, .ref rg, .ref bl, .ref pa, .ref fm, .ref te, .ref hi, .ref fr, .int (nI (k + 1 + 1 + 1 + 1)), .int rf, .int lf, .int fp])), (tp, .inl (cT, 900, .inl (f_3)))]) hP hD [0, 1] [] rfl rfl (by decide) (by decide) hk1 hFc hP1 hD1
  have hK := (hK.sub (tys' := []) [] rfl).app hK1
  generalize H1 = H at hP hS ⊢
  have hP : va_P (dC, dI) vwCl [(h0, .inr (10, [.ref tp, .ref rd, .ref tb, .ref rg, .ref bl, .ref pa, .ref fm, .ref te, .ref hi, .ref fr, .int (nI (k + 1 + 1 + 1 + 1)), .int rf, .int lf, .int fp])), (tp, .inl (cT, 900, .inl (f_3)))] H := hP
  have hD : va_D A [(h0, .inr (10, [.ref tp, .ref rd, .ref tb, .ref rg, .ref bl, .ref pa, .ref fm, .ref te, .ref hi, .ref fr, .int (nI (k + 1 + 1 + 1 + 1)), .int rf, .int lf, .int fp])), (tp, .inl (cT, 900, .inl (f_3)))] := hD
  have hK : va_K (dC, dI) vwCl [(cT, .int)] s := hK
  refine W.widen (k := 0) (n := 0) (by omega) (by omega) ?_
  refine lv_aload_n hx hb dX10_feed_20 rfl (lv_at hl 0 rfl) ?_
  refine lv_iload_n hx hb dX10_feed_21 rfl (lv_at hl 2 rfl) ?_
  have hPc := hP.sub (ws' := [(h0, .inr (10, [.ref tp, .ref rd, .ref tb, .ref rg, .ref bl, .ref pa, .ref fm, .ref te, .ref hi, .ref fr, .int (nI (k + 1 + 1 + 1 + 1)), .int rf, .int lf, .int fp])), (tp, .inl (cT, 900, .inl (f_3)))]) [0, 1] rfl
  have hDc := hD.sub (ws' := [(h0, .inr (10, [.ref tp, .ref rd, .ref tb, .ref rg, .ref bl, .ref pa, .ref fm, .ref te, .ref hi, .ref fr, .int (nI (k + 1 + 1 + 1 + 1)), .int rf, .int lf, .int fp])), (tp, .inl (cT, 900, .inl (f_3)))]) [0, 1] (by decide) rfl
  have hKc := hK.sub (tys' := [(cT, .int)]) [0] rfl
  have hFc := va_free (wc := [(h0, .inr (10, [.ref tp, .ref rd, .ref tb, .ref rg, .ref bl, .ref pa, .ref fm, .ref te, .ref hi, .ref fr, .int (nI (k + 1 + 1 + 1 + 1)), .int rf, .int lf, .int fp])), (tp, .inl (cT, 900, .inl (f_3)))]) hD hS hA [0, 1] rfl
  refine va_callv (va_runV (As := [.int p1]) (rest := []) ⟨hx, hb, hml, hown, hts⟩ (c_put l dC dI H.size h0 tp rd tb rg bl pa fm te hi fr rf lf fp (k + 1 + 1 + 1 + 1) cT f_3 p1 (by omega)) (cwV 1 hts gX10_feed_X10_put rfl rfl rfl (by decide +kernel) ⟨Nat.le_of_ble_eq_true rfl, Nat.le_of_ble_eq_true rfl⟩) ⟨fun a U g mk q => by obtain ⟨q0, q1, qP, qK, qD⟩ := q; exact ⟨q0, q1, qP, va_K.moved (u := U) (U := U.calling g mk a) (Vm.Alike.refl U.vm) qK, qD⟩, va_recv hKc hPc (ci := 10) (q0 := 0) rfl rfl, fun U hU hW => ⟨rfl, by rw [hU], by rw [hU]; exact hPc, va_K.moved hW.alike hKc, hDc.weaken (fun _ _ _ _ => trivial)⟩⟩ rfl rfl hl.1 rfl (lv_room (Nat.le_of_ble_eq_true rfl)) dX10_feed_22 ⟨Nat.le_of_ble_eq_true rfl, Nat.le_of_ble_eq_true rfl⟩) hS (fun q _ h => hFc q h) hFc (fun u t H1 locs ht hvm hw hB hz1 hk1 hS => ?_)
  obtain ⟨f_4, hP1, hK1, hD1⟩ := hB
  rw [ht] at hP1
  have hK1 := va_K.moved hvm.symm hK1
  try dsimp only at hw
  obtain ⟨hP, hD⟩ := va_join (wr := []) (w1 := [(h0, .inr (10, [.ref tp, .ref rd, .ref tb, .ref rg, .ref bl, .ref pa, .ref fm, .ref te, .ref hi, .ref fr, .int (nI ((k + 1 + 1 + 1 + 1) + 1 + 1 + 1 + 1)), .int rf, .int lf, .int fp])), (tp, .inl (cT, 900, .inl (f_4)))]) hP hD [0, 1] [] rfl rfl (by decide) (by decide) hk1 hFc hP1 hD1
  have hK := (hK.sub (tys' := []) [] rfl).app hK1
  generalize H1 = H at hP hS ⊢
  have hP : va_P (dC, dI) vwCl [(h0, .inr (10, [.ref tp, .ref rd, .ref tb, .ref rg, .ref bl, .ref pa, .ref fm, .ref te, .ref hi, .ref fr, .int (nI ((k + 1 + 1 + 1 + 1) + 1 + 1 + 1 + 1)), .int rf, .int lf, .int fp])), (tp, .inl (cT, 900, .inl (f_4)))] H := hP
  have hD : va_D A [(h0, .inr (10, [.ref tp, .ref rd, .ref tb, .ref rg, .ref bl, .ref pa, .ref fm, .ref te, .ref hi, .ref fr, .int (nI ((k + 1 + 1 + 1 + 1) + 1 + 1 + 1 + 1)), .int rf, .int lf, .int fp])), (tp, .inl (cT, 900, .inl (f_4)))] := hD
  have hK : va_K (dC, dI) vwCl [(cT, .int)] s := hK
  refine W.widen (k := 0) (n := 0) (by omega) (by omega) ?_
  refine lv_aload_n hx hb dX10_feed_25 rfl (lv_at hl 0 rfl) ?_
  refine lv_iload_n hx hb dX10_feed_26 rfl (lv_at hl 3 rfl) ?_
  have hPc := hP.sub (ws' := [(h0, .inr (10, [.ref tp, .ref rd, .ref tb, .ref rg, .ref bl, .ref pa, .ref fm, .ref te, .ref hi, .ref fr, .int (nI ((k + 1 + 1 + 1 + 1) + 1 + 1 + 1 + 1)), .int rf, .int lf, .int fp])), (tp, .inl (cT, 900, .inl (f_4)))]) [0, 1] rfl
  have hDc := hD.sub (ws' := [(h0, .inr (10, [.ref tp, .ref rd, .ref tb, .ref rg, .ref bl, .ref pa, .ref fm, .ref te, .ref hi, .ref fr, .int (nI ((k + 1 + 1 + 1 + 1) + 1 + 1 + 1 + 1)), .int rf, .int lf, .int fp])), (tp, .inl (cT, 900, .inl (f_4)))]) [0, 1] (by decide) rfl
  have hKc := hK.sub (tys' := [(cT, .int)]) [0] rfl
  have hFc := va_free (wc := [(h0, .inr (10, [.ref tp, .ref rd, .ref tb, .ref rg, .ref bl, .ref pa, .ref fm, .ref te, .ref hi, .ref fr, .int (nI ((k + 1 + 1 + 1 + 1) + 1 + 1 + 1 + 1)), .int rf, .int lf, .int fp])), (tp, .inl (cT, 900, .inl (f_4)))]) hD hS hA [0, 1] rfl
  refine va_callv (va_runV (As := [.int p2]) (rest := []) ⟨hx, hb, hml, hown, hts⟩ (c_put l dC dI H.size h0 tp rd tb rg bl pa fm te hi fr rf lf fp ((k + 1 + 1 + 1 + 1) + 1 + 1 + 1 + 1) cT f_4 p2 (by omega)) (cwV 1 hts gX10_feed_X10_put rfl rfl rfl (by decide +kernel) ⟨Nat.le_of_ble_eq_true rfl, Nat.le_of_ble_eq_true rfl⟩) ⟨fun a U g mk q => by obtain ⟨q0, q1, qP, qK, qD⟩ := q; exact ⟨q0, q1, qP, va_K.moved (u := U) (U := U.calling g mk a) (Vm.Alike.refl U.vm) qK, qD⟩, va_recv hKc hPc (ci := 10) (q0 := 0) rfl rfl, fun U hU hW => ⟨rfl, by rw [hU], by rw [hU]; exact hPc, va_K.moved hW.alike hKc, hDc.weaken (fun _ _ _ _ => trivial)⟩⟩ rfl rfl hl.1 rfl (lv_room (Nat.le_of_ble_eq_true rfl)) dX10_feed_27 ⟨Nat.le_of_ble_eq_true rfl, Nat.le_of_ble_eq_true rfl⟩) hS (fun q _ h => hFc q h) hFc (fun u t H1 locs ht hvm hw hB hz1 hk1 hS => ?_)
  obtain ⟨f_5, hP1, hK1, hD1⟩ := hB
  rw [ht] at hP1
  have hK1 := va_K.moved hvm.symm hK1
  try dsimp only at hw
  obtain ⟨hP, hD⟩ := va_join (wr := []) (w1 := [(h0, .inr (10, [.ref tp, .ref rd, .ref tb, .ref rg, .ref bl, .ref pa, .ref fm, .ref te, .ref hi, .ref fr, .int (nI (((k + 1 + 1 + 1 + 1) + 1 + 1 + 1 + 1) + 1 + 1 + 1 + 1)), .int rf, .int lf, .int fp])), (tp, .inl (cT, 900, .inl (f_5)))]) hP hD [0, 1] [] rfl rfl (by decide) (by decide) hk1 hFc hP1 hD1
  have hK := (hK.sub (tys' := []) [] rfl).app hK1
  generalize H1 = H at hP hS ⊢
  have hP : va_P (dC, dI) vwCl [(h0, .inr (10, [.ref tp, .ref rd, .ref tb, .ref rg, .ref bl, .ref pa, .ref fm, .ref te, .ref hi, .ref fr, .int (nI (((k + 1 + 1 + 1 + 1) + 1 + 1 + 1 + 1) + 1 + 1 + 1 + 1)), .int rf, .int lf, .int fp])), (tp, .inl (cT, 900, .inl (f_5)))] H := hP
  have hD : va_D A [(h0, .inr (10, [.ref tp, .ref rd, .ref tb, .ref rg, .ref bl, .ref pa, .ref fm, .ref te, .ref hi, .ref fr, .int (nI (((k + 1 + 1 + 1 + 1) + 1 + 1 + 1 + 1) + 1 + 1 + 1 + 1)), .int rf, .int lf, .int fp])), (tp, .inl (cT, 900, .inl (f_5)))] := hD
  have hK : va_K (dC, dI) vwCl [(cT, .int)] s := hK
  refine W.widen (k := 0) (n := 0) (by omega) (by omega) ?_
  refine lv_aload_n hx hb dX10_feed_30 rfl (lv_at hl 0 rfl) ?_
  refine lv_iload hx hb dX10_feed_31 (lv_at hl 4 rfl) ?_
  have hPc := hP.sub (ws' := [(h0, .inr (10, [.ref tp, .ref rd, .ref tb, .ref rg, .ref bl, .ref pa, .ref fm, .ref te, .ref hi, .ref fr, .int (nI (((k + 1 + 1 + 1 + 1) + 1 + 1 + 1 + 1) + 1 + 1 + 1 + 1)), .int rf, .int lf, .int fp])), (tp, .inl (cT, 900, .inl (f_5)))]) [0, 1] rfl
  have hDc := hD.sub (ws' := [(h0, .inr (10, [.ref tp, .ref rd, .ref tb, .ref rg, .ref bl, .ref pa, .ref fm, .ref te, .ref hi, .ref fr, .int (nI (((k + 1 + 1 + 1 + 1) + 1 + 1 + 1 + 1) + 1 + 1 + 1 + 1)), .int rf, .int lf, .int fp])), (tp, .inl (cT, 900, .inl (f_5)))]) [0, 1] (by decide) rfl
  have hKc := hK.sub (tys' := [(cT, .int)]) [0] rfl
  have hFc := va_free (wc := [(h0, .inr (10, [.ref tp, .ref rd, .ref tb, .ref rg, .ref bl, .ref pa, .ref fm, .ref te, .ref hi, .ref fr, .int (nI (((k + 1 + 1 + 1 + 1) + 1 + 1 + 1 + 1) + 1 + 1 + 1 + 1)), .int rf, .int lf, .int fp])), (tp, .inl (cT, 900, .inl (f_5)))]) hD hS hA [0, 1] rfl
  refine va_callv (va_runV (As := [.int p3]) (rest := []) ⟨hx, hb, hml, hown, hts⟩ (c_put l dC dI H.size h0 tp rd tb rg bl pa fm te hi fr rf lf fp (((k + 1 + 1 + 1 + 1) + 1 + 1 + 1 + 1) + 1 + 1 + 1 + 1) cT f_5 p3 (by omega)) (cwV 1 hts gX10_feed_X10_put rfl rfl rfl (by decide +kernel) ⟨Nat.le_of_ble_eq_true rfl, Nat.le_of_ble_eq_true rfl⟩) ⟨fun a U g mk q => by obtain ⟨q0, q1, qP, qK, qD⟩ := q; exact ⟨q0, q1, qP, va_K.moved (u := U) (U := U.calling g mk a) (Vm.Alike.refl U.vm) qK, qD⟩, va_recv hKc hPc (ci := 10) (q0 := 0) rfl rfl, fun U hU hW => ⟨rfl, by rw [hU], by rw [hU]; exact hPc, va_K.moved hW.alike hKc, hDc.weaken (fun _ _ _ _ => trivial)⟩⟩ rfl rfl hl.1 rfl (lv_room (Nat.le_of_ble_eq_true rfl)) dX10_feed_33 ⟨Nat.le_of_ble_eq_true rfl, Nat.le_of_ble_eq_true rfl⟩) hS (fun q _ h => hFc q h) hFc (fun u t H1 locs ht hvm hw hB hz1 hk1 hS => ?_)
  obtain ⟨f_6, hP1, hK1, hD1⟩ := hB
  rw [ht] at hP1
  have hK1 := va_K.moved hvm.symm hK1
  try dsimp only at hw
  obtain ⟨hP, hD⟩ := va_join (wr := []) (w1 := [(h0, .inr (10, [.ref tp, .ref rd, .ref tb, .ref rg, .ref bl, .ref pa, .ref fm, .ref te, .ref hi, .ref fr, .int (nI ((((k + 1 + 1 + 1 + 1) + 1 + 1 + 1 + 1) + 1 + 1 + 1 + 1) + 1 + 1 + 1 + 1)), .int rf, .int lf, .int fp])), (tp, .inl (cT, 900, .inl (f_6)))]) hP hD [0, 1] [] rfl rfl (by decide) (by decide) hk1 hFc hP1 hD1
  have hK := (hK.sub (tys' := []) [] rfl).app hK1
  generalize H1 = H at hP hS ⊢
  have hP : va_P (dC, dI) vwCl [(h0, .inr (10, [.ref tp, .ref rd, .ref tb, .ref rg, .ref bl, .ref pa, .ref fm, .ref te, .ref hi, .ref fr, .int (nI ((((k + 1 + 1 + 1 + 1) + 1 + 1 + 1 + 1) + 1 + 1 + 1 + 1) + 1 + 1 + 1 + 1)), .int rf, .int lf, .int fp])), (tp, .inl (cT, 900, .inl (f_6)))] H := hP
  have hD : va_D A [(h0, .inr (10, [.ref tp, .ref rd, .ref tb, .ref rg, .ref bl, .ref pa, .ref fm, .ref te, .ref hi, .ref fr, .int (nI ((((k + 1 + 1 + 1 + 1) + 1 + 1 + 1 + 1) + 1 + 1 + 1 + 1) + 1 + 1 + 1 + 1)), .int rf, .int lf, .int fp])), (tp, .inl (cT, 900, .inl (f_6)))] := hD
  have hK : va_K (dC, dI) vwCl [(cT, .int)] s := hK
  refine W.widen (k := 0) (n := 0) (by omega) (by omega) ?_
  refine lv_aload_n hx hb dX10_feed_36 rfl (lv_at hl 0 rfl) ?_
  refine lv_iload hx hb dX10_feed_37 (lv_at hl 5 rfl) ?_
  have hPc := hP.sub (ws' := [(h0, .inr (10, [.ref tp, .ref rd, .ref tb, .ref rg, .ref bl, .ref pa, .ref fm, .ref te, .ref hi, .ref fr, .int (nI ((((k + 1 + 1 + 1 + 1) + 1 + 1 + 1 + 1) + 1 + 1 + 1 + 1) + 1 + 1 + 1 + 1)), .int rf, .int lf, .int fp])), (tp, .inl (cT, 900, .inl (f_6)))]) [0, 1] rfl
  have hDc := hD.sub (ws' := [(h0, .inr (10, [.ref tp, .ref rd, .ref tb, .ref rg, .ref bl, .ref pa, .ref fm, .ref te, .ref hi, .ref fr, .int (nI ((((k + 1 + 1 + 1 + 1) + 1 + 1 + 1 + 1) + 1 + 1 + 1 + 1) + 1 + 1 + 1 + 1)), .int rf, .int lf, .int fp])), (tp, .inl (cT, 900, .inl (f_6)))]) [0, 1] (by decide) rfl
  have hKc := hK.sub (tys' := [(cT, .int)]) [0] rfl
  have hFc := va_free (wc := [(h0, .inr (10, [.ref tp, .ref rd, .ref tb, .ref rg, .ref bl, .ref pa, .ref fm, .ref te, .ref hi, .ref fr, .int (nI ((((k + 1 + 1 + 1 + 1) + 1 + 1 + 1 + 1) + 1 + 1 + 1 + 1) + 1 + 1 + 1 + 1)), .int rf, .int lf, .int fp])), (tp, .inl (cT, 900, .inl (f_6)))]) hD hS hA [0, 1] rfl
  refine va_callv (va_runV (As := [.int p4]) (rest := []) ⟨hx, hb, hml, hown, hts⟩ (c_put l dC dI H.size h0 tp rd tb rg bl pa fm te hi fr rf lf fp ((((k + 1 + 1 + 1 + 1) + 1 + 1 + 1 + 1) + 1 + 1 + 1 + 1) + 1 + 1 + 1 + 1) cT f_6 p4 (by omega)) (cwV 1 hts gX10_feed_X10_put rfl rfl rfl (by decide +kernel) ⟨Nat.le_of_ble_eq_true rfl, Nat.le_of_ble_eq_true rfl⟩) ⟨fun a U g mk q => by obtain ⟨q0, q1, qP, qK, qD⟩ := q; exact ⟨q0, q1, qP, va_K.moved (u := U) (U := U.calling g mk a) (Vm.Alike.refl U.vm) qK, qD⟩, va_recv hKc hPc (ci := 10) (q0 := 0) rfl rfl, fun U hU hW => ⟨rfl, by rw [hU], by rw [hU]; exact hPc, va_K.moved hW.alike hKc, hDc.weaken (fun _ _ _ _ => trivial)⟩⟩ rfl rfl hl.1 rfl (lv_room (Nat.le_of_ble_eq_true rfl)) dX10_feed_39 ⟨Nat.le_of_ble_eq_true rfl, Nat.le_of_ble_eq_true rfl⟩) hS (fun q _ h => hFc q h) hFc (fun u t H1 locs ht hvm hw hB hz1 hk1 hS => ?_)
  obtain ⟨f_7, hP1, hK1, hD1⟩ := hB
  rw [ht] at hP1
  have hK1 := va_K.moved hvm.symm hK1
  try dsimp only at hw
  obtain ⟨hP, hD⟩ := va_join (wr := []) (w1 := [(h0, .inr (10, [.ref tp, .ref rd, .ref tb, .ref rg, .ref bl, .ref pa, .ref fm, .ref te, .ref hi, .ref fr, .int (nI (((((k + 1 + 1 + 1 + 1) + 1 + 1 + 1 + 1) + 1 + 1 + 1 + 1) + 1 + 1 + 1 + 1) + 1 + 1 + 1 + 1)), .int rf, .int lf, .int fp])), (tp, .inl (cT, 900, .inl (f_7)))]) hP hD [0, 1] [] rfl rfl (by decide) (by decide) hk1 hFc hP1 hD1
  have hK := (hK.sub (tys' := []) [] rfl).app hK1
  generalize H1 = H at hP hS ⊢
  have hP : va_P (dC, dI) vwCl [(h0, .inr (10, [.ref tp, .ref rd, .ref tb, .ref rg, .ref bl, .ref pa, .ref fm, .ref te, .ref hi, .ref fr, .int (nI (((((k + 1 + 1 + 1 + 1) + 1 + 1 + 1 + 1) + 1 + 1 + 1 + 1) + 1 + 1 + 1 + 1) + 1 + 1 + 1 + 1)), .int rf, .int lf, .int fp])), (tp, .inl (cT, 900, .inl (f_7)))] H := hP
  have hD : va_D A [(h0, .inr (10, [.ref tp, .ref rd, .ref tb, .ref rg, .ref bl, .ref pa, .ref fm, .ref te, .ref hi, .ref fr, .int (nI (((((k + 1 + 1 + 1 + 1) + 1 + 1 + 1 + 1) + 1 + 1 + 1 + 1) + 1 + 1 + 1 + 1) + 1 + 1 + 1 + 1)), .int rf, .int lf, .int fp])), (tp, .inl (cT, 900, .inl (f_7)))] := hD
  have hK : va_K (dC, dI) vwCl [(cT, .int)] s := hK
  refine W.widen (k := 0) (n := 0) (by omega) (by omega) ?_
  refine lv_aload_n hx hb dX10_feed_42 rfl (lv_at hl 0 rfl) ?_
  refine va_get (D := (dC, dI)) (ci := 10) (v := .int (nI (((((k + 1 + 1 + 1 + 1) + 1 + 1 + 1 + 1) + 1 + 1 + 1 + 1) + 1 + 1 + 1 + 1) + 1 + 1 + 1 + 1))) (C := RX10) (T := TX10) (N := 14) hx hb hts iw_X10_feed_X10_c_feed_ok hown hK hP 0 rfl rfl 10 (by decide) (hts (.fieldLink RX10 82 "NotAtOnce" "fed" "I") (by decide +kernel)) (fun _ h9 => h9) rfl dX10_feed_43 ?_
  have hP9 := hP.sub (ws' := [(h0, .inr (10, [.ref tp, .ref rd, .ref tb, .ref rg, .ref bl, .ref pa, .ref fm, .ref te, .ref hi, .ref fr, .int (nI (((((k + 1 + 1 + 1 + 1) + 1 + 1 + 1 + 1) + 1 + 1 + 1 + 1) + 1 + 1 + 1 + 1) + 1 + 1 + 1 + 1)), .int rf, .int lf, .int fp])), (tp, .inl (cT, 900, .inl (f_7)))]) [0, 1] rfl
  have hD9 := hD.sub (ws' := [(h0, .inr (10, [.ref tp, .ref rd, .ref tb, .ref rg, .ref bl, .ref pa, .ref fm, .ref te, .ref hi, .ref fr, .int (nI (((((k + 1 + 1 + 1 + 1) + 1 + 1 + 1 + 1) + 1 + 1 + 1 + 1) + 1 + 1 + 1 + 1) + 1 + 1 + 1 + 1)), .int rf, .int lf, .int fp])), (tp, .inl (cT, 900, .inl (f_7)))]) [0, 1] (by decide) rfl
  have hK9 := hK.sub (tys' := [(cT, .int)]) [0] rfl
  refine W.widen (k := 0) (n := 0) (Nat.le_of_ble_eq_true rfl) (Nat.le_of_ble_eq_true rfl) ?_
  exact W.iret (v := nI (((((k + 1 + 1 + 1 + 1) + 1 + 1 + 1 + 1) + 1 + 1 + 1 + 1) + 1 + 1 + 1 + 1) + 1 + 1 + 1 + 1)) hx hb hr (fun t ht hW => ⟨⟨nI (((((k + 1 + 1 + 1 + 1) + 1 + 1 + 1 + 1) + 1 + 1 + 1 + 1) + 1 + 1 + 1 + 1) + 1 + 1 + 1 + 1), (), rfl, rfl, f_7, by rw [ht]; exact hP9, va_K.moved hW.alike hK9, hD9⟩, hS.F ht⟩) hS.2.2 dX10_feed_46

set_option maxRecDepth 20000 in
theorem iw_X11_feed_X11_c_m_feed_ok : ∀ w ∈ wsX110, w ∈ wsX11_feed := by decide +kernel
set_option maxHeartbeats 4000000 in
set_option maxRecDepth 100000 in
/-- the reference: feed where there is room -/
theorem c_m_feed_ok (l : Launch) (dC : Nat → ClassId) (dI : Nat → Nat → Nat) (sz : Nat) (k0 : Nat) (m_thrown : Int32) (m_tape : Nat) (m_size : Int32) (m_at : Int32) (m_end : Int32) (m_token : Int32) (m_whole : Int32) (m_nameSize : Int32) (m_fault : Int32) (m_place : Int32) (m_trouble : Int32) (m_letters : Nat) (m_failed : Int32) (m_hasBook : Int32) (m_r : Nat) (m_fresh : Nat) (m_coins : Nat) (m_was : Nat) (m_undone : Nat) (m_redone : Nat) (m_marked : Nat) (m_undoneActs : Nat) (m_redoneActs : Nat) (m_undos : Int32) (m_redos : Int32) (m_marks : Int32) (m_tab : Nat) (m_basis : Nat) (m_below : Int64) (m_rows : Int32) (m_wide : Int32) (m_corner : Nat) (m_squares : Nat) (m_cornerMany : Int32) (m_chosen : Nat) (m_colourMany : Int32) (m_mostOnes : Int32) (m_tells : Nat) (m_goes : Nat) (k : Nat) (cT : ClassId) (f : Nat → Int32) (p0 : Int32) (p1 : Int32) (p2 : Int32) (p3 : Int32) (p4 : Int32) (hk : k + 20 ≤ 900) : Met l yX11_feed wsX11_feed ({ frames := 0, cells := 0, slots := 0, locals := 0 }) (va_Pc [.ref k0, .int p0, .int p1, .int p2, .int p3, .int p4] (fun U => U.heap.size = sz ∧ va_P (dC, dI) vwCl [(k0, .inr (11, [.int m_thrown, .ref m_tape, .int (nI k), .int m_size, .int m_at, .int m_end, .int m_token, .int m_whole, .int m_nameSize, .int m_fault, .int m_place, .int m_trouble, .ref m_letters, .int m_failed, .int m_hasBook, .ref m_r, .ref m_fresh, .ref m_coins, .ref m_was, .ref m_undone, .ref m_redone, .ref m_marked, .ref m_undoneActs, .ref m_redoneActs, .int m_undos, .int m_redos, .int m_marks, .ref m_tab, .ref m_basis, .long m_below, .int m_rows, .int m_wide, .ref m_corner, .ref m_squares, .int m_cornerMany, .ref m_chosen, .int m_colourMany, .int m_mostOnes, .ref m_tells, .ref m_goes])), (m_tape, .inl (cT, 900, .inl (f)))] U.heap ∧ va_K (dC, dI) vwCl [(cT, .int)] U ∧ va_D (fun _ => True) [(k0, .inr (11, [.int m_thrown, .ref m_tape, .int (nI k), .int m_size, .int m_at, .int m_end, .int m_token, .int m_whole, .int m_nameSize, .int m_fault, .int m_place, .int m_trouble, .ref m_letters, .int m_failed, .int m_hasBook, .ref m_r, .ref m_fresh, .ref m_coins, .ref m_was, .ref m_undone, .ref m_redone, .ref m_marked, .ref m_undoneActs, .ref m_redoneActs, .int m_undos, .int m_redos, .int m_marks, .ref m_tab, .ref m_basis, .long m_below, .int m_rows, .int m_wide, .ref m_corner, .ref m_squares, .int m_cornerMany, .ref m_chosen, .int m_colourMany, .int m_mostOnes, .ref m_tells, .ref m_goes])), (m_tape, .inl (cT, 900, .inl (f)))])) (va_Qi (fun (r : Int32) (_ : Unit) => r = nI (k + 20)) (fun _ t => ∃ (f_217 : Nat → Int32), va_P (dC, dI) vwCl [(k0, .inr (11, [.int 0, .ref m_tape, .int (nI (k + 1 + 1 + 1 + 1 + 1 + 1 + 1 + 1 + 1 + 1 + 1 + 1 + 1 + 1 + 1 + 1 + 1 + 1 + 1 + 1)), .int m_size, .int m_at, .int m_end, .int m_token, .int m_whole, .int m_nameSize, .int m_fault, .int m_place, .int m_trouble, .ref m_letters, .int m_failed, .int m_hasBook, .ref m_r, .ref m_fresh, .ref m_coins, .ref m_was, .ref m_undone, .ref m_redone, .ref m_marked, .ref m_undoneActs, .ref m_redoneActs, .int m_undos, .int m_redos, .int m_marks, .ref m_tab, .ref m_basis, .long m_below, .int m_rows, .int m_wide, .ref m_corner, .ref m_squares, .int m_cornerMany, .ref m_chosen, .int m_colourMany, .int m_mostOnes, .ref m_tells, .ref m_goes])), (m_tape, .inl (cT, 900, .inl (f_217)))] t.heap ∧ va_K (dC, dI) vwCl [(cT, .int)] t ∧ va_D (va_A [(k0, .inr (11, [.int m_thrown, .ref m_tape, .int (nI k), .int m_size, .int m_at, .int m_end, .int m_token, .int m_whole, .int m_nameSize, .int m_fault, .int m_place, .int m_trouble, .ref m_letters, .int m_failed, .int m_hasBook, .ref m_r, .ref m_fresh, .ref m_coins, .ref m_was, .ref m_undone, .ref m_redone, .ref m_marked, .ref m_undoneActs, .ref m_redoneActs, .int m_undos, .int m_redos, .int m_marks, .ref m_tab, .ref m_basis, .long m_below, .int m_rows, .int m_wide, .ref m_corner, .ref m_squares, .int m_cornerMany, .ref m_chosen, .int m_colourMany, .int m_mostOnes, .ref m_tells, .ref m_goes])), (m_tape, .inl (cT, 900, .inl (f)))] sz) [(k0, .inr (11, [.int 0, .ref m_tape, .int (nI (k + 1 + 1 + 1 + 1 + 1 + 1 + 1 + 1 + 1 + 1 + 1 + 1 + 1 + 1 + 1 + 1 + 1 + 1 + 1 + 1)), .int m_size, .int m_at, .int m_end, .int m_token, .int m_whole, .int m_nameSize, .int m_fault, .int m_place, .int m_trouble, .ref m_letters, .int m_failed, .int m_hasBook, .ref m_r, .ref m_fresh, .ref m_coins, .ref m_was, .ref m_undone, .ref m_redone, .ref m_marked, .ref m_undoneActs, .ref m_redoneActs, .int m_undos, .int m_redos, .int m_marks, .ref m_tab, .ref m_basis, .long m_below, .int m_rows, .int m_wide, .ref m_corner, .ref m_squares, .int m_cornerMany, .ref m_chosen, .int m_colourMany, .int m_mostOnes, .ref m_tells, .ref m_goes])), (m_tape, .inl (cT, 900, .inl (f_217)))]) (va_A [(k0, .inr (11, [.int m_thrown, .ref m_tape, .int (nI k), .int m_size, .int m_at, .int m_end, .int m_token, .int m_whole, .int m_nameSize, .int m_fault, .int m_place, .int m_trouble, .ref m_letters, .int m_failed, .int m_hasBook, .ref m_r, .ref m_fresh, .ref m_coins, .ref m_was, .ref m_undone, .ref m_redone, .ref m_marked, .ref m_undoneActs, .ref m_redoneActs, .int m_undos, .int m_redos, .int m_marks, .ref m_tab, .ref m_basis, .long m_below, .int m_rows, .int m_wide, .ref m_corner, .ref m_squares, .int m_cornerMany, .ref m_chosen, .int m_colourMany, .int m_mostOnes, .ref m_tells, .ref m_goes])), (m_tape, .inl (cT, 900, .inl (f)))] sz)) 0 0 (va_A [(k0, .inr (11, [.int m_thrown, .ref m_tape, .int (nI k), .int m_size, .int m_at, .int m_end, .int m_token, .int m_whole, .int m_nameSize, .int m_fault, .int m_place, .int m_trouble, .ref m_letters, .int m_failed, .int m_hasBook, .ref m_r, .ref m_fresh, .ref m_coins, .ref m_was, .ref m_undone, .ref m_redone, .ref m_marked, .ref m_undoneActs, .ref m_redoneActs, .int m_undos, .int m_redos, .int m_marks, .ref m_tab, .ref m_basis, .long m_below, .int m_rows, .int m_wide, .ref m_corner, .ref m_squares, .int m_cornerMany, .ref m_chosen, .int m_colourMany, .int m_mostOnes, .ref m_tells, .ref m_goes])), (m_tape, .inl (cT, 900, .inl (f)))] sz) := by
  refine Met.ofW (cc := cX11_feed) (maxL := 8) (ret := (some .int)) (by decide) rfl ?_
  intro p e s m args below meth c s₁ B hml hv
  obtain ⟨rfl, hsz, hP, hK, hD0⟩ := hv
  have hx := B.exec
  have hb := B.bytes
  have hr := B.returns
  have hts := atoms_spec (ws := wsX11_feed) B.pre
  have hown : s.vm.findClass RX11 = some m.cls := findClass_of_methodNamed B.named
  have hlocks := B.notSynchronized
  subst hsz
  have hD := hD0.self (sz := s.heap.size)
  generalize hAe : va_A [(k0, .inr (11, [.int m_thrown, .ref m_tape, .int (nI k), .int m_size, .int m_at, .int m_end, .int m_token, .int m_whole, .int m_nameSize, .int m_fault, .int m_place, .int m_trouble, .ref m_letters, .int m_failed, .int m_hasBook, .ref m_r, .ref m_fresh, .ref m_coins, .ref m_was, .ref m_undone, .ref m_redone, .ref m_marked, .ref m_undoneActs, .ref m_redoneActs, .int m_undos, .int m_redos, .int m_marks, .ref m_tab, .ref m_basis, .long m_below, .int m_rows, .int m_wide, .ref m_corner, .ref m_squares, .int m_cornerMany, .ref m_chosen, .int m_colourMany, .int m_mostOnes, .ref m_tells, .ref m_goes])), (m_tape, .inl (cT, 900, .inl (f)))] s.heap.size = A at hD ⊢
  have hA : ∀ q : Nat, s.heap.size ≤ q → A q := fun q h => by rw [← hAe]; exact Or.inr h
  have hS : va_S A s.heap s.heap [] := va_S.rf
  have hP : va_P (dC, dI) vwCl [(k0, .inr (11, [.int m_thrown, .ref m_tape, .int (nI k), .int m_size, .int m_at, .int m_end, .int m_token, .int m_whole, .int m_nameSize, .int m_fault, .int m_place, .int m_trouble, .ref m_letters, .int m_failed, .int m_hasBook, .ref m_r, .ref m_fresh, .ref m_coins, .ref m_was, .ref m_undone, .ref m_redone, .ref m_marked, .ref m_undoneActs, .ref m_redoneActs, .int m_undos, .int m_redos, .int m_marks, .ref m_tab, .ref m_basis, .long m_below, .int m_rows, .int m_wide, .ref m_corner, .ref m_squares, .int m_cornerMany, .ref m_chosen, .int m_colourMany, .int m_mostOnes, .ref m_tells, .ref m_goes])), (m_tape, .inl (cT, 900, .inl (f)))] s.heap := hP
  have hl := lv_entry ([.ref k0, .int p0, .int p1, .int p2, .int p3, .int p4]) (n := 8) (Nat.le_of_ble_eq_true rfl)
  rw [lg_entry_eq]
  generalize (lg_sl ([.ref k0, .int p0, .int p1, .int p2, .int p3, .int p4]) ++ List.replicate (8 - (lg_sl ([.ref k0, .int p0, .int p1, .int p2, .int p3, .int p4])).length) Slot.unset).toArray = ls at hl ⊢
  have hl : lv_has ls 8 [(0, .ref k0), (1, .int p0), (2, .int p1), (3, .int p2), (4, .int p3), (5, .int p4)] := hl
  refine lv_aload_n hx hb dX11_feed_0 rfl (lv_at hl 0 rfl) ?_
  refine lv_iconst (v := 0) hx hb dX11_feed_1 (by decide) ?_
  refine va_put (D := (dC, dI)) (ci := 11) (v := .int 0) (ty := .int) (C := RX11) (T := TX11) (N := 40) hx hb hts iw_X11_feed_X11_c_m_feed_ok tyX11 tyX11_ok nmX11 hown hK hP hD hS 0 rfl rfl 0 (by decide) (hts (.fieldLink RX11 69 "NotAtOnceModel" "thrown" "I") (by decide +kernel)) (fun _ h9 => h9) rfl (by decide +kernel) rfl rfl (Nat.le_of_ble_eq_true rfl) dX11_feed_2 (fun H locs hP hD hS => ?_)
  have hP : va_P (dC, dI) vwCl [(k0, .inr (11, [.int 0, .ref m_tape, .int (nI k), .int m_size, .int m_at, .int m_end, .int m_token, .int m_whole, .int m_nameSize, .int m_fault, .int m_place, .int m_trouble, .ref m_letters, .int m_failed, .int m_hasBook, .ref m_r, .ref m_fresh, .ref m_coins, .ref m_was, .ref m_undone, .ref m_redone, .ref m_marked, .ref m_undoneActs, .ref m_redoneActs, .int m_undos, .int m_redos, .int m_marks, .ref m_tab, .ref m_basis, .long m_below, .int m_rows, .int m_wide, .ref m_corner, .ref m_squares, .int m_cornerMany, .ref m_chosen, .int m_colourMany, .int m_mostOnes, .ref m_tells, .ref m_goes])), (m_tape, .inl (cT, 900, .inl (f)))] H := hP
  have hD : va_D A [(k0, .inr (11, [.int 0, .ref m_tape, .int (nI k), .int m_size, .int m_at, .int m_end, .int m_token, .int m_whole, .int m_nameSize, .int m_fault, .int m_place, .int m_trouble, .ref m_letters, .int m_failed, .int m_hasBook, .ref m_r, .ref m_fresh, .ref m_coins, .ref m_was, .ref m_undone, .ref m_redone, .ref m_marked, .ref m_undoneActs, .ref m_redoneActs, .int m_undos, .int m_redos, .int m_marks, .ref m_tab, .ref m_basis, .long m_below, .int m_rows, .int m_wide, .ref m_corner, .ref m_squares, .int m_cornerMany, .ref m_chosen, .int m_colourMany, .int m_mostOnes, .ref m_tells, .ref m_goes])), (m_tape, .inl (cT, 900, .inl (f)))] := hD
  refine lv_aload_n hx hb dX11_feed_5 rfl (lv_at hl 0 rfl) ?_
  refine va_get (D := (dC, dI)) (ci := 11) (v := .int (nI k)) (C := RX11) (T := TX11) (N := 40) hx hb hts iw_X11_feed_X11_c_m_feed_ok hown hK hP 0 rfl rfl 2 (by decide) (hts (.fieldLink RX11 75 "NotAtOnceModel" "taped" "I") (by decide +kernel)) (fun _ h9 => h9) rfl dX11_feed_6 ?_
  refine lv_bipush (v := 20) hx hb dX11_feed_9 (by decide) ?_
  refine lv_iadd hx hb dX11_feed_11 ?_
  refine lv_topi (fun v_1 ev_1 => ?_)
  obtain rfl : v_1 = nI (k + 20) := ev_1.trans (by rw [show (20 : Int32) = nI 20 from by decide, nI_add])
  refine lv_sipush (v := 900) hx hb dX11_feed_12 (by decide) ?_
  refine lv_icmp_le (tgt := 20) hx hb dX11_feed_15 (by decide) (fun c_2 => ?_) (fun c_2 => absurd (nI_le (by omega) (by decide)) c_2)
  refine lv_iconst (v := 0) hx hb dX11_feed_20 (by decide) ?_
  refine lv_istore (lv' := [(6, .int 0), (0, .ref k0), (1, .int p0), (2, .int p1), (3, .int p2), (4, .int p3), (5, .int p4)]) hx hb dX11_feed_21 hl (by decide) rfl (fun ls hl => ?_)
  refine lv_iload hx hb dX11_feed_23 (lv_at hl 0 rfl) ?_
  refine lv_bipush (v := 20) hx hb dX11_feed_25 (by decide) ?_
  refine lv_icmp_ge (tgt := 120) hx hb dX11_feed_27 (by decide) (fun c_3 => absurd c_3 (by decide)) (fun c_3 => ?_)
  refine lv_iload hx hb dX11_feed_30 (lv_at hl 0 rfl) ?_
  refine lv_iconst (v := 4) hx hb dX11_feed_32 (by decide) ?_
  refine lv_icmp_ge (tgt := 40) hx hb dX11_feed_33 (by decide) (fun c_4 => absurd c_4 (by decide)) (fun c_4 => ?_)
  refine lv_iload_n hx hb dX11_feed_36 rfl (lv_at hl 2 rfl) ?_
  refine lv_goto (tgt := 76) hx hb dX11_feed_37 (by decide) ?_
  refine lv_istore (lv' := [(7, .int p0), (6, .int 0), (0, .ref k0), (1, .int p0), (2, .int p1), (3, .int p2), (4, .int p3), (5, .int p4)]) hx hb dX11_feed_76 hl (by decide) rfl (fun ls hl => ?_)
  refine lv_aload_n hx hb dX11_feed_78 rfl (lv_at hl 2 rfl) ?_
  refine va_get (D := (dC, dI)) (ci := 11) (v := .ref m_tape) (C := RX11) (T := TX11) (N := 40) hx hb hts iw_X11_feed_X11_c_m_feed_ok hown hK hP 0 rfl rfl 1 (by decide) (hts (.fieldLink RX11 7 "NotAtOnceModel" "tape" "[I") (by decide +kernel)) (fun _ h9 => h9) rfl dX11_feed_79 ?_
  refine lv_aload_n hx hb dX11_feed_82 rfl (lv_at hl 2 rfl) ?_
  refine va_get (D := (dC, dI)) (ci := 11) (v := .int (nI k)) (C := RX11) (T := TX11) (N := 40) hx hb hts iw_X11_feed_X11_c_m_feed_ok hown hK hP 0 rfl rfl 2 (by decide) (hts (.fieldLink RX11 75 "NotAtOnceModel" "taped" "I") (by decide +kernel)) (fun _ h9 => h9) rfl dX11_feed_83 ?_
  refine lv_iload hx hb dX11_feed_86 (lv_at hl 0 rfl) ?_
  refine lv_bipush (v := 24) hx hb dX11_feed_88 (by decide) ?_
  refine lv_bipush (v := 8) hx hb dX11_feed_90 (by decide) ?_
  refine lv_iload hx hb dX11_feed_92 (lv_at hl 1 rfl) ?_
  refine lv_iconst (v := 4) hx hb dX11_feed_94 (by decide) ?_
  refine lv_irem hx hb dX11_feed_95 (by decide) ?_
  refine lv_topi (fun v_5 ev_5 => ?_)
  obtain rfl : v_5 = 0 := ev_5.trans (by decide)
  refine lv_imul hx hb dX11_feed_96 ?_
  refine lv_topi (fun v_6 ev_6 => ?_)
  obtain rfl : v_6 = 0 := ev_6.trans (by decide)
  refine lv_isub hx hb dX11_feed_97 ?_
  refine lv_topi (fun v_7 ev_7 => ?_)
  obtain rfl : v_7 = 24 := ev_7.trans (by decide)
  refine lv_ishr hx hb dX11_feed_98 ?_
  refine lv_topi (fun v_8 ev_8 => ?_)
  refine lv_sipush (v := 255) hx hb dX11_feed_99 (by decide) ?_
  refine lv_iand hx hb dX11_feed_102 ?_
  refine lv_topi (fun v_9 ev_9 => ?_)
  refine va_iast hx hb hK hP hD hS 1 0 rfl rfl (vp_in_nI (by omega) (by decide)) dX11_feed_103 (fun H locs hP hD hS => ?_)
  obtain ⟨f_10, ef_10⟩ : ∃ g : Nat → Int32, g = upd (f) (Int32.toNatClampNeg (nI k)) v_9 := ⟨_, rfl⟩
  have hP : va_P (dC, dI) vwCl [(k0, .inr (11, [.int 0, .ref m_tape, .int (nI k), .int m_size, .int m_at, .int m_end, .int m_token, .int m_whole, .int m_nameSize, .int m_fault, .int m_place, .int m_trouble, .ref m_letters, .int m_failed, .int m_hasBook, .ref m_r, .ref m_fresh, .ref m_coins, .ref m_was, .ref m_undone, .ref m_redone, .ref m_marked, .ref m_undoneActs, .ref m_redoneActs, .int m_undos, .int m_redos, .int m_marks, .ref m_tab, .ref m_basis, .long m_below, .int m_rows, .int m_wide, .ref m_corner, .ref m_squares, .int m_cornerMany, .ref m_chosen, .int m_colourMany, .int m_mostOnes, .ref m_tells, .ref m_goes])), (m_tape, .inl (cT, 900, .inl (f_10)))] H := by rw [ef_10]; exact hP
  have hD : va_D A [(k0, .inr (11, [.int 0, .ref m_tape, .int (nI k), .int m_size, .int m_at, .int m_end, .int m_token, .int m_whole, .int m_nameSize, .int m_fault, .int m_place, .int m_trouble, .ref m_letters, .int m_failed, .int m_hasBook, .ref m_r, .ref m_fresh, .ref m_coins, .ref m_was, .ref m_undone, .ref m_redone, .ref m_marked, .ref m_undoneActs, .ref m_redoneActs, .int m_undos, .int m_redos, .int m_marks, .ref m_tab, .ref m_basis, .long m_below, .int m_rows, .int m_wide, .ref m_corner, .ref m_squares, .int m_cornerMany, .ref m_chosen, .int m_colourMany, .int m_mostOnes, .ref m_tells, .ref m_goes])), (m_tape, .inl (cT, 900, .inl (f_10)))] := by rw [ef_10]; exact hD
  refine lv_aload_n hx hb dX11_feed_104 rfl (lv_at hl 2 rfl) ?_
  refine lv_dup hx hb dX11_feed_105 rfl ?_
  refine va_get (D := (dC, dI)) (ci := 11) (v := .int (nI k)) (C := RX11) (T := TX11) (N := 40) hx hb hts iw_X11_feed_X11_c_m_feed_ok hown hK hP 0 rfl rfl 2 (by decide) (hts (.fieldLink RX11 75 "NotAtOnceModel" "taped" "I") (by decide +kernel)) (fun _ h9 => h9) rfl dX11_feed_106 ?_
  refine lv_iconst (v := 1) hx hb dX11_feed_109 (by decide) ?_
  refine lv_iadd hx hb dX11_feed_110 ?_
  refine lv_topi (fun v_11 ev_11 => ?_)
  obtain rfl : v_11 = nI (k + 1) := ev_11.trans (by rw [show (1 : Int32) = nI 1 from by decide, nI_add])
  refine va_put (D := (dC, dI)) (ci := 11) (v := .int (nI (k + 1))) (ty := .int) (C := RX11) (T := TX11) (N := 40) hx hb hts iw_X11_feed_X11_c_m_feed_ok tyX11 tyX11_ok nmX11 hown hK hP hD hS 0 rfl rfl 2 (by decide) (hts (.fieldLink RX11 75 "NotAtOnceModel" "taped" "I") (by decide +kernel)) (fun _ h9 => h9) rfl (by decide +kernel) rfl rfl (Nat.le_of_ble_eq_true rfl) dX11_feed_111 (fun H locs hP hD hS => ?_)
  have hP : va_P (dC, dI) vwCl [(k0, .inr (11, [.int 0, .ref m_tape, .int (nI (k + 1)), .int m_size, .int m_at, .int m_end, .int m_token, .int m_whole, .int m_nameSize, .int m_fault, .int m_place, .int m_trouble, .ref m_letters, .int m_failed, .int m_hasBook, .ref m_r, .ref m_fresh, .ref m_coins, .ref m_was, .ref m_undone, .ref m_redone, .ref m_marked, .ref m_undoneActs, .ref m_redoneActs, .int m_undos, .int m_redos, .int m_marks, .ref m_tab, .ref m_basis, .long m_below, .int m_rows, .int m_wide, .ref m_corner, .ref m_squares, .int m_cornerMany, .ref m_chosen, .int m_colourMany, .int m_mostOnes, .ref m_tells, .ref m_goes])), (m_tape, .inl (cT, 900, .inl (f_10)))] H := hP
  have hD : va_D A [(k0, .inr (11, [.int 0, .ref m_tape, .int (nI (k + 1)), .int m_size, .int m_at, .int m_end, .int m_token, .int m_whole, .int m_nameSize, .int m_fault, .int m_place, .int m_trouble, .ref m_letters, .int m_failed, .int m_hasBook, .ref m_r, .ref m_fresh, .ref m_coins, .ref m_was, .ref m_undone, .ref m_redone, .ref m_marked, .ref m_undoneActs, .ref m_redoneActs, .int m_undos, .int m_redos, .int m_marks, .ref m_tab, .ref m_basis, .long m_below, .int m_rows, .int m_wide, .ref m_corner, .ref m_squares, .int m_cornerMany, .ref m_chosen, .int m_colourMany, .int m_mostOnes, .ref m_tells, .ref m_goes])), (m_tape, .inl (cT, 900, .inl (f_10)))] := hD
  refine lv_iinc (v := 1) (lv' := [(6, .int 1), (7, .int p0), (0, .ref k0), (1, .int p0), (2, .int p1), (3, .int p2), (4, .int p3), (5, .int p4)]) hx hb dX11_feed_114 hl (k := 1) rfl (by decide) (by decide) rfl (fun ls hl => ?_)
  refine lv_goto (tgt := 23) hx hb dX11_feed_117 (by decide) ?_
  refine lv_iload hx hb dX11_feed_23 (lv_at hl 0 rfl) ?_
  refine lv_bipush (v := 20) hx hb dX11_feed_25 (by decide) ?_
  refine lv_icmp_ge (tgt := 120) hx hb dX11_feed_27 (by decide) (fun c_12 => absurd c_12 (by decide)) (fun c_12 => ?_)
  refine lv_iload hx hb dX11_feed_30 (lv_at hl 0 rfl) ?_
  refine lv_iconst (v := 4) hx hb dX11_feed_32 (by decide) ?_
  refine lv_icmp_ge (tgt := 40) hx hb dX11_feed_33 (by decide) (fun c_13 => absurd c_13 (by decide)) (fun c_13 => ?_)
  refine lv_iload_n hx hb dX11_feed_36 rfl (lv_at hl 3 rfl) ?_
  refine lv_goto (tgt := 76) hx hb dX11_feed_37 (by decide) ?_
  refine lv_istore (lv' := [(7, .int p0), (6, .int 1), (0, .ref k0), (1, .int p0), (2, .int p1), (3, .int p2), (4, .int p3), (5, .int p4)]) hx hb dX11_feed_76 hl (by decide) rfl (fun ls hl => ?_)
  refine lv_aload_n hx hb dX11_feed_78 rfl (lv_at hl 2 rfl) ?_
  refine va_get (D := (dC, dI)) (ci := 11) (v := .ref m_tape) (C := RX11) (T := TX11) (N := 40) hx hb hts iw_X11_feed_X11_c_m_feed_ok hown hK hP 0 rfl rfl 1 (by decide) (hts (.fieldLink RX11 7 "NotAtOnceModel" "tape" "[I") (by decide +kernel)) (fun _ h9 => h9) rfl dX11_feed_79 ?_
  refine lv_aload_n hx hb dX11_feed_82 rfl (lv_at hl 2 rfl) ?_
  refine va_get (D := (dC, dI)) (ci := 11) (v := .int (nI (k + 1))) (C := RX11) (T := TX11) (N := 40) hx hb hts iw_X11_feed_X11_c_m_feed_ok hown hK hP 0 rfl rfl 2 (by decide) (hts (.fieldLink RX11 75 "NotAtOnceModel" "taped" "I") (by decide +kernel)) (fun _ h9 => h9) rfl dX11_feed_83 ?_
  refine lv_iload hx hb dX11_feed_86 (lv_at hl 0 rfl) ?_
  refine lv_bipush (v := 24) hx hb dX11_feed_88 (by decide) ?_
  refine lv_bipush (v := 8) hx hb dX11_feed_90 (by decide) ?_
  refine lv_iload hx hb dX11_feed_92 (lv_at hl 1 rfl) ?_
  refine lv_iconst (v := 4) hx hb dX11_feed_94 (by decide) ?_
  refine lv_irem hx hb dX11_feed_95 (by decide) ?_
  refine lv_topi (fun v_14 ev_14 => ?_)
  obtain rfl : v_14 = 1 := ev_14.trans (by decide)
  refine lv_imul hx hb dX11_feed_96 ?_
  refine lv_topi (fun v_15 ev_15 => ?_)
  obtain rfl : v_15 = 8 := ev_15.trans (by decide)
  refine lv_isub hx hb dX11_feed_97 ?_
  refine lv_topi (fun v_16 ev_16 => ?_)
  obtain rfl : v_16 = 16 := ev_16.trans (by decide)
  refine lv_ishr hx hb dX11_feed_98 ?_
  refine lv_topi (fun v_17 ev_17 => ?_)
  refine lv_sipush (v := 255) hx hb dX11_feed_99 (by decide) ?_
  refine lv_iand hx hb dX11_feed_102 ?_
  refine lv_topi (fun v_18 ev_18 => ?_)
  refine va_iast hx hb hK hP hD hS 1 0 rfl rfl (vp_in_nI (by omega) (by decide)) dX11_feed_103 (fun H locs hP hD hS => ?_)
  obtain ⟨f_19, ef_19⟩ : ∃ g : Nat → Int32, g = upd (f_10) (Int32.toNatClampNeg (nI (k + 1))) v_18 := ⟨_, rfl⟩
  have hP : va_P (dC, dI) vwCl [(k0, .inr (11, [.int 0, .ref m_tape, .int (nI (k + 1)), .int m_size, .int m_at, .int m_end, .int m_token, .int m_whole, .int m_nameSize, .int m_fault, .int m_place, .int m_trouble, .ref m_letters, .int m_failed, .int m_hasBook, .ref m_r, .ref m_fresh, .ref m_coins, .ref m_was, .ref m_undone, .ref m_redone, .ref m_marked, .ref m_undoneActs, .ref m_redoneActs, .int m_undos, .int m_redos, .int m_marks, .ref m_tab, .ref m_basis, .long m_below, .int m_rows, .int m_wide, .ref m_corner, .ref m_squares, .int m_cornerMany, .ref m_chosen, .int m_colourMany, .int m_mostOnes, .ref m_tells, .ref m_goes])), (m_tape, .inl (cT, 900, .inl (f_19)))] H := by rw [ef_19]; exact hP
  have hD : va_D A [(k0, .inr (11, [.int 0, .ref m_tape, .int (nI (k + 1)), .int m_size, .int m_at, .int m_end, .int m_token, .int m_whole, .int m_nameSize, .int m_fault, .int m_place, .int m_trouble, .ref m_letters, .int m_failed, .int m_hasBook, .ref m_r, .ref m_fresh, .ref m_coins, .ref m_was, .ref m_undone, .ref m_redone, .ref m_marked, .ref m_undoneActs, .ref m_redoneActs, .int m_undos, .int m_redos, .int m_marks, .ref m_tab, .ref m_basis, .long m_below, .int m_rows, .int m_wide, .ref m_corner, .ref m_squares, .int m_cornerMany, .ref m_chosen, .int m_colourMany, .int m_mostOnes, .ref m_tells, .ref m_goes])), (m_tape, .inl (cT, 900, .inl (f_19)))] := by rw [ef_19]; exact hD
  refine lv_aload_n hx hb dX11_feed_104 rfl (lv_at hl 2 rfl) ?_
  refine lv_dup hx hb dX11_feed_105 rfl ?_
  refine va_get (D := (dC, dI)) (ci := 11) (v := .int (nI (k + 1))) (C := RX11) (T := TX11) (N := 40) hx hb hts iw_X11_feed_X11_c_m_feed_ok hown hK hP 0 rfl rfl 2 (by decide) (hts (.fieldLink RX11 75 "NotAtOnceModel" "taped" "I") (by decide +kernel)) (fun _ h9 => h9) rfl dX11_feed_106 ?_
  refine lv_iconst (v := 1) hx hb dX11_feed_109 (by decide) ?_
  refine lv_iadd hx hb dX11_feed_110 ?_
  refine lv_topi (fun v_20 ev_20 => ?_)
  obtain rfl : v_20 = nI (k + 1 + 1) := ev_20.trans (by rw [show (1 : Int32) = nI 1 from by decide, nI_add])
  refine va_put (D := (dC, dI)) (ci := 11) (v := .int (nI (k + 1 + 1))) (ty := .int) (C := RX11) (T := TX11) (N := 40) hx hb hts iw_X11_feed_X11_c_m_feed_ok tyX11 tyX11_ok nmX11 hown hK hP hD hS 0 rfl rfl 2 (by decide) (hts (.fieldLink RX11 75 "NotAtOnceModel" "taped" "I") (by decide +kernel)) (fun _ h9 => h9) rfl (by decide +kernel) rfl rfl (Nat.le_of_ble_eq_true rfl) dX11_feed_111 (fun H locs hP hD hS => ?_)
  have hP : va_P (dC, dI) vwCl [(k0, .inr (11, [.int 0, .ref m_tape, .int (nI (k + 1 + 1)), .int m_size, .int m_at, .int m_end, .int m_token, .int m_whole, .int m_nameSize, .int m_fault, .int m_place, .int m_trouble, .ref m_letters, .int m_failed, .int m_hasBook, .ref m_r, .ref m_fresh, .ref m_coins, .ref m_was, .ref m_undone, .ref m_redone, .ref m_marked, .ref m_undoneActs, .ref m_redoneActs, .int m_undos, .int m_redos, .int m_marks, .ref m_tab, .ref m_basis, .long m_below, .int m_rows, .int m_wide, .ref m_corner, .ref m_squares, .int m_cornerMany, .ref m_chosen, .int m_colourMany, .int m_mostOnes, .ref m_tells, .ref m_goes])), (m_tape, .inl (cT, 900, .inl (f_19)))] H := hP
  have hD : va_D A [(k0, .inr (11, [.int 0, .ref m_tape, .int (nI (k + 1 + 1)), .int m_size, .int m_at, .int m_end, .int m_token, .int m_whole, .int m_nameSize, .int m_fault, .int m_place, .int m_trouble, .ref m_letters, .int m_failed, .int m_hasBook, .ref m_r, .ref m_fresh, .ref m_coins, .ref m_was, .ref m_undone, .ref m_redone, .ref m_marked, .ref m_undoneActs, .ref m_redoneActs, .int m_undos, .int m_redos, .int m_marks, .ref m_tab, .ref m_basis, .long m_below, .int m_rows, .int m_wide, .ref m_corner, .ref m_squares, .int m_cornerMany, .ref m_chosen, .int m_colourMany, .int m_mostOnes, .ref m_tells, .ref m_goes])), (m_tape, .inl (cT, 900, .inl (f_19)))] := hD
  refine lv_iinc (v := 2) (lv' := [(6, .int 2), (7, .int p0), (0, .ref k0), (1, .int p0), (2, .int p1), (3, .int p2), (4, .int p3), (5, .int p4)]) hx hb dX11_feed_114 hl (k := 1) rfl (by decide) (by decide) rfl (fun ls hl => ?_)
  refine lv_goto (tgt := 23) hx hb dX11_feed_117 (by decide) ?_
  refine lv_iload hx hb dX11_feed_23 (lv_at hl 0 rfl) ?_
  refine lv_bipush (v := 20) hx hb dX11_feed_25 (by decide) ?_
  refine lv_icmp_ge (tgt := 120) hx hb dX11_feed_27 (by decide) (fun c_21 => absurd c_21 (by decide)) (fun c_21 => ?_)
  refine lv_iload hx hb dX11_feed_30 (lv_at hl 0 rfl) ?_
  refine lv_iconst (v := 4) hx hb dX11_feed_32 (by decide) ?_
  refine lv_icmp_ge (tgt := 40) hx hb dX11_feed_33 (by decide) (fun c_22 => absurd c_22 (by decide)) (fun c_22 => ?_)
  refine lv_iload_n hx hb dX11_feed_36 rfl (lv_at hl 3 rfl) ?_
  refine lv_goto (tgt := 76) hx hb dX11_feed_37 (by decide) ?_
  refine lv_istore (lv' := [(7, .int p0), (6, .int 2), (0, .ref k0), (1, .int p0), (2, .int p1), (3, .int p2), (4, .int p3), (5, .int p4)]) hx hb dX11_feed_76 hl (by decide) rfl (fun ls hl => ?_)
  refine lv_aload_n hx hb dX11_feed_78 rfl (lv_at hl 2 rfl) ?_
  refine va_get (D := (dC, dI)) (ci := 11) (v := .ref m_tape) (C := RX11) (T := TX11) (N := 40) hx hb hts iw_X11_feed_X11_c_m_feed_ok hown hK hP 0 rfl rfl 1 (by decide) (hts (.fieldLink RX11 7 "NotAtOnceModel" "tape" "[I") (by decide +kernel)) (fun _ h9 => h9) rfl dX11_feed_79 ?_
  refine lv_aload_n hx hb dX11_feed_82 rfl (lv_at hl 2 rfl) ?_
  refine va_get (D := (dC, dI)) (ci := 11) (v := .int (nI (k + 1 + 1))) (C := RX11) (T := TX11) (N := 40) hx hb hts iw_X11_feed_X11_c_m_feed_ok hown hK hP 0 rfl rfl 2 (by decide) (hts (.fieldLink RX11 75 "NotAtOnceModel" "taped" "I") (by decide +kernel)) (fun _ h9 => h9) rfl dX11_feed_83 ?_
  refine lv_iload hx hb dX11_feed_86 (lv_at hl 0 rfl) ?_
  refine lv_bipush (v := 24) hx hb dX11_feed_88 (by decide) ?_
  refine lv_bipush (v := 8) hx hb dX11_feed_90 (by decide) ?_
  refine lv_iload hx hb dX11_feed_92 (lv_at hl 1 rfl) ?_
  refine lv_iconst (v := 4) hx hb dX11_feed_94 (by decide) ?_
  refine lv_irem hx hb dX11_feed_95 (by decide) ?_
  refine lv_topi (fun v_23 ev_23 => ?_)
  obtain rfl : v_23 = 2 := ev_23.trans (by decide)
  refine lv_imul hx hb dX11_feed_96 ?_
  refine lv_topi (fun v_24 ev_24 => ?_)
  obtain rfl : v_24 = 16 := ev_24.trans (by decide)
  refine lv_isub hx hb dX11_feed_97 ?_
  refine lv_topi (fun v_25 ev_25 => ?_)
  obtain rfl : v_25 = 8 := ev_25.trans (by decide)
  refine lv_ishr hx hb dX11_feed_98 ?_
  refine lv_topi (fun v_26 ev_26 => ?_)
  refine lv_sipush (v := 255) hx hb dX11_feed_99 (by decide) ?_
  refine lv_iand hx hb dX11_feed_102 ?_
  refine lv_topi (fun v_27 ev_27 => ?_)
  refine va_iast hx hb hK hP hD hS 1 0 rfl rfl (vp_in_nI (by omega) (by decide)) dX11_feed_103 (fun H locs hP hD hS => ?_)
  obtain ⟨f_28, ef_28⟩ : ∃ g : Nat → Int32, g = upd (f_19) (Int32.toNatClampNeg (nI (k + 1 + 1))) v_27 := ⟨_, rfl⟩
  have hP : va_P (dC, dI) vwCl [(k0, .inr (11, [.int 0, .ref m_tape, .int (nI (k + 1 + 1)), .int m_size, .int m_at, .int m_end, .int m_token, .int m_whole, .int m_nameSize, .int m_fault, .int m_place, .int m_trouble, .ref m_letters, .int m_failed, .int m_hasBook, .ref m_r, .ref m_fresh, .ref m_coins, .ref m_was, .ref m_undone, .ref m_redone, .ref m_marked, .ref m_undoneActs, .ref m_redoneActs, .int m_undos, .int m_redos, .int m_marks, .ref m_tab, .ref m_basis, .long m_below, .int m_rows, .int m_wide, .ref m_corner, .ref m_squares, .int m_cornerMany, .ref m_chosen, .int m_colourMany, .int m_mostOnes, .ref m_tells, .ref m_goes])), (m_tape, .inl (cT, 900, .inl (f_28)))] H := by rw [ef_28]; exact hP
  have hD : va_D A [(k0, .inr (11, [.int 0, .ref m_tape, .int (nI (k + 1 + 1)), .int m_size, .int m_at, .int m_end, .int m_token, .int m_whole, .int m_nameSize, .int m_fault, .int m_place, .int m_trouble, .ref m_letters, .int m_failed, .int m_hasBook, .ref m_r, .ref m_fresh, .ref m_coins, .ref m_was, .ref m_undone, .ref m_redone, .ref m_marked, .ref m_undoneActs, .ref m_redoneActs, .int m_undos, .int m_redos, .int m_marks, .ref m_tab, .ref m_basis, .long m_below, .int m_rows, .int m_wide, .ref m_corner, .ref m_squares, .int m_cornerMany, .ref m_chosen, .int m_colourMany, .int m_mostOnes, .ref m_tells, .ref m_goes])), (m_tape, .inl (cT, 900, .inl (f_28)))] := by rw [ef_28]; exact hD
  refine lv_aload_n hx hb dX11_feed_104 rfl (lv_at hl 2 rfl) ?_
  refine lv_dup hx hb dX11_feed_105 rfl ?_
  refine va_get (D := (dC, dI)) (ci := 11) (v := .int (nI (k + 1 + 1))) (C := RX11) (T := TX11) (N := 40) hx hb hts iw_X11_feed_X11_c_m_feed_ok hown hK hP 0 rfl rfl 2 (by decide) (hts (.fieldLink RX11 75 "NotAtOnceModel" "taped" "I") (by decide +kernel)) (fun _ h9 => h9) rfl dX11_feed_106 ?_
  refine lv_iconst (v := 1) hx hb dX11_feed_109 (by decide) ?_
  refine lv_iadd hx hb dX11_feed_110 ?_
  refine lv_topi (fun v_29 ev_29 => ?_)
  obtain rfl : v_29 = nI (k + 1 + 1 + 1) := ev_29.trans (by rw [show (1 : Int32) = nI 1 from by decide, nI_add])
  refine va_put (D := (dC, dI)) (ci := 11) (v := .int (nI (k + 1 + 1 + 1))) (ty := .int) (C := RX11) (T := TX11) (N := 40) hx hb hts iw_X11_feed_X11_c_m_feed_ok tyX11 tyX11_ok nmX11 hown hK hP hD hS 0 rfl rfl 2 (by decide) (hts (.fieldLink RX11 75 "NotAtOnceModel" "taped" "I") (by decide +kernel)) (fun _ h9 => h9) rfl (by decide +kernel) rfl rfl (Nat.le_of_ble_eq_true rfl) dX11_feed_111 (fun H locs hP hD hS => ?_)
  have hP : va_P (dC, dI) vwCl [(k0, .inr (11, [.int 0, .ref m_tape, .int (nI (k + 1 + 1 + 1)), .int m_size, .int m_at, .int m_end, .int m_token, .int m_whole, .int m_nameSize, .int m_fault, .int m_place, .int m_trouble, .ref m_letters, .int m_failed, .int m_hasBook, .ref m_r, .ref m_fresh, .ref m_coins, .ref m_was, .ref m_undone, .ref m_redone, .ref m_marked, .ref m_undoneActs, .ref m_redoneActs, .int m_undos, .int m_redos, .int m_marks, .ref m_tab, .ref m_basis, .long m_below, .int m_rows, .int m_wide, .ref m_corner, .ref m_squares, .int m_cornerMany, .ref m_chosen, .int m_colourMany, .int m_mostOnes, .ref m_tells, .ref m_goes])), (m_tape, .inl (cT, 900, .inl (f_28)))] H := hP
  have hD : va_D A [(k0, .inr (11, [.int 0, .ref m_tape, .int (nI (k + 1 + 1 + 1)), .int m_size, .int m_at, .int m_end, .int m_token, .int m_whole, .int m_nameSize, .int m_fault, .int m_place, .int m_trouble, .ref m_letters, .int m_failed, .int m_hasBook, .ref m_r, .ref m_fresh, .ref m_coins, .ref m_was, .ref m_undone, .ref m_redone, .ref m_marked, .ref m_undoneActs, .ref m_redoneActs, .int m_undos, .int m_redos, .int m_marks, .ref m_tab, .ref m_basis, .long m_below, .int m_rows, .int m_wide, .ref m_corner, .ref m_squares, .int m_cornerMany, .ref m_chosen, .int m_colourMany, .int m_mostOnes, .ref m_tells, .ref m_goes])), (m_tape, .inl (cT, 900, .inl (f_28)))] := hD
  refine lv_iinc (v := 3) (lv' := [(6, .int 3), (7, .int p0), (0, .ref k0), (1, .int p0), (2, .int p1), (3, .int p2), (4, .int p3), (5, .int p4)]) hx hb dX11_feed_114 hl (k := 1) rfl (by decide) (by decide) rfl (fun ls hl => ?_)
  refine lv_goto (tgt := 23) hx hb dX11_feed_117 (by decide) ?_
  refine lv_iload hx hb dX11_feed_23 (lv_at hl 0 rfl) ?_
  refine lv_bipush (v := 20) hx hb dX11_feed_25 (by decide) ?_
  refine lv_icmp_ge (tgt := 120) hx hb dX11_feed_27 (by decide) (fun c_30 => absurd c_30 (by decide)) (fun c_30 => ?_)
  refine lv_iload hx hb dX11_feed_30 (lv_at hl 0 rfl) ?_
  refine lv_iconst (v := 4) hx hb dX11_feed_32 (by decide) ?_
  refine lv_icmp_ge (tgt := 40) hx hb dX11_feed_33 (by decide) (fun c_31 => absurd c_31 (by decide)) (fun c_31 => ?_)
  refine lv_iload_n hx hb dX11_feed_36 rfl (lv_at hl 3 rfl) ?_
  refine lv_goto (tgt := 76) hx hb dX11_feed_37 (by decide) ?_
  refine lv_istore (lv' := [(7, .int p0), (6, .int 3), (0, .ref k0), (1, .int p0), (2, .int p1), (3, .int p2), (4, .int p3), (5, .int p4)]) hx hb dX11_feed_76 hl (by decide) rfl (fun ls hl => ?_)
  refine lv_aload_n hx hb dX11_feed_78 rfl (lv_at hl 2 rfl) ?_
  refine va_get (D := (dC, dI)) (ci := 11) (v := .ref m_tape) (C := RX11) (T := TX11) (N := 40) hx hb hts iw_X11_feed_X11_c_m_feed_ok hown hK hP 0 rfl rfl 1 (by decide) (hts (.fieldLink RX11 7 "NotAtOnceModel" "tape" "[I") (by decide +kernel)) (fun _ h9 => h9) rfl dX11_feed_79 ?_
  refine lv_aload_n hx hb dX11_feed_82 rfl (lv_at hl 2 rfl) ?_
  refine va_get (D := (dC, dI)) (ci := 11) (v := .int (nI (k + 1 + 1 + 1))) (C := RX11) (T := TX11) (N := 40) hx hb hts iw_X11_feed_X11_c_m_feed_ok hown hK hP 0 rfl rfl 2 (by decide) (hts (.fieldLink RX11 75 "NotAtOnceModel" "taped" "I") (by decide +kernel)) (fun _ h9 => h9) rfl dX11_feed_83 ?_
  refine lv_iload hx hb dX11_feed_86 (lv_at hl 0 rfl) ?_
  refine lv_bipush (v := 24) hx hb dX11_feed_88 (by decide) ?_
  refine lv_bipush (v := 8) hx hb dX11_feed_90 (by decide) ?_
  refine lv_iload hx hb dX11_feed_92 (lv_at hl 1 rfl) ?_
  refine lv_iconst (v := 4) hx hb dX11_feed_94 (by decide) ?_
  refine lv_irem hx hb dX11_feed_95 (by decide) ?_
  refine lv_topi (fun v_32 ev_32 => ?_)
  obtain rfl : v_32 = 3 := ev_32.trans (by decide)
  refine lv_imul hx hb dX11_feed_96 ?_
  refine lv_topi (fun v_33 ev_33 => ?_)
  obtain rfl : v_33 = 24 := ev_33.trans (by decide)
  refine lv_isub hx hb dX11_feed_97 ?_
  refine lv_topi (fun v_34 ev_34 => ?_)
  obtain rfl : v_34 = 0 := ev_34.trans (by decide)
  refine lv_ishr hx hb dX11_feed_98 ?_
  refine lv_topi (fun v_35 ev_35 => ?_)
  refine lv_sipush (v := 255) hx hb dX11_feed_99 (by decide) ?_
  refine lv_iand hx hb dX11_feed_102 ?_
  refine lv_topi (fun v_36 ev_36 => ?_)
  refine va_iast hx hb hK hP hD hS 1 0 rfl rfl (vp_in_nI (by omega) (by decide)) dX11_feed_103 (fun H locs hP hD hS => ?_)
  obtain ⟨f_37, ef_37⟩ : ∃ g : Nat → Int32, g = upd (f_28) (Int32.toNatClampNeg (nI (k + 1 + 1 + 1))) v_36 := ⟨_, rfl⟩
  have hP : va_P (dC, dI) vwCl [(k0, .inr (11, [.int 0, .ref m_tape, .int (nI (k + 1 + 1 + 1)), .int m_size, .int m_at, .int m_end, .int m_token, .int m_whole, .int m_nameSize, .int m_fault, .int m_place, .int m_trouble, .ref m_letters, .int m_failed, .int m_hasBook, .ref m_r, .ref m_fresh, .ref m_coins, .ref m_was, .ref m_undone, .ref m_redone, .ref m_marked, .ref m_undoneActs, .ref m_redoneActs, .int m_undos, .int m_redos, .int m_marks, .ref m_tab, .ref m_basis, .long m_below, .int m_rows, .int m_wide, .ref m_corner, .ref m_squares, .int m_cornerMany, .ref m_chosen, .int m_colourMany, .int m_mostOnes, .ref m_tells, .ref m_goes])), (m_tape, .inl (cT, 900, .inl (f_37)))] H := by rw [ef_37]; exact hP
  have hD : va_D A [(k0, .inr (11, [.int 0, .ref m_tape, .int (nI (k + 1 + 1 + 1)), .int m_size, .int m_at, .int m_end, .int m_token, .int m_whole, .int m_nameSize, .int m_fault, .int m_place, .int m_trouble, .ref m_letters, .int m_failed, .int m_hasBook, .ref m_r, .ref m_fresh, .ref m_coins, .ref m_was, .ref m_undone, .ref m_redone, .ref m_marked, .ref m_undoneActs, .ref m_redoneActs, .int m_undos, .int m_redos, .int m_marks, .ref m_tab, .ref m_basis, .long m_below, .int m_rows, .int m_wide, .ref m_corner, .ref m_squares, .int m_cornerMany, .ref m_chosen, .int m_colourMany, .int m_mostOnes, .ref m_tells, .ref m_goes])), (m_tape, .inl (cT, 900, .inl (f_37)))] := by rw [ef_37]; exact hD
  refine lv_aload_n hx hb dX11_feed_104 rfl (lv_at hl 2 rfl) ?_
  refine lv_dup hx hb dX11_feed_105 rfl ?_
  refine va_get (D := (dC, dI)) (ci := 11) (v := .int (nI (k + 1 + 1 + 1))) (C := RX11) (T := TX11) (N := 40) hx hb hts iw_X11_feed_X11_c_m_feed_ok hown hK hP 0 rfl rfl 2 (by decide) (hts (.fieldLink RX11 75 "NotAtOnceModel" "taped" "I") (by decide +kernel)) (fun _ h9 => h9) rfl dX11_feed_106 ?_
  refine lv_iconst (v := 1) hx hb dX11_feed_109 (by decide) ?_
  refine lv_iadd hx hb dX11_feed_110 ?_
  refine lv_topi (fun v_38 ev_38 => ?_)
  obtain rfl : v_38 = nI (k + 1 + 1 + 1 + 1) := ev_38.trans (by rw [show (1 : Int32) = nI 1 from by decide, nI_add])
  refine va_put (D := (dC, dI)) (ci := 11) (v := .int (nI (k + 1 + 1 + 1 + 1))) (ty := .int) (C := RX11) (T := TX11) (N := 40) hx hb hts iw_X11_feed_X11_c_m_feed_ok tyX11 tyX11_ok nmX11 hown hK hP hD hS 0 rfl rfl 2 (by decide) (hts (.fieldLink RX11 75 "NotAtOnceModel" "taped" "I") (by decide +kernel)) (fun _ h9 => h9) rfl (by decide +kernel) rfl rfl (Nat.le_of_ble_eq_true rfl) dX11_feed_111 (fun H locs hP hD hS => ?_)
  have hP : va_P (dC, dI) vwCl [(k0, .inr (11, [.int 0, .ref m_tape, .int (nI (k + 1 + 1 + 1 + 1)), .int m_size, .int m_at, .int m_end, .int m_token, .int m_whole, .int m_nameSize, .int m_fault, .int m_place, .int m_trouble, .ref m_letters, .int m_failed, .int m_hasBook, .ref m_r, .ref m_fresh, .ref m_coins, .ref m_was, .ref m_undone, .ref m_redone, .ref m_marked, .ref m_undoneActs, .ref m_redoneActs, .int m_undos, .int m_redos, .int m_marks, .ref m_tab, .ref m_basis, .long m_below, .int m_rows, .int m_wide, .ref m_corner, .ref m_squares, .int m_cornerMany, .ref m_chosen, .int m_colourMany, .int m_mostOnes, .ref m_tells, .ref m_goes])), (m_tape, .inl (cT, 900, .inl (f_37)))] H := hP
  have hD : va_D A [(k0, .inr (11, [.int 0, .ref m_tape, .int (nI (k + 1 + 1 + 1 + 1)), .int m_size, .int m_at, .int m_end, .int m_token, .int m_whole, .int m_nameSize, .int m_fault, .int m_place, .int m_trouble, .ref m_letters, .int m_failed, .int m_hasBook, .ref m_r, .ref m_fresh, .ref m_coins, .ref m_was, .ref m_undone, .ref m_redone, .ref m_marked, .ref m_undoneActs, .ref m_redoneActs, .int m_undos, .int m_redos, .int m_marks, .ref m_tab, .ref m_basis, .long m_below, .int m_rows, .int m_wide, .ref m_corner, .ref m_squares, .int m_cornerMany, .ref m_chosen, .int m_colourMany, .int m_mostOnes, .ref m_tells, .ref m_goes])), (m_tape, .inl (cT, 900, .inl (f_37)))] := hD
  refine lv_iinc (v := 4) (lv' := [(6, .int 4), (7, .int p0), (0, .ref k0), (1, .int p0), (2, .int p1), (3, .int p2), (4, .int p3), (5, .int p4)]) hx hb dX11_feed_114 hl (k := 1) rfl (by decide) (by decide) rfl (fun ls hl => ?_)
  refine lv_goto (tgt := 23) hx hb dX11_feed_117 (by decide) ?_
  refine lv_iload hx hb dX11_feed_23 (lv_at hl 0 rfl) ?_
  refine lv_bipush (v := 20) hx hb dX11_feed_25 (by decide) ?_
  refine lv_icmp_ge (tgt := 120) hx hb dX11_feed_27 (by decide) (fun c_39 => absurd c_39 (by decide)) (fun c_39 => ?_)
  refine lv_iload hx hb dX11_feed_30 (lv_at hl 0 rfl) ?_
  refine lv_iconst (v := 4) hx hb dX11_feed_32 (by decide) ?_
  refine lv_icmp_ge (tgt := 40) hx hb dX11_feed_33 (by decide) (fun c_40 => ?_) (fun c_40 => absurd c_40 (by decide))
  refine lv_iload hx hb dX11_feed_40 (lv_at hl 0 rfl) ?_
  refine lv_bipush (v := 8) hx hb dX11_feed_42 (by decide) ?_
  refine lv_icmp_ge (tgt := 51) hx hb dX11_feed_44 (by decide) (fun c_41 => absurd c_41 (by decide)) (fun c_41 => ?_)
  refine lv_iload_n hx hb dX11_feed_47 rfl (lv_at hl 4 rfl) ?_
  refine lv_goto (tgt := 76) hx hb dX11_feed_48 (by decide) ?_
  refine lv_istore (lv' := [(7, .int p1), (6, .int 4), (0, .ref k0), (1, .int p0), (2, .int p1), (3, .int p2), (4, .int p3), (5, .int p4)]) hx hb dX11_feed_76 hl (by decide) rfl (fun ls hl => ?_)
  refine lv_aload_n hx hb dX11_feed_78 rfl (lv_at hl 2 rfl) ?_
  refine va_get (D := (dC, dI)) (ci := 11) (v := .ref m_tape) (C := RX11) (T := TX11) (N := 40) hx hb hts iw_X11_feed_X11_c_m_feed_ok hown hK hP 0 rfl rfl 1 (by decide) (hts (.fieldLink RX11 7 "NotAtOnceModel" "tape" "[I") (by decide +kernel)) (fun _ h9 => h9) rfl dX11_feed_79 ?_
  refine lv_aload_n hx hb dX11_feed_82 rfl (lv_at hl 2 rfl) ?_
  refine va_get (D := (dC, dI)) (ci := 11) (v := .int (nI (k + 1 + 1 + 1 + 1))) (C := RX11) (T := TX11) (N := 40) hx hb hts iw_X11_feed_X11_c_m_feed_ok hown hK hP 0 rfl rfl 2 (by decide) (hts (.fieldLink RX11 75 "NotAtOnceModel" "taped" "I") (by decide +kernel)) (fun _ h9 => h9) rfl dX11_feed_83 ?_
  refine lv_iload hx hb dX11_feed_86 (lv_at hl 0 rfl) ?_
  refine lv_bipush (v := 24) hx hb dX11_feed_88 (by decide) ?_
  refine lv_bipush (v := 8) hx hb dX11_feed_90 (by decide) ?_
  refine lv_iload hx hb dX11_feed_92 (lv_at hl 1 rfl) ?_
  refine lv_iconst (v := 4) hx hb dX11_feed_94 (by decide) ?_
  refine lv_irem hx hb dX11_feed_95 (by decide) ?_
  refine lv_topi (fun v_42 ev_42 => ?_)
  obtain rfl : v_42 = 0 := ev_42.trans (by decide)
  refine lv_imul hx hb dX11_feed_96 ?_
  refine lv_topi (fun v_43 ev_43 => ?_)
  obtain rfl : v_43 = 0 := ev_43.trans (by decide)
  refine lv_isub hx hb dX11_feed_97 ?_
  refine lv_topi (fun v_44 ev_44 => ?_)
  obtain rfl : v_44 = 24 := ev_44.trans (by decide)
  refine lv_ishr hx hb dX11_feed_98 ?_
  refine lv_topi (fun v_45 ev_45 => ?_)
  refine lv_sipush (v := 255) hx hb dX11_feed_99 (by decide) ?_
  refine lv_iand hx hb dX11_feed_102 ?_
  refine lv_topi (fun v_46 ev_46 => ?_)
  refine va_iast hx hb hK hP hD hS 1 0 rfl rfl (vp_in_nI (by omega) (by decide)) dX11_feed_103 (fun H locs hP hD hS => ?_)
  obtain ⟨f_47, ef_47⟩ : ∃ g : Nat → Int32, g = upd (f_37) (Int32.toNatClampNeg (nI (k + 1 + 1 + 1 + 1))) v_46 := ⟨_, rfl⟩
  have hP : va_P (dC, dI) vwCl [(k0, .inr (11, [.int 0, .ref m_tape, .int (nI (k + 1 + 1 + 1 + 1)), .int m_size, .int m_at, .int m_end, .int m_token, .int m_whole, .int m_nameSize, .int m_fault, .int m_place, .int m_trouble, .ref m_letters, .int m_failed, .int m_hasBook, .ref m_r, .ref m_fresh, .ref m_coins, .ref m_was, .ref m_undone, .ref m_redone, .ref m_marked, .ref m_undoneActs, .ref m_redoneActs, .int m_undos, .int m_redos, .int m_marks, .ref m_tab, .ref m_basis, .long m_below, .int m_rows, .int m_wide, .ref m_corner, .ref m_squares, .int m_cornerMany, .ref m_chosen, .int m_colourMany, .int m_mostOnes, .ref m_tells, .ref m_goes])), (m_tape, .inl (cT, 900, .inl (f_47)))] H := by rw [ef_47]; exact hP
  have hD : va_D A [(k0, .inr (11, [.int 0, .ref m_tape, .int (nI (k + 1 + 1 + 1 + 1)), .int m_size, .int m_at, .int m_end, .int m_token, .int m_whole, .int m_nameSize, .int m_fault, .int m_place, .int m_trouble, .ref m_letters, .int m_failed, .int m_hasBook, .ref m_r, .ref m_fresh, .ref m_coins, .ref m_was, .ref m_undone, .ref m_redone, .ref m_marked, .ref m_undoneActs, .ref m_redoneActs, .int m_undos, .int m_redos, .int m_marks, .ref m_tab, .ref m_basis, .long m_below, .int m_rows, .int m_wide, .ref m_corner, .ref m_squares, .int m_cornerMany, .ref m_chosen, .int m_colourMany, .int m_mostOnes, .ref m_tells, .ref m_goes])), (m_tape, .inl (cT, 900, .inl (f_47)))] := by rw [ef_47]; exact hD
  refine lv_aload_n hx hb dX11_feed_104 rfl (lv_at hl 2 rfl) ?_
  refine lv_dup hx hb dX11_feed_105 rfl ?_
  refine va_get (D := (dC, dI)) (ci := 11) (v := .int (nI (k + 1 + 1 + 1 + 1))) (C := RX11) (T := TX11) (N := 40) hx hb hts iw_X11_feed_X11_c_m_feed_ok hown hK hP 0 rfl rfl 2 (by decide) (hts (.fieldLink RX11 75 "NotAtOnceModel" "taped" "I") (by decide +kernel)) (fun _ h9 => h9) rfl dX11_feed_106 ?_
  refine lv_iconst (v := 1) hx hb dX11_feed_109 (by decide) ?_
  refine lv_iadd hx hb dX11_feed_110 ?_
  refine lv_topi (fun v_48 ev_48 => ?_)
  obtain rfl : v_48 = nI (k + 1 + 1 + 1 + 1 + 1) := ev_48.trans (by rw [show (1 : Int32) = nI 1 from by decide, nI_add])
  refine va_put (D := (dC, dI)) (ci := 11) (v := .int (nI (k + 1 + 1 + 1 + 1 + 1))) (ty := .int) (C := RX11) (T := TX11) (N := 40) hx hb hts iw_X11_feed_X11_c_m_feed_ok tyX11 tyX11_ok nmX11 hown hK hP hD hS 0 rfl rfl 2 (by decide) (hts (.fieldLink RX11 75 "NotAtOnceModel" "taped" "I") (by decide +kernel)) (fun _ h9 => h9) rfl (by decide +kernel) rfl rfl (Nat.le_of_ble_eq_true rfl) dX11_feed_111 (fun H locs hP hD hS => ?_)
  have hP : va_P (dC, dI) vwCl [(k0, .inr (11, [.int 0, .ref m_tape, .int (nI (k + 1 + 1 + 1 + 1 + 1)), .int m_size, .int m_at, .int m_end, .int m_token, .int m_whole, .int m_nameSize, .int m_fault, .int m_place, .int m_trouble, .ref m_letters, .int m_failed, .int m_hasBook, .ref m_r, .ref m_fresh, .ref m_coins, .ref m_was, .ref m_undone, .ref m_redone, .ref m_marked, .ref m_undoneActs, .ref m_redoneActs, .int m_undos, .int m_redos, .int m_marks, .ref m_tab, .ref m_basis, .long m_below, .int m_rows, .int m_wide, .ref m_corner, .ref m_squares, .int m_cornerMany, .ref m_chosen, .int m_colourMany, .int m_mostOnes, .ref m_tells, .ref m_goes])), (m_tape, .inl (cT, 900, .inl (f_47)))] H := hP
  have hD : va_D A [(k0, .inr (11, [.int 0, .ref m_tape, .int (nI (k + 1 + 1 + 1 + 1 + 1)), .int m_size, .int m_at, .int m_end, .int m_token, .int m_whole, .int m_nameSize, .int m_fault, .int m_place, .int m_trouble, .ref m_letters, .int m_failed, .int m_hasBook, .ref m_r, .ref m_fresh, .ref m_coins, .ref m_was, .ref m_undone, .ref m_redone, .ref m_marked, .ref m_undoneActs, .ref m_redoneActs, .int m_undos, .int m_redos, .int m_marks, .ref m_tab, .ref m_basis, .long m_below, .int m_rows, .int m_wide, .ref m_corner, .ref m_squares, .int m_cornerMany, .ref m_chosen, .int m_colourMany, .int m_mostOnes, .ref m_tells, .ref m_goes])), (m_tape, .inl (cT, 900, .inl (f_47)))] := hD
  refine lv_iinc (v := 5) (lv' := [(6, .int 5), (7, .int p1), (0, .ref k0), (1, .int p0), (2, .int p1), (3, .int p2), (4, .int p3), (5, .int p4)]) hx hb dX11_feed_114 hl (k := 1) rfl (by decide) (by decide) rfl (fun ls hl => ?_)
  refine lv_goto (tgt := 23) hx hb dX11_feed_117 (by decide) ?_
  refine lv_iload hx hb dX11_feed_23 (lv_at hl 0 rfl) ?_
  refine lv_bipush (v := 20) hx hb dX11_feed_25 (by decide) ?_
  refine lv_icmp_ge (tgt := 120) hx hb dX11_feed_27 (by decide) (fun c_49 => absurd c_49 (by decide)) (fun c_49 => ?_)
  refine lv_iload hx hb dX11_feed_30 (lv_at hl 0 rfl) ?_
  refine lv_iconst (v := 4) hx hb dX11_feed_32 (by decide) ?_
  refine lv_icmp_ge (tgt := 40) hx hb dX11_feed_33 (by decide) (fun c_50 => ?_) (fun c_50 => absurd c_50 (by decide))
  refine lv_iload hx hb dX11_feed_40 (lv_at hl 0 rfl) ?_
  refine lv_bipush (v := 8) hx hb dX11_feed_42 (by decide) ?_
  refine lv_icmp_ge (tgt := 51) hx hb dX11_feed_44 (by decide) (fun c_51 => absurd c_51 (by decide)) (fun c_51 => ?_)
  refine lv_iload_n hx hb dX11_feed_47 rfl (lv_at hl 4 rfl) ?_
  refine lv_goto (tgt := 76) hx hb dX11_feed_48 (by decide) ?_
  refine lv_istore (lv' := [(7, .int p1), (6, .int 5), (0, .ref k0), (1, .int p0), (2, .int p1), (3, .int p2), (4, .int p3), (5, .int p4)]) hx hb dX11_feed_76 hl (by decide) rfl (fun ls hl => ?_)
  refine lv_aload_n hx hb dX11_feed_78 rfl (lv_at hl 2 rfl) ?_
  refine va_get (D := (dC, dI)) (ci := 11) (v := .ref m_tape) (C := RX11) (T := TX11) (N := 40) hx hb hts iw_X11_feed_X11_c_m_feed_ok hown hK hP 0 rfl rfl 1 (by decide) (hts (.fieldLink RX11 7 "NotAtOnceModel" "tape" "[I") (by decide +kernel)) (fun _ h9 => h9) rfl dX11_feed_79 ?_
  refine lv_aload_n hx hb dX11_feed_82 rfl (lv_at hl 2 rfl) ?_
  refine va_get (D := (dC, dI)) (ci := 11) (v := .int (nI (k + 1 + 1 + 1 + 1 + 1))) (C := RX11) (T := TX11) (N := 40) hx hb hts iw_X11_feed_X11_c_m_feed_ok hown hK hP 0 rfl rfl 2 (by decide) (hts (.fieldLink RX11 75 "NotAtOnceModel" "taped" "I") (by decide +kernel)) (fun _ h9 => h9) rfl dX11_feed_83 ?_
  refine lv_iload hx hb dX11_feed_86 (lv_at hl 0 rfl) ?_
  refine lv_bipush (v := 24) hx hb dX11_feed_88 (by decide) ?_
  refine lv_bipush (v := 8) hx hb dX11_feed_90 (by decide) ?_
  refine lv_iload hx hb dX11_feed_92 (lv_at hl 1 rfl) ?_
  refine lv_iconst (v := 4) hx hb dX11_feed_94 (by decide) ?_
  refine lv_irem hx hb dX11_feed_95 (by decide) ?_
  refine lv_topi (fun v_52 ev_52 => ?_)
  obtain rfl : v_52 = 1 := ev_52.trans (by decide)
  refine lv_imul hx hb dX11_feed_96 ?_
  refine lv_topi (fun v_53 ev_53 => ?_)
  obtain rfl : v_53 = 8 := ev_53.trans (by decide)
  refine lv_isub hx hb dX11_feed_97 ?_
  refine lv_topi (fun v_54 ev_54 => ?_)
  obtain rfl : v_54 = 16 := ev_54.trans (by decide)
  refine lv_ishr hx hb dX11_feed_98 ?_
  refine lv_topi (fun v_55 ev_55 => ?_)
  refine lv_sipush (v := 255) hx hb dX11_feed_99 (by decide) ?_
  refine lv_iand hx hb dX11_feed_102 ?_
  refine lv_topi (fun v_56 ev_56 => ?_)
  refine va_iast hx hb hK hP hD hS 1 0 rfl rfl (vp_in_nI (by omega) (by decide)) dX11_feed_103 (fun H locs hP hD hS => ?_)
  obtain ⟨f_57, ef_57⟩ : ∃ g : Nat → Int32, g = upd (f_47) (Int32.toNatClampNeg (nI (k + 1 + 1 + 1 + 1 + 1))) v_56 := ⟨_, rfl⟩
  have hP : va_P (dC, dI) vwCl [(k0, .inr (11, [.int 0, .ref m_tape, .int (nI (k + 1 + 1 + 1 + 1 + 1)), .int m_size, .int m_at, .int m_end, .int m_token, .int m_whole, .int m_nameSize, .int m_fault, .int m_place, .int m_trouble, .ref m_letters, .int m_failed, .int m_hasBook, .ref m_r, .ref m_fresh, .ref m_coins, .ref m_was, .ref m_undone, .ref m_redone, .ref m_marked, .ref m_undoneActs, .ref m_redoneActs, .int m_undos, .int m_redos, .int m_marks, .ref m_tab, .ref m_basis, .long m_below, .int m_rows, .int m_wide, .ref m_corner, .ref m_squares, .int m_cornerMany, .ref m_chosen, .int m_colourMany, .int m_mostOnes, .ref m_tells, .ref m_goes])), (m_tape, .inl (cT, 900, .inl (f_57)))] H := by rw [ef_57]; exact hP
  have hD : va_D A [(k0, .inr (11, [.int 0, .ref m_tape, .int (nI (k + 1 + 1 + 1 + 1 + 1)), .int m_size, .int m_at, .int m_end, .int m_token, .int m_whole, .int m_nameSize, .int m_fault, .int m_place, .int m_trouble, .ref m_letters, .int m_failed, .int m_hasBook, .ref m_r, .ref m_fresh, .ref m_coins, .ref m_was, .ref m_undone, .ref m_redone, .ref m_marked, .ref m_undoneActs, .ref m_redoneActs, .int m_undos, .int m_redos, .int m_marks, .ref m_tab, .ref m_basis, .long m_below, .int m_rows, .int m_wide, .ref m_corner, .ref m_squares, .int m_cornerMany, .ref m_chosen, .int m_colourMany, .int m_mostOnes, .ref m_tells, .ref m_goes])), (m_tape, .inl (cT, 900, .inl (f_57)))] := by rw [ef_57]; exact hD
  refine lv_aload_n hx hb dX11_feed_104 rfl (lv_at hl 2 rfl) ?_
  refine lv_dup hx hb dX11_feed_105 rfl ?_
  refine va_get (D := (dC, dI)) (ci := 11) (v := .int (nI (k + 1 + 1 + 1 + 1 + 1))) (C := RX11) (T := TX11) (N := 40) hx hb hts iw_X11_feed_X11_c_m_feed_ok hown hK hP 0 rfl rfl 2 (by decide) (hts (.fieldLink RX11 75 "NotAtOnceModel" "taped" "I") (by decide +kernel)) (fun _ h9 => h9) rfl dX11_feed_106 ?_
  refine lv_iconst (v := 1) hx hb dX11_feed_109 (by decide) ?_
  refine lv_iadd hx hb dX11_feed_110 ?_
  refine lv_topi (fun v_58 ev_58 => ?_)
  obtain rfl : v_58 = nI (k + 1 + 1 + 1 + 1 + 1 + 1) := ev_58.trans (by rw [show (1 : Int32) = nI 1 from by decide, nI_add])
  refine va_put (D := (dC, dI)) (ci := 11) (v := .int (nI (k + 1 + 1 + 1 + 1 + 1 + 1))) (ty := .int) (C := RX11) (T := TX11) (N := 40) hx hb hts iw_X11_feed_X11_c_m_feed_ok tyX11 tyX11_ok nmX11 hown hK hP hD hS 0 rfl rfl 2 (by decide) (hts (.fieldLink RX11 75 "NotAtOnceModel" "taped" "I") (by decide +kernel)) (fun _ h9 => h9) rfl (by decide +kernel) rfl rfl (Nat.le_of_ble_eq_true rfl) dX11_feed_111 (fun H locs hP hD hS => ?_)
  have hP : va_P (dC, dI) vwCl [(k0, .inr (11, [.int 0, .ref m_tape, .int (nI (k + 1 + 1 + 1 + 1 + 1 + 1)), .int m_size, .int m_at, .int m_end, .int m_token, .int m_whole, .int m_nameSize, .int m_fault, .int m_place, .int m_trouble, .ref m_letters, .int m_failed, .int m_hasBook, .ref m_r, .ref m_fresh, .ref m_coins, .ref m_was, .ref m_undone, .ref m_redone, .ref m_marked, .ref m_undoneActs, .ref m_redoneActs, .int m_undos, .int m_redos, .int m_marks, .ref m_tab, .ref m_basis, .long m_below, .int m_rows, .int m_wide, .ref m_corner, .ref m_squares, .int m_cornerMany, .ref m_chosen, .int m_colourMany, .int m_mostOnes, .ref m_tells, .ref m_goes])), (m_tape, .inl (cT, 900, .inl (f_57)))] H := hP
  have hD : va_D A [(k0, .inr (11, [.int 0, .ref m_tape, .int (nI (k + 1 + 1 + 1 + 1 + 1 + 1)), .int m_size, .int m_at, .int m_end, .int m_token, .int m_whole, .int m_nameSize, .int m_fault, .int m_place, .int m_trouble, .ref m_letters, .int m_failed, .int m_hasBook, .ref m_r, .ref m_fresh, .ref m_coins, .ref m_was, .ref m_undone, .ref m_redone, .ref m_marked, .ref m_undoneActs, .ref m_redoneActs, .int m_undos, .int m_redos, .int m_marks, .ref m_tab, .ref m_basis, .long m_below, .int m_rows, .int m_wide, .ref m_corner, .ref m_squares, .int m_cornerMany, .ref m_chosen, .int m_colourMany, .int m_mostOnes, .ref m_tells, .ref m_goes])), (m_tape, .inl (cT, 900, .inl (f_57)))] := hD
  refine lv_iinc (v := 6) (lv' := [(6, .int 6), (7, .int p1), (0, .ref k0), (1, .int p0), (2, .int p1), (3, .int p2), (4, .int p3), (5, .int p4)]) hx hb dX11_feed_114 hl (k := 1) rfl (by decide) (by decide) rfl (fun ls hl => ?_)
  refine lv_goto (tgt := 23) hx hb dX11_feed_117 (by decide) ?_
  refine lv_iload hx hb dX11_feed_23 (lv_at hl 0 rfl) ?_
  refine lv_bipush (v := 20) hx hb dX11_feed_25 (by decide) ?_
  refine lv_icmp_ge (tgt := 120) hx hb dX11_feed_27 (by decide) (fun c_59 => absurd c_59 (by decide)) (fun c_59 => ?_)
  refine lv_iload hx hb dX11_feed_30 (lv_at hl 0 rfl) ?_
  refine lv_iconst (v := 4) hx hb dX11_feed_32 (by decide) ?_
  refine lv_icmp_ge (tgt := 40) hx hb dX11_feed_33 (by decide) (fun c_60 => ?_) (fun c_60 => absurd c_60 (by decide))
  refine lv_iload hx hb dX11_feed_40 (lv_at hl 0 rfl) ?_
  refine lv_bipush (v := 8) hx hb dX11_feed_42 (by decide) ?_
  refine lv_icmp_ge (tgt := 51) hx hb dX11_feed_44 (by decide) (fun c_61 => absurd c_61 (by decide)) (fun c_61 => ?_)
  refine lv_iload_n hx hb dX11_feed_47 rfl (lv_at hl 4 rfl) ?_
  refine lv_goto (tgt := 76) hx hb dX11_feed_48 (by decide) ?_
  refine lv_istore (lv' := [(7, .int p1), (6, .int 6), (0, .ref k0), (1, .int p0), (2, .int p1), (3, .int p2), (4, .int p3), (5, .int p4)]) hx hb dX11_feed_76 hl (by decide) rfl (fun ls hl => ?_)
  refine lv_aload_n hx hb dX11_feed_78 rfl (lv_at hl 2 rfl) ?_
  refine va_get (D := (dC, dI)) (ci := 11) (v := .ref m_tape) (C := RX11) (T := TX11) (N := 40) hx hb hts iw_X11_feed_X11_c_m_feed_ok hown hK hP 0 rfl rfl 1 (by decide) (hts (.fieldLink RX11 7 "NotAtOnceModel" "tape" "[I") (by decide +kernel)) (fun _ h9 => h9) rfl dX11_feed_79 ?_
  refine lv_aload_n hx hb dX11_feed_82 rfl (lv_at hl 2 rfl) ?_
  refine va_get (D := (dC, dI)) (ci := 11) (v := .int (nI (k + 1 + 1 + 1 + 1 + 1 + 1))) (C := RX11) (T := TX11) (N := 40) hx hb hts iw_X11_feed_X11_c_m_feed_ok hown hK hP 0 rfl rfl 2 (by decide) (hts (.fieldLink RX11 75 "NotAtOnceModel" "taped" "I") (by decide +kernel)) (fun _ h9 => h9) rfl dX11_feed_83 ?_
  refine lv_iload hx hb dX11_feed_86 (lv_at hl 0 rfl) ?_
  refine lv_bipush (v := 24) hx hb dX11_feed_88 (by decide) ?_
  refine lv_bipush (v := 8) hx hb dX11_feed_90 (by decide) ?_
  refine lv_iload hx hb dX11_feed_92 (lv_at hl 1 rfl) ?_
  refine lv_iconst (v := 4) hx hb dX11_feed_94 (by decide) ?_
  refine lv_irem hx hb dX11_feed_95 (by decide) ?_
  refine lv_topi (fun v_62 ev_62 => ?_)
  obtain rfl : v_62 = 2 := ev_62.trans (by decide)
  refine lv_imul hx hb dX11_feed_96 ?_
  refine lv_topi (fun v_63 ev_63 => ?_)
  obtain rfl : v_63 = 16 := ev_63.trans (by decide)
  refine lv_isub hx hb dX11_feed_97 ?_
  refine lv_topi (fun v_64 ev_64 => ?_)
  obtain rfl : v_64 = 8 := ev_64.trans (by decide)
  refine lv_ishr hx hb dX11_feed_98 ?_
  refine lv_topi (fun v_65 ev_65 => ?_)
  refine lv_sipush (v := 255) hx hb dX11_feed_99 (by decide) ?_
  refine lv_iand hx hb dX11_feed_102 ?_
  refine lv_topi (fun v_66 ev_66 => ?_)
  refine va_iast hx hb hK hP hD hS 1 0 rfl rfl (vp_in_nI (by omega) (by decide)) dX11_feed_103 (fun H locs hP hD hS => ?_)
  obtain ⟨f_67, ef_67⟩ : ∃ g : Nat → Int32, g = upd (f_57) (Int32.toNatClampNeg (nI (k + 1 + 1 + 1 + 1 + 1 + 1))) v_66 := ⟨_, rfl⟩
  have hP : va_P (dC, dI) vwCl [(k0, .inr (11, [.int 0, .ref m_tape, .int (nI (k + 1 + 1 + 1 + 1 + 1 + 1)), .int m_size, .int m_at, .int m_end, .int m_token, .int m_whole, .int m_nameSize, .int m_fault, .int m_place, .int m_trouble, .ref m_letters, .int m_failed, .int m_hasBook, .ref m_r, .ref m_fresh, .ref m_coins, .ref m_was, .ref m_undone, .ref m_redone, .ref m_marked, .ref m_undoneActs, .ref m_redoneActs, .int m_undos, .int m_redos, .int m_marks, .ref m_tab, .ref m_basis, .long m_below, .int m_rows, .int m_wide, .ref m_corner, .ref m_squares, .int m_cornerMany, .ref m_chosen, .int m_colourMany, .int m_mostOnes, .ref m_tells, .ref m_goes])), (m_tape, .inl (cT, 900, .inl (f_67)))] H := by rw [ef_67]; exact hP
  have hD : va_D A [(k0, .inr (11, [.int 0, .ref m_tape, .int (nI (k + 1 + 1 + 1 + 1 + 1 + 1)), .int m_size, .int m_at, .int m_end, .int m_token, .int m_whole, .int m_nameSize, .int m_fault, .int m_place, .int m_trouble, .ref m_letters, .int m_failed, .int m_hasBook, .ref m_r, .ref m_fresh, .ref m_coins, .ref m_was, .ref m_undone, .ref m_redone, .ref m_marked, .ref m_undoneActs, .ref m_redoneActs, .int m_undos, .int m_redos, .int m_marks, .ref m_tab, .ref m_basis, .long m_below, .int m_rows, .int m_wide, .ref m_corner, .ref m_squares, .int m_cornerMany, .ref m_chosen, .int m_colourMany, .int m_mostOnes, .ref m_tells, .ref m_goes])), (m_tape, .inl (cT, 900, .inl (f_67)))] := by rw [ef_67]; exact hD
  refine lv_aload_n hx hb dX11_feed_104 rfl (lv_at hl 2 rfl) ?_
  refine lv_dup hx hb dX11_feed_105 rfl ?_
  refine va_get (D := (dC, dI)) (ci := 11) (v := .int (nI (k + 1 + 1 + 1 + 1 + 1 + 1))) (C := RX11) (T := TX11) (N := 40) hx hb hts iw_X11_feed_X11_c_m_feed_ok hown hK hP 0 rfl rfl 2 (by decide) (hts (.fieldLink RX11 75 "NotAtOnceModel" "taped" "I") (by decide +kernel)) (fun _ h9 => h9) rfl dX11_feed_106 ?_
  refine lv_iconst (v := 1) hx hb dX11_feed_109 (by decide) ?_
  refine lv_iadd hx hb dX11_feed_110 ?_
  refine lv_topi (fun v_68 ev_68 => ?_)
  obtain rfl : v_68 = nI (k + 1 + 1 + 1 + 1 + 1 + 1 + 1) := ev_68.trans (by rw [show (1 : Int32) = nI 1 from by decide, nI_add])
  refine va_put (D := (dC, dI)) (ci := 11) (v := .int (nI (k + 1 + 1 + 1 + 1 + 1 + 1 + 1))) (ty := .int) (C := RX11) (T := TX11) (N := 40) hx hb hts iw_X11_feed_X11_c_m_feed_ok tyX11 tyX11_ok nmX11 hown hK hP hD hS 0 rfl rfl 2 (by decide) (hts (.fieldLink RX11 75 "NotAtOnceModel" "taped" "I") (by decide +kernel)) (fun _ h9 => h9) rfl (by decide +kernel) rfl rfl (Nat.le_of_ble_eq_true rfl) dX11_feed_111 (fun H locs hP hD hS => ?_)
  have hP : va_P (dC, dI) vwCl [(k0, .inr (11, [.int 0, .ref m_tape, .int (nI (k + 1 + 1 + 1 + 1 + 1 + 1 + 1)), .int m_size, .int m_at, .int m_end, .int m_token, .int m_whole, .int m_nameSize, .int m_fault, .int m_place, .int m_trouble, .ref m_letters, .int m_failed, .int m_hasBook, .ref m_r, .ref m_fresh, .ref m_coins, .ref m_was, .ref m_undone, .ref m_redone, .ref m_marked, .ref m_undoneActs, .ref m_redoneActs, .int m_undos, .int m_redos, .int m_marks, .ref m_tab, .ref m_basis, .long m_below, .int m_rows, .int m_wide, .ref m_corner, .ref m_squares, .int m_cornerMany, .ref m_chosen, .int m_colourMany, .int m_mostOnes, .ref m_tells, .ref m_goes])), (m_tape, .inl (cT, 900, .inl (f_67)))] H := hP
  have hD : va_D A [(k0, .inr (11, [.int 0, .ref m_tape, .int (nI (k + 1 + 1 + 1 + 1 + 1 + 1 + 1)), .int m_size, .int m_at, .int m_end, .int m_token, .int m_whole, .int m_nameSize, .int m_fault, .int m_place, .int m_trouble, .ref m_letters, .int m_failed, .int m_hasBook, .ref m_r, .ref m_fresh, .ref m_coins, .ref m_was, .ref m_undone, .ref m_redone, .ref m_marked, .ref m_undoneActs, .ref m_redoneActs, .int m_undos, .int m_redos, .int m_marks, .ref m_tab, .ref m_basis, .long m_below, .int m_rows, .int m_wide, .ref m_corner, .ref m_squares, .int m_cornerMany, .ref m_chosen, .int m_colourMany, .int m_mostOnes, .ref m_tells, .ref m_goes])), (m_tape, .inl (cT, 900, .inl (f_67)))] := hD
  refine lv_iinc (v := 7) (lv' := [(6, .int 7), (7, .int p1), (0, .ref k0), (1, .int p0), (2, .int p1), (3, .int p2), (4, .int p3), (5, .int p4)]) hx hb dX11_feed_114 hl (k := 1) rfl (by decide) (by decide) rfl (fun ls hl => ?_)
  refine lv_goto (tgt := 23) hx hb dX11_feed_117 (by decide) ?_
  refine lv_iload hx hb dX11_feed_23 (lv_at hl 0 rfl) ?_
  refine lv_bipush (v := 20) hx hb dX11_feed_25 (by decide) ?_
  refine lv_icmp_ge (tgt := 120) hx hb dX11_feed_27 (by decide) (fun c_69 => absurd c_69 (by decide)) (fun c_69 => ?_)
  refine lv_iload hx hb dX11_feed_30 (lv_at hl 0 rfl) ?_
  refine lv_iconst (v := 4) hx hb dX11_feed_32 (by decide) ?_
  refine lv_icmp_ge (tgt := 40) hx hb dX11_feed_33 (by decide) (fun c_70 => ?_) (fun c_70 => absurd c_70 (by decide))
  refine lv_iload hx hb dX11_feed_40 (lv_at hl 0 rfl) ?_
  refine lv_bipush (v := 8) hx hb dX11_feed_42 (by decide) ?_
  refine lv_icmp_ge (tgt := 51) hx hb dX11_feed_44 (by decide) (fun c_71 => absurd c_71 (by decide)) (fun c_71 => ?_)
  refine lv_iload_n hx hb dX11_feed_47 rfl (lv_at hl 4 rfl) ?_
  refine lv_goto (tgt := 76) hx hb dX11_feed_48 (by decide) ?_
  refine lv_istore (lv' := [(7, .int p1), (6, .int 7), (0, .ref k0), (1, .int p0), (2, .int p1), (3, .int p2), (4, .int p3), (5, .int p4)]) hx hb dX11_feed_76 hl (by decide) rfl (fun ls hl => ?_)
  refine lv_aload_n hx hb dX11_feed_78 rfl (lv_at hl 2 rfl) ?_
  refine va_get (D := (dC, dI)) (ci := 11) (v := .ref m_tape) (C := RX11) (T := TX11) (N := 40) hx hb hts iw_X11_feed_X11_c_m_feed_ok hown hK hP 0 rfl rfl 1 (by decide) (hts (.fieldLink RX11 7 "NotAtOnceModel" "tape" "[I") (by decide +kernel)) (fun _ h9 => h9) rfl dX11_feed_79 ?_
  refine lv_aload_n hx hb dX11_feed_82 rfl (lv_at hl 2 rfl) ?_
  refine va_get (D := (dC, dI)) (ci := 11) (v := .int (nI (k + 1 + 1 + 1 + 1 + 1 + 1 + 1))) (C := RX11) (T := TX11) (N := 40) hx hb hts iw_X11_feed_X11_c_m_feed_ok hown hK hP 0 rfl rfl 2 (by decide) (hts (.fieldLink RX11 75 "NotAtOnceModel" "taped" "I") (by decide +kernel)) (fun _ h9 => h9) rfl dX11_feed_83 ?_
  refine lv_iload hx hb dX11_feed_86 (lv_at hl 0 rfl) ?_
  refine lv_bipush (v := 24) hx hb dX11_feed_88 (by decide) ?_
  refine lv_bipush (v := 8) hx hb dX11_feed_90 (by decide) ?_
  refine lv_iload hx hb dX11_feed_92 (lv_at hl 1 rfl) ?_
  refine lv_iconst (v := 4) hx hb dX11_feed_94 (by decide) ?_
  refine lv_irem hx hb dX11_feed_95 (by decide) ?_
  refine lv_topi (fun v_72 ev_72 => ?_)
  obtain rfl : v_72 = 3 := ev_72.trans (by decide)
  refine lv_imul hx hb dX11_feed_96 ?_
  refine lv_topi (fun v_73 ev_73 => ?_)
  obtain rfl : v_73 = 24 := ev_73.trans (by decide)
  refine lv_isub hx hb dX11_feed_97 ?_
  refine lv_topi (fun v_74 ev_74 => ?_)
  obtain rfl : v_74 = 0 := ev_74.trans (by decide)
  refine lv_ishr hx hb dX11_feed_98 ?_
  refine lv_topi (fun v_75 ev_75 => ?_)
  refine lv_sipush (v := 255) hx hb dX11_feed_99 (by decide) ?_
  refine lv_iand hx hb dX11_feed_102 ?_
  refine lv_topi (fun v_76 ev_76 => ?_)
  refine va_iast hx hb hK hP hD hS 1 0 rfl rfl (vp_in_nI (by omega) (by decide)) dX11_feed_103 (fun H locs hP hD hS => ?_)
  obtain ⟨f_77, ef_77⟩ : ∃ g : Nat → Int32, g = upd (f_67) (Int32.toNatClampNeg (nI (k + 1 + 1 + 1 + 1 + 1 + 1 + 1))) v_76 := ⟨_, rfl⟩
  have hP : va_P (dC, dI) vwCl [(k0, .inr (11, [.int 0, .ref m_tape, .int (nI (k + 1 + 1 + 1 + 1 + 1 + 1 + 1)), .int m_size, .int m_at, .int m_end, .int m_token, .int m_whole, .int m_nameSize, .int m_fault, .int m_place, .int m_trouble, .ref m_letters, .int m_failed, .int m_hasBook, .ref m_r, .ref m_fresh, .ref m_coins, .ref m_was, .ref m_undone, .ref m_redone, .ref m_marked, .ref m_undoneActs, .ref m_redoneActs, .int m_undos, .int m_redos, .int m_marks, .ref m_tab, .ref m_basis, .long m_below, .int m_rows, .int m_wide, .ref m_corner, .ref m_squares, .int m_cornerMany, .ref m_chosen, .int m_colourMany, .int m_mostOnes, .ref m_tells, .ref m_goes])), (m_tape, .inl (cT, 900, .inl (f_77)))] H := by rw [ef_77]; exact hP
  have hD : va_D A [(k0, .inr (11, [.int 0, .ref m_tape, .int (nI (k + 1 + 1 + 1 + 1 + 1 + 1 + 1)), .int m_size, .int m_at, .int m_end, .int m_token, .int m_whole, .int m_nameSize, .int m_fault, .int m_place, .int m_trouble, .ref m_letters, .int m_failed, .int m_hasBook, .ref m_r, .ref m_fresh, .ref m_coins, .ref m_was, .ref m_undone, .ref m_redone, .ref m_marked, .ref m_undoneActs, .ref m_redoneActs, .int m_undos, .int m_redos, .int m_marks, .ref m_tab, .ref m_basis, .long m_below, .int m_rows, .int m_wide, .ref m_corner, .ref m_squares, .int m_cornerMany, .ref m_chosen, .int m_colourMany, .int m_mostOnes, .ref m_tells, .ref m_goes])), (m_tape, .inl (cT, 900, .inl (f_77)))] := by rw [ef_77]; exact hD
  refine lv_aload_n hx hb dX11_feed_104 rfl (lv_at hl 2 rfl) ?_
  refine lv_dup hx hb dX11_feed_105 rfl ?_
  refine va_get (D := (dC, dI)) (ci := 11) (v := .int (nI (k + 1 + 1 + 1 + 1 + 1 + 1 + 1))) (C := RX11) (T := TX11) (N := 40) hx hb hts iw_X11_feed_X11_c_m_feed_ok hown hK hP 0 rfl rfl 2 (by decide) (hts (.fieldLink RX11 75 "NotAtOnceModel" "taped" "I") (by decide +kernel)) (fun _ h9 => h9) rfl dX11_feed_106 ?_
  refine lv_iconst (v := 1) hx hb dX11_feed_109 (by decide) ?_
  refine lv_iadd hx hb dX11_feed_110 ?_
  refine lv_topi (fun v_78 ev_78 => ?_)
  obtain rfl : v_78 = nI (k + 1 + 1 + 1 + 1 + 1 + 1 + 1 + 1) := ev_78.trans (by rw [show (1 : Int32) = nI 1 from by decide, nI_add])
  refine va_put (D := (dC, dI)) (ci := 11) (v := .int (nI (k + 1 + 1 + 1 + 1 + 1 + 1 + 1 + 1))) (ty := .int) (C := RX11) (T := TX11) (N := 40) hx hb hts iw_X11_feed_X11_c_m_feed_ok tyX11 tyX11_ok nmX11 hown hK hP hD hS 0 rfl rfl 2 (by decide) (hts (.fieldLink RX11 75 "NotAtOnceModel" "taped" "I") (by decide +kernel)) (fun _ h9 => h9) rfl (by decide +kernel) rfl rfl (Nat.le_of_ble_eq_true rfl) dX11_feed_111 (fun H locs hP hD hS => ?_)
  have hP : va_P (dC, dI) vwCl [(k0, .inr (11, [.int 0, .ref m_tape, .int (nI (k + 1 + 1 + 1 + 1 + 1 + 1 + 1 + 1)), .int m_size, .int m_at, .int m_end, .int m_token, .int m_whole, .int m_nameSize, .int m_fault, .int m_place, .int m_trouble, .ref m_letters, .int m_failed, .int m_hasBook, .ref m_r, .ref m_fresh, .ref m_coins, .ref m_was, .ref m_undone, .ref m_redone, .ref m_marked, .ref m_undoneActs, .ref m_redoneActs, .int m_undos, .int m_redos, .int m_marks, .ref m_tab, .ref m_basis, .long m_below, .int m_rows, .int m_wide, .ref m_corner, .ref m_squares, .int m_cornerMany, .ref m_chosen, .int m_colourMany, .int m_mostOnes, .ref m_tells, .ref m_goes])), (m_tape, .inl (cT, 900, .inl (f_77)))] H := hP
  have hD : va_D A [(k0, .inr (11, [.int 0, .ref m_tape, .int (nI (k + 1 + 1 + 1 + 1 + 1 + 1 + 1 + 1)), .int m_size, .int m_at, .int m_end, .int m_token, .int m_whole, .int m_nameSize, .int m_fault, .int m_place, .int m_trouble, .ref m_letters, .int m_failed, .int m_hasBook, .ref m_r, .ref m_fresh, .ref m_coins, .ref m_was, .ref m_undone, .ref m_redone, .ref m_marked, .ref m_undoneActs, .ref m_redoneActs, .int m_undos, .int m_redos, .int m_marks, .ref m_tab, .ref m_basis, .long m_below, .int m_rows, .int m_wide, .ref m_corner, .ref m_squares, .int m_cornerMany, .ref m_chosen, .int m_colourMany, .int m_mostOnes, .ref m_tells, .ref m_goes])), (m_tape, .inl (cT, 900, .inl (f_77)))] := hD
  refine lv_iinc (v := 8) (lv' := [(6, .int 8), (7, .int p1), (0, .ref k0), (1, .int p0), (2, .int p1), (3, .int p2), (4, .int p3), (5, .int p4)]) hx hb dX11_feed_114 hl (k := 1) rfl (by decide) (by decide) rfl (fun ls hl => ?_)
  refine lv_goto (tgt := 23) hx hb dX11_feed_117 (by decide) ?_
  refine lv_iload hx hb dX11_feed_23 (lv_at hl 0 rfl) ?_
  refine lv_bipush (v := 20) hx hb dX11_feed_25 (by decide) ?_
  refine lv_icmp_ge (tgt := 120) hx hb dX11_feed_27 (by decide) (fun c_79 => absurd c_79 (by decide)) (fun c_79 => ?_)
  refine lv_iload hx hb dX11_feed_30 (lv_at hl 0 rfl) ?_
  refine lv_iconst (v := 4) hx hb dX11_feed_32 (by decide) ?_
  refine lv_icmp_ge (tgt := 40) hx hb dX11_feed_33 (by decide) (fun c_80 => ?_) (fun c_80 => absurd c_80 (by decide))
  refine lv_iload hx hb dX11_feed_40 (lv_at hl 0 rfl) ?_
  refine lv_bipush (v := 8) hx hb dX11_feed_42 (by decide) ?_
  refine lv_icmp_ge (tgt := 51) hx hb dX11_feed_44 (by decide) (fun c_81 => ?_) (fun c_81 => absurd c_81 (by decide))
  refine lv_iload hx hb dX11_feed_51 (lv_at hl 0 rfl) ?_
  refine lv_bipush (v := 12) hx hb dX11_feed_53 (by decide) ?_
  refine lv_icmp_ge (tgt := 62) hx hb dX11_feed_55 (by decide) (fun c_82 => absurd c_82 (by decide)) (fun c_82 => ?_)
  refine lv_iload_n hx hb dX11_feed_58 rfl (lv_at hl 5 rfl) ?_
  refine lv_goto (tgt := 76) hx hb dX11_feed_59 (by decide) ?_
  refine lv_istore (lv' := [(7, .int p2), (6, .int 8), (0, .ref k0), (1, .int p0), (2, .int p1), (3, .int p2), (4, .int p3), (5, .int p4)]) hx hb dX11_feed_76 hl (by decide) rfl (fun ls hl => ?_)
  refine lv_aload_n hx hb dX11_feed_78 rfl (lv_at hl 2 rfl) ?_
  refine va_get (D := (dC, dI)) (ci := 11) (v := .ref m_tape) (C := RX11) (T := TX11) (N := 40) hx hb hts iw_X11_feed_X11_c_m_feed_ok hown hK hP 0 rfl rfl 1 (by decide) (hts (.fieldLink RX11 7 "NotAtOnceModel" "tape" "[I") (by decide +kernel)) (fun _ h9 => h9) rfl dX11_feed_79 ?_
  refine lv_aload_n hx hb dX11_feed_82 rfl (lv_at hl 2 rfl) ?_
  refine va_get (D := (dC, dI)) (ci := 11) (v := .int (nI (k + 1 + 1 + 1 + 1 + 1 + 1 + 1 + 1))) (C := RX11) (T := TX11) (N := 40) hx hb hts iw_X11_feed_X11_c_m_feed_ok hown hK hP 0 rfl rfl 2 (by decide) (hts (.fieldLink RX11 75 "NotAtOnceModel" "taped" "I") (by decide +kernel)) (fun _ h9 => h9) rfl dX11_feed_83 ?_
  refine lv_iload hx hb dX11_feed_86 (lv_at hl 0 rfl) ?_
  refine lv_bipush (v := 24) hx hb dX11_feed_88 (by decide) ?_
  refine lv_bipush (v := 8) hx hb dX11_feed_90 (by decide) ?_
  refine lv_iload hx hb dX11_feed_92 (lv_at hl 1 rfl) ?_
  refine lv_iconst (v := 4) hx hb dX11_feed_94 (by decide) ?_
  refine lv_irem hx hb dX11_feed_95 (by decide) ?_
  refine lv_topi (fun v_83 ev_83 => ?_)
  obtain rfl : v_83 = 0 := ev_83.trans (by decide)
  refine lv_imul hx hb dX11_feed_96 ?_
  refine lv_topi (fun v_84 ev_84 => ?_)
  obtain rfl : v_84 = 0 := ev_84.trans (by decide)
  refine lv_isub hx hb dX11_feed_97 ?_
  refine lv_topi (fun v_85 ev_85 => ?_)
  obtain rfl : v_85 = 24 := ev_85.trans (by decide)
  refine lv_ishr hx hb dX11_feed_98 ?_
  refine lv_topi (fun v_86 ev_86 => ?_)
  refine lv_sipush (v := 255) hx hb dX11_feed_99 (by decide) ?_
  refine lv_iand hx hb dX11_feed_102 ?_
  refine lv_topi (fun v_87 ev_87 => ?_)
  refine va_iast hx hb hK hP hD hS 1 0 rfl rfl (vp_in_nI (by omega) (by decide)) dX11_feed_103 (fun H locs hP hD hS => ?_)
  obtain ⟨f_88, ef_88⟩ : ∃ g : Nat → Int32, g = upd (f_77) (Int32.toNatClampNeg (nI (k + 1 + 1 + 1 + 1 + 1 + 1 + 1 + 1))) v_87 := ⟨_, rfl⟩
  have hP : va_P (dC, dI) vwCl [(k0, .inr (11, [.int 0, .ref m_tape, .int (nI (k + 1 + 1 + 1 + 1 + 1 + 1 + 1 + 1)), .int m_size, .int m_at, .int m_end, .int m_token, .int m_whole, .int m_nameSize, .int m_fault, .int m_place, .int m_trouble, .ref m_letters, .int m_failed, .int m_hasBook, .ref m_r, .ref m_fresh, .ref m_coins, .ref m_was, .ref m_undone, .ref m_redone, .ref m_marked, .ref m_undoneActs, .ref m_redoneActs, .int m_undos, .int m_redos, .int m_marks, .ref m_tab, .ref m_basis, .long m_below, .int m_rows, .int m_wide, .ref m_corner, .ref m_squares, .int m_cornerMany, .ref m_chosen, .int m_colourMany, .int m_mostOnes, .ref m_tells, .ref m_goes])), (m_tape, .inl (cT, 900, .inl (f_88)))] H := by rw [ef_88]; exact hP
  have hD : va_D A [(k0, .inr (11, [.int 0, .ref m_tape, .int (nI (k + 1 + 1 + 1 + 1 + 1 + 1 + 1 + 1)), .int m_size, .int m_at, .int m_end, .int m_token, .int m_whole, .int m_nameSize, .int m_fault, .int m_place, .int m_trouble, .ref m_letters, .int m_failed, .int m_hasBook, .ref m_r, .ref m_fresh, .ref m_coins, .ref m_was, .ref m_undone, .ref m_redone, .ref m_marked, .ref m_undoneActs, .ref m_redoneActs, .int m_undos, .int m_redos, .int m_marks, .ref m_tab, .ref m_basis, .long m_below, .int m_rows, .int m_wide, .ref m_corner, .ref m_squares, .int m_cornerMany, .ref m_chosen, .int m_colourMany, .int m_mostOnes, .ref m_tells, .ref m_goes])), (m_tape, .inl (cT, 900, .inl (f_88)))] := by rw [ef_88]; exact hD
  refine lv_aload_n hx hb dX11_feed_104 rfl (lv_at hl 2 rfl) ?_
  refine lv_dup hx hb dX11_feed_105 rfl ?_
  refine va_get (D := (dC, dI)) (ci := 11) (v := .int (nI (k + 1 + 1 + 1 + 1 + 1 + 1 + 1 + 1))) (C := RX11) (T := TX11) (N := 40) hx hb hts iw_X11_feed_X11_c_m_feed_ok hown hK hP 0 rfl rfl 2 (by decide) (hts (.fieldLink RX11 75 "NotAtOnceModel" "taped" "I") (by decide +kernel)) (fun _ h9 => h9) rfl dX11_feed_106 ?_
  refine lv_iconst (v := 1) hx hb dX11_feed_109 (by decide) ?_
  refine lv_iadd hx hb dX11_feed_110 ?_
  refine lv_topi (fun v_89 ev_89 => ?_)
  obtain rfl : v_89 = nI (k + 1 + 1 + 1 + 1 + 1 + 1 + 1 + 1 + 1) := ev_89.trans (by rw [show (1 : Int32) = nI 1 from by decide, nI_add])
  refine va_put (D := (dC, dI)) (ci := 11) (v := .int (nI (k + 1 + 1 + 1 + 1 + 1 + 1 + 1 + 1 + 1))) (ty := .int) (C := RX11) (T := TX11) (N := 40) hx hb hts iw_X11_feed_X11_c_m_feed_ok tyX11 tyX11_ok nmX11 hown hK hP hD hS 0 rfl rfl 2 (by decide) (hts (.fieldLink RX11 75 "NotAtOnceModel" "taped" "I") (by decide +kernel)) (fun _ h9 => h9) rfl (by decide +kernel) rfl rfl (Nat.le_of_ble_eq_true rfl) dX11_feed_111 (fun H locs hP hD hS => ?_)
  have hP : va_P (dC, dI) vwCl [(k0, .inr (11, [.int 0, .ref m_tape, .int (nI (k + 1 + 1 + 1 + 1 + 1 + 1 + 1 + 1 + 1)), .int m_size, .int m_at, .int m_end, .int m_token, .int m_whole, .int m_nameSize, .int m_fault, .int m_place, .int m_trouble, .ref m_letters, .int m_failed, .int m_hasBook, .ref m_r, .ref m_fresh, .ref m_coins, .ref m_was, .ref m_undone, .ref m_redone, .ref m_marked, .ref m_undoneActs, .ref m_redoneActs, .int m_undos, .int m_redos, .int m_marks, .ref m_tab, .ref m_basis, .long m_below, .int m_rows, .int m_wide, .ref m_corner, .ref m_squares, .int m_cornerMany, .ref m_chosen, .int m_colourMany, .int m_mostOnes, .ref m_tells, .ref m_goes])), (m_tape, .inl (cT, 900, .inl (f_88)))] H := hP
  have hD : va_D A [(k0, .inr (11, [.int 0, .ref m_tape, .int (nI (k + 1 + 1 + 1 + 1 + 1 + 1 + 1 + 1 + 1)), .int m_size, .int m_at, .int m_end, .int m_token, .int m_whole, .int m_nameSize, .int m_fault, .int m_place, .int m_trouble, .ref m_letters, .int m_failed, .int m_hasBook, .ref m_r, .ref m_fresh, .ref m_coins, .ref m_was, .ref m_undone, .ref m_redone, .ref m_marked, .ref m_undoneActs, .ref m_redoneActs, .int m_undos, .int m_redos, .int m_marks, .ref m_tab, .ref m_basis, .long m_below, .int m_rows, .int m_wide, .ref m_corner, .ref m_squares, .int m_cornerMany, .ref m_chosen, .int m_colourMany, .int m_mostOnes, .ref m_tells, .ref m_goes])), (m_tape, .inl (cT, 900, .inl (f_88)))] := hD
  refine lv_iinc (v := 9) (lv' := [(6, .int 9), (7, .int p2), (0, .ref k0), (1, .int p0), (2, .int p1), (3, .int p2), (4, .int p3), (5, .int p4)]) hx hb dX11_feed_114 hl (k := 1) rfl (by decide) (by decide) rfl (fun ls hl => ?_)
  refine lv_goto (tgt := 23) hx hb dX11_feed_117 (by decide) ?_
  refine lv_iload hx hb dX11_feed_23 (lv_at hl 0 rfl) ?_
  refine lv_bipush (v := 20) hx hb dX11_feed_25 (by decide) ?_
  refine lv_icmp_ge (tgt := 120) hx hb dX11_feed_27 (by decide) (fun c_90 => absurd c_90 (by decide)) (fun c_90 => ?_)
  refine lv_iload hx hb dX11_feed_30 (lv_at hl 0 rfl) ?_
  refine lv_iconst (v := 4) hx hb dX11_feed_32 (by decide) ?_
  refine lv_icmp_ge (tgt := 40) hx hb dX11_feed_33 (by decide) (fun c_91 => ?_) (fun c_91 => absurd c_91 (by decide))
  refine lv_iload hx hb dX11_feed_40 (lv_at hl 0 rfl) ?_
  refine lv_bipush (v := 8) hx hb dX11_feed_42 (by decide) ?_
  refine lv_icmp_ge (tgt := 51) hx hb dX11_feed_44 (by decide) (fun c_92 => ?_) (fun c_92 => absurd c_92 (by decide))
  refine lv_iload hx hb dX11_feed_51 (lv_at hl 0 rfl) ?_
  refine lv_bipush (v := 12) hx hb dX11_feed_53 (by decide) ?_
  refine lv_icmp_ge (tgt := 62) hx hb dX11_feed_55 (by decide) (fun c_93 => absurd c_93 (by decide)) (fun c_93 => ?_)
  refine lv_iload_n hx hb dX11_feed_58 rfl (lv_at hl 5 rfl) ?_
  refine lv_goto (tgt := 76) hx hb dX11_feed_59 (by decide) ?_
  refine lv_istore (lv' := [(7, .int p2), (6, .int 9), (0, .ref k0), (1, .int p0), (2, .int p1), (3, .int p2), (4, .int p3), (5, .int p4)]) hx hb dX11_feed_76 hl (by decide) rfl (fun ls hl => ?_)
  refine lv_aload_n hx hb dX11_feed_78 rfl (lv_at hl 2 rfl) ?_
  refine va_get (D := (dC, dI)) (ci := 11) (v := .ref m_tape) (C := RX11) (T := TX11) (N := 40) hx hb hts iw_X11_feed_X11_c_m_feed_ok hown hK hP 0 rfl rfl 1 (by decide) (hts (.fieldLink RX11 7 "NotAtOnceModel" "tape" "[I") (by decide +kernel)) (fun _ h9 => h9) rfl dX11_feed_79 ?_
  refine lv_aload_n hx hb dX11_feed_82 rfl (lv_at hl 2 rfl) ?_
  refine va_get (D := (dC, dI)) (ci := 11) (v := .int (nI (k + 1 + 1 + 1 + 1 + 1 + 1 + 1 + 1 + 1))) (C := RX11) (T := TX11) (N := 40) hx hb hts iw_X11_feed_X11_c_m_feed_ok hown hK hP 0 rfl rfl 2 (by decide) (hts (.fieldLink RX11 75 "NotAtOnceModel" "taped" "I") (by decide +kernel)) (fun _ h9 => h9) rfl dX11_feed_83 ?_
  refine lv_iload hx hb dX11_feed_86 (lv_at hl 0 rfl) ?_
  refine lv_bipush (v := 24) hx hb dX11_feed_88 (by decide) ?_
  refine lv_bipush (v := 8) hx hb dX11_feed_90 (by decide) ?_
  refine lv_iload hx hb dX11_feed_92 (lv_at hl 1 rfl) ?_
  refine lv_iconst (v := 4) hx hb dX11_feed_94 (by decide) ?_
  refine lv_irem hx hb dX11_feed_95 (by decide) ?_
  refine lv_topi (fun v_94 ev_94 => ?_)
  obtain rfl : v_94 = 1 := ev_94.trans (by decide)
  refine lv_imul hx hb dX11_feed_96 ?_
  refine lv_topi (fun v_95 ev_95 => ?_)
  obtain rfl : v_95 = 8 := ev_95.trans (by decide)
  refine lv_isub hx hb dX11_feed_97 ?_
  refine lv_topi (fun v_96 ev_96 => ?_)
  obtain rfl : v_96 = 16 := ev_96.trans (by decide)
  refine lv_ishr hx hb dX11_feed_98 ?_
  refine lv_topi (fun v_97 ev_97 => ?_)
  refine lv_sipush (v := 255) hx hb dX11_feed_99 (by decide) ?_
  refine lv_iand hx hb dX11_feed_102 ?_
  refine lv_topi (fun v_98 ev_98 => ?_)
  refine va_iast hx hb hK hP hD hS 1 0 rfl rfl (vp_in_nI (by omega) (by decide)) dX11_feed_103 (fun H locs hP hD hS => ?_)
  obtain ⟨f_99, ef_99⟩ : ∃ g : Nat → Int32, g = upd (f_88) (Int32.toNatClampNeg (nI (k + 1 + 1 + 1 + 1 + 1 + 1 + 1 + 1 + 1))) v_98 := ⟨_, rfl⟩
  have hP : va_P (dC, dI) vwCl [(k0, .inr (11, [.int 0, .ref m_tape, .int (nI (k + 1 + 1 + 1 + 1 + 1 + 1 + 1 + 1 + 1)), .int m_size, .int m_at, .int m_end, .int m_token, .int m_whole, .int m_nameSize, .int m_fault, .int m_place, .int m_trouble, .ref m_letters, .int m_failed, .int m_hasBook, .ref m_r, .ref m_fresh, .ref m_coins, .ref m_was, .ref m_undone, .ref m_redone, .ref m_marked, .ref m_undoneActs, .ref m_redoneActs, .int m_undos, .int m_redos, .int m_marks, .ref m_tab, .ref m_basis, .long m_below, .int m_rows, .int m_wide, .ref m_corner, .ref m_squares, .int m_cornerMany, .ref m_chosen, .int m_colourMany, .int m_mostOnes, .ref m_tells, .ref m_goes])), (m_tape, .inl (cT, 900, .inl (f_99)))] H := by rw [ef_99]; exact hP
  have hD : va_D A [(k0, .inr (11, [.int 0, .ref m_tape, .int (nI (k + 1 + 1 + 1 + 1 + 1 + 1 + 1 + 1 + 1)), .int m_size, .int m_at, .int m_end, .int m_token, .int m_whole, .int m_nameSize, .int m_fault, .int m_place, .int m_trouble, .ref m_letters, .int m_failed, .int m_hasBook, .ref m_r, .ref m_fresh, .ref m_coins, .ref m_was, .ref m_undone, .ref m_redone, .ref m_marked, .ref m_undoneActs, .ref m_redoneActs, .int m_undos, .int m_redos, .int m_marks, .ref m_tab, .ref m_basis, .long m_below, .int m_rows, .int m_wide, .ref m_corner, .ref m_squares, .int m_cornerMany, .ref m_chosen, .int m_colourMany, .int m_mostOnes, .ref m_tells, .ref m_goes])), (m_tape, .inl (cT, 900, .inl (f_99)))] := by rw [ef_99]; exact hD
  refine lv_aload_n hx hb dX11_feed_104 rfl (lv_at hl 2 rfl) ?_
  refine lv_dup hx hb dX11_feed_105 rfl ?_
  refine va_get (D := (dC, dI)) (ci := 11) (v := .int (nI (k + 1 + 1 + 1 + 1 + 1 + 1 + 1 + 1 + 1))) (C := RX11) (T := TX11) (N := 40) hx hb hts iw_X11_feed_X11_c_m_feed_ok hown hK hP 0 rfl rfl 2 (by decide) (hts (.fieldLink RX11 75 "NotAtOnceModel" "taped" "I") (by decide +kernel)) (fun _ h9 => h9) rfl dX11_feed_106 ?_
  refine lv_iconst (v := 1) hx hb dX11_feed_109 (by decide) ?_
  refine lv_iadd hx hb dX11_feed_110 ?_
  refine lv_topi (fun v_100 ev_100 => ?_)
  obtain rfl : v_100 = nI (k + 1 + 1 + 1 + 1 + 1 + 1 + 1 + 1 + 1 + 1) := ev_100.trans (by rw [show (1 : Int32) = nI 1 from by decide, nI_add])
  refine va_put (D := (dC, dI)) (ci := 11) (v := .int (nI (k + 1 + 1 + 1 + 1 + 1 + 1 + 1 + 1 + 1 + 1))) (ty := .int) (C := RX11) (T := TX11) (N := 40) hx hb hts iw_X11_feed_X11_c_m_feed_ok tyX11 tyX11_ok nmX11 hown hK hP hD hS 0 rfl rfl 2 (by decide) (hts (.fieldLink RX11 75 "NotAtOnceModel" "taped" "I") (by decide +kernel)) (fun _ h9 => h9) rfl (by decide +kernel) rfl rfl (Nat.le_of_ble_eq_true rfl) dX11_feed_111 (fun H locs hP hD hS => ?_)
  have hP : va_P (dC, dI) vwCl [(k0, .inr (11, [.int 0, .ref m_tape, .int (nI (k + 1 + 1 + 1 + 1 + 1 + 1 + 1 + 1 + 1 + 1)), .int m_size, .int m_at, .int m_end, .int m_token, .int m_whole, .int m_nameSize, .int m_fault, .int m_place, .int m_trouble, .ref m_letters, .int m_failed, .int m_hasBook, .ref m_r, .ref m_fresh, .ref m_coins, .ref m_was, .ref m_undone, .ref m_redone, .ref m_marked, .ref m_undoneActs, .ref m_redoneActs, .int m_undos, .int m_redos, .int m_marks, .ref m_tab, .ref m_basis, .long m_below, .int m_rows, .int m_wide, .ref m_corner, .ref m_squares, .int m_cornerMany, .ref m_chosen, .int m_colourMany, .int m_mostOnes, .ref m_tells, .ref m_goes])), (m_tape, .inl (cT, 900, .inl (f_99)))] H := hP
  have hD : va_D A [(k0, .inr (11, [.int 0, .ref m_tape, .int (nI (k + 1 + 1 + 1 + 1 + 1 + 1 + 1 + 1 + 1 + 1)), .int m_size, .int m_at, .int m_end, .int m_token, .int m_whole, .int m_nameSize, .int m_fault, .int m_place, .int m_trouble, .ref m_letters, .int m_failed, .int m_hasBook, .ref m_r, .ref m_fresh, .ref m_coins, .ref m_was, .ref m_undone, .ref m_redone, .ref m_marked, .ref m_undoneActs, .ref m_redoneActs, .int m_undos, .int m_redos, .int m_marks, .ref m_tab, .ref m_basis, .long m_below, .int m_rows, .int m_wide, .ref m_corner, .ref m_squares, .int m_cornerMany, .ref m_chosen, .int m_colourMany, .int m_mostOnes, .ref m_tells, .ref m_goes])), (m_tape, .inl (cT, 900, .inl (f_99)))] := hD
  refine lv_iinc (v := 10) (lv' := [(6, .int 10), (7, .int p2), (0, .ref k0), (1, .int p0), (2, .int p1), (3, .int p2), (4, .int p3), (5, .int p4)]) hx hb dX11_feed_114 hl (k := 1) rfl (by decide) (by decide) rfl (fun ls hl => ?_)
  refine lv_goto (tgt := 23) hx hb dX11_feed_117 (by decide) ?_
  refine lv_iload hx hb dX11_feed_23 (lv_at hl 0 rfl) ?_
  refine lv_bipush (v := 20) hx hb dX11_feed_25 (by decide) ?_
  refine lv_icmp_ge (tgt := 120) hx hb dX11_feed_27 (by decide) (fun c_101 => absurd c_101 (by decide)) (fun c_101 => ?_)
  refine lv_iload hx hb dX11_feed_30 (lv_at hl 0 rfl) ?_
  refine lv_iconst (v := 4) hx hb dX11_feed_32 (by decide) ?_
  refine lv_icmp_ge (tgt := 40) hx hb dX11_feed_33 (by decide) (fun c_102 => ?_) (fun c_102 => absurd c_102 (by decide))
  refine lv_iload hx hb dX11_feed_40 (lv_at hl 0 rfl) ?_
  refine lv_bipush (v := 8) hx hb dX11_feed_42 (by decide) ?_
  refine lv_icmp_ge (tgt := 51) hx hb dX11_feed_44 (by decide) (fun c_103 => ?_) (fun c_103 => absurd c_103 (by decide))
  refine lv_iload hx hb dX11_feed_51 (lv_at hl 0 rfl) ?_
  refine lv_bipush (v := 12) hx hb dX11_feed_53 (by decide) ?_
  refine lv_icmp_ge (tgt := 62) hx hb dX11_feed_55 (by decide) (fun c_104 => absurd c_104 (by decide)) (fun c_104 => ?_)
  refine lv_iload_n hx hb dX11_feed_58 rfl (lv_at hl 5 rfl) ?_
  refine lv_goto (tgt := 76) hx hb dX11_feed_59 (by decide) ?_
  refine lv_istore (lv' := [(7, .int p2), (6, .int 10), (0, .ref k0), (1, .int p0), (2, .int p1), (3, .int p2), (4, .int p3), (5, .int p4)]) hx hb dX11_feed_76 hl (by decide) rfl (fun ls hl => ?_)
  refine lv_aload_n hx hb dX11_feed_78 rfl (lv_at hl 2 rfl) ?_
  refine va_get (D := (dC, dI)) (ci := 11) (v := .ref m_tape) (C := RX11) (T := TX11) (N := 40) hx hb hts iw_X11_feed_X11_c_m_feed_ok hown hK hP 0 rfl rfl 1 (by decide) (hts (.fieldLink RX11 7 "NotAtOnceModel" "tape" "[I") (by decide +kernel)) (fun _ h9 => h9) rfl dX11_feed_79 ?_
  refine lv_aload_n hx hb dX11_feed_82 rfl (lv_at hl 2 rfl) ?_
  refine va_get (D := (dC, dI)) (ci := 11) (v := .int (nI (k + 1 + 1 + 1 + 1 + 1 + 1 + 1 + 1 + 1 + 1))) (C := RX11) (T := TX11) (N := 40) hx hb hts iw_X11_feed_X11_c_m_feed_ok hown hK hP 0 rfl rfl 2 (by decide) (hts (.fieldLink RX11 75 "NotAtOnceModel" "taped" "I") (by decide +kernel)) (fun _ h9 => h9) rfl dX11_feed_83 ?_
  refine lv_iload hx hb dX11_feed_86 (lv_at hl 0 rfl) ?_
  refine lv_bipush (v := 24) hx hb dX11_feed_88 (by decide) ?_
  refine lv_bipush (v := 8) hx hb dX11_feed_90 (by decide) ?_
  refine lv_iload hx hb dX11_feed_92 (lv_at hl 1 rfl) ?_
  refine lv_iconst (v := 4) hx hb dX11_feed_94 (by decide) ?_
  refine lv_irem hx hb dX11_feed_95 (by decide) ?_
  refine lv_topi (fun v_105 ev_105 => ?_)
  obtain rfl : v_105 = 2 := ev_105.trans (by decide)
  refine lv_imul hx hb dX11_feed_96 ?_
  refine lv_topi (fun v_106 ev_106 => ?_)
  obtain rfl : v_106 = 16 := ev_106.trans (by decide)
  refine lv_isub hx hb dX11_feed_97 ?_
  refine lv_topi (fun v_107 ev_107 => ?_)
  obtain rfl : v_107 = 8 := ev_107.trans (by decide)
  refine lv_ishr hx hb dX11_feed_98 ?_
  refine lv_topi (fun v_108 ev_108 => ?_)
  refine lv_sipush (v := 255) hx hb dX11_feed_99 (by decide) ?_
  refine lv_iand hx hb dX11_feed_102 ?_
  refine lv_topi (fun v_109 ev_109 => ?_)
  refine va_iast hx hb hK hP hD hS 1 0 rfl rfl (vp_in_nI (by omega) (by decide)) dX11_feed_103 (fun H locs hP hD hS => ?_)
  obtain ⟨f_110, ef_110⟩ : ∃ g : Nat → Int32, g = upd (f_99) (Int32.toNatClampNeg (nI (k + 1 + 1 + 1 + 1 + 1 + 1 + 1 + 1 + 1 + 1))) v_109 := ⟨_, rfl⟩
  have hP : va_P (dC, dI) vwCl [(k0, .inr (11, [.int 0, .ref m_tape, .int (nI (k + 1 + 1 + 1 + 1 + 1 + 1 + 1 + 1 + 1 + 1)), .int m_size, .int m_at, .int m_end, .int m_token, .int m_whole, .int m_nameSize, .int m_fault, .int m_place, .int m_trouble, .ref m_letters, .int m_failed, .int m_hasBook, .ref m_r, .ref m_fresh, .ref m_coins, .ref m_was, .ref m_undone, .ref m_redone, .ref m_marked, .ref m_undoneActs, .ref m_redoneActs, .int m_undos, .int m_redos, .int m_marks, .ref m_tab, .ref m_basis, .long m_below, .int m_rows, .int m_wide, .ref m_corner, .ref m_squares, .int m_cornerMany, .ref m_chosen, .int m_colourMany, .int m_mostOnes, .ref m_tells, .ref m_goes])), (m_tape, .inl (cT, 900, .inl (f_110)))] H := by rw [ef_110]; exact hP
  have hD : va_D A [(k0, .inr (11, [.int 0, .ref m_tape, .int (nI (k + 1 + 1 + 1 + 1 + 1 + 1 + 1 + 1 + 1 + 1)), .int m_size, .int m_at, .int m_end, .int m_token, .int m_whole, .int m_nameSize, .int m_fault, .int m_place, .int m_trouble, .ref m_letters, .int m_failed, .int m_hasBook, .ref m_r, .ref m_fresh, .ref m_coins, .ref m_was, .ref m_undone, .ref m_redone, .ref m_marked, .ref m_undoneActs, .ref m_redoneActs, .int m_undos, .int m_redos, .int m_marks, .ref m_tab, .ref m_basis, .long m_below, .int m_rows, .int m_wide, .ref m_corner, .ref m_squares, .int m_cornerMany, .ref m_chosen, .int m_colourMany, .int m_mostOnes, .ref m_tells, .ref m_goes])), (m_tape, .inl (cT, 900, .inl (f_110)))] := by rw [ef_110]; exact hD
  refine lv_aload_n hx hb dX11_feed_104 rfl (lv_at hl 2 rfl) ?_
  refine lv_dup hx hb dX11_feed_105 rfl ?_
  refine va_get (D := (dC, dI)) (ci := 11) (v := .int (nI (k + 1 + 1 + 1 + 1 + 1 + 1 + 1 + 1 + 1 + 1))) (C := RX11) (T := TX11) (N := 40) hx hb hts iw_X11_feed_X11_c_m_feed_ok hown hK hP 0 rfl rfl 2 (by decide) (hts (.fieldLink RX11 75 "NotAtOnceModel" "taped" "I") (by decide +kernel)) (fun _ h9 => h9) rfl dX11_feed_106 ?_
  refine lv_iconst (v := 1) hx hb dX11_feed_109 (by decide) ?_
  refine lv_iadd hx hb dX11_feed_110 ?_
  refine lv_topi (fun v_111 ev_111 => ?_)
  obtain rfl : v_111 = nI (k + 1 + 1 + 1 + 1 + 1 + 1 + 1 + 1 + 1 + 1 + 1) := ev_111.trans (by rw [show (1 : Int32) = nI 1 from by decide, nI_add])
  refine va_put (D := (dC, dI)) (ci := 11) (v := .int (nI (k + 1 + 1 + 1 + 1 + 1 + 1 + 1 + 1 + 1 + 1 + 1))) (ty := .int) (C := RX11) (T := TX11) (N := 40) hx hb hts iw_X11_feed_X11_c_m_feed_ok tyX11 tyX11_ok nmX11 hown hK hP hD hS 0 rfl rfl 2 (by decide) (hts (.fieldLink RX11 75 "NotAtOnceModel" "taped" "I") (by decide +kernel)) (fun _ h9 => h9) rfl (by decide +kernel) rfl rfl (Nat.le_of_ble_eq_true rfl) dX11_feed_111 (fun H locs hP hD hS => ?_)
  have hP : va_P (dC, dI) vwCl [(k0, .inr (11, [.int 0, .ref m_tape, .int (nI (k + 1 + 1 + 1 + 1 + 1 + 1 + 1 + 1 + 1 + 1 + 1)), .int m_size, .int m_at, .int m_end, .int m_token, .int m_whole, .int m_nameSize, .int m_fault, .int m_place, .int m_trouble, .ref m_letters, .int m_failed, .int m_hasBook, .ref m_r, .ref m_fresh, .ref m_coins, .ref m_was, .ref m_undone, .ref m_redone, .ref m_marked, .ref m_undoneActs, .ref m_redoneActs, .int m_undos, .int m_redos, .int m_marks, .ref m_tab, .ref m_basis, .long m_below, .int m_rows, .int m_wide, .ref m_corner, .ref m_squares, .int m_cornerMany, .ref m_chosen, .int m_colourMany, .int m_mostOnes, .ref m_tells, .ref m_goes])), (m_tape, .inl (cT, 900, .inl (f_110)))] H := hP
  have hD : va_D A [(k0, .inr (11, [.int 0, .ref m_tape, .int (nI (k + 1 + 1 + 1 + 1 + 1 + 1 + 1 + 1 + 1 + 1 + 1)), .int m_size, .int m_at, .int m_end, .int m_token, .int m_whole, .int m_nameSize, .int m_fault, .int m_place, .int m_trouble, .ref m_letters, .int m_failed, .int m_hasBook, .ref m_r, .ref m_fresh, .ref m_coins, .ref m_was, .ref m_undone, .ref m_redone, .ref m_marked, .ref m_undoneActs, .ref m_redoneActs, .int m_undos, .int m_redos, .int m_marks, .ref m_tab, .ref m_basis, .long m_below, .int m_rows, .int m_wide, .ref m_corner, .ref m_squares, .int m_cornerMany, .ref m_chosen, .int m_colourMany, .int m_mostOnes, .ref m_tells, .ref m_goes])), (m_tape, .inl (cT, 900, .inl (f_110)))] := hD
  refine lv_iinc (v := 11) (lv' := [(6, .int 11), (7, .int p2), (0, .ref k0), (1, .int p0), (2, .int p1), (3, .int p2), (4, .int p3), (5, .int p4)]) hx hb dX11_feed_114 hl (k := 1) rfl (by decide) (by decide) rfl (fun ls hl => ?_)
  refine lv_goto (tgt := 23) hx hb dX11_feed_117 (by decide) ?_
  refine lv_iload hx hb dX11_feed_23 (lv_at hl 0 rfl) ?_
  refine lv_bipush (v := 20) hx hb dX11_feed_25 (by decide) ?_
  refine lv_icmp_ge (tgt := 120) hx hb dX11_feed_27 (by decide) (fun c_112 => absurd c_112 (by decide)) (fun c_112 => ?_)
  refine lv_iload hx hb dX11_feed_30 (lv_at hl 0 rfl) ?_
  refine lv_iconst (v := 4) hx hb dX11_feed_32 (by decide) ?_
  refine lv_icmp_ge (tgt := 40) hx hb dX11_feed_33 (by decide) (fun c_113 => ?_) (fun c_113 => absurd c_113 (by decide))
  refine lv_iload hx hb dX11_feed_40 (lv_at hl 0 rfl) ?_
  refine lv_bipush (v := 8) hx hb dX11_feed_42 (by decide) ?_
  refine lv_icmp_ge (tgt := 51) hx hb dX11_feed_44 (by decide) (fun c_114 => ?_) (fun c_114 => absurd c_114 (by decide))
  refine lv_iload hx hb dX11_feed_51 (lv_at hl 0 rfl) ?_
  refine lv_bipush (v := 12) hx hb dX11_feed_53 (by decide) ?_
  refine lv_icmp_ge (tgt := 62) hx hb dX11_feed_55 (by decide) (fun c_115 => absurd c_115 (by decide)) (fun c_115 => ?_)
  refine lv_iload_n hx hb dX11_feed_58 rfl (lv_at hl 5 rfl) ?_
  refine lv_goto (tgt := 76) hx hb dX11_feed_59 (by decide) ?_
  refine lv_istore (lv' := [(7, .int p2), (6, .int 11), (0, .ref k0), (1, .int p0), (2, .int p1), (3, .int p2), (4, .int p3), (5, .int p4)]) hx hb dX11_feed_76 hl (by decide) rfl (fun ls hl => ?_)
  refine lv_aload_n hx hb dX11_feed_78 rfl (lv_at hl 2 rfl) ?_
  refine va_get (D := (dC, dI)) (ci := 11) (v := .ref m_tape) (C := RX11) (T := TX11) (N := 40) hx hb hts iw_X11_feed_X11_c_m_feed_ok hown hK hP 0 rfl rfl 1 (by decide) (hts (.fieldLink RX11 7 "NotAtOnceModel" "tape" "[I") (by decide +kernel)) (fun _ h9 => h9) rfl dX11_feed_79 ?_
  refine lv_aload_n hx hb dX11_feed_82 rfl (lv_at hl 2 rfl) ?_
  refine va_get (D := (dC, dI)) (ci := 11) (v := .int (nI (k + 1 + 1 + 1 + 1 + 1 + 1 + 1 + 1 + 1 + 1 + 1))) (C := RX11) (T := TX11) (N := 40) hx hb hts iw_X11_feed_X11_c_m_feed_ok hown hK hP 0 rfl rfl 2 (by decide) (hts (.fieldLink RX11 75 "NotAtOnceModel" "taped" "I") (by decide +kernel)) (fun _ h9 => h9) rfl dX11_feed_83 ?_
  refine lv_iload hx hb dX11_feed_86 (lv_at hl 0 rfl) ?_
  refine lv_bipush (v := 24) hx hb dX11_feed_88 (by decide) ?_
  refine lv_bipush (v := 8) hx hb dX11_feed_90 (by decide) ?_
  refine lv_iload hx hb dX11_feed_92 (lv_at hl 1 rfl) ?_
  refine lv_iconst (v := 4) hx hb dX11_feed_94 (by decide) ?_
  refine lv_irem hx hb dX11_feed_95 (by decide) ?_
  refine lv_topi (fun v_116 ev_116 => ?_)
  obtain rfl : v_116 = 3 := ev_116.trans (by decide)
  refine lv_imul hx hb dX11_feed_96 ?_
  refine lv_topi (fun v_117 ev_117 => ?_)
  obtain rfl : v_117 = 24 := ev_117.trans (by decide)
  refine lv_isub hx hb dX11_feed_97 ?_
  refine lv_topi (fun v_118 ev_118 => ?_)
  obtain rfl : v_118 = 0 := ev_118.trans (by decide)
  refine lv_ishr hx hb dX11_feed_98 ?_
  refine lv_topi (fun v_119 ev_119 => ?_)
  refine lv_sipush (v := 255) hx hb dX11_feed_99 (by decide) ?_
  refine lv_iand hx hb dX11_feed_102 ?_
  refine lv_topi (fun v_120 ev_120 => ?_)
  refine va_iast hx hb hK hP hD hS 1 0 rfl rfl (vp_in_nI (by omega) (by decide)) dX11_feed_103 (fun H locs hP hD hS => ?_)
  obtain ⟨f_121, ef_121⟩ : ∃ g : Nat → Int32, g = upd (f_110) (Int32.toNatClampNeg (nI (k + 1 + 1 + 1 + 1 + 1 + 1 + 1 + 1 + 1 + 1 + 1))) v_120 := ⟨_, rfl⟩
  have hP : va_P (dC, dI) vwCl [(k0, .inr (11, [.int 0, .ref m_tape, .int (nI (k + 1 + 1 + 1 + 1 + 1 + 1 + 1 + 1 + 1 + 1 + 1)), .int m_size, .int m_at, .int m_end, .int m_token, .int m_whole, .int m_nameSize, .int m_fault, .int m_place, .int m_trouble, .ref m_letters, .int m_failed, .int m_hasBook, .ref m_r, .ref m_fresh, .ref m_coins, .ref m_was, .ref m_undone, .ref m_redone, .ref m_marked, .ref m_undoneActs, .ref m_redoneActs, .int m_undos, .int m_redos, .int m_marks, .ref m_tab, .ref m_basis, .long m_below, .int m_rows, .int m_wide, .ref m_corner, .ref m_squares, .int m_cornerMany, .ref m_chosen, .int m_colourMany, .int m_mostOnes, .ref m_tells, .ref m_goes])), (m_tape, .inl (cT, 900, .inl (f_121)))] H := by rw [ef_121]; exact hP
  have hD : va_D A [(k0, .inr (11, [.int 0, .ref m_tape, .int (nI (k + 1 + 1 + 1 + 1 + 1 + 1 + 1 + 1 + 1 + 1 + 1)), .int m_size, .int m_at, .int m_end, .int m_token, .int m_whole, .int m_nameSize, .int m_fault, .int m_place, .int m_trouble, .ref m_letters, .int m_failed, .int m_hasBook, .ref m_r, .ref m_fresh, .ref m_coins, .ref m_was, .ref m_undone, .ref m_redone, .ref m_marked, .ref m_undoneActs, .ref m_redoneActs, .int m_undos, .int m_redos, .int m_marks, .ref m_tab, .ref m_basis, .long m_below, .int m_rows, .int m_wide, .ref m_corner, .ref m_squares, .int m_cornerMany, .ref m_chosen, .int m_colourMany, .int m_mostOnes, .ref m_tells, .ref m_goes])), (m_tape, .inl (cT, 900, .inl (f_121)))] := by rw [ef_121]; exact hD
  refine lv_aload_n hx hb dX11_feed_104 rfl (lv_at hl 2 rfl) ?_
  refine lv_dup hx hb dX11_feed_105 rfl ?_
  refine va_get (D := (dC, dI)) (ci := 11) (v := .int (nI (k + 1 + 1 + 1 + 1 + 1 + 1 + 1 + 1 + 1 + 1 + 1))) (C := RX11) (T := TX11) (N := 40) hx hb hts iw_X11_feed_X11_c_m_feed_ok hown hK hP 0 rfl rfl 2 (by decide) (hts (.fieldLink RX11 75 "NotAtOnceModel" "taped" "I") (by decide +kernel)) (fun _ h9 => h9) rfl dX11_feed_106 ?_
  refine lv_iconst (v := 1) hx hb dX11_feed_109 (by decide) ?_
  refine lv_iadd hx hb dX11_feed_110 ?_
  refine lv_topi (fun v_122 ev_122 => ?_)
  obtain rfl : v_122 = nI (k + 1 + 1 + 1 + 1 + 1 + 1 + 1 + 1 + 1 + 1 + 1 + 1) := ev_122.trans (by rw [show (1 : Int32) = nI 1 from by decide, nI_add])
  refine va_put (D := (dC, dI)) (ci := 11) (v := .int (nI (k + 1 + 1 + 1 + 1 + 1 + 1 + 1 + 1 + 1 + 1 + 1 + 1))) (ty := .int) (C := RX11) (T := TX11) (N := 40) hx hb hts iw_X11_feed_X11_c_m_feed_ok tyX11 tyX11_ok nmX11 hown hK hP hD hS 0 rfl rfl 2 (by decide) (hts (.fieldLink RX11 75 "NotAtOnceModel" "taped" "I") (by decide +kernel)) (fun _ h9 => h9) rfl (by decide +kernel) rfl rfl (Nat.le_of_ble_eq_true rfl) dX11_feed_111 (fun H locs hP hD hS => ?_)
  have hP : va_P (dC, dI) vwCl [(k0, .inr (11, [.int 0, .ref m_tape, .int (nI (k + 1 + 1 + 1 + 1 + 1 + 1 + 1 + 1 + 1 + 1 + 1 + 1)), .int m_size, .int m_at, .int m_end, .int m_token, .int m_whole, .int m_nameSize, .int m_fault, .int m_place, .int m_trouble, .ref m_letters, .int m_failed, .int m_hasBook, .ref m_r, .ref m_fresh, .ref m_coins, .ref m_was, .ref m_undone, .ref m_redone, .ref m_marked, .ref m_undoneActs, .ref m_redoneActs, .int m_undos, .int m_redos, .int m_marks, .ref m_tab, .ref m_basis, .long m_below, .int m_rows, .int m_wide, .ref m_corner, .ref m_squares, .int m_cornerMany, .ref m_chosen, .int m_colourMany, .int m_mostOnes, .ref m_tells, .ref m_goes])), (m_tape, .inl (cT, 900, .inl (f_121)))] H := hP
  have hD : va_D A [(k0, .inr (11, [.int 0, .ref m_tape, .int (nI (k + 1 + 1 + 1 + 1 + 1 + 1 + 1 + 1 + 1 + 1 + 1 + 1)), .int m_size, .int m_at, .int m_end, .int m_token, .int m_whole, .int m_nameSize, .int m_fault, .int m_place, .int m_trouble, .ref m_letters, .int m_failed, .int m_hasBook, .ref m_r, .ref m_fresh, .ref m_coins, .ref m_was, .ref m_undone, .ref m_redone, .ref m_marked, .ref m_undoneActs, .ref m_redoneActs, .int m_undos, .int m_redos, .int m_marks, .ref m_tab, .ref m_basis, .long m_below, .int m_rows, .int m_wide, .ref m_corner, .ref m_squares, .int m_cornerMany, .ref m_chosen, .int m_colourMany, .int m_mostOnes, .ref m_tells, .ref m_goes])), (m_tape, .inl (cT, 900, .inl (f_121)))] := hD
  refine lv_iinc (v := 12) (lv' := [(6, .int 12), (7, .int p2), (0, .ref k0), (1, .int p0), (2, .int p1), (3, .int p2), (4, .int p3), (5, .int p4)]) hx hb dX11_feed_114 hl (k := 1) rfl (by decide) (by decide) rfl (fun ls hl => ?_)
  refine lv_goto (tgt := 23) hx hb dX11_feed_117 (by decide) ?_
  refine lv_iload hx hb dX11_feed_23 (lv_at hl 0 rfl) ?_
  refine lv_bipush (v := 20) hx hb dX11_feed_25 (by decide) ?_
  refine lv_icmp_ge (tgt := 120) hx hb dX11_feed_27 (by decide) (fun c_123 => absurd c_123 (by decide)) (fun c_123 => ?_)
  refine lv_iload hx hb dX11_feed_30 (lv_at hl 0 rfl) ?_
  refine lv_iconst (v := 4) hx hb dX11_feed_32 (by decide) ?_
  refine lv_icmp_ge (tgt := 40) hx hb dX11_feed_33 (by decide) (fun c_124 => ?_) (fun c_124 => absurd c_124 (by decide))
  refine lv_iload hx hb dX11_feed_40 (lv_at hl 0 rfl) ?_
  refine lv_bipush (v := 8) hx hb dX11_feed_42 (by decide) ?_
  refine lv_icmp_ge (tgt := 51) hx hb dX11_feed_44 (by decide) (fun c_125 => ?_) (fun c_125 => absurd c_125 (by decide))
  refine lv_iload hx hb dX11_feed_51 (lv_at hl 0 rfl) ?_
  refine lv_bipush (v := 12) hx hb dX11_feed_53 (by decide) ?_
  refine lv_icmp_ge (tgt := 62) hx hb dX11_feed_55 (by decide) (fun c_126 => ?_) (fun c_126 => absurd c_126 (by decide))
  refine lv_iload hx hb dX11_feed_62 (lv_at hl 0 rfl) ?_
  refine lv_bipush (v := 16) hx hb dX11_feed_64 (by decide) ?_
  refine lv_icmp_ge (tgt := 74) hx hb dX11_feed_66 (by decide) (fun c_127 => absurd c_127 (by decide)) (fun c_127 => ?_)
  refine lv_iload hx hb dX11_feed_69 (lv_at hl 6 rfl) ?_
  refine lv_goto (tgt := 76) hx hb dX11_feed_71 (by decide) ?_
  refine lv_istore (lv' := [(7, .int p3), (6, .int 12), (0, .ref k0), (1, .int p0), (2, .int p1), (3, .int p2), (4, .int p3), (5, .int p4)]) hx hb dX11_feed_76 hl (by decide) rfl (fun ls hl => ?_)
  refine lv_aload_n hx hb dX11_feed_78 rfl (lv_at hl 2 rfl) ?_
  refine va_get (D := (dC, dI)) (ci := 11) (v := .ref m_tape) (C := RX11) (T := TX11) (N := 40) hx hb hts iw_X11_feed_X11_c_m_feed_ok hown hK hP 0 rfl rfl 1 (by decide) (hts (.fieldLink RX11 7 "NotAtOnceModel" "tape" "[I") (by decide +kernel)) (fun _ h9 => h9) rfl dX11_feed_79 ?_
  refine lv_aload_n hx hb dX11_feed_82 rfl (lv_at hl 2 rfl) ?_
  refine va_get (D := (dC, dI)) (ci := 11) (v := .int (nI (k + 1 + 1 + 1 + 1 + 1 + 1 + 1 + 1 + 1 + 1 + 1 + 1))) (C := RX11) (T := TX11) (N := 40) hx hb hts iw_X11_feed_X11_c_m_feed_ok hown hK hP 0 rfl rfl 2 (by decide) (hts (.fieldLink RX11 75 "NotAtOnceModel" "taped" "I") (by decide +kernel)) (fun _ h9 => h9) rfl dX11_feed_83 ?_
  refine lv_iload hx hb dX11_feed_86 (lv_at hl 0 rfl) ?_
  refine lv_bipush (v := 24) hx hb dX11_feed_88 (by decide) ?_
  refine lv_bipush (v := 8) hx hb dX11_feed_90 (by decide) ?_
  refine lv_iload hx hb dX11_feed_92 (lv_at hl 1 rfl) ?_
  refine lv_iconst (v := 4) hx hb dX11_feed_94 (by decide) ?_
  refine lv_irem hx hb dX11_feed_95 (by decide) ?_
  refine lv_topi (fun v_128 ev_128 => ?_)
  obtain rfl : v_128 = 0 := ev_128.trans (by decide)
  refine lv_imul hx hb dX11_feed_96 ?_
  refine lv_topi (fun v_129 ev_129 => ?_)
  obtain rfl : v_129 = 0 := ev_129.trans (by decide)
  refine lv_isub hx hb dX11_feed_97 ?_
  refine lv_topi (fun v_130 ev_130 => ?_)
  obtain rfl : v_130 = 24 := ev_130.trans (by decide)
  refine lv_ishr hx hb dX11_feed_98 ?_
  refine lv_topi (fun v_131 ev_131 => ?_)
  refine lv_sipush (v := 255) hx hb dX11_feed_99 (by decide) ?_
  refine lv_iand hx hb dX11_feed_102 ?_
  refine lv_topi (fun v_132 ev_132 => ?_)
  refine va_iast hx hb hK hP hD hS 1 0 rfl rfl (vp_in_nI (by omega) (by decide)) dX11_feed_103 (fun H locs hP hD hS => ?_)
  obtain ⟨f_133, ef_133⟩ : ∃ g : Nat → Int32, g = upd (f_121) (Int32.toNatClampNeg (nI (k + 1 + 1 + 1 + 1 + 1 + 1 + 1 + 1 + 1 + 1 + 1 + 1))) v_132 := ⟨_, rfl⟩
  have hP : va_P (dC, dI) vwCl [(k0, .inr (11, [.int 0, .ref m_tape, .int (nI (k + 1 + 1 + 1 + 1 + 1 + 1 + 1 + 1 + 1 + 1 + 1 + 1)), .int m_size, .int m_at, .int m_end, .int m_token, .int m_whole, .int m_nameSize, .int m_fault, .int m_place, .int m_trouble, .ref m_letters, .int m_failed, .int m_hasBook, .ref m_r, .ref m_fresh, .ref m_coins, .ref m_was, .ref m_undone, .ref m_redone, .ref m_marked, .ref m_undoneActs, .ref m_redoneActs, .int m_undos, .int m_redos, .int m_marks, .ref m_tab, .ref m_basis, .long m_below, .int m_rows, .int m_wide, .ref m_corner, .ref m_squares, .int m_cornerMany, .ref m_chosen, .int m_colourMany, .int m_mostOnes, .ref m_tells, .ref m_goes])), (m_tape, .inl (cT, 900, .inl (f_133)))] H := by rw [ef_133]; exact hP
  have hD : va_D A [(k0, .inr (11, [.int 0, .ref m_tape, .int (nI (k + 1 + 1 + 1 + 1 + 1 + 1 + 1 + 1 + 1 + 1 + 1 + 1)), .int m_size, .int m_at, .int m_end, .int m_token, .int m_whole, .int m_nameSize, .int m_fault, .int m_place, .int m_trouble, .ref m_letters, .int m_failed, .int m_hasBook, .ref m_r, .ref m_fresh, .ref m_coins, .ref m_was, .ref m_undone, .ref m_redone, .ref m_marked, .ref m_undoneActs, .ref m_redoneActs, .int m_undos, .int m_redos, .int m_marks, .ref m_tab, .ref m_basis, .long m_below, .int m_rows, .int m_wide, .ref m_corner, .ref m_squares, .int m_cornerMany, .ref m_chosen, .int m_colourMany, .int m_mostOnes, .ref m_tells, .ref m_goes])), (m_tape, .inl (cT, 900, .inl (f_133)))] := by rw [ef_133]; exact hD
  refine lv_aload_n hx hb dX11_feed_104 rfl (lv_at hl 2 rfl) ?_
  refine lv_dup hx hb dX11_feed_105 rfl ?_
  refine va_get (D := (dC, dI)) (ci := 11) (v := .int (nI (k + 1 + 1 + 1 + 1 + 1 + 1 + 1 + 1 + 1 + 1 + 1 + 1))) (C := RX11) (T := TX11) (N := 40) hx hb hts iw_X11_feed_X11_c_m_feed_ok hown hK hP 0 rfl rfl 2 (by decide) (hts (.fieldLink RX11 75 "NotAtOnceModel" "taped" "I") (by decide +kernel)) (fun _ h9 => h9) rfl dX11_feed_106 ?_
  refine lv_iconst (v := 1) hx hb dX11_feed_109 (by decide) ?_
  refine lv_iadd hx hb dX11_feed_110 ?_
  refine lv_topi (fun v_134 ev_134 => ?_)
  obtain rfl : v_134 = nI (k + 1 + 1 + 1 + 1 + 1 + 1 + 1 + 1 + 1 + 1 + 1 + 1 + 1) := ev_134.trans (by rw [show (1 : Int32) = nI 1 from by decide, nI_add])
  refine va_put (D := (dC, dI)) (ci := 11) (v := .int (nI (k + 1 + 1 + 1 + 1 + 1 + 1 + 1 + 1 + 1 + 1 + 1 + 1 + 1))) (ty := .int) (C := RX11) (T := TX11) (N := 40) hx hb hts iw_X11_feed_X11_c_m_feed_ok tyX11 tyX11_ok nmX11 hown hK hP hD hS 0 rfl rfl 2 (by decide) (hts (.fieldLink RX11 75 "NotAtOnceModel" "taped" "I") (by decide +kernel)) (fun _ h9 => h9) rfl (by decide +kernel) rfl rfl (Nat.le_of_ble_eq_true rfl) dX11_feed_111 (fun H locs hP hD hS => ?_)
  have hP : va_P (dC, dI) vwCl [(k0, .inr (11, [.int 0, .ref m_tape, .int (nI (k + 1 + 1 + 1 + 1 + 1 + 1 + 1 + 1 + 1 + 1 + 1 + 1 + 1)), .int m_size, .int m_at, .int m_end, .int m_token, .int m_whole, .int m_nameSize, .int m_fault, .int m_place, .int m_trouble, .ref m_letters, .int m_failed, .int m_hasBook, .ref m_r, .ref m_fresh, .ref m_coins, .ref m_was, .ref m_undone, .ref m_redone, .ref m_marked, .ref m_undoneActs, .ref m_redoneActs, .int m_undos, .int m_redos, .int m_marks, .ref m_tab, .ref m_basis, .long m_below, .int m_rows, .int m_wide, .ref m_corner, .ref m_squares, .int m_cornerMany, .ref m_chosen, .int m_colourMany, .int m_mostOnes, .ref m_tells, .ref m_goes])), (m_tape, .inl (cT, 900, .inl (f_133)))] H := hP
  have hD : va_D A [(k0, .inr (11, [.int 0, .ref m_tape, .int (nI (k + 1 + 1 + 1 + 1 + 1 + 1 + 1 + 1 + 1 + 1 + 1 + 1 + 1)), .int m_size, .int m_at, .int m_end, .int m_token, .int m_whole, .int m_nameSize, .int m_fault, .int m_place, .int m_trouble, .ref m_letters, .int m_failed, .int m_hasBook, .ref m_r, .ref m_fresh, .ref m_coins, .ref m_was, .ref m_undone, .ref m_redone, .ref m_marked, .ref m_undoneActs, .ref m_redoneActs, .int m_undos, .int m_redos, .int m_marks, .ref m_tab, .ref m_basis, .long m_below, .int m_rows, .int m_wide, .ref m_corner, .ref m_squares, .int m_cornerMany, .ref m_chosen, .int m_colourMany, .int m_mostOnes, .ref m_tells, .ref m_goes])), (m_tape, .inl (cT, 900, .inl (f_133)))] := hD
  refine lv_iinc (v := 13) (lv' := [(6, .int 13), (7, .int p3), (0, .ref k0), (1, .int p0), (2, .int p1), (3, .int p2), (4, .int p3), (5, .int p4)]) hx hb dX11_feed_114 hl (k := 1) rfl (by decide) (by decide) rfl (fun ls hl => ?_)
  refine lv_goto (tgt := 23) hx hb dX11_feed_117 (by decide) ?_
  refine lv_iload hx hb dX11_feed_23 (lv_at hl 0 rfl) ?_
  refine lv_bipush (v := 20) hx hb dX11_feed_25 (by decide) ?_
  refine lv_icmp_ge (tgt := 120) hx hb dX11_feed_27 (by decide) (fun c_135 => absurd c_135 (by decide)) (fun c_135 => ?_)
  refine lv_iload hx hb dX11_feed_30 (lv_at hl 0 rfl) ?_
  refine lv_iconst (v := 4) hx hb dX11_feed_32 (by decide) ?_
  refine lv_icmp_ge (tgt := 40) hx hb dX11_feed_33 (by decide) (fun c_136 => ?_) (fun c_136 => absurd c_136 (by decide))
  refine lv_iload hx hb dX11_feed_40 (lv_at hl 0 rfl) ?_
  refine lv_bipush (v := 8) hx hb dX11_feed_42 (by decide) ?_
  refine lv_icmp_ge (tgt := 51) hx hb dX11_feed_44 (by decide) (fun c_137 => ?_) (fun c_137 => absurd c_137 (by decide))
  refine lv_iload hx hb dX11_feed_51 (lv_at hl 0 rfl) ?_
  refine lv_bipush (v := 12) hx hb dX11_feed_53 (by decide) ?_
  refine lv_icmp_ge (tgt := 62) hx hb dX11_feed_55 (by decide) (fun c_138 => ?_) (fun c_138 => absurd c_138 (by decide))
  refine lv_iload hx hb dX11_feed_62 (lv_at hl 0 rfl) ?_
  refine lv_bipush (v := 16) hx hb dX11_feed_64 (by decide) ?_
  refine lv_icmp_ge (tgt := 74) hx hb dX11_feed_66 (by decide) (fun c_139 => absurd c_139 (by decide)) (fun c_139 => ?_)
  refine lv_iload hx hb dX11_feed_69 (lv_at hl 6 rfl) ?_
  refine lv_goto (tgt := 76) hx hb dX11_feed_71 (by decide) ?_
  refine lv_istore (lv' := [(7, .int p3), (6, .int 13), (0, .ref k0), (1, .int p0), (2, .int p1), (3, .int p2), (4, .int p3), (5, .int p4)]) hx hb dX11_feed_76 hl (by decide) rfl (fun ls hl => ?_)
  refine lv_aload_n hx hb dX11_feed_78 rfl (lv_at hl 2 rfl) ?_
  refine va_get (D := (dC, dI)) (ci := 11) (v := .ref m_tape) (C := RX11) (T := TX11) (N := 40) hx hb hts iw_X11_feed_X11_c_m_feed_ok hown hK hP 0 rfl rfl 1 (by decide) (hts (.fieldLink RX11 7 "NotAtOnceModel" "tape" "[I") (by decide +kernel)) (fun _ h9 => h9) rfl dX11_feed_79 ?_
  refine lv_aload_n hx hb dX11_feed_82 rfl (lv_at hl 2 rfl) ?_
  refine va_get (D := (dC, dI)) (ci := 11) (v := .int (nI (k + 1 + 1 + 1 + 1 + 1 + 1 + 1 + 1 + 1 + 1 + 1 + 1 + 1))) (C := RX11) (T := TX11) (N := 40) hx hb hts iw_X11_feed_X11_c_m_feed_ok hown hK hP 0 rfl rfl 2 (by decide) (hts (.fieldLink RX11 75 "NotAtOnceModel" "taped" "I") (by decide +kernel)) (fun _ h9 => h9) rfl dX11_feed_83 ?_
  refine lv_iload hx hb dX11_feed_86 (lv_at hl 0 rfl) ?_
  refine lv_bipush (v := 24) hx hb dX11_feed_88 (by decide) ?_
  refine lv_bipush (v := 8) hx hb dX11_feed_90 (by decide) ?_
  refine lv_iload hx hb dX11_feed_92 (lv_at hl 1 rfl) ?_
  refine lv_iconst (v := 4) hx hb dX11_feed_94 (by decide) ?_
  refine lv_irem hx hb dX11_feed_95 (by decide) ?_
  refine lv_topi (fun v_140 ev_140 => ?_)
  obtain rfl : v_140 = 1 := ev_140.trans (by decide)
  refine lv_imul hx hb dX11_feed_96 ?_
  refine lv_topi (fun v_141 ev_141 => ?_)
  obtain rfl : v_141 = 8 := ev_141.trans (by decide)
  refine lv_isub hx hb dX11_feed_97 ?_
  refine lv_topi (fun v_142 ev_142 => ?_)
  obtain rfl : v_142 = 16 := ev_142.trans (by decide)
  refine lv_ishr hx hb dX11_feed_98 ?_
  refine lv_topi (fun v_143 ev_143 => ?_)
  refine lv_sipush (v := 255) hx hb dX11_feed_99 (by decide) ?_
  refine lv_iand hx hb dX11_feed_102 ?_
  refine lv_topi (fun v_144 ev_144 => ?_)
  refine va_iast hx hb hK hP hD hS 1 0 rfl rfl (vp_in_nI (by omega) (by decide)) dX11_feed_103 (fun H locs hP hD hS => ?_)
  obtain ⟨f_145, ef_145⟩ : ∃ g : Nat → Int32, g = upd (f_133) (Int32.toNatClampNeg (nI (k + 1 + 1 + 1 + 1 + 1 + 1 + 1 + 1 + 1 + 1 + 1 + 1 + 1))) v_144 := ⟨_, rfl⟩
  have hP : va_P (dC, dI) vwCl [(k0, .inr (11, [.int 0, .ref m_tape, .int (nI (k + 1 + 1 + 1 + 1 + 1 + 1 + 1 + 1 + 1 + 1 + 1 + 1 + 1)), .int m_size, .int m_at, .int m_end, .int m_token, .int m_whole, .int m_nameSize, .int m_fault, .int m_place, .int m_trouble, .ref m_letters, .int m_failed, .int m_hasBook, .ref m_r, .ref m_fresh, .ref m_coins, .ref m_was, .ref m_undone, .ref m_redone, .ref m_marked, .ref m_undoneActs, .ref m_redoneActs, .int m_undos, .int m_redos, .int m_marks, .ref m_tab, .ref m_basis, .long m_below, .int m_rows, .int m_wide, .ref m_corner, .ref m_squares, .int m_cornerMany, .ref m_chosen, .int m_colourMany, .int m_mostOnes, .ref m_tells, .ref m_goes])), (m_tape, .inl (cT, 900, .inl (f_145)))] H := by rw [ef_145]; exact hP
  have hD : va_D A [(k0, .inr (11, [.int 0, .ref m_tape, .int (nI (k + 1 + 1 + 1 + 1 + 1 + 1 + 1 + 1 + 1 + 1 + 1 + 1 + 1)), .int m_size, .int m_at, .int m_end, .int m_token, .int m_whole, .int m_nameSize, .int m_fault, .int m_place, .int m_trouble, .ref m_letters, .int m_failed, .int m_hasBook, .ref m_r, .ref m_fresh, .ref m_coins, .ref m_was, .ref m_undone, .ref m_redone, .ref m_marked, .ref m_undoneActs, .ref m_redoneActs, .int m_undos, .int m_redos, .int m_marks, .ref m_tab, .ref m_basis, .long m_below, .int m_rows, .int m_wide, .ref m_corner, .ref m_squares, .int m_cornerMany, .ref m_chosen, .int m_colourMany, .int m_mostOnes, .ref m_tells, .ref m_goes])), (m_tape, .inl (cT, 900, .inl (f_145)))] := by rw [ef_145]; exact hD
  refine lv_aload_n hx hb dX11_feed_104 rfl (lv_at hl 2 rfl) ?_
  refine lv_dup hx hb dX11_feed_105 rfl ?_
  refine va_get (D := (dC, dI)) (ci := 11) (v := .int (nI (k + 1 + 1 + 1 + 1 + 1 + 1 + 1 + 1 + 1 + 1 + 1 + 1 + 1))) (C := RX11) (T := TX11) (N := 40) hx hb hts iw_X11_feed_X11_c_m_feed_ok hown hK hP 0 rfl rfl 2 (by decide) (hts (.fieldLink RX11 75 "NotAtOnceModel" "taped" "I") (by decide +kernel)) (fun _ h9 => h9) rfl dX11_feed_106 ?_
  refine lv_iconst (v := 1) hx hb dX11_feed_109 (by decide) ?_
  refine lv_iadd hx hb dX11_feed_110 ?_
  refine lv_topi (fun v_146 ev_146 => ?_)
  obtain rfl : v_146 = nI (k + 1 + 1 + 1 + 1 + 1 + 1 + 1 + 1 + 1 + 1 + 1 + 1 + 1 + 1) := ev_146.trans (by rw [show (1 : Int32) = nI 1 from by decide, nI_add])
  refine va_put (D := (dC, dI)) (ci := 11) (v := .int (nI (k + 1 + 1 + 1 + 1 + 1 + 1 + 1 + 1 + 1 + 1 + 1 + 1 + 1 + 1))) (ty := .int) (C := RX11) (T := TX11) (N := 40) hx hb hts iw_X11_feed_X11_c_m_feed_ok tyX11 tyX11_ok nmX11 hown hK hP hD hS 0 rfl rfl 2 (by decide) (hts (.fieldLink RX11 75 "NotAtOnceModel" "taped" "I") (by decide +kernel)) (fun _ h9 => h9) rfl (by decide +kernel) rfl rfl (Nat.le_of_ble_eq_true rfl) dX11_feed_111 (fun H locs hP hD hS => ?_)
  have hP : va_P (dC, dI) vwCl [(k0, .inr (11, [.int 0, .ref m_tape, .int (nI (k + 1 + 1 + 1 + 1 + 1 + 1 + 1 + 1 + 1 + 1 + 1 + 1 + 1 + 1)), .int m_size, .int m_at, .int m_end, .int m_token, .int m_whole, .int m_nameSize, .int m_fault, .int m_place, .int m_trouble, .ref m_letters, .int m_failed, .int m_hasBook, .ref m_r, .ref m_fresh, .ref m_coins, .ref m_was, .ref m_undone, .ref m_redone, .ref m_marked, .ref m_undoneActs, .ref m_redoneActs, .int m_undos, .int m_redos, .int m_marks, .ref m_tab, .ref m_basis, .long m_below, .int m_rows, .int m_wide, .ref m_corner, .ref m_squares, .int m_cornerMany, .ref m_chosen, .int m_colourMany, .int m_mostOnes, .ref m_tells, .ref m_goes])), (m_tape, .inl (cT, 900, .inl (f_145)))] H := hP
  have hD : va_D A [(k0, .inr (11, [.int 0, .ref m_tape, .int (nI (k + 1 + 1 + 1 + 1 + 1 + 1 + 1 + 1 + 1 + 1 + 1 + 1 + 1 + 1)), .int m_size, .int m_at, .int m_end, .int m_token, .int m_whole, .int m_nameSize, .int m_fault, .int m_place, .int m_trouble, .ref m_letters, .int m_failed, .int m_hasBook, .ref m_r, .ref m_fresh, .ref m_coins, .ref m_was, .ref m_undone, .ref m_redone, .ref m_marked, .ref m_undoneActs, .ref m_redoneActs, .int m_undos, .int m_redos, .int m_marks, .ref m_tab, .ref m_basis, .long m_below, .int m_rows, .int m_wide, .ref m_corner, .ref m_squares, .int m_cornerMany, .ref m_chosen, .int m_colourMany, .int m_mostOnes, .ref m_tells, .ref m_goes])), (m_tape, .inl (cT, 900, .inl (f_145)))] := hD
  refine lv_iinc (v := 14) (lv' := [(6, .int 14), (7, .int p3), (0, .ref k0), (1, .int p0), (2, .int p1), (3, .int p2), (4, .int p3), (5, .int p4)]) hx hb dX11_feed_114 hl (k := 1) rfl (by decide) (by decide) rfl (fun ls hl => ?_)
  refine lv_goto (tgt := 23) hx hb dX11_feed_117 (by decide) ?_
  refine lv_iload hx hb dX11_feed_23 (lv_at hl 0 rfl) ?_
  refine lv_bipush (v := 20) hx hb dX11_feed_25 (by decide) ?_
  refine lv_icmp_ge (tgt := 120) hx hb dX11_feed_27 (by decide) (fun c_147 => absurd c_147 (by decide)) (fun c_147 => ?_)
  refine lv_iload hx hb dX11_feed_30 (lv_at hl 0 rfl) ?_
  refine lv_iconst (v := 4) hx hb dX11_feed_32 (by decide) ?_
  refine lv_icmp_ge (tgt := 40) hx hb dX11_feed_33 (by decide) (fun c_148 => ?_) (fun c_148 => absurd c_148 (by decide))
  refine lv_iload hx hb dX11_feed_40 (lv_at hl 0 rfl) ?_
  refine lv_bipush (v := 8) hx hb dX11_feed_42 (by decide) ?_
  refine lv_icmp_ge (tgt := 51) hx hb dX11_feed_44 (by decide) (fun c_149 => ?_) (fun c_149 => absurd c_149 (by decide))
  refine lv_iload hx hb dX11_feed_51 (lv_at hl 0 rfl) ?_
  refine lv_bipush (v := 12) hx hb dX11_feed_53 (by decide) ?_
  refine lv_icmp_ge (tgt := 62) hx hb dX11_feed_55 (by decide) (fun c_150 => ?_) (fun c_150 => absurd c_150 (by decide))
  refine lv_iload hx hb dX11_feed_62 (lv_at hl 0 rfl) ?_
  refine lv_bipush (v := 16) hx hb dX11_feed_64 (by decide) ?_
  refine lv_icmp_ge (tgt := 74) hx hb dX11_feed_66 (by decide) (fun c_151 => absurd c_151 (by decide)) (fun c_151 => ?_)
  refine lv_iload hx hb dX11_feed_69 (lv_at hl 6 rfl) ?_
  refine lv_goto (tgt := 76) hx hb dX11_feed_71 (by decide) ?_
  refine lv_istore (lv' := [(7, .int p3), (6, .int 14), (0, .ref k0), (1, .int p0), (2, .int p1), (3, .int p2), (4, .int p3), (5, .int p4)]) hx hb dX11_feed_76 hl (by decide) rfl (fun ls hl => ?_)
  refine lv_aload_n hx hb dX11_feed_78 rfl (lv_at hl 2 rfl) ?_
  refine va_get (D := (dC, dI)) (ci := 11) (v := .ref m_tape) (C := RX11) (T := TX11) (N := 40) hx hb hts iw_X11_feed_X11_c_m_feed_ok hown hK hP 0 rfl rfl 1 (by decide) (hts (.fieldLink RX11 7 "NotAtOnceModel" "tape" "[I") (by decide +kernel)) (fun _ h9 => h9) rfl dX11_feed_79 ?_
  refine lv_aload_n hx hb dX11_feed_82 rfl (lv_at hl 2 rfl) ?_
  refine va_get (D := (dC, dI)) (ci := 11) (v := .int (nI (k + 1 + 1 + 1 + 1 + 1 + 1 + 1 + 1 + 1 + 1 + 1 + 1 + 1 + 1))) (C := RX11) (T := TX11) (N := 40) hx hb hts iw_X11_feed_X11_c_m_feed_ok hown hK hP 0 rfl rfl 2 (by decide) (hts (.fieldLink RX11 75 "NotAtOnceModel" "taped" "I") (by decide +kernel)) (fun _ h9 => h9) rfl dX11_feed_83 ?_
  refine lv_iload hx hb dX11_feed_86 (lv_at hl 0 rfl) ?_
  refine lv_bipush (v := 24) hx hb dX11_feed_88 (by decide) ?_
  refine lv_bipush (v := 8) hx hb dX11_feed_90 (by decide) ?_
  refine lv_iload hx hb dX11_feed_92 (lv_at hl 1 rfl) ?_
  refine lv_iconst (v := 4) hx hb dX11_feed_94 (by decide) ?_
  refine lv_irem hx hb dX11_feed_95 (by decide) ?_
  refine lv_topi (fun v_152 ev_152 => ?_)
  obtain rfl : v_152 = 2 := ev_152.trans (by decide)
  refine lv_imul hx hb dX11_feed_96 ?_
  refine lv_topi (fun v_153 ev_153 => ?_)
  obtain rfl : v_153 = 16 := ev_153.trans (by decide)
  refine lv_isub hx hb dX11_feed_97 ?_
  refine lv_topi (fun v_154 ev_154 => ?_)
  obtain rfl : v_154 = 8 := ev_154.trans (by decide)
  refine lv_ishr hx hb dX11_feed_98 ?_
  refine lv_topi (fun v_155 ev_155 => ?_)
  refine lv_sipush (v := 255) hx hb dX11_feed_99 (by decide) ?_
  refine lv_iand hx hb dX11_feed_102 ?_
  refine lv_topi (fun v_156 ev_156 => ?_)
  refine va_iast hx hb hK hP hD hS 1 0 rfl rfl (vp_in_nI (by omega) (by decide)) dX11_feed_103 (fun H locs hP hD hS => ?_)
  obtain ⟨f_157, ef_157⟩ : ∃ g : Nat → Int32, g = upd (f_145) (Int32.toNatClampNeg (nI (k + 1 + 1 + 1 + 1 + 1 + 1 + 1 + 1 + 1 + 1 + 1 + 1 + 1 + 1))) v_156 := ⟨_, rfl⟩
  have hP : va_P (dC, dI) vwCl [(k0, .inr (11, [.int 0, .ref m_tape, .int (nI (k + 1 + 1 + 1 + 1 + 1 + 1 + 1 + 1 + 1 + 1 + 1 + 1 + 1 + 1)), .int m_size, .int m_at, .int m_end, .int m_token, .int m_whole, .int m_nameSize, .int m_fault, .int m_place, .int m_trouble, .ref m_letters, .int m_failed, .int m_hasBook, .ref m_r, .ref m_fresh, .ref m_coins, .ref m_was, .ref m_undone, .ref m_redone, .ref m_marked, .ref m_undoneActs, .ref m_redoneActs, .int m_undos, .int m_redos, .int m_marks, .ref m_tab, .ref m_basis, .long m_below, .int m_rows, .int m_wide, .ref m_corner, .ref m_squares, .int m_cornerMany, .ref m_chosen, .int m_colourMany, .int m_mostOnes, .ref m_tells, .ref m_goes])), (m_tape, .inl (cT, 900, .inl (f_157)))] H := by rw [ef_157]; exact hP
  have hD : va_D A [(k0, .inr (11, [.int 0, .ref m_tape, .int (nI (k + 1 + 1 + 1 + 1 + 1 + 1 + 1 + 1 + 1 + 1 + 1 + 1 + 1 + 1)), .int m_size, .int m_at, .int m_end, .int m_token, .int m_whole, .int m_nameSize, .int m_fault, .int m_place, .int m_trouble, .ref m_letters, .int m_failed, .int m_hasBook, .ref m_r, .ref m_fresh, .ref m_coins, .ref m_was, .ref m_undone, .ref m_redone, .ref m_marked, .ref m_undoneActs, .ref m_redoneActs, .int m_undos, .int m_redos, .int m_marks, .ref m_tab, .ref m_basis, .long m_below, .int m_rows, .int m_wide, .ref m_corner, .ref m_squares, .int m_cornerMany, .ref m_chosen, .int m_colourMany, .int m_mostOnes, .ref m_tells, .ref m_goes])), (m_tape, .inl (cT, 900, .inl (f_157)))] := by rw [ef_157]; exact hD
  refine lv_aload_n hx hb dX11_feed_104 rfl (lv_at hl 2 rfl) ?_
  refine lv_dup hx hb dX11_feed_105 rfl ?_
  refine va_get (D := (dC, dI)) (ci := 11) (v := .int (nI (k + 1 + 1 + 1 + 1 + 1 + 1 + 1 + 1 + 1 + 1 + 1 + 1 + 1 + 1))) (C := RX11) (T := TX11) (N := 40) hx hb hts iw_X11_feed_X11_c_m_feed_ok hown hK hP 0 rfl rfl 2 (by decide) (hts (.fieldLink RX11 75 "NotAtOnceModel" "taped" "I") (by decide +kernel)) (fun _ h9 => h9) rfl dX11_feed_106 ?_
  refine lv_iconst (v := 1) hx hb dX11_feed_109 (by decide) ?_
  refine lv_iadd hx hb dX11_feed_110 ?_
  refine lv_topi (fun v_158 ev_158 => ?_)
  obtain rfl : v_158 = nI (k + 1 + 1 + 1 + 1 + 1 + 1 + 1 + 1 + 1 + 1 + 1 + 1 + 1 + 1 + 1) := ev_158.trans (by rw [show (1 : Int32) = nI 1 from by decide, nI_add])
  refine va_put (D := (dC, dI)) (ci := 11) (v := .int (nI (k + 1 + 1 + 1 + 1 + 1 + 1 + 1 + 1 + 1 + 1 + 1 + 1 + 1 + 1 + 1))) (ty := .int) (C := RX11) (T := TX11) (N := 40) hx hb hts iw_X11_feed_X11_c_m_feed_ok tyX11 tyX11_ok nmX11 hown hK hP hD hS 0 rfl rfl 2 (by decide) (hts (.fieldLink RX11 75 "NotAtOnceModel" "taped" "I") (by decide +kernel)) (fun _ h9 => h9) rfl (by decide +kernel) rfl rfl (Nat.le_of_ble_eq_true rfl) dX11_feed_111 (fun H locs hP hD hS => ?_)
  have hP : va_P (dC, dI) vwCl [(k0, .inr (11, [.int 0, .ref m_tape, .int (nI (k + 1 + 1 + 1 + 1 + 1 + 1 + 1 + 1 + 1 + 1 + 1 + 1 + 1 + 1 + 1)), .int m_size, .int m_at, .int m_end, .int m_token, .int m_whole, .int m_nameSize, .int m_fault, .int m_place, .int m_trouble, .ref m_letters, .int m_failed, .int m_hasBook, .ref m_r, .ref m_fresh, .ref m_coins, .ref m_was, .ref m_undone, .ref m_redone, .ref m_marked, .ref m_undoneActs, .ref m_redoneActs, .int m_undos, .int m_redos, .int m_marks, .ref m_tab, .ref m_basis, .long m_below, .int m_rows, .int m_wide, .ref m_corner, .ref m_squares, .int m_cornerMany, .ref m_chosen, .int m_colourMany, .int m_mostOnes, .ref m_tells, .ref m_goes])), (m_tape, .inl (cT, 900, .inl (f_157)))] H := hP
  have hD : va_D A [(k0, .inr (11, [.int 0, .ref m_tape, .int (nI (k + 1 + 1 + 1 + 1 + 1 + 1 + 1 + 1 + 1 + 1 + 1 + 1 + 1 + 1 + 1)), .int m_size, .int m_at, .int m_end, .int m_token, .int m_whole, .int m_nameSize, .int m_fault, .int m_place, .int m_trouble, .ref m_letters, .int m_failed, .int m_hasBook, .ref m_r, .ref m_fresh, .ref m_coins, .ref m_was, .ref m_undone, .ref m_redone, .ref m_marked, .ref m_undoneActs, .ref m_redoneActs, .int m_undos, .int m_redos, .int m_marks, .ref m_tab, .ref m_basis, .long m_below, .int m_rows, .int m_wide, .ref m_corner, .ref m_squares, .int m_cornerMany, .ref m_chosen, .int m_colourMany, .int m_mostOnes, .ref m_tells, .ref m_goes])), (m_tape, .inl (cT, 900, .inl (f_157)))] := hD
  refine lv_iinc (v := 15) (lv' := [(6, .int 15), (7, .int p3), (0, .ref k0), (1, .int p0), (2, .int p1), (3, .int p2), (4, .int p3), (5, .int p4)]) hx hb dX11_feed_114 hl (k := 1) rfl (by decide) (by decide) rfl (fun ls hl => ?_)
  refine lv_goto (tgt := 23) hx hb dX11_feed_117 (by decide) ?_
  refine lv_iload hx hb dX11_feed_23 (lv_at hl 0 rfl) ?_
  refine lv_bipush (v := 20) hx hb dX11_feed_25 (by decide) ?_
  refine lv_icmp_ge (tgt := 120) hx hb dX11_feed_27 (by decide) (fun c_159 => absurd c_159 (by decide)) (fun c_159 => ?_)
  refine lv_iload hx hb dX11_feed_30 (lv_at hl 0 rfl) ?_
  refine lv_iconst (v := 4) hx hb dX11_feed_32 (by decide) ?_
  refine lv_icmp_ge (tgt := 40) hx hb dX11_feed_33 (by decide) (fun c_160 => ?_) (fun c_160 => absurd c_160 (by decide))
  refine lv_iload hx hb dX11_feed_40 (lv_at hl 0 rfl) ?_
  refine lv_bipush (v := 8) hx hb dX11_feed_42 (by decide) ?_
  refine lv_icmp_ge (tgt := 51) hx hb dX11_feed_44 (by decide) (fun c_161 => ?_) (fun c_161 => absurd c_161 (by decide))
  refine lv_iload hx hb dX11_feed_51 (lv_at hl 0 rfl) ?_
  refine lv_bipush (v := 12) hx hb dX11_feed_53 (by decide) ?_
  refine lv_icmp_ge (tgt := 62) hx hb dX11_feed_55 (by decide) (fun c_162 => ?_) (fun c_162 => absurd c_162 (by decide))
  refine lv_iload hx hb dX11_feed_62 (lv_at hl 0 rfl) ?_
  refine lv_bipush (v := 16) hx hb dX11_feed_64 (by decide) ?_
  refine lv_icmp_ge (tgt := 74) hx hb dX11_feed_66 (by decide) (fun c_163 => absurd c_163 (by decide)) (fun c_163 => ?_)
  refine lv_iload hx hb dX11_feed_69 (lv_at hl 6 rfl) ?_
  refine lv_goto (tgt := 76) hx hb dX11_feed_71 (by decide) ?_
  refine lv_istore (lv' := [(7, .int p3), (6, .int 15), (0, .ref k0), (1, .int p0), (2, .int p1), (3, .int p2), (4, .int p3), (5, .int p4)]) hx hb dX11_feed_76 hl (by decide) rfl (fun ls hl => ?_)
  refine lv_aload_n hx hb dX11_feed_78 rfl (lv_at hl 2 rfl) ?_
  refine va_get (D := (dC, dI)) (ci := 11) (v := .ref m_tape) (C := RX11) (T := TX11) (N := 40) hx hb hts iw_X11_feed_X11_c_m_feed_ok hown hK hP 0 rfl rfl 1 (by decide) (hts (.fieldLink RX11 7 "NotAtOnceModel" "tape" "[I") (by decide +kernel)) (fun _ h9 => h9) rfl dX11_feed_79 ?_
  refine lv_aload_n hx hb dX11_feed_82 rfl (lv_at hl 2 rfl) ?_
  refine va_get (D := (dC, dI)) (ci := 11) (v := .int (nI (k + 1 + 1 + 1 + 1 + 1 + 1 + 1 + 1 + 1 + 1 + 1 + 1 + 1 + 1 + 1))) (C := RX11) (T := TX11) (N := 40) hx hb hts iw_X11_feed_X11_c_m_feed_ok hown hK hP 0 rfl rfl 2 (by decide) (hts (.fieldLink RX11 75 "NotAtOnceModel" "taped" "I") (by decide +kernel)) (fun _ h9 => h9) rfl dX11_feed_83 ?_
  refine lv_iload hx hb dX11_feed_86 (lv_at hl 0 rfl) ?_
  refine lv_bipush (v := 24) hx hb dX11_feed_88 (by decide) ?_
  refine lv_bipush (v := 8) hx hb dX11_feed_90 (by decide) ?_
  refine lv_iload hx hb dX11_feed_92 (lv_at hl 1 rfl) ?_
  refine lv_iconst (v := 4) hx hb dX11_feed_94 (by decide) ?_
  refine lv_irem hx hb dX11_feed_95 (by decide) ?_
  refine lv_topi (fun v_164 ev_164 => ?_)
  obtain rfl : v_164 = 3 := ev_164.trans (by decide)
  refine lv_imul hx hb dX11_feed_96 ?_
  refine lv_topi (fun v_165 ev_165 => ?_)
  obtain rfl : v_165 = 24 := ev_165.trans (by decide)
  refine lv_isub hx hb dX11_feed_97 ?_
  refine lv_topi (fun v_166 ev_166 => ?_)
  obtain rfl : v_166 = 0 := ev_166.trans (by decide)
  refine lv_ishr hx hb dX11_feed_98 ?_
  refine lv_topi (fun v_167 ev_167 => ?_)
  refine lv_sipush (v := 255) hx hb dX11_feed_99 (by decide) ?_
  refine lv_iand hx hb dX11_feed_102 ?_
  refine lv_topi (fun v_168 ev_168 => ?_)
  refine va_iast hx hb hK hP hD hS 1 0 rfl rfl (vp_in_nI (by omega) (by decide)) dX11_feed_103 (fun H locs hP hD hS => ?_)
  obtain ⟨f_169, ef_169⟩ : ∃ g : Nat → Int32, g = upd (f_157) (Int32.toNatClampNeg (nI (k + 1 + 1 + 1 + 1 + 1 + 1 + 1 + 1 + 1 + 1 + 1 + 1 + 1 + 1 + 1))) v_168 := ⟨_, rfl⟩
  have hP : va_P (dC, dI) vwCl [(k0, .inr (11, [.int 0, .ref m_tape, .int (nI (k + 1 + 1 + 1 + 1 + 1 + 1 + 1 + 1 + 1 + 1 + 1 + 1 + 1 + 1 + 1)), .int m_size, .int m_at, .int m_end, .int m_token, .int m_whole, .int m_nameSize, .int m_fault, .int m_place, .int m_trouble, .ref m_letters, .int m_failed, .int m_hasBook, .ref m_r, .ref m_fresh, .ref m_coins, .ref m_was, .ref m_undone, .ref m_redone, .ref m_marked, .ref m_undoneActs, .ref m_redoneActs, .int m_undos, .int m_redos, .int m_marks, .ref m_tab, .ref m_basis, .long m_below, .int m_rows, .int m_wide, .ref m_corner, .ref m_squares, .int m_cornerMany, .ref m_chosen, .int m_colourMany, .int m_mostOnes, .ref m_tells, .ref m_goes])), (m_tape, .inl (cT, 900, .inl (f_169)))] H := by rw [ef_169]; exact hP
  have hD : va_D A [(k0, .inr (11, [.int 0, .ref m_tape, .int (nI (k + 1 + 1 + 1 + 1 + 1 + 1 + 1 + 1 + 1 + 1 + 1 + 1 + 1 + 1 + 1)), .int m_size, .int m_at, .int m_end, .int m_token, .int m_whole, .int m_nameSize, .int m_fault, .int m_place, .int m_trouble, .ref m_letters, .int m_failed, .int m_hasBook, .ref m_r, .ref m_fresh, .ref m_coins, .ref m_was, .ref m_undone, .ref m_redone, .ref m_marked, .ref m_undoneActs, .ref m_redoneActs, .int m_undos, .int m_redos, .int m_marks, .ref m_tab, .ref m_basis, .long m_below, .int m_rows, .int m_wide, .ref m_corner, .ref m_squares, .int m_cornerMany, .ref m_chosen, .int m_colourMany, .int m_mostOnes, .ref m_tells, .ref m_goes])), (m_tape, .inl (cT, 900, .inl (f_169)))] := by rw [ef_169]; exact hD
  refine lv_aload_n hx hb dX11_feed_104 rfl (lv_at hl 2 rfl) ?_
  refine lv_dup hx hb dX11_feed_105 rfl ?_
  refine va_get (D := (dC, dI)) (ci := 11) (v := .int (nI (k + 1 + 1 + 1 + 1 + 1 + 1 + 1 + 1 + 1 + 1 + 1 + 1 + 1 + 1 + 1))) (C := RX11) (T := TX11) (N := 40) hx hb hts iw_X11_feed_X11_c_m_feed_ok hown hK hP 0 rfl rfl 2 (by decide) (hts (.fieldLink RX11 75 "NotAtOnceModel" "taped" "I") (by decide +kernel)) (fun _ h9 => h9) rfl dX11_feed_106 ?_
  refine lv_iconst (v := 1) hx hb dX11_feed_109 (by decide) ?_
  refine lv_iadd hx hb dX11_feed_110 ?_
  refine lv_topi (fun v_170 ev_170 => ?_)
  obtain rfl : v_170 = nI (k + 1 + 1 + 1 + 1 + 1 + 1 + 1 + 1 + 1 + 1 + 1 + 1 + 1 + 1 + 1 + 1) := ev_170.trans (by rw [show (1 : Int32) = nI 1 from by decide, nI_add])
  refine va_put (D := (dC, dI)) (ci := 11) (v := .int (nI (k + 1 + 1 + 1 + 1 + 1 + 1 + 1 + 1 + 1 + 1 + 1 + 1 + 1 + 1 + 1 + 1))) (ty := .int) (C := RX11) (T := TX11) (N := 40) hx hb hts iw_X11_feed_X11_c_m_feed_ok tyX11 tyX11_ok nmX11 hown hK hP hD hS 0 rfl rfl 2 (by decide) (hts (.fieldLink RX11 75 "NotAtOnceModel" "taped" "I") (by decide +kernel)) (fun _ h9 => h9) rfl (by decide +kernel) rfl rfl (Nat.le_of_ble_eq_true rfl) dX11_feed_111 (fun H locs hP hD hS => ?_)
  have hP : va_P (dC, dI) vwCl [(k0, .inr (11, [.int 0, .ref m_tape, .int (nI (k + 1 + 1 + 1 + 1 + 1 + 1 + 1 + 1 + 1 + 1 + 1 + 1 + 1 + 1 + 1 + 1)), .int m_size, .int m_at, .int m_end, .int m_token, .int m_whole, .int m_nameSize, .int m_fault, .int m_place, .int m_trouble, .ref m_letters, .int m_failed, .int m_hasBook, .ref m_r, .ref m_fresh, .ref m_coins, .ref m_was, .ref m_undone, .ref m_redone, .ref m_marked, .ref m_undoneActs, .ref m_redoneActs, .int m_undos, .int m_redos, .int m_marks, .ref m_tab, .ref m_basis, .long m_below, .int m_rows, .int m_wide, .ref m_corner, .ref m_squares, .int m_cornerMany, .ref m_chosen, .int m_colourMany, .int m_mostOnes, .ref m_tells, .ref m_goes])), (m_tape, .inl (cT, 900, .inl (f_169)))] H := hP
  have hD : va_D A [(k0, .inr (11, [.int 0, .ref m_tape, .int (nI (k + 1 + 1 + 1 + 1 + 1 + 1 + 1 + 1 + 1 + 1 + 1 + 1 + 1 + 1 + 1 + 1)), .int m_size, .int m_at, .int m_end, .int m_token, .int m_whole, .int m_nameSize, .int m_fault, .int m_place, .int m_trouble, .ref m_letters, .int m_failed, .int m_hasBook, .ref m_r, .ref m_fresh, .ref m_coins, .ref m_was, .ref m_undone, .ref m_redone, .ref m_marked, .ref m_undoneActs, .ref m_redoneActs, .int m_undos, .int m_redos, .int m_marks, .ref m_tab, .ref m_basis, .long m_below, .int m_rows, .int m_wide, .ref m_corner, .ref m_squares, .int m_cornerMany, .ref m_chosen, .int m_colourMany, .int m_mostOnes, .ref m_tells, .ref m_goes])), (m_tape, .inl (cT, 900, .inl (f_169)))] := hD
  refine lv_iinc (v := 16) (lv' := [(6, .int 16), (7, .int p3), (0, .ref k0), (1, .int p0), (2, .int p1), (3, .int p2), (4, .int p3), (5, .int p4)]) hx hb dX11_feed_114 hl (k := 1) rfl (by decide) (by decide) rfl (fun ls hl => ?_)
  refine lv_goto (tgt := 23) hx hb dX11_feed_117 (by decide) ?_
  refine lv_iload hx hb dX11_feed_23 (lv_at hl 0 rfl) ?_
  refine lv_bipush (v := 20) hx hb dX11_feed_25 (by decide) ?_
  refine lv_icmp_ge (tgt := 120) hx hb dX11_feed_27 (by decide) (fun c_171 => absurd c_171 (by decide)) (fun c_171 => ?_)
  refine lv_iload hx hb dX11_feed_30 (lv_at hl 0 rfl) ?_
  refine lv_iconst (v := 4) hx hb dX11_feed_32 (by decide) ?_
  refine lv_icmp_ge (tgt := 40) hx hb dX11_feed_33 (by decide) (fun c_172 => ?_) (fun c_172 => absurd c_172 (by decide))
  refine lv_iload hx hb dX11_feed_40 (lv_at hl 0 rfl) ?_
  refine lv_bipush (v := 8) hx hb dX11_feed_42 (by decide) ?_
  refine lv_icmp_ge (tgt := 51) hx hb dX11_feed_44 (by decide) (fun c_173 => ?_) (fun c_173 => absurd c_173 (by decide))
  refine lv_iload hx hb dX11_feed_51 (lv_at hl 0 rfl) ?_
  refine lv_bipush (v := 12) hx hb dX11_feed_53 (by decide) ?_
  refine lv_icmp_ge (tgt := 62) hx hb dX11_feed_55 (by decide) (fun c_174 => ?_) (fun c_174 => absurd c_174 (by decide))
  refine lv_iload hx hb dX11_feed_62 (lv_at hl 0 rfl) ?_
  refine lv_bipush (v := 16) hx hb dX11_feed_64 (by decide) ?_
  refine lv_icmp_ge (tgt := 74) hx hb dX11_feed_66 (by decide) (fun c_175 => ?_) (fun c_175 => absurd c_175 (by decide))
  refine lv_iload hx hb dX11_feed_74 (lv_at hl 7 rfl) ?_
  refine lv_istore (lv' := [(7, .int p4), (6, .int 16), (0, .ref k0), (1, .int p0), (2, .int p1), (3, .int p2), (4, .int p3), (5, .int p4)]) hx hb dX11_feed_76 hl (by decide) rfl (fun ls hl => ?_)
  refine lv_aload_n hx hb dX11_feed_78 rfl (lv_at hl 2 rfl) ?_
  refine va_get (D := (dC, dI)) (ci := 11) (v := .ref m_tape) (C := RX11) (T := TX11) (N := 40) hx hb hts iw_X11_feed_X11_c_m_feed_ok hown hK hP 0 rfl rfl 1 (by decide) (hts (.fieldLink RX11 7 "NotAtOnceModel" "tape" "[I") (by decide +kernel)) (fun _ h9 => h9) rfl dX11_feed_79 ?_
  refine lv_aload_n hx hb dX11_feed_82 rfl (lv_at hl 2 rfl) ?_
  refine va_get (D := (dC, dI)) (ci := 11) (v := .int (nI (k + 1 + 1 + 1 + 1 + 1 + 1 + 1 + 1 + 1 + 1 + 1 + 1 + 1 + 1 + 1 + 1))) (C := RX11) (T := TX11) (N := 40) hx hb hts iw_X11_feed_X11_c_m_feed_ok hown hK hP 0 rfl rfl 2 (by decide) (hts (.fieldLink RX11 75 "NotAtOnceModel" "taped" "I") (by decide +kernel)) (fun _ h9 => h9) rfl dX11_feed_83 ?_
  refine lv_iload hx hb dX11_feed_86 (lv_at hl 0 rfl) ?_
  refine lv_bipush (v := 24) hx hb dX11_feed_88 (by decide) ?_
  refine lv_bipush (v := 8) hx hb dX11_feed_90 (by decide) ?_
  refine lv_iload hx hb dX11_feed_92 (lv_at hl 1 rfl) ?_
  refine lv_iconst (v := 4) hx hb dX11_feed_94 (by decide) ?_
  refine lv_irem hx hb dX11_feed_95 (by decide) ?_
  refine lv_topi (fun v_176 ev_176 => ?_)
  obtain rfl : v_176 = 0 := ev_176.trans (by decide)
  refine lv_imul hx hb dX11_feed_96 ?_
  refine lv_topi (fun v_177 ev_177 => ?_)
  obtain rfl : v_177 = 0 := ev_177.trans (by decide)
  refine lv_isub hx hb dX11_feed_97 ?_
  refine lv_topi (fun v_178 ev_178 => ?_)
  obtain rfl : v_178 = 24 := ev_178.trans (by decide)
  refine lv_ishr hx hb dX11_feed_98 ?_
  refine lv_topi (fun v_179 ev_179 => ?_)
  refine lv_sipush (v := 255) hx hb dX11_feed_99 (by decide) ?_
  refine lv_iand hx hb dX11_feed_102 ?_
  refine lv_topi (fun v_180 ev_180 => ?_)
  refine va_iast hx hb hK hP hD hS 1 0 rfl rfl (vp_in_nI (by omega) (by decide)) dX11_feed_103 (fun H locs hP hD hS => ?_)
  obtain ⟨f_181, ef_181⟩ : ∃ g : Nat → Int32, g = upd (f_169) (Int32.toNatClampNeg (nI (k + 1 + 1 + 1 + 1 + 1 + 1 + 1 + 1 + 1 + 1 + 1 + 1 + 1 + 1 + 1 + 1))) v_180 := ⟨_, rfl⟩
  have hP : va_P (dC, dI) vwCl [(k0, .inr (11, [.int 0, .ref m_tape, .int (nI (k + 1 + 1 + 1 + 1 + 1 + 1 + 1 + 1 + 1 + 1 + 1 + 1 + 1 + 1 + 1 + 1)), .int m_size, .int m_at, .int m_end, .int m_token, .int m_whole, .int m_nameSize, .int m_fault, .int m_place, .int m_trouble, .ref m_letters, .int m_failed, .int m_hasBook, .ref m_r, .ref m_fresh, .ref m_coins, .ref m_was, .ref m_undone, .ref m_redone, .ref m_marked, .ref m_undoneActs, .ref m_redoneActs, .int m_undos, .int m_redos, .int m_marks, .ref m_tab, .ref m_basis, .long m_below, .int m_rows, .int m_wide, .ref m_corner, .ref m_squares, .int m_cornerMany, .ref m_chosen, .int m_colourMany, .int m_mostOnes, .ref m_tells, .ref m_goes])), (m_tape, .inl (cT, 900, .inl (f_181)))] H := by rw [ef_181]; exact hP
  have hD : va_D A [(k0, .inr (11, [.int 0, .ref m_tape, .int (nI (k + 1 + 1 + 1 + 1 + 1 + 1 + 1 + 1 + 1 + 1 + 1 + 1 + 1 + 1 + 1 + 1)), .int m_size, .int m_at, .int m_end, .int m_token, .int m_whole, .int m_nameSize, .int m_fault, .int m_place, .int m_trouble, .ref m_letters, .int m_failed, .int m_hasBook, .ref m_r, .ref m_fresh, .ref m_coins, .ref m_was, .ref m_undone, .ref m_redone, .ref m_marked, .ref m_undoneActs, .ref m_redoneActs, .int m_undos, .int m_redos, .int m_marks, .ref m_tab, .ref m_basis, .long m_below, .int m_rows, .int m_wide, .ref m_corner, .ref m_squares, .int m_cornerMany, .ref m_chosen, .int m_colourMany, .int m_mostOnes, .ref m_tells, .ref m_goes])), (m_tape, .inl (cT, 900, .inl (f_181)))] := by rw [ef_181]; exact hD
  refine lv_aload_n hx hb dX11_feed_104 rfl (lv_at hl 2 rfl) ?_
  refine lv_dup hx hb dX11_feed_105 rfl ?_
  refine va_get (D := (dC, dI)) (ci := 11) (v := .int (nI (k + 1 + 1 + 1 + 1 + 1 + 1 + 1 + 1 + 1 + 1 + 1 + 1 + 1 + 1 + 1 + 1))) (C := RX11) (T := TX11) (N := 40) hx hb hts iw_X11_feed_X11_c_m_feed_ok hown hK hP 0 rfl rfl 2 (by decide) (hts (.fieldLink RX11 75 "NotAtOnceModel" "taped" "I") (by decide +kernel)) (fun _ h9 => h9) rfl dX11_feed_106 ?_
  refine lv_iconst (v := 1) hx hb dX11_feed_109 (by decide) ?_
  refine lv_iadd hx hb dX11_feed_110 ?_
  refine lv_topi (fun v_182 ev_182 => ?_)
  obtain rfl : v_182 = nI (k + 1 + 1 + 1 + 1 + 1 + 1 + 1 + 1 + 1 + 1 + 1 + 1 + 1 + 1 + 1 + 1 + 1) := ev_182.trans (by rw [show (1 : Int32) = nI 1 from by decide, nI_add])
  refine va_put (D := (dC, dI)) (ci := 11) (v := .int (nI (k + 1 + 1 + 1 + 1 + 1 + 1 + 1 + 1 + 1 + 1 + 1 + 1 + 1 + 1 + 1 + 1 + 1))) (ty := .int) (C := RX11) (T := TX11) (N := 40) hx hb hts iw_X11_feed_X11_c_m_feed_ok tyX11 tyX11_ok nmX11 hown hK hP hD hS 0 rfl rfl 2 (by decide) (hts (.fieldLink RX11 75 "NotAtOnceModel" "taped" "I") (by decide +kernel)) (fun _ h9 => h9) rfl (by decide +kernel) rfl rfl (Nat.le_of_ble_eq_true rfl) dX11_feed_111 (fun H locs hP hD hS => ?_)
  have hP : va_P (dC, dI) vwCl [(k0, .inr (11, [.int 0, .ref m_tape, .int (nI (k + 1 + 1 + 1 + 1 + 1 + 1 + 1 + 1 + 1 + 1 + 1 + 1 + 1 + 1 + 1 + 1 + 1)), .int m_size, .int m_at, .int m_end, .int m_token, .int m_whole, .int m_nameSize, .int m_fault, .int m_place, .int m_trouble, .ref m_letters, .int m_failed, .int m_hasBook, .ref m_r, .ref m_fresh, .ref m_coins, .ref m_was, .ref m_undone, .ref m_redone, .ref m_marked, .ref m_undoneActs, .ref m_redoneActs, .int m_undos, .int m_redos, .int m_marks, .ref m_tab, .ref m_basis, .long m_below, .int m_rows, .int m_wide, .ref m_corner, .ref m_squares, .int m_cornerMany, .ref m_chosen, .int m_colourMany, .int m_mostOnes, .ref m_tells, .ref m_goes])), (m_tape, .inl (cT, 900, .inl (f_181)))] H := hP
  have hD : va_D A [(k0, .inr (11, [.int 0, .ref m_tape, .int (nI (k + 1 + 1 + 1 + 1 + 1 + 1 + 1 + 1 + 1 + 1 + 1 + 1 + 1 + 1 + 1 + 1 + 1)), .int m_size, .int m_at, .int m_end, .int m_token, .int m_whole, .int m_nameSize, .int m_fault, .int m_place, .int m_trouble, .ref m_letters, .int m_failed, .int m_hasBook, .ref m_r, .ref m_fresh, .ref m_coins, .ref m_was, .ref m_undone, .ref m_redone, .ref m_marked, .ref m_undoneActs, .ref m_redoneActs, .int m_undos, .int m_redos, .int m_marks, .ref m_tab, .ref m_basis, .long m_below, .int m_rows, .int m_wide, .ref m_corner, .ref m_squares, .int m_cornerMany, .ref m_chosen, .int m_colourMany, .int m_mostOnes, .ref m_tells, .ref m_goes])), (m_tape, .inl (cT, 900, .inl (f_181)))] := hD
  refine lv_iinc (v := 17) (lv' := [(6, .int 17), (7, .int p4), (0, .ref k0), (1, .int p0), (2, .int p1), (3, .int p2), (4, .int p3), (5, .int p4)]) hx hb dX11_feed_114 hl (k := 1) rfl (by decide) (by decide) rfl (fun ls hl => ?_)
  refine lv_goto (tgt := 23) hx hb dX11_feed_117 (by decide) ?_
  refine lv_iload hx hb dX11_feed_23 (lv_at hl 0 rfl) ?_
  refine lv_bipush (v := 20) hx hb dX11_feed_25 (by decide) ?_
  refine lv_icmp_ge (tgt := 120) hx hb dX11_feed_27 (by decide) (fun c_183 => absurd c_183 (by decide)) (fun c_183 => ?_)
  refine lv_iload hx hb dX11_feed_30 (lv_at hl 0 rfl) ?_
  refine lv_iconst (v := 4) hx hb dX11_feed_32 (by decide) ?_
  refine lv_icmp_ge (tgt := 40) hx hb dX11_feed_33 (by decide) (fun c_184 => ?_) (fun c_184 => absurd c_184 (by decide))
  refine lv_iload hx hb dX11_feed_40 (lv_at hl 0 rfl) ?_
  refine lv_bipush (v := 8) hx hb dX11_feed_42 (by decide) ?_
  refine lv_icmp_ge (tgt := 51) hx hb dX11_feed_44 (by decide) (fun c_185 => ?_) (fun c_185 => absurd c_185 (by decide))
  refine lv_iload hx hb dX11_feed_51 (lv_at hl 0 rfl) ?_
  refine lv_bipush (v := 12) hx hb dX11_feed_53 (by decide) ?_
  refine lv_icmp_ge (tgt := 62) hx hb dX11_feed_55 (by decide) (fun c_186 => ?_) (fun c_186 => absurd c_186 (by decide))
  refine lv_iload hx hb dX11_feed_62 (lv_at hl 0 rfl) ?_
  refine lv_bipush (v := 16) hx hb dX11_feed_64 (by decide) ?_
  refine lv_icmp_ge (tgt := 74) hx hb dX11_feed_66 (by decide) (fun c_187 => ?_) (fun c_187 => absurd c_187 (by decide))
  refine lv_iload hx hb dX11_feed_74 (lv_at hl 7 rfl) ?_
  refine lv_istore (lv' := [(7, .int p4), (6, .int 17), (0, .ref k0), (1, .int p0), (2, .int p1), (3, .int p2), (4, .int p3), (5, .int p4)]) hx hb dX11_feed_76 hl (by decide) rfl (fun ls hl => ?_)
  refine lv_aload_n hx hb dX11_feed_78 rfl (lv_at hl 2 rfl) ?_
  refine va_get (D := (dC, dI)) (ci := 11) (v := .ref m_tape) (C := RX11) (T := TX11) (N := 40) hx hb hts iw_X11_feed_X11_c_m_feed_ok hown hK hP 0 rfl rfl 1 (by decide) (hts (.fieldLink RX11 7 "NotAtOnceModel" "tape" "[I") (by decide +kernel)) (fun _ h9 => h9) rfl dX11_feed_79 ?_
  refine lv_aload_n hx hb dX11_feed_82 rfl (lv_at hl 2 rfl) ?_
  refine va_get (D := (dC, dI)) (ci := 11) (v := .int (nI (k + 1 + 1 + 1 + 1 + 1 + 1 + 1 + 1 + 1 + 1 + 1 + 1 + 1 + 1 + 1 + 1 + 1))) (C := RX11) (T := TX11) (N := 40) hx hb hts iw_X11_feed_X11_c_m_feed_ok hown hK hP 0 rfl rfl 2 (by decide) (hts (.fieldLink RX11 75 "NotAtOnceModel" "taped" "I") (by decide +kernel)) (fun _ h9 => h9) rfl dX11_feed_83 ?_
  refine lv_iload hx hb dX11_feed_86 (lv_at hl 0 rfl) ?_
  refine lv_bipush (v := 24) hx hb dX11_feed_88 (by decide) ?_
  refine lv_bipush (v := 8) hx hb dX11_feed_90 (by decide) ?_
  refine lv_iload hx hb dX11_feed_92 (lv_at hl 1 rfl) ?_
  refine lv_iconst (v := 4) hx hb dX11_feed_94 (by decide) ?_
  refine lv_irem hx hb dX11_feed_95 (by decide) ?_
  refine lv_topi (fun v_188 ev_188 => ?_)
  obtain rfl : v_188 = 1 := ev_188.trans (by decide)
  refine lv_imul hx hb dX11_feed_96 ?_
  refine lv_topi (fun v_189 ev_189 => ?_)
  obtain rfl : v_189 = 8 := ev_189.trans (by decide)
  refine lv_isub hx hb dX11_feed_97 ?_
  refine lv_topi (fun v_190 ev_190 => ?_)
  obtain rfl : v_190 = 16 := ev_190.trans (by decide)
  refine lv_ishr hx hb dX11_feed_98 ?_
  refine lv_topi (fun v_191 ev_191 => ?_)
  refine lv_sipush (v := 255) hx hb dX11_feed_99 (by decide) ?_
  refine lv_iand hx hb dX11_feed_102 ?_
  refine lv_topi (fun v_192 ev_192 => ?_)
  refine va_iast hx hb hK hP hD hS 1 0 rfl rfl (vp_in_nI (by omega) (by decide)) dX11_feed_103 (fun H locs hP hD hS => ?_)
  obtain ⟨f_193, ef_193⟩ : ∃ g : Nat → Int32, g = upd (f_181) (Int32.toNatClampNeg (nI (k + 1 + 1 + 1 + 1 + 1 + 1 + 1 + 1 + 1 + 1 + 1 + 1 + 1 + 1 + 1 + 1 + 1))) v_192 := ⟨_, rfl⟩
  have hP : va_P (dC, dI) vwCl [(k0, .inr (11, [.int 0, .ref m_tape, .int (nI (k + 1 + 1 + 1 + 1 + 1 + 1 + 1 + 1 + 1 + 1 + 1 + 1 + 1 + 1 + 1 + 1 + 1)), .int m_size, .int m_at, .int m_end, .int m_token, .int m_whole, .int m_nameSize, .int m_fault, .int m_place, .int m_trouble, .ref m_letters, .int m_failed, .int m_hasBook, .ref m_r, .ref m_fresh, .ref m_coins, .ref m_was, .ref m_undone, .ref m_redone, .ref m_marked, .ref m_undoneActs, .ref m_redoneActs, .int m_undos, .int m_redos, .int m_marks, .ref m_tab, .ref m_basis, .long m_below, .int m_rows, .int m_wide, .ref m_corner, .ref m_squares, .int m_cornerMany, .ref m_chosen, .int m_colourMany, .int m_mostOnes, .ref m_tells, .ref m_goes])), (m_tape, .inl (cT, 900, .inl (f_193)))] H := by rw [ef_193]; exact hP
  have hD : va_D A [(k0, .inr (11, [.int 0, .ref m_tape, .int (nI (k + 1 + 1 + 1 + 1 + 1 + 1 + 1 + 1 + 1 + 1 + 1 + 1 + 1 + 1 + 1 + 1 + 1)), .int m_size, .int m_at, .int m_end, .int m_token, .int m_whole, .int m_nameSize, .int m_fault, .int m_place, .int m_trouble, .ref m_letters, .int m_failed, .int m_hasBook, .ref m_r, .ref m_fresh, .ref m_coins, .ref m_was, .ref m_undone, .ref m_redone, .ref m_marked, .ref m_undoneActs, .ref m_redoneActs, .int m_undos, .int m_redos, .int m_marks, .ref m_tab, .ref m_basis, .long m_below, .int m_rows, .int m_wide, .ref m_corner, .ref m_squares, .int m_cornerMany, .ref m_chosen, .int m_colourMany, .int m_mostOnes, .ref m_tells, .ref m_goes])), (m_tape, .inl (cT, 900, .inl (f_193)))] := by rw [ef_193]; exact hD
  refine lv_aload_n hx hb dX11_feed_104 rfl (lv_at hl 2 rfl) ?_
  refine lv_dup hx hb dX11_feed_105 rfl ?_
  refine va_get (D := (dC, dI)) (ci := 11) (v := .int (nI (k + 1 + 1 + 1 + 1 + 1 + 1 + 1 + 1 + 1 + 1 + 1 + 1 + 1 + 1 + 1 + 1 + 1))) (C := RX11) (T := TX11) (N := 40) hx hb hts iw_X11_feed_X11_c_m_feed_ok hown hK hP 0 rfl rfl 2 (by decide) (hts (.fieldLink RX11 75 "NotAtOnceModel" "taped" "I") (by decide +kernel)) (fun _ h9 => h9) rfl dX11_feed_106 ?_
  refine lv_iconst (v := 1) hx hb dX11_feed_109 (by decide) ?_
  refine lv_iadd hx hb dX11_feed_110 ?_
  refine lv_topi (fun v_194 ev_194 => ?_)
  obtain rfl : v_194 = nI (k + 1 + 1 + 1 + 1 + 1 + 1 + 1 + 1 + 1 + 1 + 1 + 1 + 1 + 1 + 1 + 1 + 1 + 1) := ev_194.trans (by rw [show (1 : Int32) = nI 1 from by decide, nI_add])
  refine va_put (D := (dC, dI)) (ci := 11) (v := .int (nI (k + 1 + 1 + 1 + 1 + 1 + 1 + 1 + 1 + 1 + 1 + 1 + 1 + 1 + 1 + 1 + 1 + 1 + 1))) (ty := .int) (C := RX11) (T := TX11) (N := 40) hx hb hts iw_X11_feed_X11_c_m_feed_ok tyX11 tyX11_ok nmX11 hown hK hP hD hS 0 rfl rfl 2 (by decide) (hts (.fieldLink RX11 75 "NotAtOnceModel" "taped" "I") (by decide +kernel)) (fun _ h9 => h9) rfl (by decide +kernel) rfl rfl (Nat.le_of_ble_eq_true rfl) dX11_feed_111 (fun H locs hP hD hS => ?_)
  have hP : va_P (dC, dI) vwCl [(k0, .inr (11, [.int 0, .ref m_tape, .int (nI (k + 1 + 1 + 1 + 1 + 1 + 1 + 1 + 1 + 1 + 1 + 1 + 1 + 1 + 1 + 1 + 1 + 1 + 1)), .int m_size, .int m_at, .int m_end, .int m_token, .int m_whole, .int m_nameSize, .int m_fault, .int m_place, .int m_trouble, .ref m_letters, .int m_failed, .int m_hasBook, .ref m_r, .ref m_fresh, .ref m_coins, .ref m_was, .ref m_undone, .ref m_redone, .ref m_marked, .ref m_undoneActs, .ref m_redoneActs, .int m_undos, .int m_redos, .int m_marks, .ref m_tab, .ref m_basis, .long m_below, .int m_rows, .int m_wide, .ref m_corner, .ref m_squares, .int m_cornerMany, .ref m_chosen, .int m_colourMany, .int m_mostOnes, .ref m_tells, .ref m_goes])), (m_tape, .inl (cT, 900, .inl (f_193)))] H := hP
  have hD : va_D A [(k0, .inr (11, [.int 0, .ref m_tape, .int (nI (k + 1 + 1 + 1 + 1 + 1 + 1 + 1 + 1 + 1 + 1 + 1 + 1 + 1 + 1 + 1 + 1 + 1 + 1)), .int m_size, .int m_at, .int m_end, .int m_token, .int m_whole, .int m_nameSize, .int m_fault, .int m_place, .int m_trouble, .ref m_letters, .int m_failed, .int m_hasBook, .ref m_r, .ref m_fresh, .ref m_coins, .ref m_was, .ref m_undone, .ref m_redone, .ref m_marked, .ref m_undoneActs, .ref m_redoneActs, .int m_undos, .int m_redos, .int m_marks, .ref m_tab, .ref m_basis, .long m_below, .int m_rows, .int m_wide, .ref m_corner, .ref m_squares, .int m_cornerMany, .ref m_chosen, .int m_colourMany, .int m_mostOnes, .ref m_tells, .ref m_goes])), (m_tape, .inl (cT, 900, .inl (f_193)))] := hD
  refine lv_iinc (v := 18) (lv' := [(6, .int 18), (7, .int p4), (0, .ref k0), (1, .int p0), (2, .int p1), (3, .int p2), (4, .int p3), (5, .int p4)]) hx hb dX11_feed_114 hl (k := 1) rfl (by decide) (by decide) rfl (fun ls hl => ?_)
  refine lv_goto (tgt := 23) hx hb dX11_feed_117 (by decide) ?_
  refine lv_iload hx hb dX11_feed_23 (lv_at hl 0 rfl) ?_
  refine lv_bipush (v := 20) hx hb dX11_feed_25 (by decide) ?_
  refine lv_icmp_ge (tgt := 120) hx hb dX11_feed_27 (by decide) (fun c_195 => absurd c_195 (by decide)) (fun c_195 => ?_)
  refine lv_iload hx hb dX11_feed_30 (lv_at hl 0 rfl) ?_
  refine lv_iconst (v := 4) hx hb dX11_feed_32 (by decide) ?_
  refine lv_icmp_ge (tgt := 40) hx hb dX11_feed_33 (by decide) (fun c_196 => ?_) (fun c_196 => absurd c_196 (by decide))
  refine lv_iload hx hb dX11_feed_40 (lv_at hl 0 rfl) ?_
  refine lv_bipush (v := 8) hx hb dX11_feed_42 (by decide) ?_
  refine lv_icmp_ge (tgt := 51) hx hb dX11_feed_44 (by decide) (fun c_197 => ?_) (fun c_197 => absurd c_197 (by decide))
  refine lv_iload hx hb dX11_feed_51 (lv_at hl 0 rfl) ?_
  refine lv_bipush (v := 12) hx hb dX11_feed_53 (by decide) ?_
  refine lv_icmp_ge (tgt := 62) hx hb dX11_feed_55 (by decide) (fun c_198 => ?_) (fun c_198 => absurd c_198 (by decide))
  refine lv_iload hx hb dX11_feed_62 (lv_at hl 0 rfl) ?_
  refine lv_bipush (v := 16) hx hb dX11_feed_64 (by decide) ?_
  refine lv_icmp_ge (tgt := 74) hx hb dX11_feed_66 (by decide) (fun c_199 => ?_) (fun c_199 => absurd c_199 (by decide))
  refine lv_iload hx hb dX11_feed_74 (lv_at hl 7 rfl) ?_
  refine lv_istore (lv' := [(7, .int p4), (6, .int 18), (0, .ref k0), (1, .int p0), (2, .int p1), (3, .int p2), (4, .int p3), (5, .int p4)]) hx hb dX11_feed_76 hl (by decide) rfl (fun ls hl => ?_)
  refine lv_aload_n hx hb dX11_feed_78 rfl (lv_at hl 2 rfl) ?_
  refine va_get (D := (dC, dI)) (ci := 11) (v := .ref m_tape) (C := RX11) (T := TX11) (N := 40) hx hb hts iw_X11_feed_X11_c_m_feed_ok hown hK hP 0 rfl rfl 1 (by decide) (hts (.fieldLink RX11 7 "NotAtOnceModel" "tape" "[I") (by decide +kernel)) (fun _ h9 => h9) rfl dX11_feed_79 ?_
  refine lv_aload_n hx hb dX11_feed_82 rfl (lv_at hl 2 rfl) ?_
  refine va_get (D := (dC, dI)) (ci := 11) (v := .int (nI (k + 1 + 1 + 1 + 1 + 1 + 1 + 1 + 1 + 1 + 1 + 1 + 1 + 1 + 1 + 1 + 1 + 1 + 1))) (C := RX11) (T := TX11) (N := 40) hx hb hts iw_X11_feed_X11_c_m_feed_ok hown hK hP 0 rfl rfl 2 (by decide) (hts (.fieldLink RX11 75 "NotAtOnceModel" "taped" "I") (by decide +kernel)) (fun _ h9 => h9) rfl dX11_feed_83 ?_
  refine lv_iload hx hb dX11_feed_86 (lv_at hl 0 rfl) ?_
  refine lv_bipush (v := 24) hx hb dX11_feed_88 (by decide) ?_
  refine lv_bipush (v := 8) hx hb dX11_feed_90 (by decide) ?_
  refine lv_iload hx hb dX11_feed_92 (lv_at hl 1 rfl) ?_
  refine lv_iconst (v := 4) hx hb dX11_feed_94 (by decide) ?_
  refine lv_irem hx hb dX11_feed_95 (by decide) ?_
  refine lv_topi (fun v_200 ev_200 => ?_)
  obtain rfl : v_200 = 2 := ev_200.trans (by decide)
  refine lv_imul hx hb dX11_feed_96 ?_
  refine lv_topi (fun v_201 ev_201 => ?_)
  obtain rfl : v_201 = 16 := ev_201.trans (by decide)
  refine lv_isub hx hb dX11_feed_97 ?_
  refine lv_topi (fun v_202 ev_202 => ?_)
  obtain rfl : v_202 = 8 := ev_202.trans (by decide)
  refine lv_ishr hx hb dX11_feed_98 ?_
  refine lv_topi (fun v_203 ev_203 => ?_)
  refine lv_sipush (v := 255) hx hb dX11_feed_99 (by decide) ?_
  refine lv_iand hx hb dX11_feed_102 ?_
  refine lv_topi (fun v_204 ev_204 => ?_)
  refine va_iast hx hb hK hP hD hS 1 0 rfl rfl (vp_in_nI (by omega) (by decide)) dX11_feed_103 (fun H locs hP hD hS => ?_)
  obtain ⟨f_205, ef_205⟩ : ∃ g : Nat → Int32, g = upd (f_193) (Int32.toNatClampNeg (nI (k + 1 + 1 + 1 + 1 + 1 + 1 + 1 + 1 + 1 + 1 + 1 + 1 + 1 + 1 + 1 + 1 + 1 + 1))) v_204 := ⟨_, rfl⟩
  have hP : va_P (dC, dI) vwCl [(k0, .inr (11, [.int 0, .ref m_tape, .int (nI (k + 1 + 1 + 1 + 1 + 1 + 1 + 1 + 1 + 1 + 1 + 1 + 1 + 1 + 1 + 1 + 1 + 1 + 1)), .int m_size, .int m_at, .int m_end, .int m_token, .int m_whole, .int m_nameSize, .int m_fault, .int m_place, .int m_trouble, .ref m_letters, .int m_failed, .int m_hasBook, .ref m_r, .ref m_fresh, .ref m_coins, .ref m_was, .ref m_undone, .ref m_redone, .ref m_marked, .ref m_undoneActs, .ref m_redoneActs, .int m_undos, .int m_redos, .int m_marks, .ref m_tab, .ref m_basis, .long m_below, .int m_rows, .int m_wide, .ref m_corner, .ref m_squares, .int m_cornerMany, .ref m_chosen, .int m_colourMany, .int m_mostOnes, .ref m_tells, .ref m_goes])), (m_tape, .inl (cT, 900, .inl (f_205)))] H := by rw [ef_205]; exact hP
  have hD : va_D A [(k0, .inr (11, [.int 0, .ref m_tape, .int (nI (k + 1 + 1 + 1 + 1 + 1 + 1 + 1 + 1 + 1 + 1 + 1 + 1 + 1 + 1 + 1 + 1 + 1 + 1)), .int m_size, .int m_at, .int m_end, .int m_token, .int m_whole, .int m_nameSize, .int m_fault, .int m_place, .int m_trouble, .ref m_letters, .int m_failed, .int m_hasBook, .ref m_r, .ref m_fresh, .ref m_coins, .ref m_was, .ref m_undone, .ref m_redone, .ref m_marked, .ref m_undoneActs, .ref m_redoneActs, .int m_undos, .int m_redos, .int m_marks, .ref m_tab, .ref m_basis, .long m_below, .int m_rows, .int m_wide, .ref m_corner, .ref m_squares, .int m_cornerMany, .ref m_chosen, .int m_colourMany, .int m_mostOnes, .ref m_tells, .ref m_goes])), (m_tape, .inl (cT, 900, .inl (f_205)))] := by rw [ef_205]; exact hD
  refine lv_aload_n hx hb dX11_feed_104 rfl (lv_at hl 2 rfl) ?_
  refine lv_dup hx hb dX11_feed_105 rfl ?_
  refine va_get (D := (dC, dI)) (ci := 11) (v := .int (nI (k + 1 + 1 + 1 + 1 + 1 + 1 + 1 + 1 + 1 + 1 + 1 + 1 + 1 + 1 + 1 + 1 + 1 + 1))) (C := RX11) (T := TX11) (N := 40) hx hb hts iw_X11_feed_X11_c_m_feed_ok hown hK hP 0 rfl rfl 2 (by decide) (hts (.fieldLink RX11 75 "NotAtOnceModel" "taped" "I") (by decide +kernel)) (fun _ h9 => h9) rfl dX11_feed_106 ?_
  refine lv_iconst (v := 1) hx hb dX11_feed_109 (by decide) ?_
  refine lv_iadd hx hb dX11_feed_110 ?_
  refine lv_topi (fun v_206 ev_206 => ?_)
  obtain rfl : v_206 = nI (k + 1 + 1 + 1 + 1 + 1 + 1 + 1 + 1 + 1 + 1 + 1 + 1 + 1 + 1 + 1 + 1 + 1 + 1 + 1) := ev_206.trans (by rw [show (1 : Int32) = nI 1 from by decide, nI_add])
  refine va_put (D := (dC, dI)) (ci := 11) (v := .int (nI (k + 1 + 1 + 1 + 1 + 1 + 1 + 1 + 1 + 1 + 1 + 1 + 1 + 1 + 1 + 1 + 1 + 1 + 1 + 1))) (ty := .int) (C := RX11) (T := TX11) (N := 40) hx hb hts iw_X11_feed_X11_c_m_feed_ok tyX11 tyX11_ok nmX11 hown hK hP hD hS 0 rfl rfl 2 (by decide) (hts (.fieldLink RX11 75 "NotAtOnceModel" "taped" "I") (by decide +kernel)) (fun _ h9 => h9) rfl (by decide +kernel) rfl rfl (Nat.le_of_ble_eq_true rfl) dX11_feed_111 (fun H locs hP hD hS => ?_)
  have hP : va_P (dC, dI) vwCl [(k0, .inr (11, [.int 0, .ref m_tape, .int (nI (k + 1 + 1 + 1 + 1 + 1 + 1 + 1 + 1 + 1 + 1 + 1 + 1 + 1 + 1 + 1 + 1 + 1 + 1 + 1)), .int m_size, .int m_at, .int m_end, .int m_token, .int m_whole, .int m_nameSize, .int m_fault, .int m_place, .int m_trouble, .ref m_letters, .int m_failed, .int m_hasBook, .ref m_r, .ref m_fresh, .ref m_coins, .ref m_was, .ref m_undone, .ref m_redone, .ref m_marked, .ref m_undoneActs, .ref m_redoneActs, .int m_undos, .int m_redos, .int m_marks, .ref m_tab, .ref m_basis, .long m_below, .int m_rows, .int m_wide, .ref m_corner, .ref m_squares, .int m_cornerMany, .ref m_chosen, .int m_colourMany, .int m_mostOnes, .ref m_tells, .ref m_goes])), (m_tape, .inl (cT, 900, .inl (f_205)))] H := hP
  have hD : va_D A [(k0, .inr (11, [.int 0, .ref m_tape, .int (nI (k + 1 + 1 + 1 + 1 + 1 + 1 + 1 + 1 + 1 + 1 + 1 + 1 + 1 + 1 + 1 + 1 + 1 + 1 + 1)), .int m_size, .int m_at, .int m_end, .int m_token, .int m_whole, .int m_nameSize, .int m_fault, .int m_place, .int m_trouble, .ref m_letters, .int m_failed, .int m_hasBook, .ref m_r, .ref m_fresh, .ref m_coins, .ref m_was, .ref m_undone, .ref m_redone, .ref m_marked, .ref m_undoneActs, .ref m_redoneActs, .int m_undos, .int m_redos, .int m_marks, .ref m_tab, .ref m_basis, .long m_below, .int m_rows, .int m_wide, .ref m_corner, .ref m_squares, .int m_cornerMany, .ref m_chosen, .int m_colourMany, .int m_mostOnes, .ref m_tells, .ref m_goes])), (m_tape, .inl (cT, 900, .inl (f_205)))] := hD
  refine lv_iinc (v := 19) (lv' := [(6, .int 19), (7, .int p4), (0, .ref k0), (1, .int p0), (2, .int p1), (3, .int p2), (4, .int p3), (5, .int p4)]) hx hb dX11_feed_114 hl (k := 1) rfl (by decide) (by decide) rfl (fun ls hl => ?_)
  refine lv_goto (tgt := 23) hx hb dX11_feed_117 (by decide) ?_
  refine lv_iload hx hb dX11_feed_23 (lv_at hl 0 rfl) ?_
  refine lv_bipush (v := 20) hx hb dX11_feed_25 (by decide) ?_
  refine lv_icmp_ge (tgt := 120) hx hb dX11_feed_27 (by decide) (fun c_207 => absurd c_207 (by decide)) (fun c_207 => ?_)
  refine lv_iload hx hb dX11_feed_30 (lv_at hl 0 rfl) ?_
  refine lv_iconst (v := 4) hx hb dX11_feed_32 (by decide) ?_
  refine lv_icmp_ge (tgt := 40) hx hb dX11_feed_33 (by decide) (fun c_208 => ?_) (fun c_208 => absurd c_208 (by decide))
  refine lv_iload hx hb dX11_feed_40 (lv_at hl 0 rfl) ?_
  refine lv_bipush (v := 8) hx hb dX11_feed_42 (by decide) ?_
  refine lv_icmp_ge (tgt := 51) hx hb dX11_feed_44 (by decide) (fun c_209 => ?_) (fun c_209 => absurd c_209 (by decide))
  refine lv_iload hx hb dX11_feed_51 (lv_at hl 0 rfl) ?_
  refine lv_bipush (v := 12) hx hb dX11_feed_53 (by decide) ?_
  refine lv_icmp_ge (tgt := 62) hx hb dX11_feed_55 (by decide) (fun c_210 => ?_) (fun c_210 => absurd c_210 (by decide))
  refine lv_iload hx hb dX11_feed_62 (lv_at hl 0 rfl) ?_
  refine lv_bipush (v := 16) hx hb dX11_feed_64 (by decide) ?_
  refine lv_icmp_ge (tgt := 74) hx hb dX11_feed_66 (by decide) (fun c_211 => ?_) (fun c_211 => absurd c_211 (by decide))
  refine lv_iload hx hb dX11_feed_74 (lv_at hl 7 rfl) ?_
  refine lv_istore (lv' := [(7, .int p4), (6, .int 19), (0, .ref k0), (1, .int p0), (2, .int p1), (3, .int p2), (4, .int p3), (5, .int p4)]) hx hb dX11_feed_76 hl (by decide) rfl (fun ls hl => ?_)
  refine lv_aload_n hx hb dX11_feed_78 rfl (lv_at hl 2 rfl) ?_
  refine va_get (D := (dC, dI)) (ci := 11) (v := .ref m_tape) (C := RX11) (T := TX11) (N := 40) hx hb hts iw_X11_feed_X11_c_m_feed_ok hown hK hP 0 rfl rfl 1 (by decide) (hts (.fieldLink RX11 7 "NotAtOnceModel" "tape" "[I") (by decide +kernel)) (fun _ h9 => h9) rfl dX11_feed_79 ?_
  refine lv_aload_n hx hb dX11_feed_82 rfl (lv_at hl 2 rfl) ?_
  refine va_get (D := (dC, dI)) (ci := 11) (v := .int (nI (k + 1 + 1 + 1 + 1 + 1 + 1 + 1 + 1 + 1 + 1 + 1 + 1 + 1 + 1 + 1 + 1 + 1 + 1 + 1))) (C := RX11) (T := TX11) (N := 40) hx hb hts iw_X11_feed_X11_c_m_feed_ok hown hK hP 0 rfl rfl 2 (by decide) (hts (.fieldLink RX11 75 "NotAtOnceModel" "taped" "I") (by decide +kernel)) (fun _ h9 => h9) rfl dX11_feed_83 ?_
  refine lv_iload hx hb dX11_feed_86 (lv_at hl 0 rfl) ?_
  refine lv_bipush (v := 24) hx hb dX11_feed_88 (by decide) ?_
  refine lv_bipush (v := 8) hx hb dX11_feed_90 (by decide) ?_
  refine lv_iload hx hb dX11_feed_92 (lv_at hl 1 rfl) ?_
  refine lv_iconst (v := 4) hx hb dX11_feed_94 (by decide) ?_
  refine lv_irem hx hb dX11_feed_95 (by decide) ?_
  refine lv_topi (fun v_212 ev_212 => ?_)
  obtain rfl : v_212 = 3 := ev_212.trans (by decide)
  refine lv_imul hx hb dX11_feed_96 ?_
  refine lv_topi (fun v_213 ev_213 => ?_)
  obtain rfl : v_213 = 24 := ev_213.trans (by decide)
  refine lv_isub hx hb dX11_feed_97 ?_
  refine lv_topi (fun v_214 ev_214 => ?_)
  obtain rfl : v_214 = 0 := ev_214.trans (by decide)
  refine lv_ishr hx hb dX11_feed_98 ?_
  refine lv_topi (fun v_215 ev_215 => ?_)
  refine lv_sipush (v := 255) hx hb dX11_feed_99 (by decide) ?_
  refine lv_iand hx hb dX11_feed_102 ?_
  refine lv_topi (fun v_216 ev_216 => ?_)
  refine va_iast hx hb hK hP hD hS 1 0 rfl rfl (vp_in_nI (by omega) (by decide)) dX11_feed_103 (fun H locs hP hD hS => ?_)
  obtain ⟨f_217, ef_217⟩ : ∃ g : Nat → Int32, g = upd (f_205) (Int32.toNatClampNeg (nI (k + 1 + 1 + 1 + 1 + 1 + 1 + 1 + 1 + 1 + 1 + 1 + 1 + 1 + 1 + 1 + 1 + 1 + 1 + 1))) v_216 := ⟨_, rfl⟩
  have hP : va_P (dC, dI) vwCl [(k0, .inr (11, [.int 0, .ref m_tape, .int (nI (k + 1 + 1 + 1 + 1 + 1 + 1 + 1 + 1 + 1 + 1 + 1 + 1 + 1 + 1 + 1 + 1 + 1 + 1 + 1)), .int m_size, .int m_at, .int m_end, .int m_token, .int m_whole, .int m_nameSize, .int m_fault, .int m_place, .int m_trouble, .ref m_letters, .int m_failed, .int m_hasBook, .ref m_r, .ref m_fresh, .ref m_coins, .ref m_was, .ref m_undone, .ref m_redone, .ref m_marked, .ref m_undoneActs, .ref m_redoneActs, .int m_undos, .int m_redos, .int m_marks, .ref m_tab, .ref m_basis, .long m_below, .int m_rows, .int m_wide, .ref m_corner, .ref m_squares, .int m_cornerMany, .ref m_chosen, .int m_colourMany, .int m_mostOnes, .ref m_tells, .ref m_goes])), (m_tape, .inl (cT, 900, .inl (f_217)))] H := by rw [ef_217]; exact hP
  have hD : va_D A [(k0, .inr (11, [.int 0, .ref m_tape, .int (nI (k + 1 + 1 + 1 + 1 + 1 + 1 + 1 + 1 + 1 + 1 + 1 + 1 + 1 + 1 + 1 + 1 + 1 + 1 + 1)), .int m_size, .int m_at, .int m_end, .int m_token, .int m_whole, .int m_nameSize, .int m_fault, .int m_place, .int m_trouble, .ref m_letters, .int m_failed, .int m_hasBook, .ref m_r, .ref m_fresh, .ref m_coins, .ref m_was, .ref m_undone, .ref m_redone, .ref m_marked, .ref m_undoneActs, .ref m_redoneActs, .int m_undos, .int m_redos, .int m_marks, .ref m_tab, .ref m_basis, .long m_below, .int m_rows, .int m_wide, .ref m_corner, .ref m_squares, .int m_cornerMany, .ref m_chosen, .int m_colourMany, .int m_mostOnes, .ref m_tells, .ref m_goes])), (m_tape, .inl (cT, 900, .inl (f_217)))] := by rw [ef_217]; exact hD
  refine lv_aload_n hx hb dX11_feed_104 rfl (lv_at hl 2 rfl) ?_
  refine lv_dup hx hb dX11_feed_105 rfl ?_
  refine va_get (D := (dC, dI)) (ci := 11) (v := .int (nI (k + 1 + 1 + 1 + 1 + 1 + 1 + 1 + 1 + 1 + 1 + 1 + 1 + 1 + 1 + 1 + 1 + 1 + 1 + 1))) (C := RX11) (T := TX11) (N := 40) hx hb hts iw_X11_feed_X11_c_m_feed_ok hown hK hP 0 rfl rfl 2 (by decide) (hts (.fieldLink RX11 75 "NotAtOnceModel" "taped" "I") (by decide +kernel)) (fun _ h9 => h9) rfl dX11_feed_106 ?_
  refine lv_iconst (v := 1) hx hb dX11_feed_109 (by decide) ?_
  refine lv_iadd hx hb dX11_feed_110 ?_
  refine lv_topi (fun v_218 ev_218 => ?_)
  obtain rfl : v_218 = nI (k + 1 + 1 + 1 + 1 + 1 + 1 + 1 + 1 + 1 + 1 + 1 + 1 + 1 + 1 + 1 + 1 + 1 + 1 + 1 + 1) := ev_218.trans (by rw [show (1 : Int32) = nI 1 from by decide, nI_add])
  refine va_put (D := (dC, dI)) (ci := 11) (v := .int (nI (k + 1 + 1 + 1 + 1 + 1 + 1 + 1 + 1 + 1 + 1 + 1 + 1 + 1 + 1 + 1 + 1 + 1 + 1 + 1 + 1))) (ty := .int) (C := RX11) (T := TX11) (N := 40) hx hb hts iw_X11_feed_X11_c_m_feed_ok tyX11 tyX11_ok nmX11 hown hK hP hD hS 0 rfl rfl 2 (by decide) (hts (.fieldLink RX11 75 "NotAtOnceModel" "taped" "I") (by decide +kernel)) (fun _ h9 => h9) rfl (by decide +kernel) rfl rfl (Nat.le_of_ble_eq_true rfl) dX11_feed_111 (fun H locs hP hD hS => ?_)
  have hP : va_P (dC, dI) vwCl [(k0, .inr (11, [.int 0, .ref m_tape, .int (nI (k + 1 + 1 + 1 + 1 + 1 + 1 + 1 + 1 + 1 + 1 + 1 + 1 + 1 + 1 + 1 + 1 + 1 + 1 + 1 + 1)), .int m_size, .int m_at, .int m_end, .int m_token, .int m_whole, .int m_nameSize, .int m_fault, .int m_place, .int m_trouble, .ref m_letters, .int m_failed, .int m_hasBook, .ref m_r, .ref m_fresh, .ref m_coins, .ref m_was, .ref m_undone, .ref m_redone, .ref m_marked, .ref m_undoneActs, .ref m_redoneActs, .int m_undos, .int m_redos, .int m_marks, .ref m_tab, .ref m_basis, .long m_below, .int m_rows, .int m_wide, .ref m_corner, .ref m_squares, .int m_cornerMany, .ref m_chosen, .int m_colourMany, .int m_mostOnes, .ref m_tells, .ref m_goes])), (m_tape, .inl (cT, 900, .inl (f_217)))] H := hP
  have hD : va_D A [(k0, .inr (11, [.int 0, .ref m_tape, .int (nI (k + 1 + 1 + 1 + 1 + 1 + 1 + 1 + 1 + 1 + 1 + 1 + 1 + 1 + 1 + 1 + 1 + 1 + 1 + 1 + 1)), .int m_size, .int m_at, .int m_end, .int m_token, .int m_whole, .int m_nameSize, .int m_fault, .int m_place, .int m_trouble, .ref m_letters, .int m_failed, .int m_hasBook, .ref m_r, .ref m_fresh, .ref m_coins, .ref m_was, .ref m_undone, .ref m_redone, .ref m_marked, .ref m_undoneActs, .ref m_redoneActs, .int m_undos, .int m_redos, .int m_marks, .ref m_tab, .ref m_basis, .long m_below, .int m_rows, .int m_wide, .ref m_corner, .ref m_squares, .int m_cornerMany, .ref m_chosen, .int m_colourMany, .int m_mostOnes, .ref m_tells, .ref m_goes])), (m_tape, .inl (cT, 900, .inl (f_217)))] := hD
  refine lv_iinc (v := 20) (lv' := [(6, .int 20), (7, .int p4), (0, .ref k0), (1, .int p0), (2, .int p1), (3, .int p2), (4, .int p3), (5, .int p4)]) hx hb dX11_feed_114 hl (k := 1) rfl (by decide) (by decide) rfl (fun ls hl => ?_)
  refine lv_goto (tgt := 23) hx hb dX11_feed_117 (by decide) ?_
  refine lv_iload hx hb dX11_feed_23 (lv_at hl 0 rfl) ?_
  refine lv_bipush (v := 20) hx hb dX11_feed_25 (by decide) ?_
  refine lv_icmp_ge (tgt := 120) hx hb dX11_feed_27 (by decide) (fun c_219 => ?_) (fun c_219 => absurd c_219 (by decide))
  refine lv_aload_n hx hb dX11_feed_120 rfl (lv_at hl 2 rfl) ?_
  refine va_get (D := (dC, dI)) (ci := 11) (v := .int (nI (k + 1 + 1 + 1 + 1 + 1 + 1 + 1 + 1 + 1 + 1 + 1 + 1 + 1 + 1 + 1 + 1 + 1 + 1 + 1 + 1))) (C := RX11) (T := TX11) (N := 40) hx hb hts iw_X11_feed_X11_c_m_feed_ok hown hK hP 0 rfl rfl 2 (by decide) (hts (.fieldLink RX11 75 "NotAtOnceModel" "taped" "I") (by decide +kernel)) (fun _ h9 => h9) rfl dX11_feed_121 ?_
  have hP9 := hP.sub (ws' := [(k0, .inr (11, [.int 0, .ref m_tape, .int (nI (k + 1 + 1 + 1 + 1 + 1 + 1 + 1 + 1 + 1 + 1 + 1 + 1 + 1 + 1 + 1 + 1 + 1 + 1 + 1 + 1)), .int m_size, .int m_at, .int m_end, .int m_token, .int m_whole, .int m_nameSize, .int m_fault, .int m_place, .int m_trouble, .ref m_letters, .int m_failed, .int m_hasBook, .ref m_r, .ref m_fresh, .ref m_coins, .ref m_was, .ref m_undone, .ref m_redone, .ref m_marked, .ref m_undoneActs, .ref m_redoneActs, .int m_undos, .int m_redos, .int m_marks, .ref m_tab, .ref m_basis, .long m_below, .int m_rows, .int m_wide, .ref m_corner, .ref m_squares, .int m_cornerMany, .ref m_chosen, .int m_colourMany, .int m_mostOnes, .ref m_tells, .ref m_goes])), (m_tape, .inl (cT, 900, .inl (f_217)))]) [0, 1] rfl
  have hD9 := hD.sub (ws' := [(k0, .inr (11, [.int 0, .ref m_tape, .int (nI (k + 1 + 1 + 1 + 1 + 1 + 1 + 1 + 1 + 1 + 1 + 1 + 1 + 1 + 1 + 1 + 1 + 1 + 1 + 1 + 1)), .int m_size, .int m_at, .int m_end, .int m_token, .int m_whole, .int m_nameSize, .int m_fault, .int m_place, .int m_trouble, .ref m_letters, .int m_failed, .int m_hasBook, .ref m_r, .ref m_fresh, .ref m_coins, .ref m_was, .ref m_undone, .ref m_redone, .ref m_marked, .ref m_undoneActs, .ref m_redoneActs, .int m_undos, .int m_redos, .int m_marks, .ref m_tab, .ref m_basis, .long m_below, .int m_rows, .int m_wide, .ref m_corner, .ref m_squares, .int m_cornerMany, .ref m_chosen, .int m_colourMany, .int m_mostOnes, .ref m_tells, .ref m_goes])), (m_tape, .inl (cT, 900, .inl (f_217)))]) [0, 1] (by decide) rfl
  have hK9 := hK.sub (tys' := [(cT, .int)]) [0] rfl
  refine W.widen (k := 0) (n := 0) (Nat.le_of_ble_eq_true rfl) (Nat.le_of_ble_eq_true rfl) ?_
  exact W.iret (v := nI (k + 1 + 1 + 1 + 1 + 1 + 1 + 1 + 1 + 1 + 1 + 1 + 1 + 1 + 1 + 1 + 1 + 1 + 1 + 1 + 1)) hx hb hr (fun t ht hW => ⟨⟨nI (k + 1 + 1 + 1 + 1 + 1 + 1 + 1 + 1 + 1 + 1 + 1 + 1 + 1 + 1 + 1 + 1 + 1 + 1 + 1 + 1), (), rfl, rfl, f_217, by rw [ht]; exact hP9, va_K.moved hW.alike hK9, hD9⟩, hS.F ht⟩) hS.2.2 dX11_feed_124

set_option maxHeartbeats 4000000 in
set_option maxRecDepth 100000 in
/-- within(v, low, high) -/
theorem c_m_within_000 (l : Launch) (dC : Nat → ClassId) (dI : Nat → Nat → Nat) (sz : Nat)   : Met l yX11_within wsX11_within ({ frames := 0, cells := 0, slots := 0, locals := 0 }) (va_Pc [.int 0, .int 0, .int 0] (fun U => U.heap.size = sz ∧ va_P (dC, dI) vwCl [] U.heap ∧ va_K (dC, dI) vwCl [] U ∧ va_D (fun _ => True) [])) (va_Qi (fun (r : Int32) (_ : Unit) => r = 1) (fun _ t => va_P (dC, dI) vwCl [] t.heap ∧ va_K (dC, dI) vwCl [] t ∧ va_D (va_A [] sz) []) (va_A [] sz)) 0 0 (va_A [] sz) := by
  refine Met.ofW (cc := cX11_within) (maxL := 3) (ret := (some .boolean)) (by decide) rfl ?_
  intro p e s m args below meth c s₁ B hml hv
  obtain ⟨rfl, hsz, hP, hK, hD0⟩ := hv
  have hx := B.exec
  have hb := B.bytes
  have hr := B.returns
  have hts := atoms_spec (ws := wsX11_within) B.pre
  have hown : s.vm.findClass RX11 = some m.cls := findClass_of_methodNamed B.named
  have hlocks := B.notSynchronized
  subst hsz
  have hD := hD0.self (sz := s.heap.size)
  generalize hAe : va_A [] s.heap.size = A at hD ⊢
  have hA : ∀ q : Nat, s.heap.size ≤ q → A q := fun q h => by rw [← hAe]; exact Or.inr h
  have hS : va_S A s.heap s.heap [] := va_S.rf
  have hP : va_P (dC, dI) vwCl [] s.heap := hP
  have hl := lv_entry ([.int 0, .int 0, .int 0]) (n := 3) (Nat.le_of_ble_eq_true rfl)
  rw [lg_entry_eq]
  generalize (lg_sl ([.int 0, .int 0, .int 0]) ++ List.replicate (3 - (lg_sl ([.int 0, .int 0, .int 0])).length) Slot.unset).toArray = ls at hl ⊢
  have hl : lv_has ls 3 [(0, .int 0), (1, .int 0), (2, .int 0)] := hl
  refine lv_iload_n hx hb dX11_within_0 rfl (lv_at hl 0 rfl) ?_
  refine lv_iload_n hx hb dX11_within_1 rfl (lv_at hl 1 rfl) ?_
  refine lv_icmp_lt (tgt := 14) hx hb dX11_within_2 (by decide) (fun c_1 => absurd c_1 (by decide)) (fun c_1 => ?_)
  refine lv_iload_n hx hb dX11_within_5 rfl (lv_at hl 0 rfl) ?_
  refine lv_iload_n hx hb dX11_within_6 rfl (lv_at hl 2 rfl) ?_
  refine lv_icmp_gt (tgt := 14) hx hb dX11_within_7 (by decide) (fun c_2 => absurd c_2 (by decide)) (fun c_2 => ?_)
  refine lv_iconst (v := 1) hx hb dX11_within_10 (by decide) ?_
  refine lv_goto (tgt := 15) hx hb dX11_within_11 (by decide) ?_
  have hP9 := hP.sub (ws' := []) [] rfl
  have hD9 := hD.sub (ws' := []) [] (by decide) rfl
  have hK9 := hK.sub (tys' := []) [] rfl
  refine W.widen (k := 0) (n := 0) (Nat.le_of_ble_eq_true rfl) (Nat.le_of_ble_eq_true rfl) ?_
  exact W.zret (v := 1) (ty := .boolean) hx hb hr rfl (fun t ht hW => ⟨⟨1, (), rfl, rfl, by rw [ht]; exact hP9, va_K.moved hW.alike hK9, hD9⟩, hS.F ht⟩) hS.2.2 dX11_within_15

set_option maxHeartbeats 4000000 in
set_option maxRecDepth 100000 in
/-- within(v, low, high) -/
theorem c_m_within_t (l : Launch) (dC : Nat → ClassId) (dI : Nat → Nat → Nat) (sz : Nat) (p0 : Int32) (p1 : Int32) (p2 : Int32) (h1 : p1 ≤ p0) (h2 : p0 ≤ p2) : Met l yX11_within wsX11_within ({ frames := 0, cells := 0, slots := 0, locals := 0 }) (va_Pc [.int p0, .int p1, .int p2] (fun U => U.heap.size = sz ∧ va_P (dC, dI) vwCl [] U.heap ∧ va_K (dC, dI) vwCl [] U ∧ va_D (fun _ => True) [])) (va_Qi (fun (r : Int32) (_ : Unit) => r = 1) (fun _ t => va_P (dC, dI) vwCl [] t.heap ∧ va_K (dC, dI) vwCl [] t ∧ va_D (va_A [] sz) []) (va_A [] sz)) 0 0 (va_A [] sz) := by
  refine Met.ofW (cc := cX11_within) (maxL := 3) (ret := (some .boolean)) (by decide) rfl ?_
  intro p e s m args below meth c s₁ B hml hv
  obtain ⟨rfl, hsz, hP, hK, hD0⟩ := hv
  have hx := B.exec
  have hb := B.bytes
  have hr := B.returns
  have hts := atoms_spec (ws := wsX11_within) B.pre
  have hown : s.vm.findClass RX11 = some m.cls := findClass_of_methodNamed B.named
  have hlocks := B.notSynchronized
  subst hsz
  have hD := hD0.self (sz := s.heap.size)
  generalize hAe : va_A [] s.heap.size = A at hD ⊢
  have hA : ∀ q : Nat, s.heap.size ≤ q → A q := fun q h => by rw [← hAe]; exact Or.inr h
  have hS : va_S A s.heap s.heap [] := va_S.rf
  have hP : va_P (dC, dI) vwCl [] s.heap := hP
  have hl := lv_entry ([.int p0, .int p1, .int p2]) (n := 3) (Nat.le_of_ble_eq_true rfl)
  rw [lg_entry_eq]
  generalize (lg_sl ([.int p0, .int p1, .int p2]) ++ List.replicate (3 - (lg_sl ([.int p0, .int p1, .int p2])).length) Slot.unset).toArray = ls at hl ⊢
  have hl : lv_has ls 3 [(0, .int p0), (1, .int p1), (2, .int p2)] := hl
  refine lv_iload_n hx hb dX11_within_0 rfl (lv_at hl 0 rfl) ?_
  refine lv_iload_n hx hb dX11_within_1 rfl (lv_at hl 1 rfl) ?_
  refine lv_icmp_lt (tgt := 14) hx hb dX11_within_2 (by decide) (fun c_1 => absurd c_1 (Int32.not_lt.mpr h1)) (fun c_1 => ?_)
  refine lv_iload_n hx hb dX11_within_5 rfl (lv_at hl 0 rfl) ?_
  refine lv_iload_n hx hb dX11_within_6 rfl (lv_at hl 2 rfl) ?_
  refine lv_icmp_gt (tgt := 14) hx hb dX11_within_7 (by decide) (fun c_2 => absurd c_2 (Int32.not_lt.mpr h2)) (fun c_2 => ?_)
  refine lv_iconst (v := 1) hx hb dX11_within_10 (by decide) ?_
  refine lv_goto (tgt := 15) hx hb dX11_within_11 (by decide) ?_
  have hP9 := hP.sub (ws' := []) [] rfl
  have hD9 := hD.sub (ws' := []) [] (by decide) rfl
  have hK9 := hK.sub (tys' := []) [] rfl
  refine W.widen (k := 0) (n := 0) (Nat.le_of_ble_eq_true rfl) (Nat.le_of_ble_eq_true rfl) ?_
  exact W.zret (v := 1) (ty := .boolean) hx hb hr rfl (fun t ht hW => ⟨⟨1, (), rfl, rfl, by rw [ht]; exact hP9, va_K.moved hW.alike hK9, hD9⟩, hS.F ht⟩) hS.2.2 dX11_within_15

set_option maxHeartbeats 4000000 in
set_option maxRecDepth 100000 in
/-- within(v, low, high) -/
theorem c_m_within_f (l : Launch) (dC : Nat → ClassId) (dI : Nat → Nat → Nat) (sz : Nat) (p0 : Int32) (p1 : Int32) (p2 : Int32) (h1 : ¬ (p1 ≤ p0 ∧ p0 ≤ p2)) : Met l yX11_within wsX11_within ({ frames := 0, cells := 0, slots := 0, locals := 0 }) (va_Pc [.int p0, .int p1, .int p2] (fun U => U.heap.size = sz ∧ va_P (dC, dI) vwCl [] U.heap ∧ va_K (dC, dI) vwCl [] U ∧ va_D (fun _ => True) [])) (va_Qi (fun (r : Int32) (_ : Unit) => r = 0) (fun _ t => va_P (dC, dI) vwCl [] t.heap ∧ va_K (dC, dI) vwCl [] t ∧ va_D (va_A [] sz) []) (va_A [] sz)) 0 0 (va_A [] sz) := by
  refine Met.ofW (cc := cX11_within) (maxL := 3) (ret := (some .boolean)) (by decide) rfl ?_
  intro p e s m args below meth c s₁ B hml hv
  obtain ⟨rfl, hsz, hP, hK, hD0⟩ := hv
  have hx := B.exec
  have hb := B.bytes
  have hr := B.returns
  have hts := atoms_spec (ws := wsX11_within) B.pre
  have hown : s.vm.findClass RX11 = some m.cls := findClass_of_methodNamed B.named
  have hlocks := B.notSynchronized
  subst hsz
  have hD := hD0.self (sz := s.heap.size)
  generalize hAe : va_A [] s.heap.size = A at hD ⊢
  have hA : ∀ q : Nat, s.heap.size ≤ q → A q := fun q h => by rw [← hAe]; exact Or.inr h
  have hS : va_S A s.heap s.heap [] := va_S.rf
  have hP : va_P (dC, dI) vwCl [] s.heap := hP
  have hl := lv_entry ([.int p0, .int p1, .int p2]) (n := 3) (Nat.le_of_ble_eq_true rfl)
  rw [lg_entry_eq]
  generalize (lg_sl ([.int p0, .int p1, .int p2]) ++ List.replicate (3 - (lg_sl ([.int p0, .int p1, .int p2])).length) Slot.unset).toArray = ls at hl ⊢
  have hl : lv_has ls 3 [(0, .int p0), (1, .int p1), (2, .int p2)] := hl
  refine lv_iload_n hx hb dX11_within_0 rfl (lv_at hl 0 rfl) ?_
  refine lv_iload_n hx hb dX11_within_1 rfl (lv_at hl 1 rfl) ?_
  refine lv_icmp_lt (tgt := 14) hx hb dX11_within_2 (by decide) (fun c_1 => ?_) (fun c_1 => ?_)
  · refine lv_iconst (v := 0) hx hb dX11_within_14 (by decide) ?_
    have hP9 := hP.sub (ws' := []) [] rfl
    have hD9 := hD.sub (ws' := []) [] (by decide) rfl
    have hK9 := hK.sub (tys' := []) [] rfl
    refine W.widen (k := 0) (n := 0) (Nat.le_of_ble_eq_true rfl) (Nat.le_of_ble_eq_true rfl) ?_
    exact W.zret (v := 0) (ty := .boolean) hx hb hr rfl (fun t ht hW => ⟨⟨0, (), rfl, rfl, by rw [ht]; exact hP9, va_K.moved hW.alike hK9, hD9⟩, hS.F ht⟩) hS.2.2 dX11_within_15
  · refine lv_iload_n hx hb dX11_within_5 rfl (lv_at hl 0 rfl) ?_
    refine lv_iload_n hx hb dX11_within_6 rfl (lv_at hl 2 rfl) ?_
    refine lv_icmp_gt (tgt := 14) hx hb dX11_within_7 (by decide) (fun c_2 => ?_) (fun c_2 => absurd ⟨Int32.not_lt.mp c_1, Int32.not_lt.mp c_2⟩ h1)
    refine lv_iconst (v := 0) hx hb dX11_within_14 (by decide) ?_
    have hP9 := hP.sub (ws' := []) [] rfl
    have hD9 := hD.sub (ws' := []) [] (by decide) rfl
    have hK9 := hK.sub (tys' := []) [] rfl
    refine W.widen (k := 0) (n := 0) (Nat.le_of_ble_eq_true rfl) (Nat.le_of_ble_eq_true rfl) ?_
    exact W.zret (v := 0) (ty := .boolean) hx hb hr rfl (fun t ht hW => ⟨⟨0, (), rfl, rfl, by rw [ht]; exact hP9, va_K.moved hW.alike hK9, hD9⟩, hS.F ht⟩) hS.2.2 dX11_within_15

set_option maxRecDepth 20000 in
theorem iw_X10_size_X10_c_size_0 : ∀ w ∈ wsX100, w ∈ wsX10_size := by decide +kernel
set_option maxRecDepth 20000 in
theorem iw_X10_size_X3_c_size_0 : ∀ w ∈ wsX30, w ∈ wsX10_size := by decide +kernel
set_option maxRecDepth 20000 in
theorem iw_X10_size_X4_c_size_0 : ∀ w ∈ wsX40, w ∈ wsX10_size := by decide +kernel
set_option maxRecDepth 20000 in
theorem iw_X10_size_X5_c_size_0 : ∀ w ∈ wsX50, w ∈ wsX10_size := by decide +kernel
set_option maxRecDepth 20000 in
theorem iw_X10_size_X8_c_size_0 : ∀ w ∈ wsX80, w ∈ wsX10_size := by decide +kernel
set_option maxRecDepth 20000 in
theorem iw_X10_size_X9_c_size_0 : ∀ w ∈ wsX90, w ∈ wsX10_size := by decide +kernel
set_option maxHeartbeats 4000000 in
set_option maxRecDepth 100000 in
/-- size without a BOOK -/
theorem c_size_0 (l : Launch) (dC : Nat → ClassId) (dI : Nat → Nat → Nat) (sz : Nat) (h0 : Nat) (tp : Nat) (rd : Nat) (tb : Nat) (rg : Nat) (bl : Nat) (pa : Nat) (fm : Nat) (te : Nat) (hi : Nat) (fr : Nat) (fd : Int32) (rf : Int32) (lf : Int32) (fp : Int32) (vr : Int32) (a1 : Nat) (a2 : Nat) (a3 : Nat) (a4 : Nat) (pa_ways : Int32) (pa_everOne : Int32) (pa_everNone : Int32) (pa_held : Nat) (fm_corners : Int32) (fm_colourings : Int32) (fm_mostOnes : Int32) (fm_spares : Int32) (fm_staying : Int32) (fm_meets : Nat) (fm_cornerBits : Nat) (fm_worked : Int32) (fm_present : Int32) (fm_found : Int32) (fm_most : Int32) (te_states : Int32) (te_steps : Int32) (te_worked : Int32) (te_stepLook : Nat) (te_stepTold : Nat) (te_stepEnds : Nat) (te_answers : Nat) (te_goesTo : Nat) (te_reasons : Nat) (hi_acts : Nat) (hi_rows : Nat) (hi_marked : Nat) (hi_table : Nat) (p0 : Int32)  : Met l yX10_size wsX10_size ({ frames := 0, cells := 0, slots := 0, locals := 0 }) (va_Pc [.ref h0, .int p0] (fun U => U.heap.size = sz ∧ va_P (dC, dI) vwCl [(h0, .inr (10, [.ref tp, .ref rd, .ref tb, .ref rg, .ref bl, .ref pa, .ref fm, .ref te, .ref hi, .ref fr, .int fd, .int rf, .int lf, .int fp])), (tb, .inr (8, [.int 0, .int 0, .int 0, .int vr, .ref a1, .ref a2, .ref a3, .ref a4])), (pa, .inr (5, [.int 0, .int 0, .int pa_ways, .int pa_everOne, .int pa_everNone, .ref pa_held])), (fm, .inr (3, [.int 0, .int fm_corners, .int fm_colourings, .int fm_mostOnes, .int fm_spares, .int fm_staying, .ref fm_meets, .ref fm_cornerBits, .int fm_worked, .int fm_present, .int fm_found, .int fm_most])), (te, .inr (9, [.int 0, .int te_states, .int te_steps, .int te_worked, .ref te_stepLook, .ref te_stepTold, .ref te_stepEnds, .ref te_answers, .ref te_goesTo, .ref te_reasons])), (hi, .inr (4, [.int 0, .int 0, .int 0, .ref hi_acts, .ref hi_rows, .ref hi_marked, .ref hi_table]))] U.heap ∧ va_K (dC, dI) vwCl [] U ∧ va_D (fun _ => True) [(h0, .inr (10, [.ref tp, .ref rd, .ref tb, .ref rg, .ref bl, .ref pa, .ref fm, .ref te, .ref hi, .ref fr, .int fd, .int rf, .int lf, .int fp])), (tb, .inr (8, [.int 0, .int 0, .int 0, .int vr, .ref a1, .ref a2, .ref a3, .ref a4])), (pa, .inr (5, [.int 0, .int 0, .int pa_ways, .int pa_everOne, .int pa_everNone, .ref pa_held])), (fm, .inr (3, [.int 0, .int fm_corners, .int fm_colourings, .int fm_mostOnes, .int fm_spares, .int fm_staying, .ref fm_meets, .ref fm_cornerBits, .int fm_worked, .int fm_present, .int fm_found, .int fm_most])), (te, .inr (9, [.int 0, .int te_states, .int te_steps, .int te_worked, .ref te_stepLook, .ref te_stepTold, .ref te_stepEnds, .ref te_answers, .ref te_goesTo, .ref te_reasons])), (hi, .inr (4, [.int 0, .int 0, .int 0, .ref hi_acts, .ref hi_rows, .ref hi_marked, .ref hi_table]))])) (va_Qi (fun (r : Int32) (_ : Unit) => r = szv p0 fd) (fun _ t => va_P (dC, dI) vwCl [(h0, .inr (10, [.ref tp, .ref rd, .ref tb, .ref rg, .ref bl, .ref pa, .ref fm, .ref te, .ref hi, .ref fr, .int fd, .int rf, .int lf, .int fp])), (tb, .inr (8, [.int 0, .int 0, .int 0, .int vr, .ref a1, .ref a2, .ref a3, .ref a4])), (pa, .inr (5, [.int 0, .int 0, .int pa_ways, .int pa_everOne, .int pa_everNone, .ref pa_held])), (fm, .inr (3, [.int 0, .int fm_corners, .int fm_colourings, .int fm_mostOnes, .int fm_spares, .int fm_staying, .ref fm_meets, .ref fm_cornerBits, .int fm_worked, .int fm_present, .int fm_found, .int fm_most])), (te, .inr (9, [.int 0, .int te_states, .int te_steps, .int te_worked, .ref te_stepLook, .ref te_stepTold, .ref te_stepEnds, .ref te_answers, .ref te_goesTo, .ref te_reasons])), (hi, .inr (4, [.int 0, .int 0, .int 0, .ref hi_acts, .ref hi_rows, .ref hi_marked, .ref hi_table]))] t.heap ∧ va_K (dC, dI) vwCl [] t ∧ va_D (va_A [(h0, .inr (10, [.ref tp, .ref rd, .ref tb, .ref rg, .ref bl, .ref pa, .ref fm, .ref te, .ref hi, .ref fr, .int fd, .int rf, .int lf, .int fp])), (tb, .inr (8, [.int 0, .int 0, .int 0, .int vr, .ref a1, .ref a2, .ref a3, .ref a4])), (pa, .inr (5, [.int 0, .int 0, .int pa_ways, .int pa_everOne, .int pa_everNone, .ref pa_held])), (fm, .inr (3, [.int 0, .int fm_corners, .int fm_colourings, .int fm_mostOnes, .int fm_spares, .int fm_staying, .ref fm_meets, .ref fm_cornerBits, .int fm_worked, .int fm_present, .int fm_found, .int fm_most])), (te, .inr (9, [.int 0, .int te_states, .int te_steps, .int te_worked, .ref te_stepLook, .ref te_stepTold, .ref te_stepEnds, .ref te_answers, .ref te_goesTo, .ref te_reasons])), (hi, .inr (4, [.int 0, .int 0, .int 0, .ref hi_acts, .ref hi_rows, .ref hi_marked, .ref hi_table]))] sz) [(h0, .inr (10, [.ref tp, .ref rd, .ref tb, .ref rg, .ref bl, .ref pa, .ref fm, .ref te, .ref hi, .ref fr, .int fd, .int rf, .int lf, .int fp])), (tb, .inr (8, [.int 0, .int 0, .int 0, .int vr, .ref a1, .ref a2, .ref a3, .ref a4])), (pa, .inr (5, [.int 0, .int 0, .int pa_ways, .int pa_everOne, .int pa_everNone, .ref pa_held])), (fm, .inr (3, [.int 0, .int fm_corners, .int fm_colourings, .int fm_mostOnes, .int fm_spares, .int fm_staying, .ref fm_meets, .ref fm_cornerBits, .int fm_worked, .int fm_present, .int fm_found, .int fm_most])), (te, .inr (9, [.int 0, .int te_states, .int te_steps, .int te_worked, .ref te_stepLook, .ref te_stepTold, .ref te_stepEnds, .ref te_answers, .ref te_goesTo, .ref te_reasons])), (hi, .inr (4, [.int 0, .int 0, .int 0, .ref hi_acts, .ref hi_rows, .ref hi_marked, .ref hi_table]))]) (va_A [(h0, .inr (10, [.ref tp, .ref rd, .ref tb, .ref rg, .ref bl, .ref pa, .ref fm, .ref te, .ref hi, .ref fr, .int fd, .int rf, .int lf, .int fp])), (tb, .inr (8, [.int 0, .int 0, .int 0, .int vr, .ref a1, .ref a2, .ref a3, .ref a4])), (pa, .inr (5, [.int 0, .int 0, .int pa_ways, .int pa_everOne, .int pa_everNone, .ref pa_held])), (fm, .inr (3, [.int 0, .int fm_corners, .int fm_colourings, .int fm_mostOnes, .int fm_spares, .int fm_staying, .ref fm_meets, .ref fm_cornerBits, .int fm_worked, .int fm_present, .int fm_found, .int fm_most])), (te, .inr (9, [.int 0, .int te_states, .int te_steps, .int te_worked, .ref te_stepLook, .ref te_stepTold, .ref te_stepEnds, .ref te_answers, .ref te_goesTo, .ref te_reasons])), (hi, .inr (4, [.int 0, .int 0, .int 0, .ref hi_acts, .ref hi_rows, .ref hi_marked, .ref hi_table]))] sz)) 0 0 (va_A [(h0, .inr (10, [.ref tp, .ref rd, .ref tb, .ref rg, .ref bl, .ref pa, .ref fm, .ref te, .ref hi, .ref fr, .int fd, .int rf, .int lf, .int fp])), (tb, .inr (8, [.int 0, .int 0, .int 0, .int vr, .ref a1, .ref a2, .ref a3, .ref a4])), (pa, .inr (5, [.int 0, .int 0, .int pa_ways, .int pa_everOne, .int pa_everNone, .ref pa_held])), (fm, .inr (3, [.int 0, .int fm_corners, .int fm_colourings, .int fm_mostOnes, .int fm_spares, .int fm_staying, .ref fm_meets, .ref fm_cornerBits, .int fm_worked, .int fm_present, .int fm_found, .int fm_most])), (te, .inr (9, [.int 0, .int te_states, .int te_steps, .int te_worked, .ref te_stepLook, .ref te_stepTold, .ref te_stepEnds, .ref te_answers, .ref te_goesTo, .ref te_reasons])), (hi, .inr (4, [.int 0, .int 0, .int 0, .ref hi_acts, .ref hi_rows, .ref hi_marked, .ref hi_table]))] sz) := by
  refine Met.ofW (cc := cX10_size) (maxL := 2) (ret := (some .int)) (by decide) rfl ?_
  intro p e s m args below meth c s₁ B hml hv
  obtain ⟨rfl, hsz, hP, hK, hD0⟩ := hv
  have hx := B.exec
  have hb := B.bytes
  have hr := B.returns
  have hts := atoms_spec (ws := wsX10_size) B.pre
  have hown : s.vm.findClass RX10 = some m.cls := findClass_of_methodNamed B.named
  have hlocks := B.notSynchronized
  subst hsz
  have hD := hD0.self (sz := s.heap.size)
  generalize hAe : va_A [(h0, .inr (10, [.ref tp, .ref rd, .ref tb, .ref rg, .ref bl, .ref pa, .ref fm, .ref te, .ref hi, .ref fr, .int fd, .int rf, .int lf, .int fp])), (tb, .inr (8, [.int 0, .int 0, .int 0, .int vr, .ref a1, .ref a2, .ref a3, .ref a4])), (pa, .inr (5, [.int 0, .int 0, .int pa_ways, .int pa_everOne, .int pa_everNone, .ref pa_held])), (fm, .inr (3, [.int 0, .int fm_corners, .int fm_colourings, .int fm_mostOnes, .int fm_spares, .int fm_staying, .ref fm_meets, .ref fm_cornerBits, .int fm_worked, .int fm_present, .int fm_found, .int fm_most])), (te, .inr (9, [.int 0, .int te_states, .int te_steps, .int te_worked, .ref te_stepLook, .ref te_stepTold, .ref te_stepEnds, .ref te_answers, .ref te_goesTo, .ref te_reasons])), (hi, .inr (4, [.int 0, .int 0, .int 0, .ref hi_acts, .ref hi_rows, .ref hi_marked, .ref hi_table]))] s.heap.size = A at hD ⊢
  have hA : ∀ q : Nat, s.heap.size ≤ q → A q := fun q h => by rw [← hAe]; exact Or.inr h
  have hS : va_S A s.heap s.heap [] := va_S.rf
  have hP : va_P (dC, dI) vwCl [(h0, .inr (10, [.ref tp, .ref rd, .ref tb, .ref rg, .ref bl, .ref pa, .ref fm, .ref te, .ref hi, .ref fr, .int fd, .int rf, .int lf, .int fp])), (tb, .inr (8, [.int 0, .int 0, .int 0, .int vr, .ref a1, .ref a2, .ref a3, .ref a4])), (pa, .inr (5, [.int 0, .int 0, .int pa_ways, .int pa_everOne, .int pa_everNone, .ref pa_held])), (fm, .inr (3, [.int 0, .int fm_corners, .int fm_colourings, .int fm_mostOnes, .int fm_spares, .int fm_staying, .ref fm_meets, .ref fm_cornerBits, .int fm_worked, .int fm_present, .int fm_found, .int fm_most])), (te, .inr (9, [.int 0, .int te_states, .int te_steps, .int te_worked, .ref te_stepLook, .ref te_stepTold, .ref te_stepEnds, .ref te_answers, .ref te_goesTo, .ref te_reasons])), (hi, .inr (4, [.int 0, .int 0, .int 0, .ref hi_acts, .ref hi_rows, .ref hi_marked, .ref hi_table]))] s.heap := hP
  have hl := lv_entry ([.ref h0, .int p0]) (n := 2) (Nat.le_of_ble_eq_true rfl)
  rw [lg_entry_eq]
  generalize (lg_sl ([.ref h0, .int p0]) ++ List.replicate (2 - (lg_sl ([.ref h0, .int p0])).length) Slot.unset).toArray = ls at hl ⊢
  have hl : lv_has ls 2 [(0, .ref h0), (1, .int p0)] := hl
  refine lv_iload_n hx hb dX10_size_0 rfl (lv_at hl 1 rfl) ?_
  rcases sw_10 p0 with hsw | hsw | hsw | hsw | hsw | hsw | hsw | hsw | hsw | hsw | hsw | hsw
  · refine lv_tableOut (tgt := 153) hx hb dX10_size_1 hsw (by decide) ?_
    refine lv_iconst (v := (-1)) hx hb dX10_size_153 (by decide) ?_
    have hP9 := hP.sub (ws' := [(h0, .inr (10, [.ref tp, .ref rd, .ref tb, .ref rg, .ref bl, .ref pa, .ref fm, .ref te, .ref hi, .ref fr, .int fd, .int rf, .int lf, .int fp])), (tb, .inr (8, [.int 0, .int 0, .int 0, .int vr, .ref a1, .ref a2, .ref a3, .ref a4])), (pa, .inr (5, [.int 0, .int 0, .int pa_ways, .int pa_everOne, .int pa_everNone, .ref pa_held])), (fm, .inr (3, [.int 0, .int fm_corners, .int fm_colourings, .int fm_mostOnes, .int fm_spares, .int fm_staying, .ref fm_meets, .ref fm_cornerBits, .int fm_worked, .int fm_present, .int fm_found, .int fm_most])), (te, .inr (9, [.int 0, .int te_states, .int te_steps, .int te_worked, .ref te_stepLook, .ref te_stepTold, .ref te_stepEnds, .ref te_answers, .ref te_goesTo, .ref te_reasons])), (hi, .inr (4, [.int 0, .int 0, .int 0, .ref hi_acts, .ref hi_rows, .ref hi_marked, .ref hi_table]))]) [0, 1, 2, 3, 4, 5] rfl
    have hD9 := hD.sub (ws' := [(h0, .inr (10, [.ref tp, .ref rd, .ref tb, .ref rg, .ref bl, .ref pa, .ref fm, .ref te, .ref hi, .ref fr, .int fd, .int rf, .int lf, .int fp])), (tb, .inr (8, [.int 0, .int 0, .int 0, .int vr, .ref a1, .ref a2, .ref a3, .ref a4])), (pa, .inr (5, [.int 0, .int 0, .int pa_ways, .int pa_everOne, .int pa_everNone, .ref pa_held])), (fm, .inr (3, [.int 0, .int fm_corners, .int fm_colourings, .int fm_mostOnes, .int fm_spares, .int fm_staying, .ref fm_meets, .ref fm_cornerBits, .int fm_worked, .int fm_present, .int fm_found, .int fm_most])), (te, .inr (9, [.int 0, .int te_states, .int te_steps, .int te_worked, .ref te_stepLook, .ref te_stepTold, .ref te_stepEnds, .ref te_answers, .ref te_goesTo, .ref te_reasons])), (hi, .inr (4, [.int 0, .int 0, .int 0, .ref hi_acts, .ref hi_rows, .ref hi_marked, .ref hi_table]))]) [0, 1, 2, 3, 4, 5] (by decide) rfl
    have hK9 := hK.sub (tys' := []) [] rfl
    refine W.widen (k := 0) (n := 0) (Nat.le_of_ble_eq_true rfl) (Nat.le_of_ble_eq_true rfl) ?_
    exact W.iret (v := (-1)) hx hb hr (fun t ht hW => ⟨⟨(-1), (), rfl, (szv_out hsw).symm, by rw [ht]; exact hP9, va_K.moved hW.alike hK9, hD9⟩, hS.F ht⟩) hS.2.2 dX10_size_154
  · refine lv_tableIn (off := 59) (tgt := 60) hx hb dX10_size_1 (by rw [hsw]; decide) (by rw [hsw]; decide) (by rw [hsw]; decide) (by decide) ?_
    refine lv_aload_n hx hb dX10_size_60 rfl (lv_at hl 0 rfl) ?_
    refine va_get (D := (dC, dI)) (ci := 10) (v := .ref tb) (C := RX10) (T := TX10) (N := 14) hx hb hts iw_X10_size_X10_c_size_0 hown hK hP 0 rfl rfl 2 (by decide) (hts (.fieldLink RX10 25 "NotAtOnce" "table" "LNotAtOnce$Table;") (by decide +kernel)) (fun _ h9 => h9) rfl dX10_size_61 ?_
    refine va_get (D := (dC, dI)) (ci := 8) (v := .int 0) (C := RX8) (T := TX8) (N := 8) hx hb hts iw_X10_size_X8_c_size_0 hown hK hP 1 rfl rfl 1 (by decide) (hts (.fieldLink RX10 122 "NotAtOnce$Table" "looks" "I") (by decide +kernel)) (fun _ h9 => h9) rfl dX10_size_64 ?_
    have hP9 := hP.sub (ws' := [(h0, .inr (10, [.ref tp, .ref rd, .ref tb, .ref rg, .ref bl, .ref pa, .ref fm, .ref te, .ref hi, .ref fr, .int fd, .int rf, .int lf, .int fp])), (tb, .inr (8, [.int 0, .int 0, .int 0, .int vr, .ref a1, .ref a2, .ref a3, .ref a4])), (pa, .inr (5, [.int 0, .int 0, .int pa_ways, .int pa_everOne, .int pa_everNone, .ref pa_held])), (fm, .inr (3, [.int 0, .int fm_corners, .int fm_colourings, .int fm_mostOnes, .int fm_spares, .int fm_staying, .ref fm_meets, .ref fm_cornerBits, .int fm_worked, .int fm_present, .int fm_found, .int fm_most])), (te, .inr (9, [.int 0, .int te_states, .int te_steps, .int te_worked, .ref te_stepLook, .ref te_stepTold, .ref te_stepEnds, .ref te_answers, .ref te_goesTo, .ref te_reasons])), (hi, .inr (4, [.int 0, .int 0, .int 0, .ref hi_acts, .ref hi_rows, .ref hi_marked, .ref hi_table]))]) [0, 1, 2, 3, 4, 5] rfl
    have hD9 := hD.sub (ws' := [(h0, .inr (10, [.ref tp, .ref rd, .ref tb, .ref rg, .ref bl, .ref pa, .ref fm, .ref te, .ref hi, .ref fr, .int fd, .int rf, .int lf, .int fp])), (tb, .inr (8, [.int 0, .int 0, .int 0, .int vr, .ref a1, .ref a2, .ref a3, .ref a4])), (pa, .inr (5, [.int 0, .int 0, .int pa_ways, .int pa_everOne, .int pa_everNone, .ref pa_held])), (fm, .inr (3, [.int 0, .int fm_corners, .int fm_colourings, .int fm_mostOnes, .int fm_spares, .int fm_staying, .ref fm_meets, .ref fm_cornerBits, .int fm_worked, .int fm_present, .int fm_found, .int fm_most])), (te, .inr (9, [.int 0, .int te_states, .int te_steps, .int te_worked, .ref te_stepLook, .ref te_stepTold, .ref te_stepEnds, .ref te_answers, .ref te_goesTo, .ref te_reasons])), (hi, .inr (4, [.int 0, .int 0, .int 0, .ref hi_acts, .ref hi_rows, .ref hi_marked, .ref hi_table]))]) [0, 1, 2, 3, 4, 5] (by decide) rfl
    have hK9 := hK.sub (tys' := []) [] rfl
    refine W.widen (k := 0) (n := 0) (Nat.le_of_ble_eq_true rfl) (Nat.le_of_ble_eq_true rfl) ?_
    exact W.iret (v := 0) hx hb hr (fun t ht hW => ⟨⟨0, (), rfl, (by rw [hsw]; exact (szv_in _ (by decide) (by decide) (by decide)).symm), by rw [ht]; exact hP9, va_K.moved hW.alike hK9, hD9⟩, hS.F ht⟩) hS.2.2 dX10_size_67
  · refine lv_tableIn (off := 67) (tgt := 68) hx hb dX10_size_1 (by rw [hsw]; decide) (by rw [hsw]; decide) (by rw [hsw]; decide) (by decide) ?_
    refine lv_aload_n hx hb dX10_size_68 rfl (lv_at hl 0 rfl) ?_
    refine va_get (D := (dC, dI)) (ci := 10) (v := .ref pa) (C := RX10) (T := TX10) (N := 14) hx hb hts iw_X10_size_X10_c_size_0 hown hK hP 0 rfl rfl 5 (by decide) (hts (.fieldLink RX10 57 "NotAtOnce" "parities" "LNotAtOnce$Parities;") (by decide +kernel)) (fun _ h9 => h9) rfl dX10_size_69 ?_
    refine va_get (D := (dC, dI)) (ci := 5) (v := .int 0) (C := RX5) (T := TX5) (N := 6) hx hb hts iw_X10_size_X5_c_size_0 hown hK hP 2 rfl rfl 0 (by decide) (hts (.fieldLink RX10 225 "NotAtOnce$Parities" "points" "I") (by decide +kernel)) (fun _ h9 => h9) rfl dX10_size_72 ?_
    have hP9 := hP.sub (ws' := [(h0, .inr (10, [.ref tp, .ref rd, .ref tb, .ref rg, .ref bl, .ref pa, .ref fm, .ref te, .ref hi, .ref fr, .int fd, .int rf, .int lf, .int fp])), (tb, .inr (8, [.int 0, .int 0, .int 0, .int vr, .ref a1, .ref a2, .ref a3, .ref a4])), (pa, .inr (5, [.int 0, .int 0, .int pa_ways, .int pa_everOne, .int pa_everNone, .ref pa_held])), (fm, .inr (3, [.int 0, .int fm_corners, .int fm_colourings, .int fm_mostOnes, .int fm_spares, .int fm_staying, .ref fm_meets, .ref fm_cornerBits, .int fm_worked, .int fm_present, .int fm_found, .int fm_most])), (te, .inr (9, [.int 0, .int te_states, .int te_steps, .int te_worked, .ref te_stepLook, .ref te_stepTold, .ref te_stepEnds, .ref te_answers, .ref te_goesTo, .ref te_reasons])), (hi, .inr (4, [.int 0, .int 0, .int 0, .ref hi_acts, .ref hi_rows, .ref hi_marked, .ref hi_table]))]) [0, 1, 2, 3, 4, 5] rfl
    have hD9 := hD.sub (ws' := [(h0, .inr (10, [.ref tp, .ref rd, .ref tb, .ref rg, .ref bl, .ref pa, .ref fm, .ref te, .ref hi, .ref fr, .int fd, .int rf, .int lf, .int fp])), (tb, .inr (8, [.int 0, .int 0, .int 0, .int vr, .ref a1, .ref a2, .ref a3, .ref a4])), (pa, .inr (5, [.int 0, .int 0, .int pa_ways, .int pa_everOne, .int pa_everNone, .ref pa_held])), (fm, .inr (3, [.int 0, .int fm_corners, .int fm_colourings, .int fm_mostOnes, .int fm_spares, .int fm_staying, .ref fm_meets, .ref fm_cornerBits, .int fm_worked, .int fm_present, .int fm_found, .int fm_most])), (te, .inr (9, [.int 0, .int te_states, .int te_steps, .int te_worked, .ref te_stepLook, .ref te_stepTold, .ref te_stepEnds, .ref te_answers, .ref te_goesTo, .ref te_reasons])), (hi, .inr (4, [.int 0, .int 0, .int 0, .ref hi_acts, .ref hi_rows, .ref hi_marked, .ref hi_table]))]) [0, 1, 2, 3, 4, 5] (by decide) rfl
    have hK9 := hK.sub (tys' := []) [] rfl
    refine W.widen (k := 0) (n := 0) (Nat.le_of_ble_eq_true rfl) (Nat.le_of_ble_eq_true rfl) ?_
    exact W.iret (v := 0) hx hb hr (fun t ht hW => ⟨⟨0, (), rfl, (by rw [hsw]; exact (szv_in _ (by decide) (by decide) (by decide)).symm), by rw [ht]; exact hP9, va_K.moved hW.alike hK9, hD9⟩, hS.F ht⟩) hS.2.2 dX10_size_75
  · refine lv_tableIn (off := 75) (tgt := 76) hx hb dX10_size_1 (by rw [hsw]; decide) (by rw [hsw]; decide) (by rw [hsw]; decide) (by decide) ?_
    refine lv_aload_n hx hb dX10_size_76 rfl (lv_at hl 0 rfl) ?_
    refine va_get (D := (dC, dI)) (ci := 10) (v := .ref tb) (C := RX10) (T := TX10) (N := 14) hx hb hts iw_X10_size_X10_c_size_0 hown hK hP 0 rfl rfl 2 (by decide) (hts (.fieldLink RX10 25 "NotAtOnce" "table" "LNotAtOnce$Table;") (by decide +kernel)) (fun _ h9 => h9) rfl dX10_size_77 ?_
    refine va_get (D := (dC, dI)) (ci := 8) (v := .int 0) (C := RX8) (T := TX8) (N := 8) hx hb hts iw_X10_size_X8_c_size_0 hown hK hP 1 rfl rfl 2 (by decide) (hts (.fieldLink RX10 348 "NotAtOnce$Table" "count" "I") (by decide +kernel)) (fun _ h9 => h9) rfl dX10_size_80 ?_
    have hP9 := hP.sub (ws' := [(h0, .inr (10, [.ref tp, .ref rd, .ref tb, .ref rg, .ref bl, .ref pa, .ref fm, .ref te, .ref hi, .ref fr, .int fd, .int rf, .int lf, .int fp])), (tb, .inr (8, [.int 0, .int 0, .int 0, .int vr, .ref a1, .ref a2, .ref a3, .ref a4])), (pa, .inr (5, [.int 0, .int 0, .int pa_ways, .int pa_everOne, .int pa_everNone, .ref pa_held])), (fm, .inr (3, [.int 0, .int fm_corners, .int fm_colourings, .int fm_mostOnes, .int fm_spares, .int fm_staying, .ref fm_meets, .ref fm_cornerBits, .int fm_worked, .int fm_present, .int fm_found, .int fm_most])), (te, .inr (9, [.int 0, .int te_states, .int te_steps, .int te_worked, .ref te_stepLook, .ref te_stepTold, .ref te_stepEnds, .ref te_answers, .ref te_goesTo, .ref te_reasons])), (hi, .inr (4, [.int 0, .int 0, .int 0, .ref hi_acts, .ref hi_rows, .ref hi_marked, .ref hi_table]))]) [0, 1, 2, 3, 4, 5] rfl
    have hD9 := hD.sub (ws' := [(h0, .inr (10, [.ref tp, .ref rd, .ref tb, .ref rg, .ref bl, .ref pa, .ref fm, .ref te, .ref hi, .ref fr, .int fd, .int rf, .int lf, .int fp])), (tb, .inr (8, [.int 0, .int 0, .int 0, .int vr, .ref a1, .ref a2, .ref a3, .ref a4])), (pa, .inr (5, [.int 0, .int 0, .int pa_ways, .int pa_everOne, .int pa_everNone, .ref pa_held])), (fm, .inr (3, [.int 0, .int fm_corners, .int fm_colourings, .int fm_mostOnes, .int fm_spares, .int fm_staying, .ref fm_meets, .ref fm_cornerBits, .int fm_worked, .int fm_present, .int fm_found, .int fm_most])), (te, .inr (9, [.int 0, .int te_states, .int te_steps, .int te_worked, .ref te_stepLook, .ref te_stepTold, .ref te_stepEnds, .ref te_answers, .ref te_goesTo, .ref te_reasons])), (hi, .inr (4, [.int 0, .int 0, .int 0, .ref hi_acts, .ref hi_rows, .ref hi_marked, .ref hi_table]))]) [0, 1, 2, 3, 4, 5] (by decide) rfl
    have hK9 := hK.sub (tys' := []) [] rfl
    refine W.widen (k := 0) (n := 0) (Nat.le_of_ble_eq_true rfl) (Nat.le_of_ble_eq_true rfl) ?_
    exact W.iret (v := 0) hx hb hr (fun t ht hW => ⟨⟨0, (), rfl, (by rw [hsw]; exact (szv_in _ (by decide) (by decide) (by decide)).symm), by rw [ht]; exact hP9, va_K.moved hW.alike hK9, hD9⟩, hS.F ht⟩) hS.2.2 dX10_size_83
  · refine lv_tableIn (off := 83) (tgt := 84) hx hb dX10_size_1 (by rw [hsw]; decide) (by rw [hsw]; decide) (by rw [hsw]; decide) (by decide) ?_
    refine lv_aload_n hx hb dX10_size_84 rfl (lv_at hl 0 rfl) ?_
    refine va_get (D := (dC, dI)) (ci := 10) (v := .ref pa) (C := RX10) (T := TX10) (N := 14) hx hb hts iw_X10_size_X10_c_size_0 hown hK hP 0 rfl rfl 5 (by decide) (hts (.fieldLink RX10 57 "NotAtOnce" "parities" "LNotAtOnce$Parities;") (by decide +kernel)) (fun _ h9 => h9) rfl dX10_size_85 ?_
    refine va_get (D := (dC, dI)) (ci := 5) (v := .int 0) (C := RX5) (T := TX5) (N := 6) hx hb hts iw_X10_size_X5_c_size_0 hown hK hP 2 rfl rfl 1 (by decide) (hts (.fieldLink RX10 234 "NotAtOnce$Parities" "lines" "I") (by decide +kernel)) (fun _ h9 => h9) rfl dX10_size_88 ?_
    have hP9 := hP.sub (ws' := [(h0, .inr (10, [.ref tp, .ref rd, .ref tb, .ref rg, .ref bl, .ref pa, .ref fm, .ref te, .ref hi, .ref fr, .int fd, .int rf, .int lf, .int fp])), (tb, .inr (8, [.int 0, .int 0, .int 0, .int vr, .ref a1, .ref a2, .ref a3, .ref a4])), (pa, .inr (5, [.int 0, .int 0, .int pa_ways, .int pa_everOne, .int pa_everNone, .ref pa_held])), (fm, .inr (3, [.int 0, .int fm_corners, .int fm_colourings, .int fm_mostOnes, .int fm_spares, .int fm_staying, .ref fm_meets, .ref fm_cornerBits, .int fm_worked, .int fm_present, .int fm_found, .int fm_most])), (te, .inr (9, [.int 0, .int te_states, .int te_steps, .int te_worked, .ref te_stepLook, .ref te_stepTold, .ref te_stepEnds, .ref te_answers, .ref te_goesTo, .ref te_reasons])), (hi, .inr (4, [.int 0, .int 0, .int 0, .ref hi_acts, .ref hi_rows, .ref hi_marked, .ref hi_table]))]) [0, 1, 2, 3, 4, 5] rfl
    have hD9 := hD.sub (ws' := [(h0, .inr (10, [.ref tp, .ref rd, .ref tb, .ref rg, .ref bl, .ref pa, .ref fm, .ref te, .ref hi, .ref fr, .int fd, .int rf, .int lf, .int fp])), (tb, .inr (8, [.int 0, .int 0, .int 0, .int vr, .ref a1, .ref a2, .ref a3, .ref a4])), (pa, .inr (5, [.int 0, .int 0, .int pa_ways, .int pa_everOne, .int pa_everNone, .ref pa_held])), (fm, .inr (3, [.int 0, .int fm_corners, .int fm_colourings, .int fm_mostOnes, .int fm_spares, .int fm_staying, .ref fm_meets, .ref fm_cornerBits, .int fm_worked, .int fm_present, .int fm_found, .int fm_most])), (te, .inr (9, [.int 0, .int te_states, .int te_steps, .int te_worked, .ref te_stepLook, .ref te_stepTold, .ref te_stepEnds, .ref te_answers, .ref te_goesTo, .ref te_reasons])), (hi, .inr (4, [.int 0, .int 0, .int 0, .ref hi_acts, .ref hi_rows, .ref hi_marked, .ref hi_table]))]) [0, 1, 2, 3, 4, 5] (by decide) rfl
    have hK9 := hK.sub (tys' := []) [] rfl
    refine W.widen (k := 0) (n := 0) (Nat.le_of_ble_eq_true rfl) (Nat.le_of_ble_eq_true rfl) ?_
    exact W.iret (v := 0) hx hb hr (fun t ht hW => ⟨⟨0, (), rfl, (by rw [hsw]; exact (szv_in _ (by decide) (by decide) (by decide)).symm), by rw [ht]; exact hP9, va_K.moved hW.alike hK9, hD9⟩, hS.F ht⟩) hS.2.2 dX10_size_91
  · refine lv_tableIn (off := 91) (tgt := 92) hx hb dX10_size_1 (by rw [hsw]; decide) (by rw [hsw]; decide) (by rw [hsw]; decide) (by decide) ?_
    refine lv_aload_n hx hb dX10_size_92 rfl (lv_at hl 0 rfl) ?_
    refine va_get (D := (dC, dI)) (ci := 10) (v := .ref fm) (C := RX10) (T := TX10) (N := 14) hx hb hts iw_X10_size_X10_c_size_0 hown hK hP 0 rfl rfl 6 (by decide) (hts (.fieldLink RX10 64 "NotAtOnce" "frames" "LNotAtOnce$Frames;") (by decide +kernel)) (fun _ h9 => h9) rfl dX10_size_93 ?_
    refine va_get (D := (dC, dI)) (ci := 3) (v := .int 0) (C := RX3) (T := TX3) (N := 12) hx hb hts iw_X10_size_X3_c_size_0 hown hK hP 3 rfl rfl 0 (by decide) (hts (.fieldLink RX10 351 "NotAtOnce$Frames" "rays" "I") (by decide +kernel)) (fun _ h9 => h9) rfl dX10_size_96 ?_
    have hP9 := hP.sub (ws' := [(h0, .inr (10, [.ref tp, .ref rd, .ref tb, .ref rg, .ref bl, .ref pa, .ref fm, .ref te, .ref hi, .ref fr, .int fd, .int rf, .int lf, .int fp])), (tb, .inr (8, [.int 0, .int 0, .int 0, .int vr, .ref a1, .ref a2, .ref a3, .ref a4])), (pa, .inr (5, [.int 0, .int 0, .int pa_ways, .int pa_everOne, .int pa_everNone, .ref pa_held])), (fm, .inr (3, [.int 0, .int fm_corners, .int fm_colourings, .int fm_mostOnes, .int fm_spares, .int fm_staying, .ref fm_meets, .ref fm_cornerBits, .int fm_worked, .int fm_present, .int fm_found, .int fm_most])), (te, .inr (9, [.int 0, .int te_states, .int te_steps, .int te_worked, .ref te_stepLook, .ref te_stepTold, .ref te_stepEnds, .ref te_answers, .ref te_goesTo, .ref te_reasons])), (hi, .inr (4, [.int 0, .int 0, .int 0, .ref hi_acts, .ref hi_rows, .ref hi_marked, .ref hi_table]))]) [0, 1, 2, 3, 4, 5] rfl
    have hD9 := hD.sub (ws' := [(h0, .inr (10, [.ref tp, .ref rd, .ref tb, .ref rg, .ref bl, .ref pa, .ref fm, .ref te, .ref hi, .ref fr, .int fd, .int rf, .int lf, .int fp])), (tb, .inr (8, [.int 0, .int 0, .int 0, .int vr, .ref a1, .ref a2, .ref a3, .ref a4])), (pa, .inr (5, [.int 0, .int 0, .int pa_ways, .int pa_everOne, .int pa_everNone, .ref pa_held])), (fm, .inr (3, [.int 0, .int fm_corners, .int fm_colourings, .int fm_mostOnes, .int fm_spares, .int fm_staying, .ref fm_meets, .ref fm_cornerBits, .int fm_worked, .int fm_present, .int fm_found, .int fm_most])), (te, .inr (9, [.int 0, .int te_states, .int te_steps, .int te_worked, .ref te_stepLook, .ref te_stepTold, .ref te_stepEnds, .ref te_answers, .ref te_goesTo, .ref te_reasons])), (hi, .inr (4, [.int 0, .int 0, .int 0, .ref hi_acts, .ref hi_rows, .ref hi_marked, .ref hi_table]))]) [0, 1, 2, 3, 4, 5] (by decide) rfl
    have hK9 := hK.sub (tys' := []) [] rfl
    refine W.widen (k := 0) (n := 0) (Nat.le_of_ble_eq_true rfl) (Nat.le_of_ble_eq_true rfl) ?_
    exact W.iret (v := 0) hx hb hr (fun t ht hW => ⟨⟨0, (), rfl, (by rw [hsw]; exact (szv_in _ (by decide) (by decide) (by decide)).symm), by rw [ht]; exact hP9, va_K.moved hW.alike hK9, hD9⟩, hS.F ht⟩) hS.2.2 dX10_size_99
  · refine lv_tableIn (off := 99) (tgt := 100) hx hb dX10_size_1 (by rw [hsw]; decide) (by rw [hsw]; decide) (by rw [hsw]; decide) (by decide) ?_
    refine lv_aload_n hx hb dX10_size_100 rfl (lv_at hl 0 rfl) ?_
    refine va_get (D := (dC, dI)) (ci := 10) (v := .ref te) (C := RX10) (T := TX10) (N := 14) hx hb hts iw_X10_size_X10_c_size_0 hown hK hP 0 rfl rfl 7 (by decide) (hts (.fieldLink RX10 71 "NotAtOnce" "telling" "LNotAtOnce$Telling;") (by decide +kernel)) (fun _ h9 => h9) rfl dX10_size_101 ?_
    refine va_get (D := (dC, dI)) (ci := 9) (v := .int 0) (C := RX9) (T := TX9) (N := 10) hx hb hts iw_X10_size_X9_c_size_0 hown hK hP 4 rfl rfl 0 (by decide) (hts (.fieldLink RX10 354 "NotAtOnce$Telling" "runs" "I") (by decide +kernel)) (fun _ h9 => h9) rfl dX10_size_104 ?_
    have hP9 := hP.sub (ws' := [(h0, .inr (10, [.ref tp, .ref rd, .ref tb, .ref rg, .ref bl, .ref pa, .ref fm, .ref te, .ref hi, .ref fr, .int fd, .int rf, .int lf, .int fp])), (tb, .inr (8, [.int 0, .int 0, .int 0, .int vr, .ref a1, .ref a2, .ref a3, .ref a4])), (pa, .inr (5, [.int 0, .int 0, .int pa_ways, .int pa_everOne, .int pa_everNone, .ref pa_held])), (fm, .inr (3, [.int 0, .int fm_corners, .int fm_colourings, .int fm_mostOnes, .int fm_spares, .int fm_staying, .ref fm_meets, .ref fm_cornerBits, .int fm_worked, .int fm_present, .int fm_found, .int fm_most])), (te, .inr (9, [.int 0, .int te_states, .int te_steps, .int te_worked, .ref te_stepLook, .ref te_stepTold, .ref te_stepEnds, .ref te_answers, .ref te_goesTo, .ref te_reasons])), (hi, .inr (4, [.int 0, .int 0, .int 0, .ref hi_acts, .ref hi_rows, .ref hi_marked, .ref hi_table]))]) [0, 1, 2, 3, 4, 5] rfl
    have hD9 := hD.sub (ws' := [(h0, .inr (10, [.ref tp, .ref rd, .ref tb, .ref rg, .ref bl, .ref pa, .ref fm, .ref te, .ref hi, .ref fr, .int fd, .int rf, .int lf, .int fp])), (tb, .inr (8, [.int 0, .int 0, .int 0, .int vr, .ref a1, .ref a2, .ref a3, .ref a4])), (pa, .inr (5, [.int 0, .int 0, .int pa_ways, .int pa_everOne, .int pa_everNone, .ref pa_held])), (fm, .inr (3, [.int 0, .int fm_corners, .int fm_colourings, .int fm_mostOnes, .int fm_spares, .int fm_staying, .ref fm_meets, .ref fm_cornerBits, .int fm_worked, .int fm_present, .int fm_found, .int fm_most])), (te, .inr (9, [.int 0, .int te_states, .int te_steps, .int te_worked, .ref te_stepLook, .ref te_stepTold, .ref te_stepEnds, .ref te_answers, .ref te_goesTo, .ref te_reasons])), (hi, .inr (4, [.int 0, .int 0, .int 0, .ref hi_acts, .ref hi_rows, .ref hi_marked, .ref hi_table]))]) [0, 1, 2, 3, 4, 5] (by decide) rfl
    have hK9 := hK.sub (tys' := []) [] rfl
    refine W.widen (k := 0) (n := 0) (Nat.le_of_ble_eq_true rfl) (Nat.le_of_ble_eq_true rfl) ?_
    exact W.iret (v := 0) hx hb hr (fun t ht hW => ⟨⟨0, (), rfl, (by rw [hsw]; exact (szv_in _ (by decide) (by decide) (by decide)).symm), by rw [ht]; exact hP9, va_K.moved hW.alike hK9, hD9⟩, hS.F ht⟩) hS.2.2 dX10_size_107
  · refine lv_tableIn (off := 107) (tgt := 108) hx hb dX10_size_1 (by rw [hsw]; decide) (by rw [hsw]; decide) (by rw [hsw]; decide) (by decide) ?_
    refine lv_aload_n hx hb dX10_size_108 rfl (lv_at hl 0 rfl) ?_
    refine va_get (D := (dC, dI)) (ci := 10) (v := .ref tb) (C := RX10) (T := TX10) (N := 14) hx hb hts iw_X10_size_X10_c_size_0 hown hK hP 0 rfl rfl 2 (by decide) (hts (.fieldLink RX10 25 "NotAtOnce" "table" "LNotAtOnce$Table;") (by decide +kernel)) (fun _ h9 => h9) rfl dX10_size_109 ?_
    refine va_get (D := (dC, dI)) (ci := 8) (v := .int 0) (C := RX8) (T := TX8) (N := 8) hx hb hts iw_X10_size_X8_c_size_0 hown hK hP 1 rfl rfl 0 (by decide) (hts (.fieldLink RX10 215 "NotAtOnce$Table" "law" "I") (by decide +kernel)) (fun _ h9 => h9) rfl dX10_size_112 ?_
    have hP9 := hP.sub (ws' := [(h0, .inr (10, [.ref tp, .ref rd, .ref tb, .ref rg, .ref bl, .ref pa, .ref fm, .ref te, .ref hi, .ref fr, .int fd, .int rf, .int lf, .int fp])), (tb, .inr (8, [.int 0, .int 0, .int 0, .int vr, .ref a1, .ref a2, .ref a3, .ref a4])), (pa, .inr (5, [.int 0, .int 0, .int pa_ways, .int pa_everOne, .int pa_everNone, .ref pa_held])), (fm, .inr (3, [.int 0, .int fm_corners, .int fm_colourings, .int fm_mostOnes, .int fm_spares, .int fm_staying, .ref fm_meets, .ref fm_cornerBits, .int fm_worked, .int fm_present, .int fm_found, .int fm_most])), (te, .inr (9, [.int 0, .int te_states, .int te_steps, .int te_worked, .ref te_stepLook, .ref te_stepTold, .ref te_stepEnds, .ref te_answers, .ref te_goesTo, .ref te_reasons])), (hi, .inr (4, [.int 0, .int 0, .int 0, .ref hi_acts, .ref hi_rows, .ref hi_marked, .ref hi_table]))]) [0, 1, 2, 3, 4, 5] rfl
    have hD9 := hD.sub (ws' := [(h0, .inr (10, [.ref tp, .ref rd, .ref tb, .ref rg, .ref bl, .ref pa, .ref fm, .ref te, .ref hi, .ref fr, .int fd, .int rf, .int lf, .int fp])), (tb, .inr (8, [.int 0, .int 0, .int 0, .int vr, .ref a1, .ref a2, .ref a3, .ref a4])), (pa, .inr (5, [.int 0, .int 0, .int pa_ways, .int pa_everOne, .int pa_everNone, .ref pa_held])), (fm, .inr (3, [.int 0, .int fm_corners, .int fm_colourings, .int fm_mostOnes, .int fm_spares, .int fm_staying, .ref fm_meets, .ref fm_cornerBits, .int fm_worked, .int fm_present, .int fm_found, .int fm_most])), (te, .inr (9, [.int 0, .int te_states, .int te_steps, .int te_worked, .ref te_stepLook, .ref te_stepTold, .ref te_stepEnds, .ref te_answers, .ref te_goesTo, .ref te_reasons])), (hi, .inr (4, [.int 0, .int 0, .int 0, .ref hi_acts, .ref hi_rows, .ref hi_marked, .ref hi_table]))]) [0, 1, 2, 3, 4, 5] (by decide) rfl
    have hK9 := hK.sub (tys' := []) [] rfl
    refine W.widen (k := 0) (n := 0) (Nat.le_of_ble_eq_true rfl) (Nat.le_of_ble_eq_true rfl) ?_
    exact W.iret (v := 0) hx hb hr (fun t ht hW => ⟨⟨0, (), rfl, (by rw [hsw]; exact (szv_in _ (by decide) (by decide) (by decide)).symm), by rw [ht]; exact hP9, va_K.moved hW.alike hK9, hD9⟩, hS.F ht⟩) hS.2.2 dX10_size_115
  · refine lv_tableIn (off := 115) (tgt := 116) hx hb dX10_size_1 (by rw [hsw]; decide) (by rw [hsw]; decide) (by rw [hsw]; decide) (by decide) ?_
    refine lv_aload_n hx hb dX10_size_116 rfl (lv_at hl 0 rfl) ?_
    refine va_get (D := (dC, dI)) (ci := 10) (v := .ref hi) (C := RX10) (T := TX10) (N := 14) hx hb hts iw_X10_size_X10_c_size_0 hown hK hP 0 rfl rfl 8 (by decide) (hts (.fieldLink RX10 78 "NotAtOnce" "history" "LNotAtOnce$History;") (by decide +kernel)) (fun _ h9 => h9) rfl dX10_size_117 ?_
    refine va_get (D := (dC, dI)) (ci := 4) (v := .int 0) (C := RX4) (T := TX4) (N := 7) hx hb hts iw_X10_size_X4_c_size_0 hown hK hP 5 rfl rfl 0 (by decide) (hts (.fieldLink RX10 319 "NotAtOnce$History" "made" "I") (by decide +kernel)) (fun _ h9 => h9) rfl dX10_size_120 ?_
    have hP9 := hP.sub (ws' := [(h0, .inr (10, [.ref tp, .ref rd, .ref tb, .ref rg, .ref bl, .ref pa, .ref fm, .ref te, .ref hi, .ref fr, .int fd, .int rf, .int lf, .int fp])), (tb, .inr (8, [.int 0, .int 0, .int 0, .int vr, .ref a1, .ref a2, .ref a3, .ref a4])), (pa, .inr (5, [.int 0, .int 0, .int pa_ways, .int pa_everOne, .int pa_everNone, .ref pa_held])), (fm, .inr (3, [.int 0, .int fm_corners, .int fm_colourings, .int fm_mostOnes, .int fm_spares, .int fm_staying, .ref fm_meets, .ref fm_cornerBits, .int fm_worked, .int fm_present, .int fm_found, .int fm_most])), (te, .inr (9, [.int 0, .int te_states, .int te_steps, .int te_worked, .ref te_stepLook, .ref te_stepTold, .ref te_stepEnds, .ref te_answers, .ref te_goesTo, .ref te_reasons])), (hi, .inr (4, [.int 0, .int 0, .int 0, .ref hi_acts, .ref hi_rows, .ref hi_marked, .ref hi_table]))]) [0, 1, 2, 3, 4, 5] rfl
    have hD9 := hD.sub (ws' := [(h0, .inr (10, [.ref tp, .ref rd, .ref tb, .ref rg, .ref bl, .ref pa, .ref fm, .ref te, .ref hi, .ref fr, .int fd, .int rf, .int lf, .int fp])), (tb, .inr (8, [.int 0, .int 0, .int 0, .int vr, .ref a1, .ref a2, .ref a3, .ref a4])), (pa, .inr (5, [.int 0, .int 0, .int pa_ways, .int pa_everOne, .int pa_everNone, .ref pa_held])), (fm, .inr (3, [.int 0, .int fm_corners, .int fm_colourings, .int fm_mostOnes, .int fm_spares, .int fm_staying, .ref fm_meets, .ref fm_cornerBits, .int fm_worked, .int fm_present, .int fm_found, .int fm_most])), (te, .inr (9, [.int 0, .int te_states, .int te_steps, .int te_worked, .ref te_stepLook, .ref te_stepTold, .ref te_stepEnds, .ref te_answers, .ref te_goesTo, .ref te_reasons])), (hi, .inr (4, [.int 0, .int 0, .int 0, .ref hi_acts, .ref hi_rows, .ref hi_marked, .ref hi_table]))]) [0, 1, 2, 3, 4, 5] (by decide) rfl
    have hK9 := hK.sub (tys' := []) [] rfl
    refine W.widen (k := 0) (n := 0) (Nat.le_of_ble_eq_true rfl) (Nat.le_of_ble_eq_true rfl) ?_
    exact W.iret (v := 0) hx hb hr (fun t ht hW => ⟨⟨0, (), rfl, (by rw [hsw]; exact (szv_in _ (by decide) (by decide) (by decide)).symm), by rw [ht]; exact hP9, va_K.moved hW.alike hK9, hD9⟩, hS.F ht⟩) hS.2.2 dX10_size_123
  · refine lv_tableIn (off := 123) (tgt := 124) hx hb dX10_size_1 (by rw [hsw]; decide) (by rw [hsw]; decide) (by rw [hsw]; decide) (by decide) ?_
    refine lv_aload_n hx hb dX10_size_124 rfl (lv_at hl 0 rfl) ?_
    refine va_get (D := (dC, dI)) (ci := 10) (v := .ref hi) (C := RX10) (T := TX10) (N := 14) hx hb hts iw_X10_size_X10_c_size_0 hown hK hP 0 rfl rfl 8 (by decide) (hts (.fieldLink RX10 78 "NotAtOnce" "history" "LNotAtOnce$History;") (by decide +kernel)) (fun _ h9 => h9) rfl dX10_size_125 ?_
    refine va_get (D := (dC, dI)) (ci := 4) (v := .int 0) (C := RX4) (T := TX4) (N := 7) hx hb hts iw_X10_size_X4_c_size_0 hown hK hP 5 rfl rfl 1 (by decide) (hts (.fieldLink RX10 357 "NotAtOnce$History" "known" "I") (by decide +kernel)) (fun _ h9 => h9) rfl dX10_size_128 ?_
    refine lv_aload_n hx hb dX10_size_131 rfl (lv_at hl 0 rfl) ?_
    refine va_get (D := (dC, dI)) (ci := 10) (v := .ref hi) (C := RX10) (T := TX10) (N := 14) hx hb hts iw_X10_size_X10_c_size_0 hown hK hP 0 rfl rfl 8 (by decide) (hts (.fieldLink RX10 78 "NotAtOnce" "history" "LNotAtOnce$History;") (by decide +kernel)) (fun _ h9 => h9) rfl dX10_size_132 ?_
    refine va_get (D := (dC, dI)) (ci := 4) (v := .int 0) (C := RX4) (T := TX4) (N := 7) hx hb hts iw_X10_size_X4_c_size_0 hown hK hP 5 rfl rfl 0 (by decide) (hts (.fieldLink RX10 319 "NotAtOnce$History" "made" "I") (by decide +kernel)) (fun _ h9 => h9) rfl dX10_size_135 ?_
    refine lv_isub hx hb dX10_size_138 ?_
    refine lv_topi (fun v_1 ev_1 => ?_)
    obtain rfl : v_1 = 0 := ev_1.trans (by decide)
    have hP9 := hP.sub (ws' := [(h0, .inr (10, [.ref tp, .ref rd, .ref tb, .ref rg, .ref bl, .ref pa, .ref fm, .ref te, .ref hi, .ref fr, .int fd, .int rf, .int lf, .int fp])), (tb, .inr (8, [.int 0, .int 0, .int 0, .int vr, .ref a1, .ref a2, .ref a3, .ref a4])), (pa, .inr (5, [.int 0, .int 0, .int pa_ways, .int pa_everOne, .int pa_everNone, .ref pa_held])), (fm, .inr (3, [.int 0, .int fm_corners, .int fm_colourings, .int fm_mostOnes, .int fm_spares, .int fm_staying, .ref fm_meets, .ref fm_cornerBits, .int fm_worked, .int fm_present, .int fm_found, .int fm_most])), (te, .inr (9, [.int 0, .int te_states, .int te_steps, .int te_worked, .ref te_stepLook, .ref te_stepTold, .ref te_stepEnds, .ref te_answers, .ref te_goesTo, .ref te_reasons])), (hi, .inr (4, [.int 0, .int 0, .int 0, .ref hi_acts, .ref hi_rows, .ref hi_marked, .ref hi_table]))]) [0, 1, 2, 3, 4, 5] rfl
    have hD9 := hD.sub (ws' := [(h0, .inr (10, [.ref tp, .ref rd, .ref tb, .ref rg, .ref bl, .ref pa, .ref fm, .ref te, .ref hi, .ref fr, .int fd, .int rf, .int lf, .int fp])), (tb, .inr (8, [.int 0, .int 0, .int 0, .int vr, .ref a1, .ref a2, .ref a3, .ref a4])), (pa, .inr (5, [.int 0, .int 0, .int pa_ways, .int pa_everOne, .int pa_everNone, .ref pa_held])), (fm, .inr (3, [.int 0, .int fm_corners, .int fm_colourings, .int fm_mostOnes, .int fm_spares, .int fm_staying, .ref fm_meets, .ref fm_cornerBits, .int fm_worked, .int fm_present, .int fm_found, .int fm_most])), (te, .inr (9, [.int 0, .int te_states, .int te_steps, .int te_worked, .ref te_stepLook, .ref te_stepTold, .ref te_stepEnds, .ref te_answers, .ref te_goesTo, .ref te_reasons])), (hi, .inr (4, [.int 0, .int 0, .int 0, .ref hi_acts, .ref hi_rows, .ref hi_marked, .ref hi_table]))]) [0, 1, 2, 3, 4, 5] (by decide) rfl
    have hK9 := hK.sub (tys' := []) [] rfl
    refine W.widen (k := 0) (n := 0) (Nat.le_of_ble_eq_true rfl) (Nat.le_of_ble_eq_true rfl) ?_
    exact W.iret (v := 0) hx hb hr (fun t ht hW => ⟨⟨0, (), rfl, (by rw [hsw]; exact (szv_in _ (by decide) (by decide) (by decide)).symm), by rw [ht]; exact hP9, va_K.moved hW.alike hK9, hD9⟩, hS.F ht⟩) hS.2.2 dX10_size_139
  · refine lv_tableIn (off := 139) (tgt := 140) hx hb dX10_size_1 (by rw [hsw]; decide) (by rw [hsw]; decide) (by rw [hsw]; decide) (by decide) ?_
    refine lv_aload_n hx hb dX10_size_140 rfl (lv_at hl 0 rfl) ?_
    refine va_get (D := (dC, dI)) (ci := 10) (v := .ref hi) (C := RX10) (T := TX10) (N := 14) hx hb hts iw_X10_size_X10_c_size_0 hown hK hP 0 rfl rfl 8 (by decide) (hts (.fieldLink RX10 78 "NotAtOnce" "history" "LNotAtOnce$History;") (by decide +kernel)) (fun _ h9 => h9) rfl dX10_size_141 ?_
    refine va_get (D := (dC, dI)) (ci := 4) (v := .int 0) (C := RX4) (T := TX4) (N := 7) hx hb hts iw_X10_size_X4_c_size_0 hown hK hP 5 rfl rfl 2 (by decide) (hts (.fieldLink RX10 310 "NotAtOnce$History" "marks" "I") (by decide +kernel)) (fun _ h9 => h9) rfl dX10_size_144 ?_
    have hP9 := hP.sub (ws' := [(h0, .inr (10, [.ref tp, .ref rd, .ref tb, .ref rg, .ref bl, .ref pa, .ref fm, .ref te, .ref hi, .ref fr, .int fd, .int rf, .int lf, .int fp])), (tb, .inr (8, [.int 0, .int 0, .int 0, .int vr, .ref a1, .ref a2, .ref a3, .ref a4])), (pa, .inr (5, [.int 0, .int 0, .int pa_ways, .int pa_everOne, .int pa_everNone, .ref pa_held])), (fm, .inr (3, [.int 0, .int fm_corners, .int fm_colourings, .int fm_mostOnes, .int fm_spares, .int fm_staying, .ref fm_meets, .ref fm_cornerBits, .int fm_worked, .int fm_present, .int fm_found, .int fm_most])), (te, .inr (9, [.int 0, .int te_states, .int te_steps, .int te_worked, .ref te_stepLook, .ref te_stepTold, .ref te_stepEnds, .ref te_answers, .ref te_goesTo, .ref te_reasons])), (hi, .inr (4, [.int 0, .int 0, .int 0, .ref hi_acts, .ref hi_rows, .ref hi_marked, .ref hi_table]))]) [0, 1, 2, 3, 4, 5] rfl
    have hD9 := hD.sub (ws' := [(h0, .inr (10, [.ref tp, .ref rd, .ref tb, .ref rg, .ref bl, .ref pa, .ref fm, .ref te, .ref hi, .ref fr, .int fd, .int rf, .int lf, .int fp])), (tb, .inr (8, [.int 0, .int 0, .int 0, .int vr, .ref a1, .ref a2, .ref a3, .ref a4])), (pa, .inr (5, [.int 0, .int 0, .int pa_ways, .int pa_everOne, .int pa_everNone, .ref pa_held])), (fm, .inr (3, [.int 0, .int fm_corners, .int fm_colourings, .int fm_mostOnes, .int fm_spares, .int fm_staying, .ref fm_meets, .ref fm_cornerBits, .int fm_worked, .int fm_present, .int fm_found, .int fm_most])), (te, .inr (9, [.int 0, .int te_states, .int te_steps, .int te_worked, .ref te_stepLook, .ref te_stepTold, .ref te_stepEnds, .ref te_answers, .ref te_goesTo, .ref te_reasons])), (hi, .inr (4, [.int 0, .int 0, .int 0, .ref hi_acts, .ref hi_rows, .ref hi_marked, .ref hi_table]))]) [0, 1, 2, 3, 4, 5] (by decide) rfl
    have hK9 := hK.sub (tys' := []) [] rfl
    refine W.widen (k := 0) (n := 0) (Nat.le_of_ble_eq_true rfl) (Nat.le_of_ble_eq_true rfl) ?_
    exact W.iret (v := 0) hx hb hr (fun t ht hW => ⟨⟨0, (), rfl, (by rw [hsw]; exact (szv_in _ (by decide) (by decide) (by decide)).symm), by rw [ht]; exact hP9, va_K.moved hW.alike hK9, hD9⟩, hS.F ht⟩) hS.2.2 dX10_size_147
  · refine lv_tableIn (off := 147) (tgt := 148) hx hb dX10_size_1 (by rw [hsw]; decide) (by rw [hsw]; decide) (by rw [hsw]; decide) (by decide) ?_
    refine lv_aload_n hx hb dX10_size_148 rfl (lv_at hl 0 rfl) ?_
    refine va_get (D := (dC, dI)) (ci := 10) (v := .int fd) (C := RX10) (T := TX10) (N := 14) hx hb hts iw_X10_size_X10_c_size_0 hown hK hP 0 rfl rfl 10 (by decide) (hts (.fieldLink RX10 82 "NotAtOnce" "fed" "I") (by decide +kernel)) (fun _ h9 => h9) rfl dX10_size_149 ?_
    have hP9 := hP.sub (ws' := [(h0, .inr (10, [.ref tp, .ref rd, .ref tb, .ref rg, .ref bl, .ref pa, .ref fm, .ref te, .ref hi, .ref fr, .int fd, .int rf, .int lf, .int fp])), (tb, .inr (8, [.int 0, .int 0, .int 0, .int vr, .ref a1, .ref a2, .ref a3, .ref a4])), (pa, .inr (5, [.int 0, .int 0, .int pa_ways, .int pa_everOne, .int pa_everNone, .ref pa_held])), (fm, .inr (3, [.int 0, .int fm_corners, .int fm_colourings, .int fm_mostOnes, .int fm_spares, .int fm_staying, .ref fm_meets, .ref fm_cornerBits, .int fm_worked, .int fm_present, .int fm_found, .int fm_most])), (te, .inr (9, [.int 0, .int te_states, .int te_steps, .int te_worked, .ref te_stepLook, .ref te_stepTold, .ref te_stepEnds, .ref te_answers, .ref te_goesTo, .ref te_reasons])), (hi, .inr (4, [.int 0, .int 0, .int 0, .ref hi_acts, .ref hi_rows, .ref hi_marked, .ref hi_table]))]) [0, 1, 2, 3, 4, 5] rfl
    have hD9 := hD.sub (ws' := [(h0, .inr (10, [.ref tp, .ref rd, .ref tb, .ref rg, .ref bl, .ref pa, .ref fm, .ref te, .ref hi, .ref fr, .int fd, .int rf, .int lf, .int fp])), (tb, .inr (8, [.int 0, .int 0, .int 0, .int vr, .ref a1, .ref a2, .ref a3, .ref a4])), (pa, .inr (5, [.int 0, .int 0, .int pa_ways, .int pa_everOne, .int pa_everNone, .ref pa_held])), (fm, .inr (3, [.int 0, .int fm_corners, .int fm_colourings, .int fm_mostOnes, .int fm_spares, .int fm_staying, .ref fm_meets, .ref fm_cornerBits, .int fm_worked, .int fm_present, .int fm_found, .int fm_most])), (te, .inr (9, [.int 0, .int te_states, .int te_steps, .int te_worked, .ref te_stepLook, .ref te_stepTold, .ref te_stepEnds, .ref te_answers, .ref te_goesTo, .ref te_reasons])), (hi, .inr (4, [.int 0, .int 0, .int 0, .ref hi_acts, .ref hi_rows, .ref hi_marked, .ref hi_table]))]) [0, 1, 2, 3, 4, 5] (by decide) rfl
    have hK9 := hK.sub (tys' := []) [] rfl
    refine W.widen (k := 0) (n := 0) (Nat.le_of_ble_eq_true rfl) (Nat.le_of_ble_eq_true rfl) ?_
    exact W.iret (v := fd) hx hb hr (fun t ht hW => ⟨⟨fd, (), rfl, (by rw [hsw]; exact (szv_10 _).symm), by rw [ht]; exact hP9, va_K.moved hW.alike hK9, hD9⟩, hS.F ht⟩) hS.2.2 dX10_size_152

set_option maxRecDepth 20000 in
theorem iw_X11_size_X11_c_m_size_0 : ∀ w ∈ wsX110, w ∈ wsX11_size := by decide +kernel
set_option maxHeartbeats 4000000 in
set_option maxRecDepth 100000 in
/-- the reference: size without a BOOK -/
theorem c_m_size_0 (l : Launch) (dC : Nat → ClassId) (dI : Nat → Nat → Nat) (sz : Nat) (k0 : Nat) (m_thrown : Int32) (m_tape : Nat) (m_taped : Int32) (m_size : Int32) (m_at : Int32) (m_end : Int32) (m_token : Int32) (m_whole : Int32) (m_nameSize : Int32) (m_fault : Int32) (m_place : Int32) (m_trouble : Int32) (m_letters : Nat) (m_failed : Int32) (m_r : Nat) (m_fresh : Nat) (m_coins : Nat) (m_was : Nat) (m_undone : Nat) (m_redone : Nat) (m_marked : Nat) (m_undoneActs : Nat) (m_redoneActs : Nat) (m_undos : Int32) (m_redos : Int32) (m_marks : Int32) (m_tab : Nat) (m_basis : Nat) (m_below : Int64) (m_rows : Int32) (m_wide : Int32) (m_corner : Nat) (m_squares : Nat) (m_cornerMany : Int32) (m_chosen : Nat) (m_colourMany : Int32) (m_mostOnes : Int32) (m_tells : Nat) (m_goes : Nat) (p0 : Int32)  : Met l yX11_size wsX11_size ({ frames := 1, cells := 0, slots := 0, locals := 22 }) (va_Pc [.ref k0, .int p0] (fun U => U.heap.size = sz ∧ va_P (dC, dI) vwCl [(k0, .inr (11, [.int m_thrown, .ref m_tape, .int m_taped, .int m_size, .int m_at, .int m_end, .int m_token, .int m_whole, .int m_nameSize, .int m_fault, .int m_place, .int m_trouble, .ref m_letters, .int m_failed, .int 0, .ref m_r, .ref m_fresh, .ref m_coins, .ref m_was, .ref m_undone, .ref m_redone, .ref m_marked, .ref m_undoneActs, .ref m_redoneActs, .int m_undos, .int m_redos, .int m_marks, .ref m_tab, .ref m_basis, .long m_below, .int m_rows, .int m_wide, .ref m_corner, .ref m_squares, .int m_cornerMany, .ref m_chosen, .int m_colourMany, .int m_mostOnes, .ref m_tells, .ref m_goes]))] U.heap ∧ va_K (dC, dI) vwCl [] U ∧ va_D (fun _ => True) [(k0, .inr (11, [.int m_thrown, .ref m_tape, .int m_taped, .int m_size, .int m_at, .int m_end, .int m_token, .int m_whole, .int m_nameSize, .int m_fault, .int m_place, .int m_trouble, .ref m_letters, .int m_failed, .int 0, .ref m_r, .ref m_fresh, .ref m_coins, .ref m_was, .ref m_undone, .ref m_redone, .ref m_marked, .ref m_undoneActs, .ref m_redoneActs, .int m_undos, .int m_redos, .int m_marks, .ref m_tab, .ref m_basis, .long m_below, .int m_rows, .int m_wide, .ref m_corner, .ref m_squares, .int m_cornerMany, .ref m_chosen, .int m_colourMany, .int m_mostOnes, .ref m_tells, .ref m_goes]))])) (va_Qi (fun (r : Int32) (_ : Unit) => r = szv p0 m_taped) (fun _ t => va_P (dC, dI) vwCl [(k0, .inr (11, [.int 0, .ref m_tape, .int m_taped, .int m_size, .int m_at, .int m_end, .int m_token, .int m_whole, .int m_nameSize, .int m_fault, .int m_place, .int m_trouble, .ref m_letters, .int m_failed, .int 0, .ref m_r, .ref m_fresh, .ref m_coins, .ref m_was, .ref m_undone, .ref m_redone, .ref m_marked, .ref m_undoneActs, .ref m_redoneActs, .int m_undos, .int m_redos, .int m_marks, .ref m_tab, .ref m_basis, .long m_below, .int m_rows, .int m_wide, .ref m_corner, .ref m_squares, .int m_cornerMany, .ref m_chosen, .int m_colourMany, .int m_mostOnes, .ref m_tells, .ref m_goes]))] t.heap ∧ va_K (dC, dI) vwCl [] t ∧ va_D (va_A [(k0, .inr (11, [.int m_thrown, .ref m_tape, .int m_taped, .int m_size, .int m_at, .int m_end, .int m_token, .int m_whole, .int m_nameSize, .int m_fault, .int m_place, .int m_trouble, .ref m_letters, .int m_failed, .int 0, .ref m_r, .ref m_fresh, .ref m_coins, .ref m_was, .ref m_undone, .ref m_redone, .ref m_marked, .ref m_undoneActs, .ref m_redoneActs, .int m_undos, .int m_redos, .int m_marks, .ref m_tab, .ref m_basis, .long m_below, .int m_rows, .int m_wide, .ref m_corner, .ref m_squares, .int m_cornerMany, .ref m_chosen, .int m_colourMany, .int m_mostOnes, .ref m_tells, .ref m_goes]))] sz) [(k0, .inr (11, [.int 0, .ref m_tape, .int m_taped, .int m_size, .int m_at, .int m_end, .int m_token, .int m_whole, .int m_nameSize, .int m_fault, .int m_place, .int m_trouble, .ref m_letters, .int m_failed, .int 0, .ref m_r, .ref m_fresh, .ref m_coins, .ref m_was, .ref m_undone, .ref m_redone, .ref m_marked, .ref m_undoneActs, .ref m_redoneActs, .int m_undos, .int m_redos, .int m_marks, .ref m_tab, .ref m_basis, .long m_below, .int m_rows, .int m_wide, .ref m_corner, .ref m_squares, .int m_cornerMany, .ref m_chosen, .int m_colourMany, .int m_mostOnes, .ref m_tells, .ref m_goes]))]) (va_A [(k0, .inr (11, [.int m_thrown, .ref m_tape, .int m_taped, .int m_size, .int m_at, .int m_end, .int m_token, .int m_whole, .int m_nameSize, .int m_fault, .int m_place, .int m_trouble, .ref m_letters, .int m_failed, .int 0, .ref m_r, .ref m_fresh, .ref m_coins, .ref m_was, .ref m_undone, .ref m_redone, .ref m_marked, .ref m_undoneActs, .ref m_redoneActs, .int m_undos, .int m_redos, .int m_marks, .ref m_tab, .ref m_basis, .long m_below, .int m_rows, .int m_wide, .ref m_corner, .ref m_squares, .int m_cornerMany, .ref m_chosen, .int m_colourMany, .int m_mostOnes, .ref m_tells, .ref m_goes]))] sz)) 0 0 (va_A [(k0, .inr (11, [.int m_thrown, .ref m_tape, .int m_taped, .int m_size, .int m_at, .int m_end, .int m_token, .int m_whole, .int m_nameSize, .int m_fault, .int m_place, .int m_trouble, .ref m_letters, .int m_failed, .int 0, .ref m_r, .ref m_fresh, .ref m_coins, .ref m_was, .ref m_undone, .ref m_redone, .ref m_marked, .ref m_undoneActs, .ref m_redoneActs, .int m_undos, .int m_redos, .int m_marks, .ref m_tab, .ref m_basis, .long m_below, .int m_rows, .int m_wide, .ref m_corner, .ref m_squares, .int m_cornerMany, .ref m_chosen, .int m_colourMany, .int m_mostOnes, .ref m_tells, .ref m_goes]))] sz) := by
  refine Met.ofW (cc := cX11_size) (maxL := 2) (ret := (some .int)) (by decide) rfl ?_
  intro p e s m args below meth c s₁ B hml hv
  obtain ⟨rfl, hsz, hP, hK, hD0⟩ := hv
  have hx := B.exec
  have hb := B.bytes
  have hr := B.returns
  have hts := atoms_spec (ws := wsX11_size) B.pre
  have hown : s.vm.findClass RX11 = some m.cls := findClass_of_methodNamed B.named
  have hlocks := B.notSynchronized
  subst hsz
  have hD := hD0.self (sz := s.heap.size)
  generalize hAe : va_A [(k0, .inr (11, [.int m_thrown, .ref m_tape, .int m_taped, .int m_size, .int m_at, .int m_end, .int m_token, .int m_whole, .int m_nameSize, .int m_fault, .int m_place, .int m_trouble, .ref m_letters, .int m_failed, .int 0, .ref m_r, .ref m_fresh, .ref m_coins, .ref m_was, .ref m_undone, .ref m_redone, .ref m_marked, .ref m_undoneActs, .ref m_redoneActs, .int m_undos, .int m_redos, .int m_marks, .ref m_tab, .ref m_basis, .long m_below, .int m_rows, .int m_wide, .ref m_corner, .ref m_squares, .int m_cornerMany, .ref m_chosen, .int m_colourMany, .int m_mostOnes, .ref m_tells, .ref m_goes]))] s.heap.size = A at hD ⊢
  have hA : ∀ q : Nat, s.heap.size ≤ q → A q := fun q h => by rw [← hAe]; exact Or.inr h
  have hS : va_S A s.heap s.heap [] := va_S.rf
  have hP : va_P (dC, dI) vwCl [(k0, .inr (11, [.int m_thrown, .ref m_tape, .int m_taped, .int m_size, .int m_at, .int m_end, .int m_token, .int m_whole, .int m_nameSize, .int m_fault, .int m_place, .int m_trouble, .ref m_letters, .int m_failed, .int 0, .ref m_r, .ref m_fresh, .ref m_coins, .ref m_was, .ref m_undone, .ref m_redone, .ref m_marked, .ref m_undoneActs, .ref m_redoneActs, .int m_undos, .int m_redos, .int m_marks, .ref m_tab, .ref m_basis, .long m_below, .int m_rows, .int m_wide, .ref m_corner, .ref m_squares, .int m_cornerMany, .ref m_chosen, .int m_colourMany, .int m_mostOnes, .ref m_tells, .ref m_goes]))] s.heap := hP
  have hl := lv_entry ([.ref k0, .int p0]) (n := 2) (Nat.le_of_ble_eq_true rfl)
  rw [lg_entry_eq]
  generalize (lg_sl ([.ref k0, .int p0]) ++ List.replicate (2 - (lg_sl ([.ref k0, .int p0])).length) Slot.unset).toArray = ls at hl ⊢
  have hl : lv_has ls 2 [(0, .ref k0), (1, .int p0)] := hl
  refine lv_aload_n hx hb dX11_size_0 rfl (lv_at hl 0 rfl) ?_
  refine lv_iconst (v := 0) hx hb dX11_size_1 (by decide) ?_
  refine va_put (D := (dC, dI)) (ci := 11) (v := .int 0) (ty := .int) (C := RX11) (T := TX11) (N := 40) hx hb hts iw_X11_size_X11_c_m_size_0 tyX11 tyX11_ok nmX11 hown hK hP hD hS 0 rfl rfl 0 (by decide) (hts (.fieldLink RX11 69 "NotAtOnceModel" "thrown" "I") (by decide +kernel)) (fun _ h9 => h9) rfl (by decide +kernel) rfl rfl (Nat.le_of_ble_eq_true rfl) dX11_size_2 (fun H locs hP hD hS => ?_)
  have hP : va_P (dC, dI) vwCl [(k0, .inr (11, [.int 0, .ref m_tape, .int m_taped, .int m_size, .int m_at, .int m_end, .int m_token, .int m_whole, .int m_nameSize, .int m_fault, .int m_place, .int m_trouble, .ref m_letters, .int m_failed, .int 0, .ref m_r, .ref m_fresh, .ref m_coins, .ref m_was, .ref m_undone, .ref m_redone, .ref m_marked, .ref m_undoneActs, .ref m_redoneActs, .int m_undos, .int m_redos, .int m_marks, .ref m_tab, .ref m_basis, .long m_below, .int m_rows, .int m_wide, .ref m_corner, .ref m_squares, .int m_cornerMany, .ref m_chosen, .int m_colourMany, .int m_mostOnes, .ref m_tells, .ref m_goes]))] H := hP
  have hD : va_D A [(k0, .inr (11, [.int 0, .ref m_tape, .int m_taped, .int m_size, .int m_at, .int m_end, .int m_token, .int m_whole, .int m_nameSize, .int m_fault, .int m_place, .int m_trouble, .ref m_letters, .int m_failed, .int 0, .ref m_r, .ref m_fresh, .ref m_coins, .ref m_was, .ref m_undone, .ref m_redone, .ref m_marked, .ref m_undoneActs, .ref m_redoneActs, .int m_undos, .int m_redos, .int m_marks, .ref m_tab, .ref m_basis, .long m_below, .int m_rows, .int m_wide, .ref m_corner, .ref m_squares, .int m_cornerMany, .ref m_chosen, .int m_colourMany, .int m_mostOnes, .ref m_tells, .ref m_goes]))] := hD
  refine lv_iload_n hx hb dX11_size_5 rfl (lv_at hl 1 rfl) ?_
  refine lv_bipush (v := 10) hx hb dX11_size_6 (by decide) ?_
  refine lv_icmp_ne (tgt := 16) hx hb dX11_size_8 (by decide) (fun c_1 => ?_) (fun c_1 => ?_)
  · refine lv_aload_n hx hb dX11_size_16 rfl (lv_at hl 0 rfl) ?_
    refine va_get (D := (dC, dI)) (ci := 11) (v := .int 0) (C := RX11) (T := TX11) (N := 40) hx hb hts iw_X11_size_X11_c_m_size_0 hown hK hP 0 rfl rfl 14 (by decide) (hts (.fieldLink RX11 183 "NotAtOnceModel" "hasBook" "Z") (by decide +kernel)) (fun _ h9 => h9) rfl dX11_size_17 ?_
    refine lv_if_ne (tgt := 39) hx hb dX11_size_20 (by decide) (fun c_2 => absurd c_2 (by decide)) (fun c_2 => ?_)
    by_cases hwn : (0 : Int32) ≤ p0 ∧ p0 ≤ 9
    · refine lv_iload_n hx hb dX11_size_23 rfl (lv_at hl 1 rfl) ?_
      refine lv_iconst (v := 0) hx hb dX11_size_24 (by decide) ?_
      refine lv_bipush (v := 9) hx hb dX11_size_25 (by decide) ?_
      have hPc := hP.sub (ws' := []) [] rfl
      have hDc := hD.sub (ws' := []) [] (by decide) rfl
      have hKc := hK.sub (tys' := []) [] rfl
      have hFc := va_free (wc := []) hD hS hA [] rfl
      refine va_calli (va_runS (As := [.int p0, .int 0, .int 9]) (rest := []) ⟨hx, hb, hml, hown, hts⟩ (c_m_within_t l dC dI H.size p0 0 9 hwn.1 hwn.2) (va_cwS 3 hts gX11_size_X11_within rfl rfl rfl (by decide +kernel) ⟨Nat.le_of_ble_eq_true rfl, Nat.le_of_ble_eq_true rfl⟩) ⟨fun a U g mk q => by obtain ⟨q0, q1, qP, qK, qD⟩ := q; exact ⟨q0, q1, qP, va_K.moved (u := U) (U := U.calling g mk a) (Vm.Alike.refl U.vm) qK, qD⟩, fun U hU hW => ⟨rfl, by rw [hU], by rw [hU]; exact hPc, va_K.moved hW.alike hKc, hDc.weaken (fun _ _ _ _ => trivial)⟩⟩ rfl rfl hl.1 rfl (lv_room (Nat.le_of_ble_eq_true rfl)) dX11_size_27 ⟨Nat.le_of_ble_eq_true rfl, Nat.le_of_ble_eq_true rfl⟩) hS (fun q _ h => hFc q h) hFc (fun r_3 u t H1 locs ht hvm hw hB hz1 hk1 hS => ?_)
      obtain ⟨hP1, hK1, hD1⟩ := hB
      rw [ht] at hP1
      have hK1 := va_K.moved hvm.symm hK1
      try dsimp only at hw
      obtain ⟨hP, hD⟩ := va_join (wr := [(k0, .inr (11, [.int 0, .ref m_tape, .int m_taped, .int m_size, .int m_at, .int m_end, .int m_token, .int m_whole, .int m_nameSize, .int m_fault, .int m_place, .int m_trouble, .ref m_letters, .int m_failed, .int 0, .ref m_r, .ref m_fresh, .ref m_coins, .ref m_was, .ref m_undone, .ref m_redone, .ref m_marked, .ref m_undoneActs, .ref m_redoneActs, .int m_undos, .int m_redos, .int m_marks, .ref m_tab, .ref m_basis, .long m_below, .int m_rows, .int m_wide, .ref m_corner, .ref m_squares, .int m_cornerMany, .ref m_chosen, .int m_colourMany, .int m_mostOnes, .ref m_tells, .ref m_goes]))]) (w1 := []) hP hD [] [0] rfl rfl (by decide) (by decide) hk1 hFc hP1 hD1
      have hK := (hK.sub (tys' := []) [] rfl).app hK1
      generalize H1 = H at hP hS ⊢
      have hP : va_P (dC, dI) vwCl [(k0, .inr (11, [.int 0, .ref m_tape, .int m_taped, .int m_size, .int m_at, .int m_end, .int m_token, .int m_whole, .int m_nameSize, .int m_fault, .int m_place, .int m_trouble, .ref m_letters, .int m_failed, .int 0, .ref m_r, .ref m_fresh, .ref m_coins, .ref m_was, .ref m_undone, .ref m_redone, .ref m_marked, .ref m_undoneActs, .ref m_redoneActs, .int m_undos, .int m_redos, .int m_marks, .ref m_tab, .ref m_basis, .long m_below, .int m_rows, .int m_wide, .ref m_corner, .ref m_squares, .int m_cornerMany, .ref m_chosen, .int m_colourMany, .int m_mostOnes, .ref m_tells, .ref m_goes]))] H := hP
      have hD : va_D A [(k0, .inr (11, [.int 0, .ref m_tape, .int m_taped, .int m_size, .int m_at, .int m_end, .int m_token, .int m_whole, .int m_nameSize, .int m_fault, .int m_place, .int m_trouble, .ref m_letters, .int m_failed, .int 0, .ref m_r, .ref m_fresh, .ref m_coins, .ref m_was, .ref m_undone, .ref m_redone, .ref m_marked, .ref m_undoneActs, .ref m_redoneActs, .int m_undos, .int m_redos, .int m_marks, .ref m_tab, .ref m_basis, .long m_below, .int m_rows, .int m_wide, .ref m_corner, .ref m_squares, .int m_cornerMany, .ref m_chosen, .int m_colourMany, .int m_mostOnes, .ref m_tells, .ref m_goes]))] := hD
      have hK : va_K (dC, dI) vwCl [] s := hK
      refine W.widen (k := 0) (n := 0) (by omega) (by omega) ?_
      have er_3 : r_3 = 1 := hw
      subst er_3
      refine lv_if_eq (tgt := 37) hx hb dX11_size_30 (by decide) (fun c_4 => absurd c_4 (by decide)) (fun c_4 => ?_)
      refine lv_iconst (v := 0) hx hb dX11_size_33 (by decide) ?_
      refine lv_goto (tgt := 38) hx hb dX11_size_34 (by decide) ?_
      have hP9 := hP.sub (ws' := [(k0, .inr (11, [.int 0, .ref m_tape, .int m_taped, .int m_size, .int m_at, .int m_end, .int m_token, .int m_whole, .int m_nameSize, .int m_fault, .int m_place, .int m_trouble, .ref m_letters, .int m_failed, .int 0, .ref m_r, .ref m_fresh, .ref m_coins, .ref m_was, .ref m_undone, .ref m_redone, .ref m_marked, .ref m_undoneActs, .ref m_redoneActs, .int m_undos, .int m_redos, .int m_marks, .ref m_tab, .ref m_basis, .long m_below, .int m_rows, .int m_wide, .ref m_corner, .ref m_squares, .int m_cornerMany, .ref m_chosen, .int m_colourMany, .int m_mostOnes, .ref m_tells, .ref m_goes]))]) [0] rfl
      have hD9 := hD.sub (ws' := [(k0, .inr (11, [.int 0, .ref m_tape, .int m_taped, .int m_size, .int m_at, .int m_end, .int m_token, .int m_whole, .int m_nameSize, .int m_fault, .int m_place, .int m_trouble, .ref m_letters, .int m_failed, .int 0, .ref m_r, .ref m_fresh, .ref m_coins, .ref m_was, .ref m_undone, .ref m_redone, .ref m_marked, .ref m_undoneActs, .ref m_redoneActs, .int m_undos, .int m_redos, .int m_marks, .ref m_tab, .ref m_basis, .long m_below, .int m_rows, .int m_wide, .ref m_corner, .ref m_squares, .int m_cornerMany, .ref m_chosen, .int m_colourMany, .int m_mostOnes, .ref m_tells, .ref m_goes]))]) [0] (by decide) rfl
      have hK9 := hK.sub (tys' := []) [] rfl
      refine W.widen (k := 0) (n := 0) (Nat.le_of_ble_eq_true rfl) (Nat.le_of_ble_eq_true rfl) ?_
      exact W.iret (v := 0) hx hb hr (fun t ht hW => ⟨⟨0, (), rfl, (szv_in p0 c_1 hwn.1 hwn.2).symm, by rw [ht]; exact hP9, va_K.moved hW.alike hK9, hD9⟩, hS.F ht⟩) hS.2.2 dX11_size_38
    · refine lv_iload_n hx hb dX11_size_23 rfl (lv_at hl 1 rfl) ?_
      refine lv_iconst (v := 0) hx hb dX11_size_24 (by decide) ?_
      refine lv_bipush (v := 9) hx hb dX11_size_25 (by decide) ?_
      have hPc := hP.sub (ws' := []) [] rfl
      have hDc := hD.sub (ws' := []) [] (by decide) rfl
      have hKc := hK.sub (tys' := []) [] rfl
      have hFc := va_free (wc := []) hD hS hA [] rfl
      refine va_calli (va_runS (As := [.int p0, .int 0, .int 9]) (rest := []) ⟨hx, hb, hml, hown, hts⟩ (c_m_within_f l dC dI H.size p0 0 9 hwn) (va_cwS 3 hts gX11_size_X11_within rfl rfl rfl (by decide +kernel) ⟨Nat.le_of_ble_eq_true rfl, Nat.le_of_ble_eq_true rfl⟩) ⟨fun a U g mk q => by obtain ⟨q0, q1, qP, qK, qD⟩ := q; exact ⟨q0, q1, qP, va_K.moved (u := U) (U := U.calling g mk a) (Vm.Alike.refl U.vm) qK, qD⟩, fun U hU hW => ⟨rfl, by rw [hU], by rw [hU]; exact hPc, va_K.moved hW.alike hKc, hDc.weaken (fun _ _ _ _ => trivial)⟩⟩ rfl rfl hl.1 rfl (lv_room (Nat.le_of_ble_eq_true rfl)) dX11_size_27 ⟨Nat.le_of_ble_eq_true rfl, Nat.le_of_ble_eq_true rfl⟩) hS (fun q _ h => hFc q h) hFc (fun r_5 u t H1 locs ht hvm hw hB hz1 hk1 hS => ?_)
      obtain ⟨hP1, hK1, hD1⟩ := hB
      rw [ht] at hP1
      have hK1 := va_K.moved hvm.symm hK1
      try dsimp only at hw
      obtain ⟨hP, hD⟩ := va_join (wr := [(k0, .inr (11, [.int 0, .ref m_tape, .int m_taped, .int m_size, .int m_at, .int m_end, .int m_token, .int m_whole, .int m_nameSize, .int m_fault, .int m_place, .int m_trouble, .ref m_letters, .int m_failed, .int 0, .ref m_r, .ref m_fresh, .ref m_coins, .ref m_was, .ref m_undone, .ref m_redone, .ref m_marked, .ref m_undoneActs, .ref m_redoneActs, .int m_undos, .int m_redos, .int m_marks, .ref m_tab, .ref m_basis, .long m_below, .int m_rows, .int m_wide, .ref m_corner, .ref m_squares, .int m_cornerMany, .ref m_chosen, .int m_colourMany, .int m_mostOnes, .ref m_tells, .ref m_goes]))]) (w1 := []) hP hD [] [0] rfl rfl (by decide) (by decide) hk1 hFc hP1 hD1
      have hK := (hK.sub (tys' := []) [] rfl).app hK1
      generalize H1 = H at hP hS ⊢
      have hP : va_P (dC, dI) vwCl [(k0, .inr (11, [.int 0, .ref m_tape, .int m_taped, .int m_size, .int m_at, .int m_end, .int m_token, .int m_whole, .int m_nameSize, .int m_fault, .int m_place, .int m_trouble, .ref m_letters, .int m_failed, .int 0, .ref m_r, .ref m_fresh, .ref m_coins, .ref m_was, .ref m_undone, .ref m_redone, .ref m_marked, .ref m_undoneActs, .ref m_redoneActs, .int m_undos, .int m_redos, .int m_marks, .ref m_tab, .ref m_basis, .long m_below, .int m_rows, .int m_wide, .ref m_corner, .ref m_squares, .int m_cornerMany, .ref m_chosen, .int m_colourMany, .int m_mostOnes, .ref m_tells, .ref m_goes]))] H := hP
      have hD : va_D A [(k0, .inr (11, [.int 0, .ref m_tape, .int m_taped, .int m_size, .int m_at, .int m_end, .int m_token, .int m_whole, .int m_nameSize, .int m_fault, .int m_place, .int m_trouble, .ref m_letters, .int m_failed, .int 0, .ref m_r, .ref m_fresh, .ref m_coins, .ref m_was, .ref m_undone, .ref m_redone, .ref m_marked, .ref m_undoneActs, .ref m_redoneActs, .int m_undos, .int m_redos, .int m_marks, .ref m_tab, .ref m_basis, .long m_below, .int m_rows, .int m_wide, .ref m_corner, .ref m_squares, .int m_cornerMany, .ref m_chosen, .int m_colourMany, .int m_mostOnes, .ref m_tells, .ref m_goes]))] := hD
      have hK : va_K (dC, dI) vwCl [] s := hK
      refine W.widen (k := 0) (n := 0) (by omega) (by omega) ?_
      have er_5 : r_5 = 0 := hw
      subst er_5
      refine lv_if_eq (tgt := 37) hx hb dX11_size_30 (by decide) (fun c_6 => ?_) (fun c_6 => absurd c_6 (by decide))
      refine lv_iconst (v := (-1)) hx hb dX11_size_37 (by decide) ?_
      have hP9 := hP.sub (ws' := [(k0, .inr (11, [.int 0, .ref m_tape, .int m_taped, .int m_size, .int m_at, .int m_end, .int m_token, .int m_whole, .int m_nameSize, .int m_fault, .int m_place, .int m_trouble, .ref m_letters, .int m_failed, .int 0, .ref m_r, .ref m_fresh, .ref m_coins, .ref m_was, .ref m_undone, .ref m_redone, .ref m_marked, .ref m_undoneActs, .ref m_redoneActs, .int m_undos, .int m_redos, .int m_marks, .ref m_tab, .ref m_basis, .long m_below, .int m_rows, .int m_wide, .ref m_corner, .ref m_squares, .int m_cornerMany, .ref m_chosen, .int m_colourMany, .int m_mostOnes, .ref m_tells, .ref m_goes]))]) [0] rfl
      have hD9 := hD.sub (ws' := [(k0, .inr (11, [.int 0, .ref m_tape, .int m_taped, .int m_size, .int m_at, .int m_end, .int m_token, .int m_whole, .int m_nameSize, .int m_fault, .int m_place, .int m_trouble, .ref m_letters, .int m_failed, .int 0, .ref m_r, .ref m_fresh, .ref m_coins, .ref m_was, .ref m_undone, .ref m_redone, .ref m_marked, .ref m_undoneActs, .ref m_redoneActs, .int m_undos, .int m_redos, .int m_marks, .ref m_tab, .ref m_basis, .long m_below, .int m_rows, .int m_wide, .ref m_corner, .ref m_squares, .int m_cornerMany, .ref m_chosen, .int m_colourMany, .int m_mostOnes, .ref m_tells, .ref m_goes]))]) [0] (by decide) rfl
      have hK9 := hK.sub (tys' := []) [] rfl
      refine W.widen (k := 0) (n := 0) (Nat.le_of_ble_eq_true rfl) (Nat.le_of_ble_eq_true rfl) ?_
      exact W.iret (v := (-1)) hx hb hr (fun t ht hW => ⟨⟨(-1), (), rfl, (szv_no p0 c_1 hwn).symm, by rw [ht]; exact hP9, va_K.moved hW.alike hK9, hD9⟩, hS.F ht⟩) hS.2.2 dX11_size_38
  · refine lv_aload_n hx hb dX11_size_11 rfl (lv_at hl 0 rfl) ?_
    refine va_get (D := (dC, dI)) (ci := 11) (v := .int m_taped) (C := RX11) (T := TX11) (N := 40) hx hb hts iw_X11_size_X11_c_m_size_0 hown hK hP 0 rfl rfl 2 (by decide) (hts (.fieldLink RX11 75 "NotAtOnceModel" "taped" "I") (by decide +kernel)) (fun _ h9 => h9) rfl dX11_size_12 ?_
    have hP9 := hP.sub (ws' := [(k0, .inr (11, [.int 0, .ref m_tape, .int m_taped, .int m_size, .int m_at, .int m_end, .int m_token, .int m_whole, .int m_nameSize, .int m_fault, .int m_place, .int m_trouble, .ref m_letters, .int m_failed, .int 0, .ref m_r, .ref m_fresh, .ref m_coins, .ref m_was, .ref m_undone, .ref m_redone, .ref m_marked, .ref m_undoneActs, .ref m_redoneActs, .int m_undos, .int m_redos, .int m_marks, .ref m_tab, .ref m_basis, .long m_below, .int m_rows, .int m_wide, .ref m_corner, .ref m_squares, .int m_cornerMany, .ref m_chosen, .int m_colourMany, .int m_mostOnes, .ref m_tells, .ref m_goes]))]) [0] rfl
    have hD9 := hD.sub (ws' := [(k0, .inr (11, [.int 0, .ref m_tape, .int m_taped, .int m_size, .int m_at, .int m_end, .int m_token, .int m_whole, .int m_nameSize, .int m_fault, .int m_place, .int m_trouble, .ref m_letters, .int m_failed, .int 0, .ref m_r, .ref m_fresh, .ref m_coins, .ref m_was, .ref m_undone, .ref m_redone, .ref m_marked, .ref m_undoneActs, .ref m_redoneActs, .int m_undos, .int m_redos, .int m_marks, .ref m_tab, .ref m_basis, .long m_below, .int m_rows, .int m_wide, .ref m_corner, .ref m_squares, .int m_cornerMany, .ref m_chosen, .int m_colourMany, .int m_mostOnes, .ref m_tells, .ref m_goes]))]) [0] (by decide) rfl
    have hK9 := hK.sub (tys' := []) [] rfl
    refine W.widen (k := 0) (n := 0) (Nat.le_of_ble_eq_true rfl) (Nat.le_of_ble_eq_true rfl) ?_
    exact W.iret (v := m_taped) hx hb hr (fun t ht hW => ⟨⟨m_taped, (), rfl, (by rw [c_1]; exact (szv_10 _).symm), by rw [ht]; exact hP9, va_K.moved hW.alike hK9, hD9⟩, hS.F ht⟩) hS.2.2 dX11_size_15

set_option maxRecDepth 20000 in
theorem iw_X11_led_X11_c_m_led_0 : ∀ w ∈ wsX110, w ∈ wsX11_led := by decide +kernel
set_option maxHeartbeats 4000000 in
set_option maxRecDepth 100000 in
/-- the reference: led without a BOOK -/
theorem c_m_led_0 (l : Launch) (dC : Nat → ClassId) (dI : Nat → Nat → Nat) (sz : Nat) (k0 : Nat) (m_thrown : Int32) (m_tape : Nat) (m_taped : Int32) (m_size : Int32) (m_at : Int32) (m_end : Int32) (m_token : Int32) (m_whole : Int32) (m_nameSize : Int32) (m_fault : Int32) (m_place : Int32) (m_trouble : Int32) (m_letters : Nat) (m_failed : Int32) (m_r : Nat) (m_fresh : Nat) (m_coins : Nat) (m_was : Nat) (m_undone : Nat) (m_redone : Nat) (m_marked : Nat) (m_undoneActs : Nat) (m_redoneActs : Nat) (m_undos : Int32) (m_redos : Int32) (m_marks : Int32) (m_tab : Nat) (m_basis : Nat) (m_below : Int64) (m_rows : Int32) (m_wide : Int32) (m_corner : Nat) (m_squares : Nat) (m_cornerMany : Int32) (m_chosen : Nat) (m_colourMany : Int32) (m_mostOnes : Int32) (m_tells : Nat) (m_goes : Nat) (p0 : Int32)  : Met l yX11_led wsX11_led ({ frames := 0, cells := 0, slots := 0, locals := 0 }) (va_Pc [.ref k0, .int p0] (fun U => U.heap.size = sz ∧ va_P (dC, dI) vwCl [(k0, .inr (11, [.int m_thrown, .ref m_tape, .int m_taped, .int m_size, .int m_at, .int m_end, .int m_token, .int m_whole, .int m_nameSize, .int m_fault, .int m_place, .int m_trouble, .ref m_letters, .int m_failed, .int 0, .ref m_r, .ref m_fresh, .ref m_coins, .ref m_was, .ref m_undone, .ref m_redone, .ref m_marked, .ref m_undoneActs, .ref m_redoneActs, .int m_undos, .int m_redos, .int m_marks, .ref m_tab, .ref m_basis, .long m_below, .int m_rows, .int m_wide, .ref m_corner, .ref m_squares, .int m_cornerMany, .ref m_chosen, .int m_colourMany, .int m_mostOnes, .ref m_tells, .ref m_goes]))] U.heap ∧ va_K (dC, dI) vwCl [] U ∧ va_D (fun _ => True) [(k0, .inr (11, [.int m_thrown, .ref m_tape, .int m_taped, .int m_size, .int m_at, .int m_end, .int m_token, .int m_whole, .int m_nameSize, .int m_fault, .int m_place, .int m_trouble, .ref m_letters, .int m_failed, .int 0, .ref m_r, .ref m_fresh, .ref m_coins, .ref m_was, .ref m_undone, .ref m_redone, .ref m_marked, .ref m_undoneActs, .ref m_redoneActs, .int m_undos, .int m_redos, .int m_marks, .ref m_tab, .ref m_basis, .long m_below, .int m_rows, .int m_wide, .ref m_corner, .ref m_squares, .int m_cornerMany, .ref m_chosen, .int m_colourMany, .int m_mostOnes, .ref m_tells, .ref m_goes]))])) (va_Qi (fun (r : Int32) (_ : Unit) => r = 0) (fun _ t => va_P (dC, dI) vwCl [(k0, .inr (11, [.int 1, .ref m_tape, .int m_taped, .int m_size, .int m_at, .int m_end, .int m_token, .int m_whole, .int m_nameSize, .int m_fault, .int m_place, .int m_trouble, .ref m_letters, .int m_failed, .int 0, .ref m_r, .ref m_fresh, .ref m_coins, .ref m_was, .ref m_undone, .ref m_redone, .ref m_marked, .ref m_undoneActs, .ref m_redoneActs, .int m_undos, .int m_redos, .int m_marks, .ref m_tab, .ref m_basis, .long m_below, .int m_rows, .int m_wide, .ref m_corner, .ref m_squares, .int m_cornerMany, .ref m_chosen, .int m_colourMany, .int m_mostOnes, .ref m_tells, .ref m_goes]))] t.heap ∧ va_K (dC, dI) vwCl [] t ∧ va_D (va_A [(k0, .inr (11, [.int m_thrown, .ref m_tape, .int m_taped, .int m_size, .int m_at, .int m_end, .int m_token, .int m_whole, .int m_nameSize, .int m_fault, .int m_place, .int m_trouble, .ref m_letters, .int m_failed, .int 0, .ref m_r, .ref m_fresh, .ref m_coins, .ref m_was, .ref m_undone, .ref m_redone, .ref m_marked, .ref m_undoneActs, .ref m_redoneActs, .int m_undos, .int m_redos, .int m_marks, .ref m_tab, .ref m_basis, .long m_below, .int m_rows, .int m_wide, .ref m_corner, .ref m_squares, .int m_cornerMany, .ref m_chosen, .int m_colourMany, .int m_mostOnes, .ref m_tells, .ref m_goes]))] sz) [(k0, .inr (11, [.int 1, .ref m_tape, .int m_taped, .int m_size, .int m_at, .int m_end, .int m_token, .int m_whole, .int m_nameSize, .int m_fault, .int m_place, .int m_trouble, .ref m_letters, .int m_failed, .int 0, .ref m_r, .ref m_fresh, .ref m_coins, .ref m_was, .ref m_undone, .ref m_redone, .ref m_marked, .ref m_undoneActs, .ref m_redoneActs, .int m_undos, .int m_redos, .int m_marks, .ref m_tab, .ref m_basis, .long m_below, .int m_rows, .int m_wide, .ref m_corner, .ref m_squares, .int m_cornerMany, .ref m_chosen, .int m_colourMany, .int m_mostOnes, .ref m_tells, .ref m_goes]))]) (va_A [(k0, .inr (11, [.int m_thrown, .ref m_tape, .int m_taped, .int m_size, .int m_at, .int m_end, .int m_token, .int m_whole, .int m_nameSize, .int m_fault, .int m_place, .int m_trouble, .ref m_letters, .int m_failed, .int 0, .ref m_r, .ref m_fresh, .ref m_coins, .ref m_was, .ref m_undone, .ref m_redone, .ref m_marked, .ref m_undoneActs, .ref m_redoneActs, .int m_undos, .int m_redos, .int m_marks, .ref m_tab, .ref m_basis, .long m_below, .int m_rows, .int m_wide, .ref m_corner, .ref m_squares, .int m_cornerMany, .ref m_chosen, .int m_colourMany, .int m_mostOnes, .ref m_tells, .ref m_goes]))] sz)) 0 0 (va_A [(k0, .inr (11, [.int m_thrown, .ref m_tape, .int m_taped, .int m_size, .int m_at, .int m_end, .int m_token, .int m_whole, .int m_nameSize, .int m_fault, .int m_place, .int m_trouble, .ref m_letters, .int m_failed, .int 0, .ref m_r, .ref m_fresh, .ref m_coins, .ref m_was, .ref m_undone, .ref m_redone, .ref m_marked, .ref m_undoneActs, .ref m_redoneActs, .int m_undos, .int m_redos, .int m_marks, .ref m_tab, .ref m_basis, .long m_below, .int m_rows, .int m_wide, .ref m_corner, .ref m_squares, .int m_cornerMany, .ref m_chosen, .int m_colourMany, .int m_mostOnes, .ref m_tells, .ref m_goes]))] sz) := by
  refine Met.ofW (cc := cX11_led) (maxL := 5) (ret := (some .int)) (by decide) rfl ?_
  intro p e s m args below meth c s₁ B hml hv
  obtain ⟨rfl, hsz, hP, hK, hD0⟩ := hv
  have hx := B.exec
  have hb := B.bytes
  have hr := B.returns
  have hts := atoms_spec (ws := wsX11_led) B.pre
  have hown : s.vm.findClass RX11 = some m.cls := findClass_of_methodNamed B.named
  have hlocks := B.notSynchronized
  subst hsz
  have hD := hD0.self (sz := s.heap.size)
  generalize hAe : va_A [(k0, .inr (11, [.int m_thrown, .ref m_tape, .int m_taped, .int m_size, .int m_at, .int m_end, .int m_token, .int m_whole, .int m_nameSize, .int m_fault, .int m_place, .int m_trouble, .ref m_letters, .int m_failed, .int 0, .ref m_r, .ref m_fresh, .ref m_coins, .ref m_was, .ref m_undone, .ref m_redone, .ref m_marked, .ref m_undoneActs, .ref m_redoneActs, .int m_undos, .int m_redos, .int m_marks, .ref m_tab, .ref m_basis, .long m_below, .int m_rows, .int m_wide, .ref m_corner, .ref m_squares, .int m_cornerMany, .ref m_chosen, .int m_colourMany, .int m_mostOnes, .ref m_tells, .ref m_goes]))] s.heap.size = A at hD ⊢
  have hA : ∀ q : Nat, s.heap.size ≤ q → A q := fun q h => by rw [← hAe]; exact Or.inr h
  have hS : va_S A s.heap s.heap [] := va_S.rf
  have hP : va_P (dC, dI) vwCl [(k0, .inr (11, [.int m_thrown, .ref m_tape, .int m_taped, .int m_size, .int m_at, .int m_end, .int m_token, .int m_whole, .int m_nameSize, .int m_fault, .int m_place, .int m_trouble, .ref m_letters, .int m_failed, .int 0, .ref m_r, .ref m_fresh, .ref m_coins, .ref m_was, .ref m_undone, .ref m_redone, .ref m_marked, .ref m_undoneActs, .ref m_redoneActs, .int m_undos, .int m_redos, .int m_marks, .ref m_tab, .ref m_basis, .long m_below, .int m_rows, .int m_wide, .ref m_corner, .ref m_squares, .int m_cornerMany, .ref m_chosen, .int m_colourMany, .int m_mostOnes, .ref m_tells, .ref m_goes]))] s.heap := hP
  have hl := lv_entry ([.ref k0, .int p0]) (n := 5) (Nat.le_of_ble_eq_true rfl)
  rw [lg_entry_eq]
  generalize (lg_sl ([.ref k0, .int p0]) ++ List.replicate (5 - (lg_sl ([.ref k0, .int p0])).length) Slot.unset).toArray = ls at hl ⊢
  have hl : lv_has ls 5 [(0, .ref k0), (1, .int p0)] := hl
  refine lv_iconst (v := 0) hx hb dX11_led_0 (by decide) ?_
  refine lv_istore_n (lv' := [(2, .int 0), (0, .ref k0), (1, .int p0)]) hx hb dX11_led_1 rfl hl (by decide) rfl (fun ls hl => ?_)
  refine lv_iconst (v := 0) hx hb dX11_led_2 (by decide) ?_
  refine lv_istore_n (lv' := [(3, .int 0), (2, .int 0), (0, .ref k0), (1, .int p0)]) hx hb dX11_led_3 rfl hl (by decide) rfl (fun ls hl => ?_)
  refine lv_aload_n hx hb dX11_led_4 rfl (lv_at hl 2 rfl) ?_
  refine va_get (D := (dC, dI)) (ci := 11) (v := .int 0) (C := RX11) (T := TX11) (N := 40) hx hb hts iw_X11_led_X11_c_m_led_0 hown hK hP 0 rfl rfl 14 (by decide) (hts (.fieldLink RX11 183 "NotAtOnceModel" "hasBook" "Z") (by decide +kernel)) (fun _ h9 => h9) rfl dX11_led_5 ?_
  refine lv_if_eq (tgt := 99) hx hb dX11_led_8 (by decide) (fun c_1 => ?_) (fun c_1 => absurd c_1 (by decide))
  refine lv_aload_n hx hb dX11_led_99 rfl (lv_at hl 2 rfl) ?_
  refine lv_iconst (v := 1) hx hb dX11_led_100 (by decide) ?_
  refine va_put (D := (dC, dI)) (ci := 11) (v := .int 1) (ty := .int) (C := RX11) (T := TX11) (N := 40) hx hb hts iw_X11_led_X11_c_m_led_0 tyX11 tyX11_ok nmX11 hown hK hP hD hS 0 rfl rfl 0 (by decide) (hts (.fieldLink RX11 69 "NotAtOnceModel" "thrown" "I") (by decide +kernel)) (fun _ h9 => h9) rfl (by decide +kernel) rfl rfl (Nat.le_of_ble_eq_true rfl) dX11_led_101 (fun H locs hP hD hS => ?_)
  have hP : va_P (dC, dI) vwCl [(k0, .inr (11, [.int 1, .ref m_tape, .int m_taped, .int m_size, .int m_at, .int m_end, .int m_token, .int m_whole, .int m_nameSize, .int m_fault, .int m_place, .int m_trouble, .ref m_letters, .int m_failed, .int 0, .ref m_r, .ref m_fresh, .ref m_coins, .ref m_was, .ref m_undone, .ref m_redone, .ref m_marked, .ref m_undoneActs, .ref m_redoneActs, .int m_undos, .int m_redos, .int m_marks, .ref m_tab, .ref m_basis, .long m_below, .int m_rows, .int m_wide, .ref m_corner, .ref m_squares, .int m_cornerMany, .ref m_chosen, .int m_colourMany, .int m_mostOnes, .ref m_tells, .ref m_goes]))] H := hP
  have hD : va_D A [(k0, .inr (11, [.int 1, .ref m_tape, .int m_taped, .int m_size, .int m_at, .int m_end, .int m_token, .int m_whole, .int m_nameSize, .int m_fault, .int m_place, .int m_trouble, .ref m_letters, .int m_failed, .int 0, .ref m_r, .ref m_fresh, .ref m_coins, .ref m_was, .ref m_undone, .ref m_redone, .ref m_marked, .ref m_undoneActs, .ref m_redoneActs, .int m_undos, .int m_redos, .int m_marks, .ref m_tab, .ref m_basis, .long m_below, .int m_rows, .int m_wide, .ref m_corner, .ref m_squares, .int m_cornerMany, .ref m_chosen, .int m_colourMany, .int m_mostOnes, .ref m_tells, .ref m_goes]))] := hD
  refine lv_iconst (v := 0) hx hb dX11_led_104 (by decide) ?_
  have hP9 := hP.sub (ws' := [(k0, .inr (11, [.int 1, .ref m_tape, .int m_taped, .int m_size, .int m_at, .int m_end, .int m_token, .int m_whole, .int m_nameSize, .int m_fault, .int m_place, .int m_trouble, .ref m_letters, .int m_failed, .int 0, .ref m_r, .ref m_fresh, .ref m_coins, .ref m_was, .ref m_undone, .ref m_redone, .ref m_marked, .ref m_undoneActs, .ref m_redoneActs, .int m_undos, .int m_redos, .int m_marks, .ref m_tab, .ref m_basis, .long m_below, .int m_rows, .int m_wide, .ref m_corner, .ref m_squares, .int m_cornerMany, .ref m_chosen, .int m_colourMany, .int m_mostOnes, .ref m_tells, .ref m_goes]))]) [0] rfl
  have hD9 := hD.sub (ws' := [(k0, .inr (11, [.int 1, .ref m_tape, .int m_taped, .int m_size, .int m_at, .int m_end, .int m_token, .int m_whole, .int m_nameSize, .int m_fault, .int m_place, .int m_trouble, .ref m_letters, .int m_failed, .int 0, .ref m_r, .ref m_fresh, .ref m_coins, .ref m_was, .ref m_undone, .ref m_redone, .ref m_marked, .ref m_undoneActs, .ref m_redoneActs, .int m_undos, .int m_redos, .int m_marks, .ref m_tab, .ref m_basis, .long m_below, .int m_rows, .int m_wide, .ref m_corner, .ref m_squares, .int m_cornerMany, .ref m_chosen, .int m_colourMany, .int m_mostOnes, .ref m_tells, .ref m_goes]))]) [0] (by decide) rfl
  have hK9 := hK.sub (tys' := []) [] rfl
  refine W.widen (k := 0) (n := 0) (Nat.le_of_ble_eq_true rfl) (Nat.le_of_ble_eq_true rfl) ?_
  exact W.iret (v := 0) hx hb hr (fun t ht hW => ⟨⟨0, (), rfl, rfl, by rw [ht]; exact hP9, va_K.moved hW.alike hK9, hD9⟩, hS.F ht⟩) hS.2.2 dX11_led_105
