set_option maxRecDepth 20000 in
theorem iw_X10_where_X10_c_where_0 : ∀ w ∈ wsX100, w ∈ wsX10_where := by decide +kernel
set_option maxHeartbeats 4000000 in
set_option maxRecDepth 100000 in
/-- where() with no trouble -/
theorem c_where_0 (l : Launch) (dC : Nat → ClassId) (dI : Nat → Nat → Nat) (sz : Nat) (h0 : Nat) (tp : Nat) (rd : Nat) (tb : Nat) (rg : Nat) (bl : Nat) (pa : Nat) (fm : Nat) (te : Nat) (hi : Nat) (fr : Nat) (fd : Int32) (lf : Int32) (fp : Int32)  : Met l yX10_where wsX10_where ({ frames := 0, cells := 0, slots := 0, locals := 0 }) (va_Pc [.ref h0] (fun U => U.heap.size = sz ∧ va_P (dC, dI) vwCl [(h0, .inr (10, [.ref tp, .ref rd, .ref tb, .ref rg, .ref bl, .ref pa, .ref fm, .ref te, .ref hi, .ref fr, .int fd, .int 0, .int lf, .int fp]))] U.heap ∧ va_K (dC, dI) vwCl [] U ∧ va_D (fun _ => True) [(h0, .inr (10, [.ref tp, .ref rd, .ref tb, .ref rg, .ref bl, .ref pa, .ref fm, .ref te, .ref hi, .ref fr, .int fd, .int 0, .int lf, .int fp]))])) (va_Qi (fun (r : Int32) (_ : Unit) => r = (-1)) (fun _ t => va_P (dC, dI) vwCl [(h0, .inr (10, [.ref tp, .ref rd, .ref tb, .ref rg, .ref bl, .ref pa, .ref fm, .ref te, .ref hi, .ref fr, .int fd, .int 0, .int lf, .int fp]))] t.heap ∧ va_K (dC, dI) vwCl [] t ∧ va_D (va_A [(h0, .inr (10, [.ref tp, .ref rd, .ref tb, .ref rg, .ref bl, .ref pa, .ref fm, .ref te, .ref hi, .ref fr, .int fd, .int 0, .int lf, .int fp]))] sz) [(h0, .inr (10, [.ref tp, .ref rd, .ref tb, .ref rg, .ref bl, .ref pa, .ref fm, .ref te, .ref hi, .ref fr, .int fd, .int 0, .int lf, .int fp]))]) (va_A [(h0, .inr (10, [.ref tp, .ref rd, .ref tb, .ref rg, .ref bl, .ref pa, .ref fm, .ref te, .ref hi, .ref fr, .int fd, .int 0, .int lf, .int fp]))] sz)) 0 0 (va_A [(h0, .inr (10, [.ref tp, .ref rd, .ref tb, .ref rg, .ref bl, .ref pa, .ref fm, .ref te, .ref hi, .ref fr, .int fd, .int 0, .int lf, .int fp]))] sz) := by
  refine Met.ofW (cc := cX10_where) (maxL := 1) (ret := (some .int)) (by decide) rfl ?_
  intro p e s m args below meth c s₁ B hml hv
  obtain ⟨rfl, hsz, hP, hK, hD0⟩ := hv
  have hx := B.exec
  have hb := B.bytes
  have hr := B.returns
  have hts := atoms_spec (ws := wsX10_where) B.pre
  have hown : s.vm.findClass RX10 = some m.cls := findClass_of_methodNamed B.named
  have hlocks := B.notSynchronized
  subst hsz
  have hD := hD0.self (sz := s.heap.size)
  generalize hAe : va_A [(h0, .inr (10, [.ref tp, .ref rd, .ref tb, .ref rg, .ref bl, .ref pa, .ref fm, .ref te, .ref hi, .ref fr, .int fd, .int 0, .int lf, .int fp]))] s.heap.size = A at hD ⊢
  have hA : ∀ q : Nat, s.heap.size ≤ q → A q := fun q h => by rw [← hAe]; exact Or.inr h
  have hS : va_S A s.heap s.heap [] := va_S.rf
  have hP : va_P (dC, dI) vwCl [(h0, .inr (10, [.ref tp, .ref rd, .ref tb, .ref rg, .ref bl, .ref pa, .ref fm, .ref te, .ref hi, .ref fr, .int fd, .int 0, .int lf, .int fp]))] s.heap := hP
  have hl := lv_entry ([.ref h0]) (n := 1) (Nat.le_of_ble_eq_true rfl)
  rw [lg_entry_eq]
  generalize (lg_sl ([.ref h0]) ++ List.replicate (1 - (lg_sl ([.ref h0])).length) Slot.unset).toArray = ls at hl ⊢
  have hl : lv_has ls 1 [(0, .ref h0)] := hl
  refine lv_aload_n hx hb dX10_where_0 rfl (lv_at hl 0 rfl) ?_
  refine va_get (D := (dC, dI)) (ci := 10) (v := .int 0) (C := RX10) (T := TX10) (N := 14) hx hb hts iw_X10_where_X10_c_where_0 hown hK hP 0 rfl rfl 11 (by decide) (hts (.fieldLink RX10 128 "NotAtOnce" "refusal" "I") (by decide +kernel)) (fun _ h9 => h9) rfl dX10_where_1 ?_
  refine lv_iconst (v := 4) hx hb dX10_where_4 (by decide) ?_
  refine lv_icmp_ne (tgt := 15) hx hb dX10_where_5 (by decide) (fun c_1 => ?_) (fun c_1 => absurd c_1 (by decide))
  refine lv_iconst (v := (-1)) hx hb dX10_where_15 (by decide) ?_
  have hP9 := hP.sub (ws' := [(h0, .inr (10, [.ref tp, .ref rd, .ref tb, .ref rg, .ref bl, .ref pa, .ref fm, .ref te, .ref hi, .ref fr, .int fd, .int 0, .int lf, .int fp]))]) [0] rfl
  have hD9 := hD.sub (ws' := [(h0, .inr (10, [.ref tp, .ref rd, .ref tb, .ref rg, .ref bl, .ref pa, .ref fm, .ref te, .ref hi, .ref fr, .int fd, .int 0, .int lf, .int fp]))]) [0] (by decide) rfl
  have hK9 := hK.sub (tys' := []) [] rfl
  refine W.widen (k := 0) (n := 0) (Nat.le_of_ble_eq_true rfl) (Nat.le_of_ble_eq_true rfl) ?_
  exact W.iret (v := (-1)) hx hb hr (fun t ht hW => ⟨⟨(-1), (), rfl, rfl, by rw [ht]; exact hP9, va_K.moved hW.alike hK9, hD9⟩, hS.F ht⟩) hS.2.2 dX10_where_16

set_option maxRecDepth 20000 in
theorem iw_X11_where_X11_c_m_where_0 : ∀ w ∈ wsX110, w ∈ wsX11_where := by decide +kernel
set_option maxHeartbeats 4000000 in
set_option maxRecDepth 100000 in
/-- where() with no trouble -/
theorem c_m_where_0 (l : Launch) (dC : Nat → ClassId) (dI : Nat → Nat → Nat) (sz : Nat) (k0 : Nat) (m_thrown : Int32) (m_tape : Nat) (m_taped : Int32) (m_size : Int32) (m_at : Int32) (m_end : Int32) (m_token : Int32) (m_whole : Int32) (m_nameSize : Int32) (m_fault : Int32) (m_place : Int32) (m_letters : Nat) (m_failed : Int32) (m_hasBook : Int32) (m_r : Nat) (m_fresh : Nat) (m_coins : Nat) (m_was : Nat) (m_undone : Nat) (m_redone : Nat) (m_marked : Nat) (m_undoneActs : Nat) (m_redoneActs : Nat) (m_undos : Int32) (m_redos : Int32) (m_marks : Int32) (m_tab : Nat) (m_basis : Nat) (m_below : Int64) (m_rows : Int32) (m_wide : Int32) (m_corner : Nat) (m_squares : Nat) (m_cornerMany : Int32) (m_chosen : Nat) (m_colourMany : Int32) (m_mostOnes : Int32) (m_tells : Nat) (m_goes : Nat)  : Met l yX11_where wsX11_where ({ frames := 0, cells := 0, slots := 0, locals := 0 }) (va_Pc [.ref k0] (fun U => U.heap.size = sz ∧ va_P (dC, dI) vwCl [(k0, .inr (11, [.int m_thrown, .ref m_tape, .int m_taped, .int m_size, .int m_at, .int m_end, .int m_token, .int m_whole, .int m_nameSize, .int m_fault, .int m_place, .int 0, .ref m_letters, .int m_failed, .int m_hasBook, .ref m_r, .ref m_fresh, .ref m_coins, .ref m_was, .ref m_undone, .ref m_redone, .ref m_marked, .ref m_undoneActs, .ref m_redoneActs, .int m_undos, .int m_redos, .int m_marks, .ref m_tab, .ref m_basis, .long m_below, .int m_rows, .int m_wide, .ref m_corner, .ref m_squares, .int m_cornerMany, .ref m_chosen, .int m_colourMany, .int m_mostOnes, .ref m_tells, .ref m_goes]))] U.heap ∧ va_K (dC, dI) vwCl [] U ∧ va_D (fun _ => True) [(k0, .inr (11, [.int m_thrown, .ref m_tape, .int m_taped, .int m_size, .int m_at, .int m_end, .int m_token, .int m_whole, .int m_nameSize, .int m_fault, .int m_place, .int 0, .ref m_letters, .int m_failed, .int m_hasBook, .ref m_r, .ref m_fresh, .ref m_coins, .ref m_was, .ref m_undone, .ref m_redone, .ref m_marked, .ref m_undoneActs, .ref m_redoneActs, .int m_undos, .int m_redos, .int m_marks, .ref m_tab, .ref m_basis, .long m_below, .int m_rows, .int m_wide, .ref m_corner, .ref m_squares, .int m_cornerMany, .ref m_chosen, .int m_colourMany, .int m_mostOnes, .ref m_tells, .ref m_goes]))])) (va_Qi (fun (r : Int32) (_ : Unit) => r = (-1)) (fun _ t => va_P (dC, dI) vwCl [(k0, .inr (11, [.int 0, .ref m_tape, .int m_taped, .int m_size, .int m_at, .int m_end, .int m_token, .int m_whole, .int m_nameSize, .int m_fault, .int m_place, .int 0, .ref m_letters, .int m_failed, .int m_hasBook, .ref m_r, .ref m_fresh, .ref m_coins, .ref m_was, .ref m_undone, .ref m_redone, .ref m_marked, .ref m_undoneActs, .ref m_redoneActs, .int m_undos, .int m_redos, .int m_marks, .ref m_tab, .ref m_basis, .long m_below, .int m_rows, .int m_wide, .ref m_corner, .ref m_squares, .int m_cornerMany, .ref m_chosen, .int m_colourMany, .int m_mostOnes, .ref m_tells, .ref m_goes]))] t.heap ∧ va_K (dC, dI) vwCl [] t ∧ va_D (va_A [(k0, .inr (11, [.int m_thrown, .ref m_tape, .int m_taped, .int m_size, .int m_at, .int m_end, .int m_token, .int m_whole, .int m_nameSize, .int m_fault, .int m_place, .int 0, .ref m_letters, .int m_failed, .int m_hasBook, .ref m_r, .ref m_fresh, .ref m_coins, .ref m_was, .ref m_undone, .ref m_redone, .ref m_marked, .ref m_undoneActs, .ref m_redoneActs, .int m_undos, .int m_redos, .int m_marks, .ref m_tab, .ref m_basis, .long m_below, .int m_rows, .int m_wide, .ref m_corner, .ref m_squares, .int m_cornerMany, .ref m_chosen, .int m_colourMany, .int m_mostOnes, .ref m_tells, .ref m_goes]))] sz) [(k0, .inr (11, [.int 0, .ref m_tape, .int m_taped, .int m_size, .int m_at, .int m_end, .int m_token, .int m_whole, .int m_nameSize, .int m_fault, .int m_place, .int 0, .ref m_letters, .int m_failed, .int m_hasBook, .ref m_r, .ref m_fresh, .ref m_coins, .ref m_was, .ref m_undone, .ref m_redone, .ref m_marked, .ref m_undoneActs, .ref m_redoneActs, .int m_undos, .int m_redos, .int m_marks, .ref m_tab, .ref m_basis, .long m_below, .int m_rows, .int m_wide, .ref m_corner, .ref m_squares, .int m_cornerMany, .ref m_chosen, .int m_colourMany, .int m_mostOnes, .ref m_tells, .ref m_goes]))]) (va_A [(k0, .inr (11, [.int m_thrown, .ref m_tape, .int m_taped, .int m_size, .int m_at, .int m_end, .int m_token, .int m_whole, .int m_nameSize, .int m_fault, .int m_place, .int 0, .ref m_letters, .int m_failed, .int m_hasBook, .ref m_r, .ref m_fresh, .ref m_coins, .ref m_was, .ref m_undone, .ref m_redone, .ref m_marked, .ref m_undoneActs, .ref m_redoneActs, .int m_undos, .int m_redos, .int m_marks, .ref m_tab, .ref m_basis, .long m_below, .int m_rows, .int m_wide, .ref m_corner, .ref m_squares, .int m_cornerMany, .ref m_chosen, .int m_colourMany, .int m_mostOnes, .ref m_tells, .ref m_goes]))] sz)) 0 0 (va_A [(k0, .inr (11, [.int m_thrown, .ref m_tape, .int m_taped, .int m_size, .int m_at, .int m_end, .int m_token, .int m_whole, .int m_nameSize, .int m_fault, .int m_place, .int 0, .ref m_letters, .int m_failed, .int m_hasBook, .ref m_r, .ref m_fresh, .ref m_coins, .ref m_was, .ref m_undone, .ref m_redone, .ref m_marked, .ref m_undoneActs, .ref m_redoneActs, .int m_undos, .int m_redos, .int m_marks, .ref m_tab, .ref m_basis, .long m_below, .int m_rows, .int m_wide, .ref m_corner, .ref m_squares, .int m_cornerMany, .ref m_chosen, .int m_colourMany, .int m_mostOnes, .ref m_tells, .ref m_goes]))] sz) := by
  refine Met.ofW (cc := cX11_where) (maxL := 1) (ret := (some .int)) (by decide) rfl ?_
  intro p e s m args below meth c s₁ B hml hv
  obtain ⟨rfl, hsz, hP, hK, hD0⟩ := hv
  have hx := B.exec
  have hb := B.bytes
  have hr := B.returns
  have hts := atoms_spec (ws := wsX11_where) B.pre
  have hown : s.vm.findClass RX11 = some m.cls := findClass_of_methodNamed B.named
  have hlocks := B.notSynchronized
  subst hsz
  have hD := hD0.self (sz := s.heap.size)
  generalize hAe : va_A [(k0, .inr (11, [.int m_thrown, .ref m_tape, .int m_taped, .int m_size, .int m_at, .int m_end, .int m_token, .int m_whole, .int m_nameSize, .int m_fault, .int m_place, .int 0, .ref m_letters, .int m_failed, .int m_hasBook, .ref m_r, .ref m_fresh, .ref m_coins, .ref m_was, .ref m_undone, .ref m_redone, .ref m_marked, .ref m_undoneActs, .ref m_redoneActs, .int m_undos, .int m_redos, .int m_marks, .ref m_tab, .ref m_basis, .long m_below, .int m_rows, .int m_wide, .ref m_corner, .ref m_squares, .int m_cornerMany, .ref m_chosen, .int m_colourMany, .int m_mostOnes, .ref m_tells, .ref m_goes]))] s.heap.size = A at hD ⊢
  have hA : ∀ q : Nat, s.heap.size ≤ q → A q := fun q h => by rw [← hAe]; exact Or.inr h
  have hS : va_S A s.heap s.heap [] := va_S.rf
  have hP : va_P (dC, dI) vwCl [(k0, .inr (11, [.int m_thrown, .ref m_tape, .int m_taped, .int m_size, .int m_at, .int m_end, .int m_token, .int m_whole, .int m_nameSize, .int m_fault, .int m_place, .int 0, .ref m_letters, .int m_failed, .int m_hasBook, .ref m_r, .ref m_fresh, .ref m_coins, .ref m_was, .ref m_undone, .ref m_redone, .ref m_marked, .ref m_undoneActs, .ref m_redoneActs, .int m_undos, .int m_redos, .int m_marks, .ref m_tab, .ref m_basis, .long m_below, .int m_rows, .int m_wide, .ref m_corner, .ref m_squares, .int m_cornerMany, .ref m_chosen, .int m_colourMany, .int m_mostOnes, .ref m_tells, .ref m_goes]))] s.heap := hP
  have hl := lv_entry ([.ref k0]) (n := 1) (Nat.le_of_ble_eq_true rfl)
  rw [lg_entry_eq]
  generalize (lg_sl ([.ref k0]) ++ List.replicate (1 - (lg_sl ([.ref k0])).length) Slot.unset).toArray = ls at hl ⊢
  have hl : lv_has ls 1 [(0, .ref k0)] := hl
  refine lv_aload_n hx hb dX11_where_0 rfl (lv_at hl 0 rfl) ?_
  refine lv_iconst (v := 0) hx hb dX11_where_1 (by decide) ?_
  refine va_put (D := (dC, dI)) (ci := 11) (v := .int 0) (ty := .int) (C := RX11) (T := TX11) (N := 40) hx hb hts iw_X11_where_X11_c_m_where_0 tyX11 tyX11_ok nmX11 hown hK hP hD hS 0 rfl rfl 0 (by decide) (hts (.fieldLink RX11 69 "NotAtOnceModel" "thrown" "I") (by decide +kernel)) (fun _ h9 => h9) rfl (by decide +kernel) rfl rfl (Nat.le_of_ble_eq_true rfl) dX11_where_2 (fun H locs hP hD hS => ?_)
  have hP : va_P (dC, dI) vwCl [(k0, .inr (11, [.int 0, .ref m_tape, .int m_taped, .int m_size, .int m_at, .int m_end, .int m_token, .int m_whole, .int m_nameSize, .int m_fault, .int m_place, .int 0, .ref m_letters, .int m_failed, .int m_hasBook, .ref m_r, .ref m_fresh, .ref m_coins, .ref m_was, .ref m_undone, .ref m_redone, .ref m_marked, .ref m_undoneActs, .ref m_redoneActs, .int m_undos, .int m_redos, .int m_marks, .ref m_tab, .ref m_basis, .long m_below, .int m_rows, .int m_wide, .ref m_corner, .ref m_squares, .int m_cornerMany, .ref m_chosen, .int m_colourMany, .int m_mostOnes, .ref m_tells, .ref m_goes]))] H := hP
  have hD : va_D A [(k0, .inr (11, [.int 0, .ref m_tape, .int m_taped, .int m_size, .int m_at, .int m_end, .int m_token, .int m_whole, .int m_nameSize, .int m_fault, .int m_place, .int 0, .ref m_letters, .int m_failed, .int m_hasBook, .ref m_r, .ref m_fresh, .ref m_coins, .ref m_was, .ref m_undone, .ref m_redone, .ref m_marked, .ref m_undoneActs, .ref m_redoneActs, .int m_undos, .int m_redos, .int m_marks, .ref m_tab, .ref m_basis, .long m_below, .int m_rows, .int m_wide, .ref m_corner, .ref m_squares, .int m_cornerMany, .ref m_chosen, .int m_colourMany, .int m_mostOnes, .ref m_tells, .ref m_goes]))] := hD
  refine lv_aload_n hx hb dX11_where_5 rfl (lv_at hl 0 rfl) ?_
  refine va_get (D := (dC, dI)) (ci := 11) (v := .int 0) (C := RX11) (T := TX11) (N := 40) hx hb hts iw_X11_where_X11_c_m_where_0 hown hK hP 0 rfl rfl 11 (by decide) (hts (.fieldLink RX11 72 "NotAtOnceModel" "trouble" "I") (by decide +kernel)) (fun _ h9 => h9) rfl dX11_where_6 ?_
  refine lv_iconst (v := 4) hx hb dX11_where_9 (by decide) ?_
  refine lv_icmp_ne (tgt := 20) hx hb dX11_where_10 (by decide) (fun c_1 => ?_) (fun c_1 => absurd c_1 (by decide))
  refine lv_iconst (v := (-1)) hx hb dX11_where_20 (by decide) ?_
  have hP9 := hP.sub (ws' := [(k0, .inr (11, [.int 0, .ref m_tape, .int m_taped, .int m_size, .int m_at, .int m_end, .int m_token, .int m_whole, .int m_nameSize, .int m_fault, .int m_place, .int 0, .ref m_letters, .int m_failed, .int m_hasBook, .ref m_r, .ref m_fresh, .ref m_coins, .ref m_was, .ref m_undone, .ref m_redone, .ref m_marked, .ref m_undoneActs, .ref m_redoneActs, .int m_undos, .int m_redos, .int m_marks, .ref m_tab, .ref m_basis, .long m_below, .int m_rows, .int m_wide, .ref m_corner, .ref m_squares, .int m_cornerMany, .ref m_chosen, .int m_colourMany, .int m_mostOnes, .ref m_tells, .ref m_goes]))]) [0] rfl
  have hD9 := hD.sub (ws' := [(k0, .inr (11, [.int 0, .ref m_tape, .int m_taped, .int m_size, .int m_at, .int m_end, .int m_token, .int m_whole, .int m_nameSize, .int m_fault, .int m_place, .int 0, .ref m_letters, .int m_failed, .int m_hasBook, .ref m_r, .ref m_fresh, .ref m_coins, .ref m_was, .ref m_undone, .ref m_redone, .ref m_marked, .ref m_undoneActs, .ref m_redoneActs, .int m_undos, .int m_redos, .int m_marks, .ref m_tab, .ref m_basis, .long m_below, .int m_rows, .int m_wide, .ref m_corner, .ref m_squares, .int m_cornerMany, .ref m_chosen, .int m_colourMany, .int m_mostOnes, .ref m_tells, .ref m_goes]))]) [0] (by decide) rfl
  have hK9 := hK.sub (tys' := []) [] rfl
  refine W.widen (k := 0) (n := 0) (Nat.le_of_ble_eq_true rfl) (Nat.le_of_ble_eq_true rfl) ?_
  exact W.iret (v := (-1)) hx hb hr (fun t ht hW => ⟨⟨(-1), (), rfl, rfl, by rw [ht]; exact hP9, va_K.moved hW.alike hK9, hD9⟩, hS.F ht⟩) hS.2.2 dX11_where_21

set_option maxRecDepth 20000 in
theorem iw_X8_hiddenAnswers_X8_c_hiddenAnswers_0 : ∀ w ∈ wsX80, w ∈ wsX8_hiddenAnswers := by decide +kernel
set_option maxHeartbeats 4000000 in
set_option maxRecDepth 100000 in
/-- hiddenAnswers without a look -/
theorem c_hiddenAnswers_0 (l : Launch) (dC : Nat → ClassId) (dI : Nat → Nat → Nat) (sz : Nat) (tb : Nat) (lw : Int32) (ct : Int32) (vr : Int32) (a1 : Nat) (a2 : Nat) (a3 : Nat) (a4 : Nat)  : Met l yX8_hiddenAnswers wsX8_hiddenAnswers ({ frames := 0, cells := 0, slots := 0, locals := 0 }) (va_Pc [.ref tb] (fun U => U.heap.size = sz ∧ va_P (dC, dI) vwCl [(tb, .inr (8, [.int lw, .int 0, .int ct, .int vr, .ref a1, .ref a2, .ref a3, .ref a4]))] U.heap ∧ va_K (dC, dI) vwCl [] U ∧ va_D (fun _ => True) [(tb, .inr (8, [.int lw, .int 0, .int ct, .int vr, .ref a1, .ref a2, .ref a3, .ref a4]))])) (va_Qi (fun (r : Int32) (_ : Unit) => r = 1) (fun _ t => va_P (dC, dI) vwCl [(tb, .inr (8, [.int lw, .int 0, .int ct, .int vr, .ref a1, .ref a2, .ref a3, .ref a4]))] t.heap ∧ va_K (dC, dI) vwCl [] t ∧ va_D (va_A [(tb, .inr (8, [.int lw, .int 0, .int ct, .int vr, .ref a1, .ref a2, .ref a3, .ref a4]))] sz) [(tb, .inr (8, [.int lw, .int 0, .int ct, .int vr, .ref a1, .ref a2, .ref a3, .ref a4]))]) (va_A [(tb, .inr (8, [.int lw, .int 0, .int ct, .int vr, .ref a1, .ref a2, .ref a3, .ref a4]))] sz)) 0 0 (va_A [(tb, .inr (8, [.int lw, .int 0, .int ct, .int vr, .ref a1, .ref a2, .ref a3, .ref a4]))] sz) := by
  refine Met.ofW (cc := cX8_hiddenAnswers) (maxL := 1) (ret := (some .int)) (by decide) rfl ?_
  intro p e s m args below meth c s₁ B hml hv
  obtain ⟨rfl, hsz, hP, hK, hD0⟩ := hv
  have hx := B.exec
  have hb := B.bytes
  have hr := B.returns
  have hts := atoms_spec (ws := wsX8_hiddenAnswers) B.pre
  have hown : s.vm.findClass RX8 = some m.cls := findClass_of_methodNamed B.named
  have hlocks := B.notSynchronized
  subst hsz
  have hD := hD0.self (sz := s.heap.size)
  generalize hAe : va_A [(tb, .inr (8, [.int lw, .int 0, .int ct, .int vr, .ref a1, .ref a2, .ref a3, .ref a4]))] s.heap.size = A at hD ⊢
  have hA : ∀ q : Nat, s.heap.size ≤ q → A q := fun q h => by rw [← hAe]; exact Or.inr h
  have hS : va_S A s.heap s.heap [] := va_S.rf
  have hP : va_P (dC, dI) vwCl [(tb, .inr (8, [.int lw, .int 0, .int ct, .int vr, .ref a1, .ref a2, .ref a3, .ref a4]))] s.heap := hP
  have hl := lv_entry ([.ref tb]) (n := 1) (Nat.le_of_ble_eq_true rfl)
  rw [lg_entry_eq]
  generalize (lg_sl ([.ref tb]) ++ List.replicate (1 - (lg_sl ([.ref tb])).length) Slot.unset).toArray = ls at hl ⊢
  have hl : lv_has ls 1 [(0, .ref tb)] := hl
  refine lv_iconst (v := 1) hx hb dX8_hiddenAnswers_0 (by decide) ?_
  refine lv_aload_n hx hb dX8_hiddenAnswers_1 rfl (lv_at hl 0 rfl) ?_
  refine va_get (D := (dC, dI)) (ci := 8) (v := .int 0) (C := RX8) (T := TX8) (N := 8) hx hb hts iw_X8_hiddenAnswers_X8_c_hiddenAnswers_0 hown hK hP 0 rfl rfl 1 (by decide) (hts (.fieldLink RX8 34 "NotAtOnce$Table" "looks" "I") (by decide +kernel)) (fun _ h9 => h9) rfl dX8_hiddenAnswers_2 ?_
  refine lv_ishl hx hb dX8_hiddenAnswers_5 ?_
  refine lv_topi (fun v_1 ev_1 => ?_)
  obtain rfl : v_1 = 1 := ev_1.trans (by decide)
  have hP9 := hP.sub (ws' := [(tb, .inr (8, [.int lw, .int 0, .int ct, .int vr, .ref a1, .ref a2, .ref a3, .ref a4]))]) [0] rfl
  have hD9 := hD.sub (ws' := [(tb, .inr (8, [.int lw, .int 0, .int ct, .int vr, .ref a1, .ref a2, .ref a3, .ref a4]))]) [0] (by decide) rfl
  have hK9 := hK.sub (tys' := []) [] rfl
  refine W.widen (k := 0) (n := 0) (Nat.le_of_ble_eq_true rfl) (Nat.le_of_ble_eq_true rfl) ?_
  exact W.iret (v := 1) hx hb hr (fun t ht hW => ⟨⟨1, (), rfl, rfl, by rw [ht]; exact hP9, va_K.moved hW.alike hK9, hD9⟩, hS.F ht⟩) hS.2.2 dX8_hiddenAnswers_6

set_option maxRecDepth 20000 in
theorem iw_X8_missed_X8_c_missed_0 : ∀ w ∈ wsX80, w ∈ wsX8_missed := by decide +kernel
set_option maxHeartbeats 4000000 in
set_option maxRecDepth 100000 in
/-- missed without a set -/
theorem c_missed_0 (l : Launch) (dC : Nat → ClassId) (dI : Nat → Nat → Nat) (sz : Nat) (tb : Nat) (lw : Int32) (lk : Int32) (vr : Int32) (a1 : Nat) (a2 : Nat) (a3 : Nat) (a4 : Nat) (p0 : Int32)  : Met l yX8_missed wsX8_missed ({ frames := 0, cells := 0, slots := 0, locals := 0 }) (va_Pc [.ref tb, .int p0] (fun U => U.heap.size = sz ∧ va_P (dC, dI) vwCl [(tb, .inr (8, [.int lw, .int lk, .int 0, .int vr, .ref a1, .ref a2, .ref a3, .ref a4]))] U.heap ∧ va_K (dC, dI) vwCl [] U ∧ va_D (fun _ => True) [(tb, .inr (8, [.int lw, .int lk, .int 0, .int vr, .ref a1, .ref a2, .ref a3, .ref a4]))])) (va_Qi (fun (r : Int32) (_ : Unit) => r = 0) (fun _ t => va_P (dC, dI) vwCl [(tb, .inr (8, [.int lw, .int lk, .int 0, .int vr, .ref a1, .ref a2, .ref a3, .ref a4]))] t.heap ∧ va_K (dC, dI) vwCl [] t ∧ va_D (va_A [(tb, .inr (8, [.int lw, .int lk, .int 0, .int vr, .ref a1, .ref a2, .ref a3, .ref a4]))] sz) [(tb, .inr (8, [.int lw, .int lk, .int 0, .int vr, .ref a1, .ref a2, .ref a3, .ref a4]))]) (va_A [(tb, .inr (8, [.int lw, .int lk, .int 0, .int vr, .ref a1, .ref a2, .ref a3, .ref a4]))] sz)) 0 0 (va_A [(tb, .inr (8, [.int lw, .int lk, .int 0, .int vr, .ref a1, .ref a2, .ref a3, .ref a4]))] sz) := by
  refine Met.ofW (cc := cX8_missed) (maxL := 4) (ret := (some .int)) (by decide) rfl ?_
  intro p e s m args below meth c s₁ B hml hv
  obtain ⟨rfl, hsz, hP, hK, hD0⟩ := hv
  have hx := B.exec
  have hb := B.bytes
  have hr := B.returns
  have hts := atoms_spec (ws := wsX8_missed) B.pre
  have hown : s.vm.findClass RX8 = some m.cls := findClass_of_methodNamed B.named
  have hlocks := B.notSynchronized
  subst hsz
  have hD := hD0.self (sz := s.heap.size)
  generalize hAe : va_A [(tb, .inr (8, [.int lw, .int lk, .int 0, .int vr, .ref a1, .ref a2, .ref a3, .ref a4]))] s.heap.size = A at hD ⊢
  have hA : ∀ q : Nat, s.heap.size ≤ q → A q := fun q h => by rw [← hAe]; exact Or.inr h
  have hS : va_S A s.heap s.heap [] := va_S.rf
  have hP : va_P (dC, dI) vwCl [(tb, .inr (8, [.int lw, .int lk, .int 0, .int vr, .ref a1, .ref a2, .ref a3, .ref a4]))] s.heap := hP
  have hl := lv_entry ([.ref tb, .int p0]) (n := 4) (Nat.le_of_ble_eq_true rfl)
  rw [lg_entry_eq]
  generalize (lg_sl ([.ref tb, .int p0]) ++ List.replicate (4 - (lg_sl ([.ref tb, .int p0])).length) Slot.unset).toArray = ls at hl ⊢
  have hl : lv_has ls 4 [(0, .ref tb), (1, .int p0)] := hl
  refine lv_iconst (v := 0) hx hb dX8_missed_0 (by decide) ?_
  refine lv_istore_n (lv' := [(2, .int 0), (0, .ref tb), (1, .int p0)]) hx hb dX8_missed_1 rfl hl (by decide) rfl (fun ls hl => ?_)
  refine lv_iconst (v := 0) hx hb dX8_missed_2 (by decide) ?_
  refine lv_istore_n (lv' := [(3, .int 0), (2, .int 0), (0, .ref tb), (1, .int p0)]) hx hb dX8_missed_3 rfl hl (by decide) rfl (fun ls hl => ?_)
  refine lv_iload_n hx hb dX8_missed_4 rfl (lv_at hl 0 rfl) ?_
  refine lv_aload_n hx hb dX8_missed_5 rfl (lv_at hl 2 rfl) ?_
  refine va_get (D := (dC, dI)) (ci := 8) (v := .int 0) (C := RX8) (T := TX8) (N := 8) hx hb hts iw_X8_missed_X8_c_missed_0 hown hK hP 0 rfl rfl 2 (by decide) (hts (.fieldLink RX8 38 "NotAtOnce$Table" "count" "I") (by decide +kernel)) (fun _ h9 => h9) rfl dX8_missed_6 ?_
  refine lv_icmp_ge (tgt := 38) hx hb dX8_missed_9 (by decide) (fun c_1 => ?_) (fun c_1 => absurd c_1 (by decide))
  refine lv_iload_n hx hb dX8_missed_38 rfl (lv_at hl 1 rfl) ?_
  have hP9 := hP.sub (ws' := [(tb, .inr (8, [.int lw, .int lk, .int 0, .int vr, .ref a1, .ref a2, .ref a3, .ref a4]))]) [0] rfl
  have hD9 := hD.sub (ws' := [(tb, .inr (8, [.int lw, .int lk, .int 0, .int vr, .ref a1, .ref a2, .ref a3, .ref a4]))]) [0] (by decide) rfl
  have hK9 := hK.sub (tys' := []) [] rfl
  refine W.widen (k := 0) (n := 0) (Nat.le_of_ble_eq_true rfl) (Nat.le_of_ble_eq_true rfl) ?_
  exact W.iret (v := 0) hx hb hr (fun t ht hW => ⟨⟨0, (), rfl, rfl, by rw [ht]; exact hP9, va_K.moved hW.alike hK9, hD9⟩, hS.F ht⟩) hS.2.2 dX8_missed_39

set_option maxRecDepth 20000 in
theorem iw_X8_possible_X8_c_possible_0 : ∀ w ∈ wsX80, w ∈ wsX8_possible := by decide +kernel
set_option maxHeartbeats 4000000 in
set_option maxRecDepth 100000 in
/-- possible without a set -/
theorem c_possible_0 (l : Launch) (dC : Nat → ClassId) (dI : Nat → Nat → Nat) (sz : Nat) (tb : Nat) (lw : Int32) (lk : Int32) (vr : Int32) (a1 : Nat) (a2 : Nat) (a3 : Nat) (a4 : Nat)  : Met l yX8_possible wsX8_possible ({ frames := 0, cells := 0, slots := 0, locals := 0 }) (va_Pc [.ref tb] (fun U => U.heap.size = sz ∧ va_P (dC, dI) vwCl [(tb, .inr (8, [.int lw, .int lk, .int 0, .int vr, .ref a1, .ref a2, .ref a3, .ref a4]))] U.heap ∧ va_K (dC, dI) vwCl [] U ∧ va_D (fun _ => True) [(tb, .inr (8, [.int lw, .int lk, .int 0, .int vr, .ref a1, .ref a2, .ref a3, .ref a4]))])) (va_Qi (fun (r : Int32) (_ : Unit) => r = 0) (fun _ t => va_P (dC, dI) vwCl [(tb, .inr (8, [.int lw, .int lk, .int 0, .int vr, .ref a1, .ref a2, .ref a3, .ref a4]))] t.heap ∧ va_K (dC, dI) vwCl [] t ∧ va_D (va_A [(tb, .inr (8, [.int lw, .int lk, .int 0, .int vr, .ref a1, .ref a2, .ref a3, .ref a4]))] sz) [(tb, .inr (8, [.int lw, .int lk, .int 0, .int vr, .ref a1, .ref a2, .ref a3, .ref a4]))]) (va_A [(tb, .inr (8, [.int lw, .int lk, .int 0, .int vr, .ref a1, .ref a2, .ref a3, .ref a4]))] sz)) 0 0 (va_A [(tb, .inr (8, [.int lw, .int lk, .int 0, .int vr, .ref a1, .ref a2, .ref a3, .ref a4]))] sz) := by
  refine Met.ofW (cc := cX8_possible) (maxL := 3) (ret := (some .int)) (by decide) rfl ?_
  intro p e s m args below meth c s₁ B hml hv
  obtain ⟨rfl, hsz, hP, hK, hD0⟩ := hv
  have hx := B.exec
  have hb := B.bytes
  have hr := B.returns
  have hts := atoms_spec (ws := wsX8_possible) B.pre
  have hown : s.vm.findClass RX8 = some m.cls := findClass_of_methodNamed B.named
  have hlocks := B.notSynchronized
  subst hsz
  have hD := hD0.self (sz := s.heap.size)
  generalize hAe : va_A [(tb, .inr (8, [.int lw, .int lk, .int 0, .int vr, .ref a1, .ref a2, .ref a3, .ref a4]))] s.heap.size = A at hD ⊢
  have hA : ∀ q : Nat, s.heap.size ≤ q → A q := fun q h => by rw [← hAe]; exact Or.inr h
  have hS : va_S A s.heap s.heap [] := va_S.rf
  have hP : va_P (dC, dI) vwCl [(tb, .inr (8, [.int lw, .int lk, .int 0, .int vr, .ref a1, .ref a2, .ref a3, .ref a4]))] s.heap := hP
  have hl := lv_entry ([.ref tb]) (n := 3) (Nat.le_of_ble_eq_true rfl)
  rw [lg_entry_eq]
  generalize (lg_sl ([.ref tb]) ++ List.replicate (3 - (lg_sl ([.ref tb])).length) Slot.unset).toArray = ls at hl ⊢
  have hl : lv_has ls 3 [(0, .ref tb)] := hl
  refine lv_iconst (v := 0) hx hb dX8_possible_0 (by decide) ?_
  refine lv_istore_n (lv' := [(1, .int 0), (0, .ref tb)]) hx hb dX8_possible_1 rfl hl (by decide) rfl (fun ls hl => ?_)
  refine lv_iconst (v := 0) hx hb dX8_possible_2 (by decide) ?_
  refine lv_istore_n (lv' := [(2, .int 0), (1, .int 0), (0, .ref tb)]) hx hb dX8_possible_3 rfl hl (by decide) rfl (fun ls hl => ?_)
  refine lv_iload_n hx hb dX8_possible_4 rfl (lv_at hl 0 rfl) ?_
  refine lv_iconst (v := 4) hx hb dX8_possible_5 (by decide) ?_
  refine lv_aload_n hx hb dX8_possible_6 rfl (lv_at hl 2 rfl) ?_
  refine va_get (D := (dC, dI)) (ci := 8) (v := .int 0) (C := RX8) (T := TX8) (N := 8) hx hb hts iw_X8_possible_X8_c_possible_0 hown hK hP 0 rfl rfl 2 (by decide) (hts (.fieldLink RX8 38 "NotAtOnce$Table" "count" "I") (by decide +kernel)) (fun _ h9 => h9) rfl dX8_possible_7 ?_
  refine lv_imul hx hb dX8_possible_10 ?_
  refine lv_topi (fun v_1 ev_1 => ?_)
  obtain rfl : v_1 = 0 := ev_1.trans (by decide)
  refine lv_icmp_ge (tgt := 35) hx hb dX8_possible_11 (by decide) (fun c_2 => ?_) (fun c_2 => absurd c_2 (by decide))
  refine lv_iload_n hx hb dX8_possible_35 rfl (lv_at hl 1 rfl) ?_
  have hP9 := hP.sub (ws' := [(tb, .inr (8, [.int lw, .int lk, .int 0, .int vr, .ref a1, .ref a2, .ref a3, .ref a4]))]) [0] rfl
  have hD9 := hD.sub (ws' := [(tb, .inr (8, [.int lw, .int lk, .int 0, .int vr, .ref a1, .ref a2, .ref a3, .ref a4]))]) [0] (by decide) rfl
  have hK9 := hK.sub (tys' := []) [] rfl
  refine W.widen (k := 0) (n := 0) (Nat.le_of_ble_eq_true rfl) (Nat.le_of_ble_eq_true rfl) ?_
  exact W.iret (v := 0) hx hb hr (fun t ht hW => ⟨⟨0, (), rfl, rfl, by rw [ht]; exact hP9, va_K.moved hW.alike hK9, hD9⟩, hS.F ht⟩) hS.2.2 dX8_possible_36

set_option maxRecDepth 20000 in
theorem iw_X8_extending_X8_c_extending_0 : ∀ w ∈ wsX80, w ∈ wsX8_extending := by decide +kernel
set_option maxHeartbeats 4000000 in
set_option maxRecDepth 100000 in
/-- extending without a look and a set -/
theorem c_extending_0 (l : Launch) (dC : Nat → ClassId) (dI : Nat → Nat → Nat) (sz : Nat) (tb : Nat) (lw : Int32) (vr : Int32) (a1 : Nat) (a2 : Nat) (a3 : Nat) (a4 : Nat)  : Met l yX8_extending wsX8_extending ({ frames := 1, cells := 0, slots := 0, locals := 23 }) (va_Pc [.ref tb] (fun U => U.heap.size = sz ∧ va_P (dC, dI) vwCl [(tb, .inr (8, [.int lw, .int 0, .int 0, .int vr, .ref a1, .ref a2, .ref a3, .ref a4]))] U.heap ∧ va_K (dC, dI) vwCl [] U ∧ va_D (fun _ => True) [(tb, .inr (8, [.int lw, .int 0, .int 0, .int vr, .ref a1, .ref a2, .ref a3, .ref a4]))])) (va_Qi (fun (r : Int32) (_ : Unit) => r = 0) (fun _ t => va_P (dC, dI) vwCl [(tb, .inr (8, [.int lw, .int 0, .int 0, .int vr, .ref a1, .ref a2, .ref a3, .ref a4]))] t.heap ∧ va_K (dC, dI) vwCl [] t ∧ va_D (va_A [(tb, .inr (8, [.int lw, .int 0, .int 0, .int vr, .ref a1, .ref a2, .ref a3, .ref a4]))] sz) [(tb, .inr (8, [.int lw, .int 0, .int 0, .int vr, .ref a1, .ref a2, .ref a3, .ref a4]))]) (va_A [(tb, .inr (8, [.int lw, .int 0, .int 0, .int vr, .ref a1, .ref a2, .ref a3, .ref a4]))] sz)) 0 0 (va_A [(tb, .inr (8, [.int lw, .int 0, .int 0, .int vr, .ref a1, .ref a2, .ref a3, .ref a4]))] sz) := by
  refine Met.ofW (cc := cX8_extending) (maxL := 5) (ret := (some .int)) (by decide) rfl ?_
  intro p e s m args below meth c s₁ B hml hv
  obtain ⟨rfl, hsz, hP, hK, hD0⟩ := hv
  have hx := B.exec
  have hb := B.bytes
  have hr := B.returns
  have hts := atoms_spec (ws := wsX8_extending) B.pre
  have hown : s.vm.findClass RX8 = some m.cls := findClass_of_methodNamed B.named
  have hlocks := B.notSynchronized
  subst hsz
  have hD := hD0.self (sz := s.heap.size)
  generalize hAe : va_A [(tb, .inr (8, [.int lw, .int 0, .int 0, .int vr, .ref a1, .ref a2, .ref a3, .ref a4]))] s.heap.size = A at hD ⊢
  have hA : ∀ q : Nat, s.heap.size ≤ q → A q := fun q h => by rw [← hAe]; exact Or.inr h
  have hS : va_S A s.heap s.heap [] := va_S.rf
  have hP : va_P (dC, dI) vwCl [(tb, .inr (8, [.int lw, .int 0, .int 0, .int vr, .ref a1, .ref a2, .ref a3, .ref a4]))] s.heap := hP
  have hl := lv_entry ([.ref tb]) (n := 5) (Nat.le_of_ble_eq_true rfl)
  rw [lg_entry_eq]
  generalize (lg_sl ([.ref tb]) ++ List.replicate (5 - (lg_sl ([.ref tb])).length) Slot.unset).toArray = ls at hl ⊢
  have hl : lv_has ls 5 [(0, .ref tb)] := hl
  refine lv_iconst (v := 0) hx hb dX8_extending_0 (by decide) ?_
  refine lv_istore_n (lv' := [(1, .int 0), (0, .ref tb)]) hx hb dX8_extending_1 rfl hl (by decide) rfl (fun ls hl => ?_)
  refine lv_iconst (v := 0) hx hb dX8_extending_2 (by decide) ?_
  refine lv_istore_n (lv' := [(2, .int 0), (1, .int 0), (0, .ref tb)]) hx hb dX8_extending_3 rfl hl (by decide) rfl (fun ls hl => ?_)
  refine lv_iload_n hx hb dX8_extending_4 rfl (lv_at hl 0 rfl) ?_
  refine lv_aload_n hx hb dX8_extending_5 rfl (lv_at hl 2 rfl) ?_
  have hPc := hP.sub (ws' := [(tb, .inr (8, [.int lw, .int 0, .int 0, .int vr, .ref a1, .ref a2, .ref a3, .ref a4]))]) [0] rfl
  have hDc := hD.sub (ws' := [(tb, .inr (8, [.int lw, .int 0, .int 0, .int vr, .ref a1, .ref a2, .ref a3, .ref a4]))]) [0] (by decide) rfl
  have hKc := hK.sub (tys' := []) [] rfl
  have hFc := va_free (wc := [(tb, .inr (8, [.int lw, .int 0, .int 0, .int vr, .ref a1, .ref a2, .ref a3, .ref a4]))]) hD hS hA [0] rfl
  refine va_calli (va_runV (As := []) (rest := [.int 0]) ⟨hx, hb, hml, hown, hts⟩ (c_hiddenAnswers_0 l dC dI s.heap.size tb lw 0 vr a1 a2 a3 a4) (cwV 0 hts gX8_extending_X8_hiddenAnswers rfl rfl rfl (by decide +kernel) ⟨Nat.le_of_ble_eq_true rfl, Nat.le_of_ble_eq_true rfl⟩) ⟨fun a U g mk q => by obtain ⟨q0, q1, qP, qK, qD⟩ := q; exact ⟨q0, q1, qP, va_K.moved (u := U) (U := U.calling g mk a) (Vm.Alike.refl U.vm) qK, qD⟩, va_recv hKc hPc (ci := 8) (q0 := 0) rfl rfl, fun U hU hW => ⟨rfl, by rw [hU], by rw [hU]; exact hPc, va_K.moved hW.alike hKc, hDc.weaken (fun _ _ _ _ => trivial)⟩⟩ rfl rfl hl.1 rfl (lv_room (Nat.le_of_ble_eq_true rfl)) dX8_extending_6 ⟨Nat.le_of_ble_eq_true rfl, Nat.le_of_ble_eq_true rfl⟩) hS (fun q _ h => hFc q h) hFc (fun r_1 u t H1 locs ht hvm hw hB hz1 hk1 hS => ?_)
  obtain ⟨hP1, hK1, hD1⟩ := hB
  rw [ht] at hP1
  have hK1 := va_K.moved hvm.symm hK1
  try dsimp only at hw
  obtain ⟨hP, hD⟩ := va_join (wr := []) (w1 := [(tb, .inr (8, [.int lw, .int 0, .int 0, .int vr, .ref a1, .ref a2, .ref a3, .ref a4]))]) hP hD [0] [] rfl rfl (by decide) (by decide) hk1 hFc hP1 hD1
  have hK := (hK.sub (tys' := []) [] rfl).app hK1
  generalize H1 = H at hP hS ⊢
  have hP : va_P (dC, dI) vwCl [(tb, .inr (8, [.int lw, .int 0, .int 0, .int vr, .ref a1, .ref a2, .ref a3, .ref a4]))] H := hP
  have hD : va_D A [(tb, .inr (8, [.int lw, .int 0, .int 0, .int vr, .ref a1, .ref a2, .ref a3, .ref a4]))] := hD
  have hK : va_K (dC, dI) vwCl [] s := hK
  refine W.widen (k := 0) (n := 0) (by omega) (by omega) ?_
  have er_1 : r_1 = 1 := hw
  subst er_1
  refine lv_icmp_ge (tgt := 65) hx hb dX8_extending_9 (by decide) (fun c_2 => absurd c_2 (by decide)) (fun c_2 => ?_)
  refine lv_aload_n hx hb dX8_extending_12 rfl (lv_at hl 2 rfl) ?_
  refine lv_iload_n hx hb dX8_extending_13 rfl (lv_at hl 0 rfl) ?_
  have hPc := hP.sub (ws' := [(tb, .inr (8, [.int lw, .int 0, .int 0, .int vr, .ref a1, .ref a2, .ref a3, .ref a4]))]) [0] rfl
  have hDc := hD.sub (ws' := [(tb, .inr (8, [.int lw, .int 0, .int 0, .int vr, .ref a1, .ref a2, .ref a3, .ref a4]))]) [0] (by decide) rfl
  have hKc := hK.sub (tys' := []) [] rfl
  have hFc := va_free (wc := [(tb, .inr (8, [.int lw, .int 0, .int 0, .int vr, .ref a1, .ref a2, .ref a3, .ref a4]))]) hD hS hA [0] rfl
  refine va_calli (va_runV (As := [.int 0]) (rest := []) ⟨hx, hb, hml, hown, hts⟩ (c_missed_0 l dC dI H.size tb lw 0 vr a1 a2 a3 a4 0) (cwV 1 hts gX8_extending_X8_missed rfl rfl rfl (by decide +kernel) ⟨Nat.le_of_ble_eq_true rfl, Nat.le_of_ble_eq_true rfl⟩) ⟨fun a U g mk q => by obtain ⟨q0, q1, qP, qK, qD⟩ := q; exact ⟨q0, q1, qP, va_K.moved (u := U) (U := U.calling g mk a) (Vm.Alike.refl U.vm) qK, qD⟩, va_recv hKc hPc (ci := 8) (q0 := 0) rfl rfl, fun U hU hW => ⟨rfl, by rw [hU], by rw [hU]; exact hPc, va_K.moved hW.alike hKc, hDc.weaken (fun _ _ _ _ => trivial)⟩⟩ rfl rfl hl.1 rfl (lv_room (Nat.le_of_ble_eq_true rfl)) dX8_extending_14 ⟨Nat.le_of_ble_eq_true rfl, Nat.le_of_ble_eq_true rfl⟩) hS (fun q _ h => hFc q h) hFc (fun r_3 u t H1 locs ht hvm hw hB hz1 hk1 hS => ?_)
  obtain ⟨hP1, hK1, hD1⟩ := hB
  rw [ht] at hP1
  have hK1 := va_K.moved hvm.symm hK1
  try dsimp only at hw
  obtain ⟨hP, hD⟩ := va_join (wr := []) (w1 := [(tb, .inr (8, [.int lw, .int 0, .int 0, .int vr, .ref a1, .ref a2, .ref a3, .ref a4]))]) hP hD [0] [] rfl rfl (by decide) (by decide) hk1 hFc hP1 hD1
  have hK := (hK.sub (tys' := []) [] rfl).app hK1
  generalize H1 = H at hP hS ⊢
  have hP : va_P (dC, dI) vwCl [(tb, .inr (8, [.int lw, .int 0, .int 0, .int vr, .ref a1, .ref a2, .ref a3, .ref a4]))] H := hP
  have hD : va_D A [(tb, .inr (8, [.int lw, .int 0, .int 0, .int vr, .ref a1, .ref a2, .ref a3, .ref a4]))] := hD
  have hK : va_K (dC, dI) vwCl [] s := hK
  refine W.widen (k := 0) (n := 0) (by omega) (by omega) ?_
  have er_3 : r_3 = 0 := hw
  subst er_3
  refine lv_istore_n (lv' := [(3, .int 0), (2, .int 0), (1, .int 0), (0, .ref tb)]) hx hb dX8_extending_17 rfl hl (by decide) rfl (fun ls hl => ?_)
  refine lv_iconst (v := 0) hx hb dX8_extending_18 (by decide) ?_
  refine lv_istore (lv' := [(4, .int 0), (3, .int 0), (2, .int 0), (1, .int 0), (0, .ref tb)]) hx hb dX8_extending_19 hl (by decide) rfl (fun ls hl => ?_)
  refine lv_iload hx hb dX8_extending_21 (lv_at hl 0 rfl) ?_
  refine lv_aload_n hx hb dX8_extending_23 rfl (lv_at hl 4 rfl) ?_
  refine va_get (D := (dC, dI)) (ci := 8) (v := .int 0) (C := RX8) (T := TX8) (N := 8) hx hb hts iw_X8_extending_X8_c_extending_0 hown hK hP 0 rfl rfl 2 (by decide) (hts (.fieldLink RX8 38 "NotAtOnce$Table" "count" "I") (by decide +kernel)) (fun _ h9 => h9) rfl dX8_extending_24 ?_
  refine lv_icmp_ge (tgt := 59) hx hb dX8_extending_27 (by decide) (fun c_4 => ?_) (fun c_4 => absurd c_4 (by decide))
  refine lv_iinc (v := 1) (lv' := [(2, .int 1), (4, .int 0), (3, .int 0), (1, .int 0), (0, .ref tb)]) hx hb dX8_extending_59 hl (k := 2) rfl (by decide) (by decide) rfl (fun ls hl => ?_)
  refine lv_goto (tgt := 4) hx hb dX8_extending_62 (by decide) ?_
  refine lv_iload_n hx hb dX8_extending_4 rfl (lv_at hl 0 rfl) ?_
  refine lv_aload_n hx hb dX8_extending_5 rfl (lv_at hl 4 rfl) ?_
  have hPc := hP.sub (ws' := [(tb, .inr (8, [.int lw, .int 0, .int 0, .int vr, .ref a1, .ref a2, .ref a3, .ref a4]))]) [0] rfl
  have hDc := hD.sub (ws' := [(tb, .inr (8, [.int lw, .int 0, .int 0, .int vr, .ref a1, .ref a2, .ref a3, .ref a4]))]) [0] (by decide) rfl
  have hKc := hK.sub (tys' := []) [] rfl
  have hFc := va_free (wc := [(tb, .inr (8, [.int lw, .int 0, .int 0, .int vr, .ref a1, .ref a2, .ref a3, .ref a4]))]) hD hS hA [0] rfl
  refine va_calli (va_runV (As := []) (rest := [.int 1]) ⟨hx, hb, hml, hown, hts⟩ (c_hiddenAnswers_0 l dC dI H.size tb lw 0 vr a1 a2 a3 a4) (cwV 0 hts gX8_extending_X8_hiddenAnswers rfl rfl rfl (by decide +kernel) ⟨Nat.le_of_ble_eq_true rfl, Nat.le_of_ble_eq_true rfl⟩) ⟨fun a U g mk q => by obtain ⟨q0, q1, qP, qK, qD⟩ := q; exact ⟨q0, q1, qP, va_K.moved (u := U) (U := U.calling g mk a) (Vm.Alike.refl U.vm) qK, qD⟩, va_recv hKc hPc (ci := 8) (q0 := 0) rfl rfl, fun U hU hW => ⟨rfl, by rw [hU], by rw [hU]; exact hPc, va_K.moved hW.alike hKc, hDc.weaken (fun _ _ _ _ => trivial)⟩⟩ rfl rfl hl.1 rfl (lv_room (Nat.le_of_ble_eq_true rfl)) dX8_extending_6 ⟨Nat.le_of_ble_eq_true rfl, Nat.le_of_ble_eq_true rfl⟩) hS (fun q _ h => hFc q h) hFc (fun r_5 u t H1 locs ht hvm hw hB hz1 hk1 hS => ?_)
  obtain ⟨hP1, hK1, hD1⟩ := hB
  rw [ht] at hP1
  have hK1 := va_K.moved hvm.symm hK1
  try dsimp only at hw
  obtain ⟨hP, hD⟩ := va_join (wr := []) (w1 := [(tb, .inr (8, [.int lw, .int 0, .int 0, .int vr, .ref a1, .ref a2, .ref a3, .ref a4]))]) hP hD [0] [] rfl rfl (by decide) (by decide) hk1 hFc hP1 hD1
  have hK := (hK.sub (tys' := []) [] rfl).app hK1
  generalize H1 = H at hP hS ⊢
  have hP : va_P (dC, dI) vwCl [(tb, .inr (8, [.int lw, .int 0, .int 0, .int vr, .ref a1, .ref a2, .ref a3, .ref a4]))] H := hP
  have hD : va_D A [(tb, .inr (8, [.int lw, .int 0, .int 0, .int vr, .ref a1, .ref a2, .ref a3, .ref a4]))] := hD
  have hK : va_K (dC, dI) vwCl [] s := hK
  refine W.widen (k := 0) (n := 0) (by omega) (by omega) ?_
  have er_5 : r_5 = 1 := hw
  subst er_5
  refine lv_icmp_ge (tgt := 65) hx hb dX8_extending_9 (by decide) (fun c_6 => ?_) (fun c_6 => absurd c_6 (by decide))
  refine lv_iload_n hx hb dX8_extending_65 rfl (lv_at hl 3 rfl) ?_
  have hP9 := hP.sub (ws' := [(tb, .inr (8, [.int lw, .int 0, .int 0, .int vr, .ref a1, .ref a2, .ref a3, .ref a4]))]) [0] rfl
  have hD9 := hD.sub (ws' := [(tb, .inr (8, [.int lw, .int 0, .int 0, .int vr, .ref a1, .ref a2, .ref a3, .ref a4]))]) [0] (by decide) rfl
  have hK9 := hK.sub (tys' := []) [] rfl
  refine W.widen (k := 0) (n := 0) (Nat.le_of_ble_eq_true rfl) (Nat.le_of_ble_eq_true rfl) ?_
  exact W.iret (v := 0) hx hb hr (fun t ht hW => ⟨⟨0, (), rfl, rfl, by rw [ht]; exact hP9, va_K.moved hW.alike hK9, hD9⟩, hS.F ht⟩) hS.2.2 dX8_extending_66

set_option maxHeartbeats 4000000 in
set_option maxRecDepth 100000 in
/-- Integer.bitCount(0) -/
theorem c_bitCount_0 (l : Launch) (dC : Nat → ClassId) (dI : Nat → Nat → Nat) (sz : Nat)   : Met l yJ6_bitCount_0f7a4 wsJ6_bitCount_0f7a4 ({ frames := 0, cells := 0, slots := 0, locals := 0 }) (va_Pc [.int 0] (fun U => U.heap.size = sz ∧ va_P (dC, dI) vwCl [] U.heap ∧ va_K (dC, dI) vwCl [] U ∧ va_D (fun _ => True) [])) (va_Qi (fun (r : Int32) (_ : Unit) => r = 0) (fun _ t => va_P (dC, dI) vwCl [] t.heap ∧ va_K (dC, dI) vwCl [] t ∧ va_D (va_A [] sz) []) (va_A [] sz)) 0 0 (va_A [] sz) := by
  refine Met.ofW (cc := cJ6_bitCount_0f7a4) (maxL := 1) (ret := (some .int)) (by decide) rfl ?_
  intro p e s m args below meth c s₁ B hml hv
  obtain ⟨rfl, hsz, hP, hK, hD0⟩ := hv
  have hx := B.exec
  have hb := B.bytes
  have hr := B.returns
  have hts := atoms_spec (ws := wsJ6_bitCount_0f7a4) B.pre
  have hown : s.vm.findClass RJ6 = some m.cls := findClass_of_methodNamed B.named
  have hlocks := B.notSynchronized
  subst hsz
  have hD := hD0.self (sz := s.heap.size)
  generalize hAe : va_A [] s.heap.size = A at hD ⊢
  have hA : ∀ q : Nat, s.heap.size ≤ q → A q := fun q h => by rw [← hAe]; exact Or.inr h
  have hS : va_S A s.heap s.heap [] := va_S.rf
  have hP : va_P (dC, dI) vwCl [] s.heap := hP
  have hl := lv_entry ([.int 0]) (n := 1) (Nat.le_of_ble_eq_true rfl)
  rw [lg_entry_eq]
  generalize (lg_sl ([.int 0]) ++ List.replicate (1 - (lg_sl ([.int 0])).length) Slot.unset).toArray = ls at hl ⊢
  have hl : lv_has ls 1 [(0, .int 0)] := hl
  refine lv_iload_n hx hb dJ6_bitCount_0f7a4_0 rfl (lv_at hl 0 rfl) ?_
  refine lv_iload_n hx hb dJ6_bitCount_0f7a4_1 rfl (lv_at hl 0 rfl) ?_
  refine lv_iconst (v := 1) hx hb dJ6_bitCount_0f7a4_2 (by decide) ?_
  refine lv_iushr hx hb dJ6_bitCount_0f7a4_3 rfl ?_
  refine lv_topi (fun v_1 ev_1 => ?_)
  obtain rfl : v_1 = 0 := ev_1.trans (by decide)
  refine lv_ldcw (v := 1431655765) hx hb hown (hts (.constant RJ6 265 (1431655765)) (by decide +kernel)) dJ6_bitCount_0f7a4_4 ?_
  refine lv_iand hx hb dJ6_bitCount_0f7a4_7 ?_
  refine lv_topi (fun v_2 ev_2 => ?_)
  obtain rfl : v_2 = 0 := ev_2.trans (by decide)
  refine lv_isub hx hb dJ6_bitCount_0f7a4_8 ?_
  refine lv_topi (fun v_3 ev_3 => ?_)
  obtain rfl : v_3 = 0 := ev_3.trans (by decide)
  refine lv_istore_n (lv' := [(0, .int 0)]) hx hb dJ6_bitCount_0f7a4_9 rfl hl (by decide) rfl (fun ls hl => ?_)
  refine lv_iload_n hx hb dJ6_bitCount_0f7a4_10 rfl (lv_at hl 0 rfl) ?_
  refine lv_ldcw (v := 858993459) hx hb hown (hts (.constant RJ6 266 (858993459)) (by decide +kernel)) dJ6_bitCount_0f7a4_11 ?_
  refine lv_iand hx hb dJ6_bitCount_0f7a4_14 ?_
  refine lv_topi (fun v_4 ev_4 => ?_)
  obtain rfl : v_4 = 0 := ev_4.trans (by decide)
  refine lv_iload_n hx hb dJ6_bitCount_0f7a4_15 rfl (lv_at hl 0 rfl) ?_
  refine lv_iconst (v := 2) hx hb dJ6_bitCount_0f7a4_16 (by decide) ?_
  refine lv_iushr hx hb dJ6_bitCount_0f7a4_17 rfl ?_
  refine lv_topi (fun v_5 ev_5 => ?_)
  obtain rfl : v_5 = 0 := ev_5.trans (by decide)
  refine lv_ldcw (v := 858993459) hx hb hown (hts (.constant RJ6 266 (858993459)) (by decide +kernel)) dJ6_bitCount_0f7a4_18 ?_
  refine lv_iand hx hb dJ6_bitCount_0f7a4_21 ?_
  refine lv_topi (fun v_6 ev_6 => ?_)
  obtain rfl : v_6 = 0 := ev_6.trans (by decide)
  refine lv_iadd hx hb dJ6_bitCount_0f7a4_22 ?_
  refine lv_topi (fun v_7 ev_7 => ?_)
  obtain rfl : v_7 = 0 := ev_7.trans (by decide)
  refine lv_istore_n (lv' := [(0, .int 0)]) hx hb dJ6_bitCount_0f7a4_23 rfl hl (by decide) rfl (fun ls hl => ?_)
  refine lv_iload_n hx hb dJ6_bitCount_0f7a4_24 rfl (lv_at hl 0 rfl) ?_
  refine lv_iload_n hx hb dJ6_bitCount_0f7a4_25 rfl (lv_at hl 0 rfl) ?_
  refine lv_iconst (v := 4) hx hb dJ6_bitCount_0f7a4_26 (by decide) ?_
  refine lv_iushr hx hb dJ6_bitCount_0f7a4_27 rfl ?_
  refine lv_topi (fun v_8 ev_8 => ?_)
  obtain rfl : v_8 = 0 := ev_8.trans (by decide)
  refine lv_iadd hx hb dJ6_bitCount_0f7a4_28 ?_
  refine lv_topi (fun v_9 ev_9 => ?_)
  obtain rfl : v_9 = 0 := ev_9.trans (by decide)
  refine lv_ldcw (v := 252645135) hx hb hown (hts (.constant RJ6 267 (252645135)) (by decide +kernel)) dJ6_bitCount_0f7a4_29 ?_
  refine lv_iand hx hb dJ6_bitCount_0f7a4_32 ?_
  refine lv_topi (fun v_10 ev_10 => ?_)
  obtain rfl : v_10 = 0 := ev_10.trans (by decide)
  refine lv_istore_n (lv' := [(0, .int 0)]) hx hb dJ6_bitCount_0f7a4_33 rfl hl (by decide) rfl (fun ls hl => ?_)
  refine lv_iload_n hx hb dJ6_bitCount_0f7a4_34 rfl (lv_at hl 0 rfl) ?_
  refine lv_iload_n hx hb dJ6_bitCount_0f7a4_35 rfl (lv_at hl 0 rfl) ?_
  refine lv_bipush (v := 8) hx hb dJ6_bitCount_0f7a4_36 (by decide) ?_
  refine lv_iushr hx hb dJ6_bitCount_0f7a4_38 rfl ?_
  refine lv_topi (fun v_11 ev_11 => ?_)
  obtain rfl : v_11 = 0 := ev_11.trans (by decide)
  refine lv_iadd hx hb dJ6_bitCount_0f7a4_39 ?_
  refine lv_topi (fun v_12 ev_12 => ?_)
  obtain rfl : v_12 = 0 := ev_12.trans (by decide)
  refine lv_istore_n (lv' := [(0, .int 0)]) hx hb dJ6_bitCount_0f7a4_40 rfl hl (by decide) rfl (fun ls hl => ?_)
  refine lv_iload_n hx hb dJ6_bitCount_0f7a4_41 rfl (lv_at hl 0 rfl) ?_
  refine lv_iload_n hx hb dJ6_bitCount_0f7a4_42 rfl (lv_at hl 0 rfl) ?_
  refine lv_bipush (v := 16) hx hb dJ6_bitCount_0f7a4_43 (by decide) ?_
  refine lv_iushr hx hb dJ6_bitCount_0f7a4_45 rfl ?_
  refine lv_topi (fun v_13 ev_13 => ?_)
  obtain rfl : v_13 = 0 := ev_13.trans (by decide)
  refine lv_iadd hx hb dJ6_bitCount_0f7a4_46 ?_
  refine lv_topi (fun v_14 ev_14 => ?_)
  obtain rfl : v_14 = 0 := ev_14.trans (by decide)
  refine lv_istore_n (lv' := [(0, .int 0)]) hx hb dJ6_bitCount_0f7a4_47 rfl hl (by decide) rfl (fun ls hl => ?_)
  refine lv_iload_n hx hb dJ6_bitCount_0f7a4_48 rfl (lv_at hl 0 rfl) ?_
  refine lv_bipush (v := 63) hx hb dJ6_bitCount_0f7a4_49 (by decide) ?_
  refine lv_iand hx hb dJ6_bitCount_0f7a4_51 ?_
  refine lv_topi (fun v_15 ev_15 => ?_)
  obtain rfl : v_15 = 0 := ev_15.trans (by decide)
  have hP9 := hP.sub (ws' := []) [] rfl
  have hD9 := hD.sub (ws' := []) [] (by decide) rfl
  have hK9 := hK.sub (tys' := []) [] rfl
  refine W.widen (k := 0) (n := 0) (Nat.le_of_ble_eq_true rfl) (Nat.le_of_ble_eq_true rfl) ?_
  exact W.iret (v := 0) hx hb hr (fun t ht hW => ⟨⟨0, (), rfl, rfl, by rw [ht]; exact hP9, va_K.moved hW.alike hK9, hD9⟩, hS.F ht⟩) hS.2.2 dJ6_bitCount_0f7a4_52

set_option maxRecDepth 20000 in
theorem iw_X10_led_X10_c_led_0 : ∀ w ∈ wsX100, w ∈ wsY10_led := by decide +kernel
set_option maxRecDepth 20000 in
theorem led_good : ∀ w ∈ Cond.classLink RX10 337 "java/util/NoSuchElementException" :: Cond.initialized "java/util/NoSuchElementException" :: vx_atX RX10 341 "java/util/NoSuchElementException" 13 prog_28_method_4_code ["java/lang/RuntimeException", "java/lang/Exception"], vx_ot w = true := by decide +kernel
set_option maxRecDepth 20000 in
theorem led_gin : ∀ w ∈ (vx_atX RX10 341 "java/util/NoSuchElementException" 13 prog_28_method_4_code ["java/lang/RuntimeException", "java/lang/Exception"]).filter goodWord, w ∈ wsY10_led := fun w h => List.mem_cons_of_mem _ (List.mem_append_right _ h)
def led_B : List Cond := [Cond.castable "java/util/NoSuchElementException" "java/util/NoSuchElementException", Cond.declares (Bundle.initS "java/lang/RuntimeException"), Cond.declares (Bundle.initS "java/lang/Exception"), Cond.declares (Bundle.initS "java/lang/Throwable")]
set_option maxRecDepth 20000 in
theorem led_Bs : ∀ w ∈ (vx_atX RX10 341 "java/util/NoSuchElementException" 13 prog_28_method_4_code ["java/lang/RuntimeException", "java/lang/Exception"]).filter (fun w => !goodWord w), w ∈ led_B := by decide +kernel
theorem hat9 {args : Array Value} {s : State} (hts : ∀ w ∈ wsY10_led, w.before args s = true) (hB : ∀ w ∈ led_B, w.before args s = true) : ∀ w ∈ vx_atX RX10 341 "java/util/NoSuchElementException" 13 prog_28_method_4_code ["java/lang/RuntimeException", "java/lang/Exception"], w.before args s = true := vx_hat (fun w h => hts w (led_gin w h)) led_Bs hB
set_option maxHeartbeats 4000000 in
set_option maxRecDepth 100000 in
/-- led without a BOOK: it throws -/
theorem c_led_0 (l : Launch) (hl0 : l.stackTraces = false) (dC : Nat → ClassId) (dI : Nat → Nat → Nat) (sz : Nat) (h0 : Nat) (tp : Nat) (rd : Nat) (tb : Nat) (rg : Nat) (bl : Nat) (pa : Nat) (fm : Nat) (te : Nat) (hi : Nat) (fr : Nat) (fd : Int32) (rf : Int32) (lf : Int32) (fp : Int32) (lw : Int32) (vr : Int32) (a1 : Nat) (a2 : Nat) (a3 : Nat) (a4 : Nat) (p0 : Int32) (sa : Nat) : vx_Met l yX10_led wsY10_led ({ frames := 6, cells := 1, slots := 6, locals := 102 }) (va_Pc [.ref h0, .int p0] (fun U => U.heap.size = sz ∧ va_P (dC, dI) vwCl [(h0, .inr (10, [.ref tp, .ref rd, .ref tb, .ref rg, .ref bl, .ref pa, .ref fm, .ref te, .ref hi, .ref fr, .int fd, .int rf, .int lf, .int fp])), (tb, .inr (8, [.int lw, .int 0, .int 0, .int vr, .ref a1, .ref a2, .ref a3, .ref a4]))] U.heap ∧ va_K (dC, dI) vwCl [] U ∧ va_D (fun _ => True) [(h0, .inr (10, [.ref tp, .ref rd, .ref tb, .ref rg, .ref bl, .ref pa, .ref fm, .ref te, .ref hi, .ref fr, .int fd, .int rf, .int lf, .int fp])), (tb, .inr (8, [.int lw, .int 0, .int 0, .int vr, .ref a1, .ref a2, .ref a3, .ref a4]))] ∧ vk_R RX10 339 "no such outcome" sa U ∧ va_Nw (.castable "java/util/NoSuchElementException" "java/util/NoSuchElementException") U ∧ va_Nw (.declares (Bundle.initS "java/lang/RuntimeException")) U ∧ va_Nw (.declares (Bundle.initS "java/lang/Exception")) U ∧ va_Nw (.declares (Bundle.initS "java/lang/Throwable")) U ∧ vx_Zq Bundle.tN "UNASSIGNED_STACK" Bundle.steD (va_A [(h0, .inr (10, [.ref tp, .ref rd, .ref tb, .ref rg, .ref bl, .ref pa, .ref fm, .ref te, .ref hi, .ref fr, .int fd, .int rf, .int lf, .int fp])), (tb, .inr (8, [.int lw, .int 0, .int 0, .int vr, .ref a1, .ref a2, .ref a3, .ref a4]))] sz) U U.heap ∧ vx_Zq Bundle.tN "SUPPRESSED_SENTINEL" Bundle.listD (va_A [(h0, .inr (10, [.ref tp, .ref rd, .ref tb, .ref rg, .ref bl, .ref pa, .ref fm, .ref te, .ref hi, .ref fr, .int fd, .int rf, .int lf, .int fp])), (tb, .inr (8, [.int lw, .int 0, .int 0, .int vr, .ref a1, .ref a2, .ref a3, .ref a4]))] sz) U U.heap)) (va_Qi (fun (r : Int32) (_ : Unit) => False) (fun _ _ => True) (va_A [(h0, .inr (10, [.ref tp, .ref rd, .ref tb, .ref rg, .ref bl, .ref pa, .ref fm, .ref te, .ref hi, .ref fr, .int fd, .int rf, .int lf, .int fp])), (tb, .inr (8, [.int lw, .int 0, .int 0, .int vr, .ref a1, .ref a2, .ref a3, .ref a4]))] sz)) (vx_X (fun _ : Unit => True) (fun E _ t => E = "java/util/NoSuchElementException" ∧ va_P (dC, dI) vwCl [(h0, .inr (10, [.ref tp, .ref rd, .ref tb, .ref rg, .ref bl, .ref pa, .ref fm, .ref te, .ref hi, .ref fr, .int fd, .int rf, .int lf, .int fp])), (tb, .inr (8, [.int lw, .int 0, .int 0, .int vr, .ref a1, .ref a2, .ref a3, .ref a4]))] t.heap ∧ va_K (dC, dI) vwCl [] t ∧ va_D (va_A [(h0, .inr (10, [.ref tp, .ref rd, .ref tb, .ref rg, .ref bl, .ref pa, .ref fm, .ref te, .ref hi, .ref fr, .int fd, .int rf, .int lf, .int fp])), (tb, .inr (8, [.int lw, .int 0, .int 0, .int vr, .ref a1, .ref a2, .ref a3, .ref a4]))] sz) [(h0, .inr (10, [.ref tp, .ref rd, .ref tb, .ref rg, .ref bl, .ref pa, .ref fm, .ref te, .ref hi, .ref fr, .int fd, .int rf, .int lf, .int fp])), (tb, .inr (8, [.int lw, .int 0, .int 0, .int vr, .ref a1, .ref a2, .ref a3, .ref a4]))]) (va_A [(h0, .inr (10, [.ref tp, .ref rd, .ref tb, .ref rg, .ref bl, .ref pa, .ref fm, .ref te, .ref hi, .ref fr, .int fd, .int rf, .int lf, .int fp])), (tb, .inr (8, [.int lw, .int 0, .int 0, .int vr, .ref a1, .ref a2, .ref a3, .ref a4]))] sz)) 1 6 (va_A [(h0, .inr (10, [.ref tp, .ref rd, .ref tb, .ref rg, .ref bl, .ref pa, .ref fm, .ref te, .ref hi, .ref fr, .int fd, .int rf, .int lf, .int fp])), (tb, .inr (8, [.int lw, .int 0, .int 0, .int vr, .ref a1, .ref a2, .ref a3, .ref a4]))] sz) := by
  refine vx_ofW (cc := cX10_led) (maxL := 3) (ret := (some .int)) (by decide) rfl ?_
  intro p e s m args below meth c s₁ B hml hnt hv
  obtain ⟨rfl, hsz, hP, hK, hD0, hstr, hng0, hd1, hd2, hd3, hU, hN⟩ := hv
  have hx := B.exec
  have hb := B.bytes
  have hr := B.returns
  have hts := atoms_spec (ws := wsY10_led) B.pre
  have hown : s.vm.findClass RX10 = some m.cls := findClass_of_methodNamed B.named
  have hlocks := B.notSynchronized
  have hng : ∀ w ∈ led_B, w.before #[Value.ref h0, Value.int p0] s = true := vx_c (va_Nw.use rfl hng0) (vx_c (va_Nw.use rfl hd1) (vx_c (va_Nw.use rfl hd2) (vx_c (va_Nw.use rfl hd3) vx_n)))
  subst hsz
  have hD := hD0.self (sz := s.heap.size)
  generalize hAe : va_A [(h0, .inr (10, [.ref tp, .ref rd, .ref tb, .ref rg, .ref bl, .ref pa, .ref fm, .ref te, .ref hi, .ref fr, .int fd, .int rf, .int lf, .int fp])), (tb, .inr (8, [.int lw, .int 0, .int 0, .int vr, .ref a1, .ref a2, .ref a3, .ref a4]))] s.heap.size = A at hD hU hN ⊢
  have hA : ∀ q : Nat, s.heap.size ≤ q → A q := fun q h => by rw [← hAe]; exact Or.inr h
  have hS : va_S A s.heap s.heap [] := va_S.rf
  have hP : va_P (dC, dI) vwCl [(h0, .inr (10, [.ref tp, .ref rd, .ref tb, .ref rg, .ref bl, .ref pa, .ref fm, .ref te, .ref hi, .ref fr, .int fd, .int rf, .int lf, .int fp])), (tb, .inr (8, [.int lw, .int 0, .int 0, .int vr, .ref a1, .ref a2, .ref a3, .ref a4]))] s.heap := hP
  have hl := lv_entry ([.ref h0, .int p0]) (n := 3) (Nat.le_of_ble_eq_true rfl)
  rw [lg_entry_eq]
  generalize (lg_sl ([.ref h0, .int p0]) ++ List.replicate (3 - (lg_sl ([.ref h0, .int p0])).length) Slot.unset).toArray = ls at hl ⊢
  have hl : lv_has ls 3 [(0, .ref h0), (1, .int p0)] := hl
  refine lv_aload_n hx hb dX10_led_0 rfl (lv_at hl 0 rfl) ?_
  refine va_get (D := (dC, dI)) (ci := 10) (v := .ref tb) (C := RX10) (T := TX10) (N := 14) hx hb hts iw_X10_led_X10_c_led_0 hown hK hP 0 rfl rfl 2 (by decide) (hts (.fieldLink RX10 25 "NotAtOnce" "table" "LNotAtOnce$Table;") (by decide +kernel)) (fun _ h9 => h9) rfl dX10_led_1 ?_
  have hPc := hP.sub (ws' := [(tb, .inr (8, [.int lw, .int 0, .int 0, .int vr, .ref a1, .ref a2, .ref a3, .ref a4]))]) [1] rfl
  have hDc := hD.sub (ws' := [(tb, .inr (8, [.int lw, .int 0, .int 0, .int vr, .ref a1, .ref a2, .ref a3, .ref a4]))]) [1] (by decide) rfl
  have hKc := hK.sub (tys' := []) [] rfl
  have hFc := va_free (wc := [(tb, .inr (8, [.int lw, .int 0, .int 0, .int vr, .ref a1, .ref a2, .ref a3, .ref a4]))]) hD hS hA [1] rfl
  refine va_calli (va_runV (As := []) (rest := []) ⟨hx, hb, hml, hown, hts⟩ (c_possible_0 l dC dI s.heap.size tb lw 0 vr a1 a2 a3 a4) (cwV 0 hts gYX10_led_X8_possible rfl rfl rfl (by decide +kernel) ⟨Nat.le_of_ble_eq_true rfl, Nat.le_of_ble_eq_true rfl⟩) ⟨fun a U g mk q => by obtain ⟨q0, q1, qP, qK, qD⟩ := q; exact ⟨q0, q1, qP, va_K.moved (u := U) (U := U.calling g mk a) (Vm.Alike.refl U.vm) qK, qD⟩, va_recv hKc hPc (ci := 8) (q0 := 0) rfl rfl, fun U hU hW => ⟨rfl, by rw [hU], by rw [hU]; exact hPc, va_K.moved hW.alike hKc, hDc.weaken (fun _ _ _ _ => trivial)⟩⟩ rfl rfl hl.1 rfl (lv_room (Nat.le_of_ble_eq_true rfl)) dX10_led_4 ⟨Nat.le_of_ble_eq_true rfl, Nat.le_of_ble_eq_true rfl⟩) hS (fun q _ h => hFc q h) hFc (fun r_1 u t H1 locs ht hvm hw hB hz1 hk1 hS => ?_)
  obtain ⟨hP1, hK1, hD1⟩ := hB
  rw [ht] at hP1
  have hK1 := va_K.moved hvm.symm hK1
  try dsimp only at hw
  obtain ⟨hP, hD⟩ := va_join (wr := [(h0, .inr (10, [.ref tp, .ref rd, .ref tb, .ref rg, .ref bl, .ref pa, .ref fm, .ref te, .ref hi, .ref fr, .int fd, .int rf, .int lf, .int fp]))]) (w1 := [(tb, .inr (8, [.int lw, .int 0, .int 0, .int vr, .ref a1, .ref a2, .ref a3, .ref a4]))]) hP hD [1] [0] rfl rfl (by decide) (by decide) hk1 hFc hP1 hD1
  have hK := (hK.sub (tys' := []) [] rfl).app hK1
  generalize H1 = H at hP hS ⊢
  have hP : va_P (dC, dI) vwCl [(h0, .inr (10, [.ref tp, .ref rd, .ref tb, .ref rg, .ref bl, .ref pa, .ref fm, .ref te, .ref hi, .ref fr, .int fd, .int rf, .int lf, .int fp])), (tb, .inr (8, [.int lw, .int 0, .int 0, .int vr, .ref a1, .ref a2, .ref a3, .ref a4]))] H := hP
  have hD : va_D A [(h0, .inr (10, [.ref tp, .ref rd, .ref tb, .ref rg, .ref bl, .ref pa, .ref fm, .ref te, .ref hi, .ref fr, .int fd, .int rf, .int lf, .int fp])), (tb, .inr (8, [.int lw, .int 0, .int 0, .int vr, .ref a1, .ref a2, .ref a3, .ref a4]))] := hD
  have hK : va_K (dC, dI) vwCl [] s := hK
  refine W.widen (k := 0) (n := 0) (by omega) (by omega) ?_
  have er_1 : r_1 = 0 := hw
  subst er_1
  refine lv_aload_n hx hb dX10_led_7 rfl (lv_at hl 0 rfl) ?_
  refine va_get (D := (dC, dI)) (ci := 10) (v := .ref tb) (C := RX10) (T := TX10) (N := 14) hx hb hts iw_X10_led_X10_c_led_0 hown hK hP 0 rfl rfl 2 (by decide) (hts (.fieldLink RX10 25 "NotAtOnce" "table" "LNotAtOnce$Table;") (by decide +kernel)) (fun _ h9 => h9) rfl dX10_led_8 ?_
  have hPc := hP.sub (ws' := [(tb, .inr (8, [.int lw, .int 0, .int 0, .int vr, .ref a1, .ref a2, .ref a3, .ref a4]))]) [1] rfl
  have hDc := hD.sub (ws' := [(tb, .inr (8, [.int lw, .int 0, .int 0, .int vr, .ref a1, .ref a2, .ref a3, .ref a4]))]) [1] (by decide) rfl
  have hKc := hK.sub (tys' := []) [] rfl
  have hFc := va_free (wc := [(tb, .inr (8, [.int lw, .int 0, .int 0, .int vr, .ref a1, .ref a2, .ref a3, .ref a4]))]) hD hS hA [1] rfl
  refine va_calli (va_runV (As := []) (rest := [.int 0]) ⟨hx, hb, hml, hown, hts⟩ (c_extending_0 l dC dI H.size tb lw vr a1 a2 a3 a4) (cwV 0 hts gYX10_led_X8_extending rfl rfl rfl (by decide +kernel) ⟨Nat.le_of_ble_eq_true rfl, Nat.le_of_ble_eq_true rfl⟩) ⟨fun a U g mk q => by obtain ⟨q0, q1, qP, qK, qD⟩ := q; exact ⟨q0, q1, qP, va_K.moved (u := U) (U := U.calling g mk a) (Vm.Alike.refl U.vm) qK, qD⟩, va_recv hKc hPc (ci := 8) (q0 := 0) rfl rfl, fun U hU hW => ⟨rfl, by rw [hU], by rw [hU]; exact hPc, va_K.moved hW.alike hKc, hDc.weaken (fun _ _ _ _ => trivial)⟩⟩ rfl rfl hl.1 rfl (lv_room (Nat.le_of_ble_eq_true rfl)) dX10_led_11 ⟨Nat.le_of_ble_eq_true rfl, Nat.le_of_ble_eq_true rfl⟩) hS (fun q _ h => hFc q h) hFc (fun r_2 u t H1 locs ht hvm hw hB hz1 hk1 hS => ?_)
  obtain ⟨hP1, hK1, hD1⟩ := hB
  rw [ht] at hP1
  have hK1 := va_K.moved hvm.symm hK1
  try dsimp only at hw
  obtain ⟨hP, hD⟩ := va_join (wr := [(h0, .inr (10, [.ref tp, .ref rd, .ref tb, .ref rg, .ref bl, .ref pa, .ref fm, .ref te, .ref hi, .ref fr, .int fd, .int rf, .int lf, .int fp]))]) (w1 := [(tb, .inr (8, [.int lw, .int 0, .int 0, .int vr, .ref a1, .ref a2, .ref a3, .ref a4]))]) hP hD [1] [0] rfl rfl (by decide) (by decide) hk1 hFc hP1 hD1
  have hK := (hK.sub (tys' := []) [] rfl).app hK1
  generalize H1 = H at hP hS ⊢
  have hP : va_P (dC, dI) vwCl [(h0, .inr (10, [.ref tp, .ref rd, .ref tb, .ref rg, .ref bl, .ref pa, .ref fm, .ref te, .ref hi, .ref fr, .int fd, .int rf, .int lf, .int fp])), (tb, .inr (8, [.int lw, .int 0, .int 0, .int vr, .ref a1, .ref a2, .ref a3, .ref a4]))] H := hP
  have hD : va_D A [(h0, .inr (10, [.ref tp, .ref rd, .ref tb, .ref rg, .ref bl, .ref pa, .ref fm, .ref te, .ref hi, .ref fr, .int fd, .int rf, .int lf, .int fp])), (tb, .inr (8, [.int lw, .int 0, .int 0, .int vr, .ref a1, .ref a2, .ref a3, .ref a4]))] := hD
  have hK : va_K (dC, dI) vwCl [] s := hK
  refine W.widen (k := 0) (n := 0) (by omega) (by omega) ?_
  have er_2 : r_2 = 0 := hw
  subst er_2
  refine lv_iconst (v := (-1)) hx hb dX10_led_14 (by decide) ?_
  refine lv_ixor hx hb dX10_led_15 ?_
  refine lv_topi (fun v_3 ev_3 => ?_)
  obtain rfl : v_3 = (-1) := ev_3.trans (by decide)
  refine lv_iand hx hb dX10_led_16 ?_
  refine lv_topi (fun v_4 ev_4 => ?_)
  obtain rfl : v_4 = 0 := ev_4.trans (by decide)
  refine lv_istore_n (lv' := [(2, .int 0), (0, .ref h0), (1, .int p0)]) hx hb dX10_led_17 rfl hl (by decide) rfl (fun ls hl => ?_)
  refine lv_iload_n hx hb dX10_led_18 rfl (lv_at hl 2 rfl) ?_
  refine lv_if_lt (tgt := 30) hx hb dX10_led_19 (by decide) (fun c_5 => ?_) (fun c_5 => ?_)
  · have hP9 := hP.sub (ws' := [(h0, .inr (10, [.ref tp, .ref rd, .ref tb, .ref rg, .ref bl, .ref pa, .ref fm, .ref te, .ref hi, .ref fr, .int fd, .int rf, .int lf, .int fp])), (tb, .inr (8, [.int lw, .int 0, .int 0, .int vr, .ref a1, .ref a2, .ref a3, .ref a4]))]) [0, 1] rfl
    have hD9 := hD.sub (ws' := [(h0, .inr (10, [.ref tp, .ref rd, .ref tb, .ref rg, .ref bl, .ref pa, .ref fm, .ref te, .ref hi, .ref fr, .int fd, .int rf, .int lf, .int fp])), (tb, .inr (8, [.int lw, .int 0, .int 0, .int vr, .ref a1, .ref a2, .ref a3, .ref a4]))]) [0, 1] (by decide) rfl
    have hK9 := hK.sub (tys' := []) [] rfl
    refine my_throwSWX (ix := 13) (rx := prog_28_method_4_code) (own := RX10) (cls := "java/util/NoSuchElementException") (text := "no such outcome") (names := ["java/lang/RuntimeException", "java/lang/Exception"]) (ik := 337) (is := 339) (ic := 341) (sa := sa) hx hb hl0 nx_0 nx_1 nx_2 nx_5 hown (by decide) (by decide) (hts (.classLink RX10 337 "java/util/NoSuchElementException") (by decide +kernel)) (hts (.initialized "java/util/NoSuchElementException") (by decide +kernel)) hstr (hat9 hts hng) led_good hU hN hS (hl.1.trans hml.symm) dX10_led_30 dX10_led_33 dX10_led_34 dX10_led_37 dX10_led_40 (fun x h => (hnt x h).elim) (Nat.le_of_ble_eq_true rfl) (Nat.le_of_ble_eq_true rfl) (Nat.le_of_ble_eq_true rfl) (Nat.le_of_ble_eq_true rfl) hlocks (fun t hvm hz hk => ⟨(), trivial, ⟨rfl, fun k q hq => (hP9 k q hq).kept (hk _ (hP9 k q hq).lt), va_K.moved hvm hK9, hD9⟩, Nat.le_trans hS.1 hz, fun q h1 h2 => (hk q (Nat.lt_of_lt_of_le h1 hS.1)).trans (hS.2.1 q h1 h2)⟩) hS.2.2 (Nat.le_of_ble_eq_true rfl) (Nat.le_of_ble_eq_true rfl)
  · refine lv_iload_n hx hb dX10_led_22 rfl (lv_at hl 2 rfl) ?_
    refine lv_iload_n hx hb dX10_led_23 rfl (lv_at hl 0 rfl) ?_
    have hPc := hP.sub (ws' := []) [] rfl
    have hDc := hD.sub (ws' := []) [] (by decide) rfl
    have hKc := hK.sub (tys' := []) [] rfl
    have hFc := va_free (wc := []) hD hS hA [] rfl
    refine va_calli (va_runS (As := [.int 0]) (rest := [.int p0]) ⟨hx, hb, hml, hown, hts⟩ (c_bitCount_0 l dC dI H.size ) (va_cwS 1 hts gYX10_led_J6_bitCount_0f7a4 rfl rfl rfl (by decide +kernel) ⟨Nat.le_of_ble_eq_true rfl, Nat.le_of_ble_eq_true rfl⟩) ⟨fun a U g mk q => by obtain ⟨q0, q1, qP, qK, qD⟩ := q; exact ⟨q0, q1, qP, va_K.moved (u := U) (U := U.calling g mk a) (Vm.Alike.refl U.vm) qK, qD⟩, fun U hU hW => ⟨rfl, by rw [hU], by rw [hU]; exact hPc, va_K.moved hW.alike hKc, hDc.weaken (fun _ _ _ _ => trivial)⟩⟩ rfl rfl hl.1 rfl (lv_room (Nat.le_of_ble_eq_true rfl)) dX10_led_24 ⟨Nat.le_of_ble_eq_true rfl, Nat.le_of_ble_eq_true rfl⟩) hS (fun q _ h => hFc q h) hFc (fun r_6 u t H1 locs ht hvm hw hB hz1 hk1 hS => ?_)
    obtain ⟨hP1, hK1, hD1⟩ := hB
    rw [ht] at hP1
    have hK1 := va_K.moved hvm.symm hK1
    try dsimp only at hw
    obtain ⟨hP, hD⟩ := va_join (wr := [(h0, .inr (10, [.ref tp, .ref rd, .ref tb, .ref rg, .ref bl, .ref pa, .ref fm, .ref te, .ref hi, .ref fr, .int fd, .int rf, .int lf, .int fp])), (tb, .inr (8, [.int lw, .int 0, .int 0, .int vr, .ref a1, .ref a2, .ref a3, .ref a4]))]) (w1 := []) hP hD [] [0, 1] rfl rfl (by decide) (by decide) hk1 hFc hP1 hD1
    have hK := (hK.sub (tys' := []) [] rfl).app hK1
    generalize H1 = H at hP hS ⊢
    have hP : va_P (dC, dI) vwCl [(h0, .inr (10, [.ref tp, .ref rd, .ref tb, .ref rg, .ref bl, .ref pa, .ref fm, .ref te, .ref hi, .ref fr, .int fd, .int rf, .int lf, .int fp])), (tb, .inr (8, [.int lw, .int 0, .int 0, .int vr, .ref a1, .ref a2, .ref a3, .ref a4]))] H := hP
    have hD : va_D A [(h0, .inr (10, [.ref tp, .ref rd, .ref tb, .ref rg, .ref bl, .ref pa, .ref fm, .ref te, .ref hi, .ref fr, .int fd, .int rf, .int lf, .int fp])), (tb, .inr (8, [.int lw, .int 0, .int 0, .int vr, .ref a1, .ref a2, .ref a3, .ref a4]))] := hD
    have hK : va_K (dC, dI) vwCl [] s := hK
    refine W.widen (k := 0) (n := 0) (by omega) (by omega) ?_
    have er_6 : r_6 = 0 := hw
    subst er_6
    refine lv_icmp_lt (tgt := 41) hx hb dX10_led_27 (by decide) (fun c_7 => absurd c_7 c_5) (fun c_7 => ?_)
    have hP9 := hP.sub (ws' := [(h0, .inr (10, [.ref tp, .ref rd, .ref tb, .ref rg, .ref bl, .ref pa, .ref fm, .ref te, .ref hi, .ref fr, .int fd, .int rf, .int lf, .int fp])), (tb, .inr (8, [.int lw, .int 0, .int 0, .int vr, .ref a1, .ref a2, .ref a3, .ref a4]))]) [0, 1] rfl
    have hD9 := hD.sub (ws' := [(h0, .inr (10, [.ref tp, .ref rd, .ref tb, .ref rg, .ref bl, .ref pa, .ref fm, .ref te, .ref hi, .ref fr, .int fd, .int rf, .int lf, .int fp])), (tb, .inr (8, [.int lw, .int 0, .int 0, .int vr, .ref a1, .ref a2, .ref a3, .ref a4]))]) [0, 1] (by decide) rfl
    have hK9 := hK.sub (tys' := []) [] rfl
    refine my_throwSWX (ix := 13) (rx := prog_28_method_4_code) (own := RX10) (cls := "java/util/NoSuchElementException") (text := "no such outcome") (names := ["java/lang/RuntimeException", "java/lang/Exception"]) (ik := 337) (is := 339) (ic := 341) (sa := sa) hx hb hl0 nx_0 nx_1 nx_2 nx_5 hown (by decide) (by decide) (hts (.classLink RX10 337 "java/util/NoSuchElementException") (by decide +kernel)) (hts (.initialized "java/util/NoSuchElementException") (by decide +kernel)) hstr (hat9 hts hng) led_good hU hN hS (hl.1.trans hml.symm) dX10_led_30 dX10_led_33 dX10_led_34 dX10_led_37 dX10_led_40 (fun x h => (hnt x h).elim) (Nat.le_of_ble_eq_true rfl) (Nat.le_of_ble_eq_true rfl) (Nat.le_of_ble_eq_true rfl) (Nat.le_of_ble_eq_true rfl) hlocks (fun t hvm hz hk => ⟨(), trivial, ⟨rfl, fun k q hq => (hP9 k q hq).kept (hk _ (hP9 k q hq).lt), va_K.moved hvm hK9, hD9⟩, Nat.le_trans hS.1 hz, fun q h1 h2 => (hk q (Nat.lt_of_lt_of_le h1 hS.1)).trans (hS.2.1 q h1 h2)⟩) hS.2.2 (Nat.le_of_ble_eq_true rfl) (Nat.le_of_ble_eq_true rfl)

set_option maxHeartbeats 4000000 in
set_option maxRecDepth 100000 in
/-- the law's led without a BOOK: 1, it threw -/
theorem c_L_led_0 (l : Launch) (hl0 : l.stackTraces = false) (dC : Nat → ClassId) (dI : Nat → Nat → Nat) (sz : Nat) (h0 : Nat) (tp : Nat) (rd : Nat) (tb : Nat) (rg : Nat) (bl : Nat) (pa : Nat) (fm : Nat) (te : Nat) (hi : Nat) (fr : Nat) (fd : Int32) (rf : Int32) (lf : Int32) (fp : Int32) (lw : Int32) (vr : Int32) (a1 : Nat) (a2 : Nat) (a3 : Nat) (a4 : Nat) (p0 : Int32) (sa : Nat) (ou : Nat) : Met l yL_led wsYL_led ({ frames := 7, cells := 1, slots := 6, locals := 124 }) (va_Pc [.ref h0, .int p0, .ref ou] (fun U => U.heap.size = sz ∧ va_P (dC, dI) vwCl [(h0, .inr (10, [.ref tp, .ref rd, .ref tb, .ref rg, .ref bl, .ref pa, .ref fm, .ref te, .ref hi, .ref fr, .int fd, .int rf, .int lf, .int fp])), (tb, .inr (8, [.int lw, .int 0, .int 0, .int vr, .ref a1, .ref a2, .ref a3, .ref a4]))] U.heap ∧ va_K (dC, dI) vwCl [] U ∧ va_D (fun _ => True) [(h0, .inr (10, [.ref tp, .ref rd, .ref tb, .ref rg, .ref bl, .ref pa, .ref fm, .ref te, .ref hi, .ref fr, .int fd, .int rf, .int lf, .int fp])), (tb, .inr (8, [.int lw, .int 0, .int 0, .int vr, .ref a1, .ref a2, .ref a3, .ref a4]))] ∧ vk_R RX10 339 "no such outcome" sa U ∧ va_Nw (.castable "java/util/NoSuchElementException" "java/util/NoSuchElementException") U ∧ va_Nw (.declares (Bundle.initS "java/lang/RuntimeException")) U ∧ va_Nw (.declares (Bundle.initS "java/lang/Exception")) U ∧ va_Nw (.declares (Bundle.initS "java/lang/Throwable")) U ∧ vx_Zq Bundle.tN "UNASSIGNED_STACK" Bundle.steD (va_A [(h0, .inr (10, [.ref tp, .ref rd, .ref tb, .ref rg, .ref bl, .ref pa, .ref fm, .ref te, .ref hi, .ref fr, .int fd, .int rf, .int lf, .int fp])), (tb, .inr (8, [.int lw, .int 0, .int 0, .int vr, .ref a1, .ref a2, .ref a3, .ref a4]))] sz) U U.heap ∧ vx_Zq Bundle.tN "SUPPRESSED_SENTINEL" Bundle.listD (va_A [(h0, .inr (10, [.ref tp, .ref rd, .ref tb, .ref rg, .ref bl, .ref pa, .ref fm, .ref te, .ref hi, .ref fr, .int fd, .int rf, .int lf, .int fp])), (tb, .inr (8, [.int lw, .int 0, .int 0, .int vr, .ref a1, .ref a2, .ref a3, .ref a4]))] sz) U U.heap)) (va_Qi (fun (r : Int32) (_ : Unit) => r = 1) (fun _ t => va_P (dC, dI) vwCl [(h0, .inr (10, [.ref tp, .ref rd, .ref tb, .ref rg, .ref bl, .ref pa, .ref fm, .ref te, .ref hi, .ref fr, .int fd, .int rf, .int lf, .int fp])), (tb, .inr (8, [.int lw, .int 0, .int 0, .int vr, .ref a1, .ref a2, .ref a3, .ref a4]))] t.heap ∧ va_K (dC, dI) vwCl [] t ∧ va_D (va_A [(h0, .inr (10, [.ref tp, .ref rd, .ref tb, .ref rg, .ref bl, .ref pa, .ref fm, .ref te, .ref hi, .ref fr, .int fd, .int rf, .int lf, .int fp])), (tb, .inr (8, [.int lw, .int 0, .int 0, .int vr, .ref a1, .ref a2, .ref a3, .ref a4]))] sz) [(h0, .inr (10, [.ref tp, .ref rd, .ref tb, .ref rg, .ref bl, .ref pa, .ref fm, .ref te, .ref hi, .ref fr, .int fd, .int rf, .int lf, .int fp])), (tb, .inr (8, [.int lw, .int 0, .int 0, .int vr, .ref a1, .ref a2, .ref a3, .ref a4]))]) (va_A [(h0, .inr (10, [.ref tp, .ref rd, .ref tb, .ref rg, .ref bl, .ref pa, .ref fm, .ref te, .ref hi, .ref fr, .int fd, .int rf, .int lf, .int fp])), (tb, .inr (8, [.int lw, .int 0, .int 0, .int vr, .ref a1, .ref a2, .ref a3, .ref a4]))] sz)) 1 6 (va_A [(h0, .inr (10, [.ref tp, .ref rd, .ref tb, .ref rg, .ref bl, .ref pa, .ref fm, .ref te, .ref hi, .ref fr, .int fd, .int rf, .int lf, .int fp])), (tb, .inr (8, [.int lw, .int 0, .int 0, .int vr, .ref a1, .ref a2, .ref a3, .ref a4]))] sz) := by
  refine va_MetW (cc := cL_led) (maxL := 4) (ret := (some .int)) (by decide) rfl ?_
  intro p e s m args below meth c s₁ B hml hv
  obtain ⟨rfl, hsz, hP, hK, hD0, hstr, hng0, hd1, hd2, hd3, hU, hN⟩ := hv
  have hx := B.exec
  have hb := B.bytes
  have hr := B.returns
  have hts := atoms_spec (ws := wsYL_led) B.pre
  have hown : s.vm.findClass RL = some m.cls := findClass_of_methodNamed B.named
  have hlocks := B.notSynchronized
  have htab := vx_table (x := yL_led) B (hts _ List.mem_cons_self)
  subst hsz
  have hD := hD0.self (sz := s.heap.size)
  generalize hAe : va_A [(h0, .inr (10, [.ref tp, .ref rd, .ref tb, .ref rg, .ref bl, .ref pa, .ref fm, .ref te, .ref hi, .ref fr, .int fd, .int rf, .int lf, .int fp])), (tb, .inr (8, [.int lw, .int 0, .int 0, .int vr, .ref a1, .ref a2, .ref a3, .ref a4]))] s.heap.size = A at hD hU hN ⊢
  have hA : ∀ q : Nat, s.heap.size ≤ q → A q := fun q h => by rw [← hAe]; exact Or.inr h
  have hS : va_S A s.heap s.heap [] := va_S.rf
  have hP : va_P (dC, dI) vwCl [(h0, .inr (10, [.ref tp, .ref rd, .ref tb, .ref rg, .ref bl, .ref pa, .ref fm, .ref te, .ref hi, .ref fr, .int fd, .int rf, .int lf, .int fp])), (tb, .inr (8, [.int lw, .int 0, .int 0, .int vr, .ref a1, .ref a2, .ref a3, .ref a4]))] s.heap := hP
  have hl := lv_entry ([.ref h0, .int p0, .ref ou]) (n := 4) (Nat.le_of_ble_eq_true rfl)
  rw [lg_entry_eq]
  generalize (lg_sl ([.ref h0, .int p0, .ref ou]) ++ List.replicate (4 - (lg_sl ([.ref h0, .int p0, .ref ou])).length) Slot.unset).toArray = ls at hl ⊢
  have hl : lv_has ls 4 [(0, .ref h0), (1, .int p0), (2, .ref ou)] := hl
  refine lv_aload_n hx hb dL_led_0 rfl (lv_at hl 2 rfl) ?_
  refine lv_iconst (v := 0) hx hb dL_led_1 (by decide) ?_
  refine lv_aload_n hx hb dL_led_2 rfl (lv_at hl 0 rfl) ?_
  refine lv_iload_n hx hb dL_led_3 rfl (lv_at hl 1 rfl) ?_
  have hPc := hP.sub (ws' := [(h0, .inr (10, [.ref tp, .ref rd, .ref tb, .ref rg, .ref bl, .ref pa, .ref fm, .ref te, .ref hi, .ref fr, .int fd, .int rf, .int lf, .int fp])), (tb, .inr (8, [.int lw, .int 0, .int 0, .int vr, .ref a1, .ref a2, .ref a3, .ref a4]))]) [0, 1] rfl
  have hDc := hD.sub (ws' := [(h0, .inr (10, [.ref tp, .ref rd, .ref tb, .ref rg, .ref bl, .ref pa, .ref fm, .ref te, .ref hi, .ref fr, .int fd, .int rf, .int lf, .int fp])), (tb, .inr (8, [.int lw, .int 0, .int 0, .int vr, .ref a1, .ref a2, .ref a3, .ref a4]))]) [0, 1] (by decide) rfl
  have hKc := hK.sub (tys' := []) [] rfl
  have hFc := va_free (wc := [(h0, .inr (10, [.ref tp, .ref rd, .ref tb, .ref rg, .ref bl, .ref pa, .ref fm, .ref te, .ref hi, .ref fr, .int fd, .int rf, .int lf, .int fp])), (tb, .inr (8, [.int lw, .int 0, .int 0, .int vr, .ref a1, .ref a2, .ref a3, .ref a4]))]) hD hS hA [0, 1] rfl
  refine vx_calli (vx_runV (As := [.int p0]) (rest := [.int 0, .ref ou]) ⟨hx, hb, hml, hown, hts⟩ (c_led_0 l hl0 dC dI s.heap.size h0 tp rd tb rg bl pa fm te hi fr fd rf lf fp lw vr a1 a2 a3 a4 p0 sa) (cwV 1 hts gYL_led_X10_led rfl rfl rfl (by decide +kernel) ⟨Nat.le_of_ble_eq_true rfl, Nat.le_of_ble_eq_true rfl⟩) ⟨fun a U g mk q => by obtain ⟨q0, q1, qP, qK, qD, qx0, qx1, qy1, qy2, qy3, qx2, qx3⟩ := q; exact ⟨q0, q1, qP, va_K.moved (u := U) (U := U.calling g mk a) (Vm.Alike.refl U.vm) qK, qD, vk_R.same (U := U.calling g mk a) rfl qx0, va_Nw.same (U := U.calling g mk a) rfl rfl qx1, va_Nw.same (U := U.calling g mk a) rfl rfl qy1, va_Nw.same (U := U.calling g mk a) rfl rfl qy2, va_Nw.same (U := U.calling g mk a) rfl rfl qy3, vx_Zq.moved (u := U) (U := U.calling g mk a) (Vm.Alike.refl U.vm) qx2, vx_Zq.moved (u := U) (U := U.calling g mk a) (Vm.Alike.refl U.vm) qx3⟩, va_recv hKc hPc (ci := 10) (q0 := 0) rfl rfl, fun U hU9 hW => ⟨rfl, by rw [hU9], by rw [hU9]; exact hPc, va_K.moved hW.alike hKc, hDc.weaken (fun _ _ _ _ => trivial), vk_R.warm hW hstr, va_Nw.warmC hW hng0, va_Nw.warmD hW hd1, va_Nw.warmD hW hd2, va_Nw.warmD hW hd3, by rw [hU9]; exact vx_Zq.moved hW.alike ((vx_Zq.kept hU hS.2.1).narrow hFc), by rw [hU9]; exact vx_Zq.moved hW.alike ((vx_Zq.kept hN hS.2.1).narrow hFc)⟩⟩ rfl rfl hl.1 rfl (lv_room (Nat.le_of_ble_eq_true rfl)) dL_led_4 ⟨Nat.le_of_ble_eq_true rfl, Nat.le_of_ble_eq_true rfl⟩) hS (fun q _ h => hFc q h) hFc (fun q _ h => hFc q h) (fun E ce q9 u t H1 locs ht hvm hw hB hz1 hk1 hS hce hcv hcl => ?_) (fun r u t H1 locs ht hvm hw hB hz1 hk1 hS => hw.elim)
  obtain ⟨rfl, hP1, hK1, hD1⟩ := hB
  rw [ht] at hP1
  have hK1 := va_K.moved hvm.symm hK1
  obtain ⟨hP, hD⟩ := va_join (wr := []) (w1 := [(h0, .inr (10, [.ref tp, .ref rd, .ref tb, .ref rg, .ref bl, .ref pa, .ref fm, .ref te, .ref hi, .ref fr, .int fd, .int rf, .int lf, .int fp])), (tb, .inr (8, [.int lw, .int 0, .int 0, .int vr, .ref a1, .ref a2, .ref a3, .ref a4]))]) hP hD [0, 1] [] rfl rfl (by decide) (by decide) hk1 hFc hP1 hD1
  generalize H1 = H at hP hS hce ⊢
  have hP : va_P (dC, dI) vwCl [(h0, .inr (10, [.ref tp, .ref rd, .ref tb, .ref rg, .ref bl, .ref pa, .ref fm, .ref te, .ref hi, .ref fr, .int fd, .int rf, .int lf, .int fp])), (tb, .inr (8, [.int lw, .int 0, .int 0, .int vr, .ref a1, .ref a2, .ref a3, .ref a4]))] H := hP
  have hD : va_D A [(h0, .inr (10, [.ref tp, .ref rd, .ref tb, .ref rg, .ref bl, .ref pa, .ref fm, .ref te, .ref hi, .ref fr, .int fd, .int rf, .int lf, .int fp])), (tb, .inr (8, [.int lw, .int 0, .int 0, .int vr, .ref a1, .ref a2, .ref a3, .ref a4]))] := hD
  refine vx_widen (k := 1) (n := 6) (by omega) (by omega) ?_
  refine vx_catch hown [] ⟨0, 9, 12, 13⟩ [] htab (fun z h => nomatch h) (by decide) (by decide) (hts (.classLink RL 13 "java/util/NoSuchElementException") (by decide +kernel)) (va_Nw.use rfl hng0) hce hcv hcl ?_
  refine lv_astore_n (lv' := [(3, .ref q9), (0, .ref h0), (1, .int p0), (2, .ref ou)]) hx hb dL_led_12 rfl hl (by decide) rfl (fun ls hl => ?_)
  refine lv_iconst (v := 1) hx hb dL_led_13 (by decide) ?_
  exact W.iret (v := 1) hx hb hr (fun t ht hW => ⟨⟨1, (), rfl, rfl, by rw [ht]; exact hP, va_K.moved hW.alike hK1, hD⟩, hS.F ht⟩) hS.2.2 dL_led_14
