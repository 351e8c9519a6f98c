set_option maxRecDepth 20000 in
theorem iw_X10_told_X10_c_told : ∀ w ∈ wsX100, w ∈ wsX10_told := by decide +kernel
set_option maxHeartbeats 4000000 in
set_option maxRecDepth 100000 in
/-- told(v) -/
theorem c_told (l : Launch) (dC : Nat → ClassId) (dI : Nat → Nat → Nat) (sz : Nat) (h0 : Nat) (tp : Nat) (rd : Nat) (tb : Nat) (rg : Nat) (bl : Nat) (pa : Nat) (fm : Nat) (te : Nat) (hi : Nat) (fr : Nat) (fd : Int32) (rf : Int32) (lf : Int32) (fp : Int32) (p0 : Int32)  : Met l yX10_told wsX10_told ({ frames := 0, cells := 0, slots := 0, locals := 0 }) (va_Pc [.ref h0, .int p0] (fun U => U.heap.size = sz ∧ va_P (dC, dI) vwCl [(h0, .inr (10, [.ref tp, .ref rd, .ref tb, .ref rg, .ref bl, .ref pa, .ref fm, .ref te, .ref hi, .ref fr, .int fd, .int rf, .int lf, .int fp]))] U.heap ∧ va_K (dC, dI) vwCl [] U ∧ va_D (fun _ => True) [(h0, .inr (10, [.ref tp, .ref rd, .ref tb, .ref rg, .ref bl, .ref pa, .ref fm, .ref te, .ref hi, .ref fr, .int fd, .int rf, .int lf, .int fp]))])) (va_Qi (fun (r : Int32) (_ : Unit) => r = p0) (fun _ t => va_P (dC, dI) vwCl [(h0, .inr (10, [.ref tp, .ref rd, .ref tb, .ref rg, .ref bl, .ref pa, .ref fm, .ref te, .ref hi, .ref fr, .int fd, .int 0, .int lf, .int fp]))] t.heap ∧ va_K (dC, dI) vwCl [] t ∧ va_D (va_A [(h0, .inr (10, [.ref tp, .ref rd, .ref tb, .ref rg, .ref bl, .ref pa, .ref fm, .ref te, .ref hi, .ref fr, .int fd, .int rf, .int lf, .int fp]))] sz) [(h0, .inr (10, [.ref tp, .ref rd, .ref tb, .ref rg, .ref bl, .ref pa, .ref fm, .ref te, .ref hi, .ref fr, .int fd, .int 0, .int lf, .int fp]))]) (va_A [(h0, .inr (10, [.ref tp, .ref rd, .ref tb, .ref rg, .ref bl, .ref pa, .ref fm, .ref te, .ref hi, .ref fr, .int fd, .int rf, .int lf, .int fp]))] sz)) 0 0 (va_A [(h0, .inr (10, [.ref tp, .ref rd, .ref tb, .ref rg, .ref bl, .ref pa, .ref fm, .ref te, .ref hi, .ref fr, .int fd, .int rf, .int lf, .int fp]))] sz) := by
  refine Met.ofW (cc := cX10_told) (maxL := 2) (ret := (some .int)) (by decide) rfl ?_
  intro p e s m args below meth c s₁ B hml hv
  obtain ⟨rfl, hsz, hP, hK, hD0⟩ := hv
  have hx := B.exec
  have hb := B.bytes
  have hr := B.returns
  have hts := atoms_spec (ws := wsX10_told) B.pre
  have hown : s.vm.findClass RX10 = some m.cls := findClass_of_methodNamed B.named
  have hlocks := B.notSynchronized
  subst hsz
  have hD := hD0.self (sz := s.heap.size)
  generalize hAe : va_A [(h0, .inr (10, [.ref tp, .ref rd, .ref tb, .ref rg, .ref bl, .ref pa, .ref fm, .ref te, .ref hi, .ref fr, .int fd, .int rf, .int lf, .int fp]))] s.heap.size = A at hD ⊢
  have hA : ∀ q : Nat, s.heap.size ≤ q → A q := fun q h => by rw [← hAe]; exact Or.inr h
  have hS : va_S A s.heap s.heap [] := va_S.rf
  have hP : va_P (dC, dI) vwCl [(h0, .inr (10, [.ref tp, .ref rd, .ref tb, .ref rg, .ref bl, .ref pa, .ref fm, .ref te, .ref hi, .ref fr, .int fd, .int rf, .int lf, .int fp]))] s.heap := hP
  have hl := lv_entry ([.ref h0, .int p0]) (n := 2) (Nat.le_of_ble_eq_true rfl)
  rw [lg_entry_eq]
  generalize (lg_sl ([.ref h0, .int p0]) ++ List.replicate (2 - (lg_sl ([.ref h0, .int p0])).length) Slot.unset).toArray = ls at hl ⊢
  have hl : lv_has ls 2 [(0, .ref h0), (1, .int p0)] := hl
  refine lv_aload_n hx hb dX10_told_0 rfl (lv_at hl 0 rfl) ?_
  refine lv_iconst (v := 0) hx hb dX10_told_1 (by decide) ?_
  refine va_put (D := (dC, dI)) (ci := 10) (v := .int 0) (ty := .int) (C := RX10) (T := TX10) (N := 14) hx hb hts iw_X10_told_X10_c_told tyX10 tyX10_ok nmX10 hown hK hP hD hS 0 rfl rfl 11 (by decide) (hts (.fieldLink RX10 128 "NotAtOnce" "refusal" "I") (by decide +kernel)) (fun _ h9 => h9) rfl (by decide +kernel) rfl rfl (Nat.le_of_ble_eq_true rfl) dX10_told_2 (fun H locs hP hD hS => ?_)
  have hP : va_P (dC, dI) vwCl [(h0, .inr (10, [.ref tp, .ref rd, .ref tb, .ref rg, .ref bl, .ref pa, .ref fm, .ref te, .ref hi, .ref fr, .int fd, .int 0, .int lf, .int fp]))] H := hP
  have hD : va_D A [(h0, .inr (10, [.ref tp, .ref rd, .ref tb, .ref rg, .ref bl, .ref pa, .ref fm, .ref te, .ref hi, .ref fr, .int fd, .int 0, .int lf, .int fp]))] := hD
  refine lv_iload_n hx hb dX10_told_5 rfl (lv_at hl 1 rfl) ?_
  have hP9 := hP.sub (ws' := [(h0, .inr (10, [.ref tp, .ref rd, .ref tb, .ref rg, .ref bl, .ref pa, .ref fm, .ref te, .ref hi, .ref fr, .int fd, .int 0, .int lf, .int fp]))]) [0] rfl
  have hD9 := hD.sub (ws' := [(h0, .inr (10, [.ref tp, .ref rd, .ref tb, .ref rg, .ref bl, .ref pa, .ref fm, .ref te, .ref hi, .ref fr, .int fd, .int 0, .int lf, .int fp]))]) [0] (by decide) rfl
  have hK9 := hK.sub (tys' := []) [] rfl
  refine W.widen (k := 0) (n := 0) (Nat.le_of_ble_eq_true rfl) (Nat.le_of_ble_eq_true rfl) ?_
  exact W.iret (v := p0) hx hb hr (fun t ht hW => ⟨⟨p0, (), rfl, rfl, by rw [ht]; exact hP9, va_K.moved hW.alike hK9, hD9⟩, hS.F ht⟩) hS.2.2 dX10_told_6

set_option maxRecDepth 20000 in
theorem iw_X10_refused_X10_c_refused : ∀ w ∈ wsX100, w ∈ wsX10_refused := by decide +kernel
set_option maxHeartbeats 4000000 in
set_option maxRecDepth 100000 in
/-- refused(n) -/
theorem c_refused (l : Launch) (dC : Nat → ClassId) (dI : Nat → Nat → Nat) (sz : Nat) (h0 : Nat) (tp : Nat) (rd : Nat) (tb : Nat) (rg : Nat) (bl : Nat) (pa : Nat) (fm : Nat) (te : Nat) (hi : Nat) (fr : Nat) (fd : Int32) (rf : Int32) (lf : Int32) (fp : Int32) (p0 : Int32)  : Met l yX10_refused wsX10_refused ({ frames := 0, cells := 0, slots := 0, locals := 0 }) (va_Pc [.ref h0, .int p0] (fun U => U.heap.size = sz ∧ va_P (dC, dI) vwCl [(h0, .inr (10, [.ref tp, .ref rd, .ref tb, .ref rg, .ref bl, .ref pa, .ref fm, .ref te, .ref hi, .ref fr, .int fd, .int rf, .int lf, .int fp]))] U.heap ∧ va_K (dC, dI) vwCl [] U ∧ va_D (fun _ => True) [(h0, .inr (10, [.ref tp, .ref rd, .ref tb, .ref rg, .ref bl, .ref pa, .ref fm, .ref te, .ref hi, .ref fr, .int fd, .int rf, .int lf, .int fp]))])) (va_Qi (fun (r : Int32) (_ : Unit) => r = (-1)) (fun _ t => va_P (dC, dI) vwCl [(h0, .inr (10, [.ref tp, .ref rd, .ref tb, .ref rg, .ref bl, .ref pa, .ref fm, .ref te, .ref hi, .ref fr, .int fd, .int p0, .int lf, .int fp]))] t.heap ∧ va_K (dC, dI) vwCl [] t ∧ va_D (va_A [(h0, .inr (10, [.ref tp, .ref rd, .ref tb, .ref rg, .ref bl, .ref pa, .ref fm, .ref te, .ref hi, .ref fr, .int fd, .int rf, .int lf, .int fp]))] sz) [(h0, .inr (10, [.ref tp, .ref rd, .ref tb, .ref rg, .ref bl, .ref pa, .ref fm, .ref te, .ref hi, .ref fr, .int fd, .int p0, .int lf, .int fp]))]) (va_A [(h0, .inr (10, [.ref tp, .ref rd, .ref tb, .ref rg, .ref bl, .ref pa, .ref fm, .ref te, .ref hi, .ref fr, .int fd, .int rf, .int lf, .int fp]))] sz)) 0 0 (va_A [(h0, .inr (10, [.ref tp, .ref rd, .ref tb, .ref rg, .ref bl, .ref pa, .ref fm, .ref te, .ref hi, .ref fr, .int fd, .int rf, .int lf, .int fp]))] sz) := by
  refine Met.ofW (cc := cX10_refused) (maxL := 2) (ret := (some .int)) (by decide) rfl ?_
  intro p e s m args below meth c s₁ B hml hv
  obtain ⟨rfl, hsz, hP, hK, hD0⟩ := hv
  have hx := B.exec
  have hb := B.bytes
  have hr := B.returns
  have hts := atoms_spec (ws := wsX10_refused) B.pre
  have hown : s.vm.findClass RX10 = some m.cls := findClass_of_methodNamed B.named
  have hlocks := B.notSynchronized
  subst hsz
  have hD := hD0.self (sz := s.heap.size)
  generalize hAe : va_A [(h0, .inr (10, [.ref tp, .ref rd, .ref tb, .ref rg, .ref bl, .ref pa, .ref fm, .ref te, .ref hi, .ref fr, .int fd, .int rf, .int lf, .int fp]))] s.heap.size = A at hD ⊢
  have hA : ∀ q : Nat, s.heap.size ≤ q → A q := fun q h => by rw [← hAe]; exact Or.inr h
  have hS : va_S A s.heap s.heap [] := va_S.rf
  have hP : va_P (dC, dI) vwCl [(h0, .inr (10, [.ref tp, .ref rd, .ref tb, .ref rg, .ref bl, .ref pa, .ref fm, .ref te, .ref hi, .ref fr, .int fd, .int rf, .int lf, .int fp]))] s.heap := hP
  have hl := lv_entry ([.ref h0, .int p0]) (n := 2) (Nat.le_of_ble_eq_true rfl)
  rw [lg_entry_eq]
  generalize (lg_sl ([.ref h0, .int p0]) ++ List.replicate (2 - (lg_sl ([.ref h0, .int p0])).length) Slot.unset).toArray = ls at hl ⊢
  have hl : lv_has ls 2 [(0, .ref h0), (1, .int p0)] := hl
  refine lv_aload_n hx hb dX10_refused_0 rfl (lv_at hl 0 rfl) ?_
  refine lv_iload_n hx hb dX10_refused_1 rfl (lv_at hl 1 rfl) ?_
  refine va_put (D := (dC, dI)) (ci := 10) (v := .int p0) (ty := .int) (C := RX10) (T := TX10) (N := 14) hx hb hts iw_X10_refused_X10_c_refused tyX10 tyX10_ok nmX10 hown hK hP hD hS 0 rfl rfl 11 (by decide) (hts (.fieldLink RX10 128 "NotAtOnce" "refusal" "I") (by decide +kernel)) (fun _ h9 => h9) rfl (by decide +kernel) rfl rfl (Nat.le_of_ble_eq_true rfl) dX10_refused_2 (fun H locs hP hD hS => ?_)
  have hP : va_P (dC, dI) vwCl [(h0, .inr (10, [.ref tp, .ref rd, .ref tb, .ref rg, .ref bl, .ref pa, .ref fm, .ref te, .ref hi, .ref fr, .int fd, .int p0, .int lf, .int fp]))] H := hP
  have hD : va_D A [(h0, .inr (10, [.ref tp, .ref rd, .ref tb, .ref rg, .ref bl, .ref pa, .ref fm, .ref te, .ref hi, .ref fr, .int fd, .int p0, .int lf, .int fp]))] := hD
  refine lv_iconst (v := (-1)) hx hb dX10_refused_5 (by decide) ?_
  have hP9 := hP.sub (ws' := [(h0, .inr (10, [.ref tp, .ref rd, .ref tb, .ref rg, .ref bl, .ref pa, .ref fm, .ref te, .ref hi, .ref fr, .int fd, .int p0, .int lf, .int fp]))]) [0] rfl
  have hD9 := hD.sub (ws' := [(h0, .inr (10, [.ref tp, .ref rd, .ref tb, .ref rg, .ref bl, .ref pa, .ref fm, .ref te, .ref hi, .ref fr, .int fd, .int p0, .int lf, .int fp]))]) [0] (by decide) rfl
  have hK9 := hK.sub (tys' := []) [] rfl
  refine W.widen (k := 0) (n := 0) (Nat.le_of_ble_eq_true rfl) (Nat.le_of_ble_eq_true rfl) ?_
  exact W.iret (v := (-1)) hx hb hr (fun t ht hW => ⟨⟨(-1), (), rfl, rfl, by rw [ht]; exact hP9, va_K.moved hW.alike hK9, hD9⟩, hS.F ht⟩) hS.2.2 dX10_refused_6

set_option maxRecDepth 20000 in
theorem iw_X10_done_X10_c_done : ∀ w ∈ wsX100, w ∈ wsX10_done := by decide +kernel
set_option maxHeartbeats 4000000 in
set_option maxRecDepth 100000 in
/-- done() -/
theorem c_done (l : Launch) (dC : Nat → ClassId) (dI : Nat → Nat → Nat) (sz : Nat) (h0 : Nat) (tp : Nat) (rd : Nat) (tb : Nat) (rg : Nat) (bl : Nat) (pa : Nat) (fm : Nat) (te : Nat) (hi : Nat) (fr : Nat) (fd : Int32) (rf : Int32) (lf : Int32) (fp : Int32)  : Met l yX10_done wsX10_done ({ frames := 0, cells := 0, slots := 0, locals := 0 }) (va_Pc [.ref h0] (fun U => U.heap.size = sz ∧ va_P (dC, dI) vwCl [(h0, .inr (10, [.ref tp, .ref rd, .ref tb, .ref rg, .ref bl, .ref pa, .ref fm, .ref te, .ref hi, .ref fr, .int fd, .int rf, .int lf, .int fp]))] U.heap ∧ va_K (dC, dI) vwCl [] U ∧ va_D (fun _ => True) [(h0, .inr (10, [.ref tp, .ref rd, .ref tb, .ref rg, .ref bl, .ref pa, .ref fm, .ref te, .ref hi, .ref fr, .int fd, .int rf, .int lf, .int fp]))])) (va_Qi (fun (r : Int32) (_ : Unit) => r = 1) (fun _ t => va_P (dC, dI) vwCl [(h0, .inr (10, [.ref tp, .ref rd, .ref tb, .ref rg, .ref bl, .ref pa, .ref fm, .ref te, .ref hi, .ref fr, .int fd, .int 0, .int lf, .int fp]))] t.heap ∧ va_K (dC, dI) vwCl [] t ∧ va_D (va_A [(h0, .inr (10, [.ref tp, .ref rd, .ref tb, .ref rg, .ref bl, .ref pa, .ref fm, .ref te, .ref hi, .ref fr, .int fd, .int rf, .int lf, .int fp]))] sz) [(h0, .inr (10, [.ref tp, .ref rd, .ref tb, .ref rg, .ref bl, .ref pa, .ref fm, .ref te, .ref hi, .ref fr, .int fd, .int 0, .int lf, .int fp]))]) (va_A [(h0, .inr (10, [.ref tp, .ref rd, .ref tb, .ref rg, .ref bl, .ref pa, .ref fm, .ref te, .ref hi, .ref fr, .int fd, .int rf, .int lf, .int fp]))] sz)) 0 0 (va_A [(h0, .inr (10, [.ref tp, .ref rd, .ref tb, .ref rg, .ref bl, .ref pa, .ref fm, .ref te, .ref hi, .ref fr, .int fd, .int rf, .int lf, .int fp]))] sz) := by
  refine Met.ofW (cc := cX10_done) (maxL := 1) (ret := (some .boolean)) (by decide) rfl ?_
  intro p e s m args below meth c s₁ B hml hv
  obtain ⟨rfl, hsz, hP, hK, hD0⟩ := hv
  have hx := B.exec
  have hb := B.bytes
  have hr := B.returns
  have hts := atoms_spec (ws := wsX10_done) B.pre
  have hown : s.vm.findClass RX10 = some m.cls := findClass_of_methodNamed B.named
  have hlocks := B.notSynchronized
  subst hsz
  have hD := hD0.self (sz := s.heap.size)
  generalize hAe : va_A [(h0, .inr (10, [.ref tp, .ref rd, .ref tb, .ref rg, .ref bl, .ref pa, .ref fm, .ref te, .ref hi, .ref fr, .int fd, .int rf, .int lf, .int fp]))] s.heap.size = A at hD ⊢
  have hA : ∀ q : Nat, s.heap.size ≤ q → A q := fun q h => by rw [← hAe]; exact Or.inr h
  have hS : va_S A s.heap s.heap [] := va_S.rf
  have hP : va_P (dC, dI) vwCl [(h0, .inr (10, [.ref tp, .ref rd, .ref tb, .ref rg, .ref bl, .ref pa, .ref fm, .ref te, .ref hi, .ref fr, .int fd, .int rf, .int lf, .int fp]))] s.heap := hP
  have hl := lv_entry ([.ref h0]) (n := 1) (Nat.le_of_ble_eq_true rfl)
  rw [lg_entry_eq]
  generalize (lg_sl ([.ref h0]) ++ List.replicate (1 - (lg_sl ([.ref h0])).length) Slot.unset).toArray = ls at hl ⊢
  have hl : lv_has ls 1 [(0, .ref h0)] := hl
  refine lv_aload_n hx hb dX10_done_0 rfl (lv_at hl 0 rfl) ?_
  refine lv_iconst (v := 0) hx hb dX10_done_1 (by decide) ?_
  refine va_put (D := (dC, dI)) (ci := 10) (v := .int 0) (ty := .int) (C := RX10) (T := TX10) (N := 14) hx hb hts iw_X10_done_X10_c_done tyX10 tyX10_ok nmX10 hown hK hP hD hS 0 rfl rfl 11 (by decide) (hts (.fieldLink RX10 128 "NotAtOnce" "refusal" "I") (by decide +kernel)) (fun _ h9 => h9) rfl (by decide +kernel) rfl rfl (Nat.le_of_ble_eq_true rfl) dX10_done_2 (fun H locs hP hD hS => ?_)
  have hP : va_P (dC, dI) vwCl [(h0, .inr (10, [.ref tp, .ref rd, .ref tb, .ref rg, .ref bl, .ref pa, .ref fm, .ref te, .ref hi, .ref fr, .int fd, .int 0, .int lf, .int fp]))] H := hP
  have hD : va_D A [(h0, .inr (10, [.ref tp, .ref rd, .ref tb, .ref rg, .ref bl, .ref pa, .ref fm, .ref te, .ref hi, .ref fr, .int fd, .int 0, .int lf, .int fp]))] := hD
  refine lv_iconst (v := 1) hx hb dX10_done_5 (by decide) ?_
  have hP9 := hP.sub (ws' := [(h0, .inr (10, [.ref tp, .ref rd, .ref tb, .ref rg, .ref bl, .ref pa, .ref fm, .ref te, .ref hi, .ref fr, .int fd, .int 0, .int lf, .int fp]))]) [0] rfl
  have hD9 := hD.sub (ws' := [(h0, .inr (10, [.ref tp, .ref rd, .ref tb, .ref rg, .ref bl, .ref pa, .ref fm, .ref te, .ref hi, .ref fr, .int fd, .int 0, .int lf, .int fp]))]) [0] (by decide) rfl
  have hK9 := hK.sub (tys' := []) [] rfl
  refine W.widen (k := 0) (n := 0) (Nat.le_of_ble_eq_true rfl) (Nat.le_of_ble_eq_true rfl) ?_
  exact W.zret (v := 1) (ty := .boolean) hx hb hr rfl (fun t ht hW => ⟨⟨1, (), rfl, rfl, by rw [ht]; exact hP9, va_K.moved hW.alike hK9, hD9⟩, hS.F ht⟩) hS.2.2 dX10_done_6

set_option maxRecDepth 20000 in
theorem iw_X10_denied_X10_c_denied : ∀ w ∈ wsX100, w ∈ wsX10_denied := by decide +kernel
set_option maxHeartbeats 4000000 in
set_option maxRecDepth 100000 in
/-- denied(n) -/
theorem c_denied (l : Launch) (dC : Nat → ClassId) (dI : Nat → Nat → Nat) (sz : Nat) (h0 : Nat) (tp : Nat) (rd : Nat) (tb : Nat) (rg : Nat) (bl : Nat) (pa : Nat) (fm : Nat) (te : Nat) (hi : Nat) (fr : Nat) (fd : Int32) (rf : Int32) (lf : Int32) (fp : Int32) (p0 : Int32)  : Met l yX10_denied wsX10_denied ({ frames := 0, cells := 0, slots := 0, locals := 0 }) (va_Pc [.ref h0, .int p0] (fun U => U.heap.size = sz ∧ va_P (dC, dI) vwCl [(h0, .inr (10, [.ref tp, .ref rd, .ref tb, .ref rg, .ref bl, .ref pa, .ref fm, .ref te, .ref hi, .ref fr, .int fd, .int rf, .int lf, .int fp]))] U.heap ∧ va_K (dC, dI) vwCl [] U ∧ va_D (fun _ => True) [(h0, .inr (10, [.ref tp, .ref rd, .ref tb, .ref rg, .ref bl, .ref pa, .ref fm, .ref te, .ref hi, .ref fr, .int fd, .int rf, .int lf, .int fp]))])) (va_Qi (fun (r : Int32) (_ : Unit) => r = 0) (fun _ t => va_P (dC, dI) vwCl [(h0, .inr (10, [.ref tp, .ref rd, .ref tb, .ref rg, .ref bl, .ref pa, .ref fm, .ref te, .ref hi, .ref fr, .int fd, .int p0, .int lf, .int fp]))] t.heap ∧ va_K (dC, dI) vwCl [] t ∧ va_D (va_A [(h0, .inr (10, [.ref tp, .ref rd, .ref tb, .ref rg, .ref bl, .ref pa, .ref fm, .ref te, .ref hi, .ref fr, .int fd, .int rf, .int lf, .int fp]))] sz) [(h0, .inr (10, [.ref tp, .ref rd, .ref tb, .ref rg, .ref bl, .ref pa, .ref fm, .ref te, .ref hi, .ref fr, .int fd, .int p0, .int lf, .int fp]))]) (va_A [(h0, .inr (10, [.ref tp, .ref rd, .ref tb, .ref rg, .ref bl, .ref pa, .ref fm, .ref te, .ref hi, .ref fr, .int fd, .int rf, .int lf, .int fp]))] sz)) 0 0 (va_A [(h0, .inr (10, [.ref tp, .ref rd, .ref tb, .ref rg, .ref bl, .ref pa, .ref fm, .ref te, .ref hi, .ref fr, .int fd, .int rf, .int lf, .int fp]))] sz) := by
  refine Met.ofW (cc := cX10_denied) (maxL := 2) (ret := (some .boolean)) (by decide) rfl ?_
  intro p e s m args below meth c s₁ B hml hv
  obtain ⟨rfl, hsz, hP, hK, hD0⟩ := hv
  have hx := B.exec
  have hb := B.bytes
  have hr := B.returns
  have hts := atoms_spec (ws := wsX10_denied) B.pre
  have hown : s.vm.findClass RX10 = some m.cls := findClass_of_methodNamed B.named
  have hlocks := B.notSynchronized
  subst hsz
  have hD := hD0.self (sz := s.heap.size)
  generalize hAe : va_A [(h0, .inr (10, [.ref tp, .ref rd, .ref tb, .ref rg, .ref bl, .ref pa, .ref fm, .ref te, .ref hi, .ref fr, .int fd, .int rf, .int lf, .int fp]))] s.heap.size = A at hD ⊢
  have hA : ∀ q : Nat, s.heap.size ≤ q → A q := fun q h => by rw [← hAe]; exact Or.inr h
  have hS : va_S A s.heap s.heap [] := va_S.rf
  have hP : va_P (dC, dI) vwCl [(h0, .inr (10, [.ref tp, .ref rd, .ref tb, .ref rg, .ref bl, .ref pa, .ref fm, .ref te, .ref hi, .ref fr, .int fd, .int rf, .int lf, .int fp]))] s.heap := hP
  have hl := lv_entry ([.ref h0, .int p0]) (n := 2) (Nat.le_of_ble_eq_true rfl)
  rw [lg_entry_eq]
  generalize (lg_sl ([.ref h0, .int p0]) ++ List.replicate (2 - (lg_sl ([.ref h0, .int p0])).length) Slot.unset).toArray = ls at hl ⊢
  have hl : lv_has ls 2 [(0, .ref h0), (1, .int p0)] := hl
  refine lv_aload_n hx hb dX10_denied_0 rfl (lv_at hl 0 rfl) ?_
  refine lv_iload_n hx hb dX10_denied_1 rfl (lv_at hl 1 rfl) ?_
  refine va_put (D := (dC, dI)) (ci := 10) (v := .int p0) (ty := .int) (C := RX10) (T := TX10) (N := 14) hx hb hts iw_X10_denied_X10_c_denied tyX10 tyX10_ok nmX10 hown hK hP hD hS 0 rfl rfl 11 (by decide) (hts (.fieldLink RX10 128 "NotAtOnce" "refusal" "I") (by decide +kernel)) (fun _ h9 => h9) rfl (by decide +kernel) rfl rfl (Nat.le_of_ble_eq_true rfl) dX10_denied_2 (fun H locs hP hD hS => ?_)
  have hP : va_P (dC, dI) vwCl [(h0, .inr (10, [.ref tp, .ref rd, .ref tb, .ref rg, .ref bl, .ref pa, .ref fm, .ref te, .ref hi, .ref fr, .int fd, .int p0, .int lf, .int fp]))] H := hP
  have hD : va_D A [(h0, .inr (10, [.ref tp, .ref rd, .ref tb, .ref rg, .ref bl, .ref pa, .ref fm, .ref te, .ref hi, .ref fr, .int fd, .int p0, .int lf, .int fp]))] := hD
  refine lv_iconst (v := 0) hx hb dX10_denied_5 (by decide) ?_
  have hP9 := hP.sub (ws' := [(h0, .inr (10, [.ref tp, .ref rd, .ref tb, .ref rg, .ref bl, .ref pa, .ref fm, .ref te, .ref hi, .ref fr, .int fd, .int p0, .int lf, .int fp]))]) [0] rfl
  have hD9 := hD.sub (ws' := [(h0, .inr (10, [.ref tp, .ref rd, .ref tb, .ref rg, .ref bl, .ref pa, .ref fm, .ref te, .ref hi, .ref fr, .int fd, .int p0, .int lf, .int fp]))]) [0] (by decide) rfl
  have hK9 := hK.sub (tys' := []) [] rfl
  refine W.widen (k := 0) (n := 0) (Nat.le_of_ble_eq_true rfl) (Nat.le_of_ble_eq_true rfl) ?_
  exact W.zret (v := 0) (ty := .boolean) hx hb hr rfl (fun t ht hW => ⟨⟨0, (), rfl, rfl, by rw [ht]; exact hP9, va_K.moved hW.alike hK9, hD9⟩, hS.F ht⟩) hS.2.2 dX10_denied_6

set_option maxRecDepth 20000 in
theorem iw_X10_noBook_X10_c_noBook : ∀ w ∈ wsX100, w ∈ wsX10_noBook := by decide +kernel
set_option maxRecDepth 20000 in
theorem iw_X10_noBook_X8_c_noBook : ∀ w ∈ wsX80, w ∈ wsX10_noBook := by decide +kernel
set_option maxHeartbeats 4000000 in
set_option maxRecDepth 100000 in
/-- noBook() without a BOOK -/
theorem c_noBook (l : Launch) (dC : Nat → ClassId) (dI : Nat → Nat → Nat) (sz : Nat) (h0 : Nat) (tp : Nat) (rd : Nat) (tb : Nat) (rg : Nat) (bl : Nat) (pa : Nat) (fm : Nat) (te : Nat) (hi : Nat) (fr : Nat) (fd : Int32) (rf : Int32) (lf : Int32) (fp : Int32) (lk : Int32) (ct : Int32) (vr : Int32) (a1 : Nat) (a2 : Nat) (a3 : Nat) (a4 : Nat)  : Met l yX10_noBook wsX10_noBook ({ frames := 0, cells := 0, slots := 0, locals := 0 }) (va_Pc [.ref h0] (fun U => U.heap.size = sz ∧ va_P (dC, dI) vwCl [(h0, .inr (10, [.ref tp, .ref rd, .ref tb, .ref rg, .ref bl, .ref pa, .ref fm, .ref te, .ref hi, .ref fr, .int fd, .int rf, .int lf, .int fp])), (tb, .inr (8, [.int 0, .int lk, .int ct, .int vr, .ref a1, .ref a2, .ref a3, .ref a4]))] U.heap ∧ va_K (dC, dI) vwCl [] U ∧ va_D (fun _ => True) [(h0, .inr (10, [.ref tp, .ref rd, .ref tb, .ref rg, .ref bl, .ref pa, .ref fm, .ref te, .ref hi, .ref fr, .int fd, .int rf, .int lf, .int fp])), (tb, .inr (8, [.int 0, .int lk, .int ct, .int vr, .ref a1, .ref a2, .ref a3, .ref a4]))])) (va_Qi (fun (r : Int32) (_ : Unit) => r = 1) (fun _ t => va_P (dC, dI) vwCl [(h0, .inr (10, [.ref tp, .ref rd, .ref tb, .ref rg, .ref bl, .ref pa, .ref fm, .ref te, .ref hi, .ref fr, .int fd, .int rf, .int lf, .int fp])), (tb, .inr (8, [.int 0, .int lk, .int ct, .int vr, .ref a1, .ref a2, .ref a3, .ref a4]))] t.heap ∧ va_K (dC, dI) vwCl [] t ∧ va_D (va_A [(h0, .inr (10, [.ref tp, .ref rd, .ref tb, .ref rg, .ref bl, .ref pa, .ref fm, .ref te, .ref hi, .ref fr, .int fd, .int rf, .int lf, .int fp])), (tb, .inr (8, [.int 0, .int lk, .int ct, .int vr, .ref a1, .ref a2, .ref a3, .ref a4]))] sz) [(h0, .inr (10, [.ref tp, .ref rd, .ref tb, .ref rg, .ref bl, .ref pa, .ref fm, .ref te, .ref hi, .ref fr, .int fd, .int rf, .int lf, .int fp])), (tb, .inr (8, [.int 0, .int lk, .int ct, .int vr, .ref a1, .ref a2, .ref a3, .ref a4]))]) (va_A [(h0, .inr (10, [.ref tp, .ref rd, .ref tb, .ref rg, .ref bl, .ref pa, .ref fm, .ref te, .ref hi, .ref fr, .int fd, .int rf, .int lf, .int fp])), (tb, .inr (8, [.int 0, .int lk, .int ct, .int vr, .ref a1, .ref a2, .ref a3, .ref a4]))] sz)) 0 0 (va_A [(h0, .inr (10, [.ref tp, .ref rd, .ref tb, .ref rg, .ref bl, .ref pa, .ref fm, .ref te, .ref hi, .ref fr, .int fd, .int rf, .int lf, .int fp])), (tb, .inr (8, [.int 0, .int lk, .int ct, .int vr, .ref a1, .ref a2, .ref a3, .ref a4]))] sz) := by
  refine Met.ofW (cc := cX10_noBook) (maxL := 1) (ret := (some .boolean)) (by decide) rfl ?_
  intro p e s m args below meth c s₁ B hml hv
  obtain ⟨rfl, hsz, hP, hK, hD0⟩ := hv
  have hx := B.exec
  have hb := B.bytes
  have hr := B.returns
  have hts := atoms_spec (ws := wsX10_noBook) B.pre
  have hown : s.vm.findClass RX10 = some m.cls := findClass_of_methodNamed B.named
  have hlocks := B.notSynchronized
  subst hsz
  have hD := hD0.self (sz := s.heap.size)
  generalize hAe : va_A [(h0, .inr (10, [.ref tp, .ref rd, .ref tb, .ref rg, .ref bl, .ref pa, .ref fm, .ref te, .ref hi, .ref fr, .int fd, .int rf, .int lf, .int fp])), (tb, .inr (8, [.int 0, .int lk, .int ct, .int vr, .ref a1, .ref a2, .ref a3, .ref a4]))] s.heap.size = A at hD ⊢
  have hA : ∀ q : Nat, s.heap.size ≤ q → A q := fun q h => by rw [← hAe]; exact Or.inr h
  have hS : va_S A s.heap s.heap [] := va_S.rf
  have hP : va_P (dC, dI) vwCl [(h0, .inr (10, [.ref tp, .ref rd, .ref tb, .ref rg, .ref bl, .ref pa, .ref fm, .ref te, .ref hi, .ref fr, .int fd, .int rf, .int lf, .int fp])), (tb, .inr (8, [.int 0, .int lk, .int ct, .int vr, .ref a1, .ref a2, .ref a3, .ref a4]))] s.heap := hP
  have hl := lv_entry ([.ref h0]) (n := 1) (Nat.le_of_ble_eq_true rfl)
  rw [lg_entry_eq]
  generalize (lg_sl ([.ref h0]) ++ List.replicate (1 - (lg_sl ([.ref h0])).length) Slot.unset).toArray = ls at hl ⊢
  have hl : lv_has ls 1 [(0, .ref h0)] := hl
  refine lv_aload_n hx hb dX10_noBook_0 rfl (lv_at hl 0 rfl) ?_
  refine va_get (D := (dC, dI)) (ci := 10) (v := .ref tb) (C := RX10) (T := TX10) (N := 14) hx hb hts iw_X10_noBook_X10_c_noBook hown hK hP 0 rfl rfl 2 (by decide) (hts (.fieldLink RX10 25 "NotAtOnce" "table" "LNotAtOnce$Table;") (by decide +kernel)) (fun _ h9 => h9) rfl dX10_noBook_1 ?_
  refine va_get (D := (dC, dI)) (ci := 8) (v := .int 0) (C := RX8) (T := TX8) (N := 8) hx hb hts iw_X10_noBook_X8_c_noBook hown hK hP 1 rfl rfl 0 (by decide) (hts (.fieldLink RX10 215 "NotAtOnce$Table" "law" "I") (by decide +kernel)) (fun _ h9 => h9) rfl dX10_noBook_4 ?_
  refine lv_if_ne (tgt := 14) hx hb dX10_noBook_7 (by decide) (fun c_1 => absurd c_1 (by decide)) (fun c_1 => ?_)
  refine lv_iconst (v := 1) hx hb dX10_noBook_10 (by decide) ?_
  refine lv_goto (tgt := 15) hx hb dX10_noBook_11 (by decide) ?_
  have hP9 := hP.sub (ws' := [(h0, .inr (10, [.ref tp, .ref rd, .ref tb, .ref rg, .ref bl, .ref pa, .ref fm, .ref te, .ref hi, .ref fr, .int fd, .int rf, .int lf, .int fp])), (tb, .inr (8, [.int 0, .int lk, .int ct, .int vr, .ref a1, .ref a2, .ref a3, .ref a4]))]) [0, 1] rfl
  have hD9 := hD.sub (ws' := [(h0, .inr (10, [.ref tp, .ref rd, .ref tb, .ref rg, .ref bl, .ref pa, .ref fm, .ref te, .ref hi, .ref fr, .int fd, .int rf, .int lf, .int fp])), (tb, .inr (8, [.int 0, .int lk, .int ct, .int vr, .ref a1, .ref a2, .ref a3, .ref a4]))]) [0, 1] (by decide) rfl
  have hK9 := hK.sub (tys' := []) [] rfl
  refine W.widen (k := 0) (n := 0) (Nat.le_of_ble_eq_true rfl) (Nat.le_of_ble_eq_true rfl) ?_
  exact W.zret (v := 1) (ty := .boolean) hx hb hr rfl (fun t ht hW => ⟨⟨1, (), rfl, rfl, by rw [ht]; exact hP9, va_K.moved hW.alike hK9, hD9⟩, hS.F ht⟩) hS.2.2 dX10_noBook_15

set_option maxHeartbeats 4000000 in
set_option maxRecDepth 100000 in
/-- share without a BOOK -/
theorem c_share_0 (l : Launch) (dC : Nat → ClassId) (dI : Nat → Nat → Nat) (sz : Nat) (h0 : Nat) (tp : Nat) (rd : Nat) (tb : Nat) (rg : Nat) (bl : Nat) (pa : Nat) (fm : Nat) (te : Nat) (hi : Nat) (fr : Nat) (fd : Int32) (rf : Int32) (lf : Int32) (fp : Int32) (lk : Int32) (ct : Int32) (vr : Int32) (a1 : Nat) (a2 : Nat) (a3 : Nat) (a4 : Nat) (p0 : Int32)  : Met l yX10_share wsX10_share ({ frames := 1, cells := 0, slots := 0, locals := 21 }) (va_Pc [.ref h0, .int p0] (fun U => U.heap.size = sz ∧ va_P (dC, dI) vwCl [(h0, .inr (10, [.ref tp, .ref rd, .ref tb, .ref rg, .ref bl, .ref pa, .ref fm, .ref te, .ref hi, .ref fr, .int fd, .int rf, .int lf, .int fp])), (tb, .inr (8, [.int 0, .int lk, .int ct, .int vr, .ref a1, .ref a2, .ref a3, .ref a4]))] U.heap ∧ va_K (dC, dI) vwCl [] U ∧ va_D (fun _ => True) [(h0, .inr (10, [.ref tp, .ref rd, .ref tb, .ref rg, .ref bl, .ref pa, .ref fm, .ref te, .ref hi, .ref fr, .int fd, .int rf, .int lf, .int fp])), (tb, .inr (8, [.int 0, .int lk, .int ct, .int vr, .ref a1, .ref a2, .ref a3, .ref a4]))])) (va_Qi (fun (r : Int32) (_ : Unit) => r = (-1)) (fun _ t => va_P (dC, dI) vwCl [(h0, .inr (10, [.ref tp, .ref rd, .ref tb, .ref rg, .ref bl, .ref pa, .ref fm, .ref te, .ref hi, .ref fr, .int fd, .int 1, .int lf, .int fp])), (tb, .inr (8, [.int 0, .int lk, .int ct, .int vr, .ref a1, .ref a2, .ref a3, .ref a4]))] t.heap ∧ va_K (dC, dI) vwCl [] t ∧ va_D (va_A [(h0, .inr (10, [.ref tp, .ref rd, .ref tb, .ref rg, .ref bl, .ref pa, .ref fm, .ref te, .ref hi, .ref fr, .int fd, .int rf, .int lf, .int fp])), (tb, .inr (8, [.int 0, .int lk, .int ct, .int vr, .ref a1, .ref a2, .ref a3, .ref a4]))] sz) [(h0, .inr (10, [.ref tp, .ref rd, .ref tb, .ref rg, .ref bl, .ref pa, .ref fm, .ref te, .ref hi, .ref fr, .int fd, .int 1, .int lf, .int fp])), (tb, .inr (8, [.int 0, .int lk, .int ct, .int vr, .ref a1, .ref a2, .ref a3, .ref a4]))]) (va_A [(h0, .inr (10, [.ref tp, .ref rd, .ref tb, .ref rg, .ref bl, .ref pa, .ref fm, .ref te, .ref hi, .ref fr, .int fd, .int rf, .int lf, .int fp])), (tb, .inr (8, [.int 0, .int lk, .int ct, .int vr, .ref a1, .ref a2, .ref a3, .ref a4]))] sz)) 0 0 (va_A [(h0, .inr (10, [.ref tp, .ref rd, .ref tb, .ref rg, .ref bl, .ref pa, .ref fm, .ref te, .ref hi, .ref fr, .int fd, .int rf, .int lf, .int fp])), (tb, .inr (8, [.int 0, .int lk, .int ct, .int vr, .ref a1, .ref a2, .ref a3, .ref a4]))] sz) := by
  refine Met.ofW (cc := cX10_share) (maxL := 2) (ret := (some .int)) (by decide) rfl ?_
  intro p e s m args below meth c s₁ B hml hv
  obtain ⟨rfl, hsz, hP, hK, hD0⟩ := hv
  have hx := B.exec
  have hb := B.bytes
  have hr := B.returns
  have hts := atoms_spec (ws := wsX10_share) B.pre
  have hown : s.vm.findClass RX10 = some m.cls := findClass_of_methodNamed B.named
  have hlocks := B.notSynchronized
  subst hsz
  have hD := hD0.self (sz := s.heap.size)
  generalize hAe : va_A [(h0, .inr (10, [.ref tp, .ref rd, .ref tb, .ref rg, .ref bl, .ref pa, .ref fm, .ref te, .ref hi, .ref fr, .int fd, .int rf, .int lf, .int fp])), (tb, .inr (8, [.int 0, .int lk, .int ct, .int vr, .ref a1, .ref a2, .ref a3, .ref a4]))] s.heap.size = A at hD ⊢
  have hA : ∀ q : Nat, s.heap.size ≤ q → A q := fun q h => by rw [← hAe]; exact Or.inr h
  have hS : va_S A s.heap s.heap [] := va_S.rf
  have hP : va_P (dC, dI) vwCl [(h0, .inr (10, [.ref tp, .ref rd, .ref tb, .ref rg, .ref bl, .ref pa, .ref fm, .ref te, .ref hi, .ref fr, .int fd, .int rf, .int lf, .int fp])), (tb, .inr (8, [.int 0, .int lk, .int ct, .int vr, .ref a1, .ref a2, .ref a3, .ref a4]))] s.heap := hP
  have hl := lv_entry ([.ref h0, .int p0]) (n := 2) (Nat.le_of_ble_eq_true rfl)
  rw [lg_entry_eq]
  generalize (lg_sl ([.ref h0, .int p0]) ++ List.replicate (2 - (lg_sl ([.ref h0, .int p0])).length) Slot.unset).toArray = ls at hl ⊢
  have hl : lv_has ls 2 [(0, .ref h0), (1, .int p0)] := hl
  refine lv_aload_n hx hb dX10_share_0 rfl (lv_at hl 0 rfl) ?_
  have hPc := hP.sub (ws' := [(h0, .inr (10, [.ref tp, .ref rd, .ref tb, .ref rg, .ref bl, .ref pa, .ref fm, .ref te, .ref hi, .ref fr, .int fd, .int rf, .int lf, .int fp])), (tb, .inr (8, [.int 0, .int lk, .int ct, .int vr, .ref a1, .ref a2, .ref a3, .ref a4]))]) [0, 1] rfl
  have hDc := hD.sub (ws' := [(h0, .inr (10, [.ref tp, .ref rd, .ref tb, .ref rg, .ref bl, .ref pa, .ref fm, .ref te, .ref hi, .ref fr, .int fd, .int rf, .int lf, .int fp])), (tb, .inr (8, [.int 0, .int lk, .int ct, .int vr, .ref a1, .ref a2, .ref a3, .ref a4]))]) [0, 1] (by decide) rfl
  have hKc := hK.sub (tys' := []) [] rfl
  have hFc := va_free (wc := [(h0, .inr (10, [.ref tp, .ref rd, .ref tb, .ref rg, .ref bl, .ref pa, .ref fm, .ref te, .ref hi, .ref fr, .int fd, .int rf, .int lf, .int fp])), (tb, .inr (8, [.int 0, .int lk, .int ct, .int vr, .ref a1, .ref a2, .ref a3, .ref a4]))]) hD hS hA [0, 1] rfl
  refine va_calli (va_runV (As := []) (rest := []) ⟨hx, hb, hml, hown, hts⟩ (c_noBook l dC dI s.heap.size h0 tp rd tb rg bl pa fm te hi fr fd rf lf fp lk ct vr a1 a2 a3 a4) (cwV 0 hts gX10_share_X10_noBook rfl rfl rfl (by decide +kernel) ⟨Nat.le_of_ble_eq_true rfl, Nat.le_of_ble_eq_true rfl⟩) ⟨fun a U g mk q => by obtain ⟨q0, q1, qP, qK, qD⟩ := q; exact ⟨q0, q1, qP, va_K.moved (u := U) (U := U.calling g mk a) (Vm.Alike.refl U.vm) qK, qD⟩, va_recv hKc hPc (ci := 10) (q0 := 0) rfl rfl, fun U hU hW => ⟨rfl, by rw [hU], by rw [hU]; exact hPc, va_K.moved hW.alike hKc, hDc.weaken (fun _ _ _ _ => trivial)⟩⟩ rfl rfl hl.1 rfl (lv_room (Nat.le_of_ble_eq_true rfl)) dX10_share_1 ⟨Nat.le_of_ble_eq_true rfl, Nat.le_of_ble_eq_true rfl⟩) hS (fun q _ h => hFc q h) hFc (fun r_1 u t H1 locs ht hvm hw hB hz1 hk1 hS => ?_)
  obtain ⟨hP1, hK1, hD1⟩ := hB
  rw [ht] at hP1
  have hK1 := va_K.moved hvm.symm hK1
  try dsimp only at hw
  obtain ⟨hP, hD⟩ := va_join (wr := []) (w1 := [(h0, .inr (10, [.ref tp, .ref rd, .ref tb, .ref rg, .ref bl, .ref pa, .ref fm, .ref te, .ref hi, .ref fr, .int fd, .int rf, .int lf, .int fp])), (tb, .inr (8, [.int 0, .int lk, .int ct, .int vr, .ref a1, .ref a2, .ref a3, .ref a4]))]) hP hD [0, 1] [] rfl rfl (by decide) (by decide) hk1 hFc hP1 hD1
  have hK := (hK.sub (tys' := []) [] rfl).app hK1
  generalize H1 = H at hP hS ⊢
  have hP : va_P (dC, dI) vwCl [(h0, .inr (10, [.ref tp, .ref rd, .ref tb, .ref rg, .ref bl, .ref pa, .ref fm, .ref te, .ref hi, .ref fr, .int fd, .int rf, .int lf, .int fp])), (tb, .inr (8, [.int 0, .int lk, .int ct, .int vr, .ref a1, .ref a2, .ref a3, .ref a4]))] H := hP
  have hD : va_D A [(h0, .inr (10, [.ref tp, .ref rd, .ref tb, .ref rg, .ref bl, .ref pa, .ref fm, .ref te, .ref hi, .ref fr, .int fd, .int rf, .int lf, .int fp])), (tb, .inr (8, [.int 0, .int lk, .int ct, .int vr, .ref a1, .ref a2, .ref a3, .ref a4]))] := hD
  have hK : va_K (dC, dI) vwCl [] s := hK
  refine W.widen (k := 0) (n := 0) (by omega) (by omega) ?_
  have er_1 : r_1 = 1 := hw
  subst er_1
  refine lv_if_eq (tgt := 13) hx hb dX10_share_4 (by decide) (fun c_2 => absurd c_2 (by decide)) (fun c_2 => ?_)
  refine lv_aload_n hx hb dX10_share_7 rfl (lv_at hl 0 rfl) ?_
  refine lv_iconst (v := 1) hx hb dX10_share_8 (by decide) ?_
  have hPc := hP.sub (ws' := [(h0, .inr (10, [.ref tp, .ref rd, .ref tb, .ref rg, .ref bl, .ref pa, .ref fm, .ref te, .ref hi, .ref fr, .int fd, .int rf, .int lf, .int fp]))]) [0] rfl
  have hDc := hD.sub (ws' := [(h0, .inr (10, [.ref tp, .ref rd, .ref tb, .ref rg, .ref bl, .ref pa, .ref fm, .ref te, .ref hi, .ref fr, .int fd, .int rf, .int lf, .int fp]))]) [0] (by decide) rfl
  have hKc := hK.sub (tys' := []) [] rfl
  have hFc := va_free (wc := [(h0, .inr (10, [.ref tp, .ref rd, .ref tb, .ref rg, .ref bl, .ref pa, .ref fm, .ref te, .ref hi, .ref fr, .int fd, .int rf, .int lf, .int fp]))]) hD hS hA [0] rfl
  refine va_calli (va_runV (As := [.int 1]) (rest := []) ⟨hx, hb, hml, hown, hts⟩ (c_refused l dC dI H.size h0 tp rd tb rg bl pa fm te hi fr fd rf lf fp 1) (cwV 1 hts gX10_share_X10_refused rfl rfl rfl (by decide +kernel) ⟨Nat.le_of_ble_eq_true rfl, Nat.le_of_ble_eq_true rfl⟩) ⟨fun a U g mk q => by obtain ⟨q0, q1, qP, qK, qD⟩ := q; exact ⟨q0, q1, qP, va_K.moved (u := U) (U := U.calling g mk a) (Vm.Alike.refl U.vm) qK, qD⟩, va_recv hKc hPc (ci := 10) (q0 := 0) rfl rfl, fun U hU hW => ⟨rfl, by rw [hU], by rw [hU]; exact hPc, va_K.moved hW.alike hKc, hDc.weaken (fun _ _ _ _ => trivial)⟩⟩ rfl rfl hl.1 rfl (lv_room (Nat.le_of_ble_eq_true rfl)) dX10_share_9 ⟨Nat.le_of_ble_eq_true rfl, Nat.le_of_ble_eq_true rfl⟩) hS (fun q _ h => hFc q h) hFc (fun r_3 u t H1 locs ht hvm hw hB hz1 hk1 hS => ?_)
  obtain ⟨hP1, hK1, hD1⟩ := hB
  rw [ht] at hP1
  have hK1 := va_K.moved hvm.symm hK1
  try dsimp only at hw
  obtain ⟨hP, hD⟩ := va_join (wr := [(tb, .inr (8, [.int 0, .int lk, .int ct, .int vr, .ref a1, .ref a2, .ref a3, .ref a4]))]) (w1 := [(h0, .inr (10, [.ref tp, .ref rd, .ref tb, .ref rg, .ref bl, .ref pa, .ref fm, .ref te, .ref hi, .ref fr, .int fd, .int 1, .int lf, .int fp]))]) hP hD [0] [1] rfl rfl (by decide) (by decide) hk1 hFc hP1 hD1
  have hK := (hK.sub (tys' := []) [] rfl).app hK1
  generalize H1 = H at hP hS ⊢
  have hP : va_P (dC, dI) vwCl [(tb, .inr (8, [.int 0, .int lk, .int ct, .int vr, .ref a1, .ref a2, .ref a3, .ref a4])), (h0, .inr (10, [.ref tp, .ref rd, .ref tb, .ref rg, .ref bl, .ref pa, .ref fm, .ref te, .ref hi, .ref fr, .int fd, .int 1, .int lf, .int fp]))] H := hP
  have hD : va_D A [(tb, .inr (8, [.int 0, .int lk, .int ct, .int vr, .ref a1, .ref a2, .ref a3, .ref a4])), (h0, .inr (10, [.ref tp, .ref rd, .ref tb, .ref rg, .ref bl, .ref pa, .ref fm, .ref te, .ref hi, .ref fr, .int fd, .int 1, .int lf, .int fp]))] := hD
  have hK : va_K (dC, dI) vwCl [] s := hK
  refine W.widen (k := 0) (n := 0) (by omega) (by omega) ?_
  have er_3 : r_3 = (-1) := hw
  subst er_3
  have hP9 := hP.sub (ws' := [(h0, .inr (10, [.ref tp, .ref rd, .ref tb, .ref rg, .ref bl, .ref pa, .ref fm, .ref te, .ref hi, .ref fr, .int fd, .int 1, .int lf, .int fp])), (tb, .inr (8, [.int 0, .int lk, .int ct, .int vr, .ref a1, .ref a2, .ref a3, .ref a4]))]) [1, 0] rfl
  have hD9 := hD.sub (ws' := [(h0, .inr (10, [.ref tp, .ref rd, .ref tb, .ref rg, .ref bl, .ref pa, .ref fm, .ref te, .ref hi, .ref fr, .int fd, .int 1, .int lf, .int fp])), (tb, .inr (8, [.int 0, .int lk, .int ct, .int vr, .ref a1, .ref a2, .ref a3, .ref a4]))]) [1, 0] (by decide) rfl
  have hK9 := hK.sub (tys' := []) [] rfl
  refine W.widen (k := 0) (n := 0) (Nat.le_of_ble_eq_true rfl) (Nat.le_of_ble_eq_true rfl) ?_
  exact W.iret (v := (-1)) hx hb hr (fun t ht hW => ⟨⟨(-1), (), rfl, rfl, by rw [ht]; exact hP9, va_K.moved hW.alike hK9, hD9⟩, hS.F ht⟩) hS.2.2 dX10_share_12

set_option maxHeartbeats 4000000 in
set_option maxRecDepth 100000 in
/-- level without a BOOK -/
theorem c_level_0 (l : Launch) (dC : Nat → ClassId) (dI : Nat → Nat → Nat) (sz : Nat) (h0 : Nat) (tp : Nat) (rd : Nat) (tb : Nat) (rg : Nat) (bl : Nat) (pa : Nat) (fm : Nat) (te : Nat) (hi : Nat) (fr : Nat) (fd : Int32) (rf : Int32) (lf : Int32) (fp : Int32) (lk : Int32) (ct : Int32) (vr : Int32) (a1 : Nat) (a2 : Nat) (a3 : Nat) (a4 : Nat)  : Met l yX10_level wsX10_level ({ frames := 1, cells := 0, slots := 0, locals := 21 }) (va_Pc [.ref h0] (fun U => U.heap.size = sz ∧ va_P (dC, dI) vwCl [(h0, .inr (10, [.ref tp, .ref rd, .ref tb, .ref rg, .ref bl, .ref pa, .ref fm, .ref te, .ref hi, .ref fr, .int fd, .int rf, .int lf, .int fp])), (tb, .inr (8, [.int 0, .int lk, .int ct, .int vr, .ref a1, .ref a2, .ref a3, .ref a4]))] U.heap ∧ va_K (dC, dI) vwCl [] U ∧ va_D (fun _ => True) [(h0, .inr (10, [.ref tp, .ref rd, .ref tb, .ref rg, .ref bl, .ref pa, .ref fm, .ref te, .ref hi, .ref fr, .int fd, .int rf, .int lf, .int fp])), (tb, .inr (8, [.int 0, .int lk, .int ct, .int vr, .ref a1, .ref a2, .ref a3, .ref a4]))])) (va_Qi (fun (r : Int32) (_ : Unit) => r = (-1)) (fun _ t => va_P (dC, dI) vwCl [(h0, .inr (10, [.ref tp, .ref rd, .ref tb, .ref rg, .ref bl, .ref pa, .ref fm, .ref te, .ref hi, .ref fr, .int fd, .int 1, .int lf, .int fp])), (tb, .inr (8, [.int 0, .int lk, .int ct, .int vr, .ref a1, .ref a2, .ref a3, .ref a4]))] t.heap ∧ va_K (dC, dI) vwCl [] t ∧ va_D (va_A [(h0, .inr (10, [.ref tp, .ref rd, .ref tb, .ref rg, .ref bl, .ref pa, .ref fm, .ref te, .ref hi, .ref fr, .int fd, .int rf, .int lf, .int fp])), (tb, .inr (8, [.int 0, .int lk, .int ct, .int vr, .ref a1, .ref a2, .ref a3, .ref a4]))] sz) [(h0, .inr (10, [.ref tp, .ref rd, .ref tb, .ref rg, .ref bl, .ref pa, .ref fm, .ref te, .ref hi, .ref fr, .int fd, .int 1, .int lf, .int fp])), (tb, .inr (8, [.int 0, .int lk, .int ct, .int vr, .ref a1, .ref a2, .ref a3, .ref a4]))]) (va_A [(h0, .inr (10, [.ref tp, .ref rd, .ref tb, .ref rg, .ref bl, .ref pa, .ref fm, .ref te, .ref hi, .ref fr, .int fd, .int rf, .int lf, .int fp])), (tb, .inr (8, [.int 0, .int lk, .int ct, .int vr, .ref a1, .ref a2, .ref a3, .ref a4]))] sz)) 0 0 (va_A [(h0, .inr (10, [.ref tp, .ref rd, .ref tb, .ref rg, .ref bl, .ref pa, .ref fm, .ref te, .ref hi, .ref fr, .int fd, .int rf, .int lf, .int fp])), (tb, .inr (8, [.int 0, .int lk, .int ct, .int vr, .ref a1, .ref a2, .ref a3, .ref a4]))] sz) := by
  refine Met.ofW (cc := cX10_level) (maxL := 3) (ret := (some .int)) (by decide) rfl ?_
  intro p e s m args below meth c s₁ B hml hv
  obtain ⟨rfl, hsz, hP, hK, hD0⟩ := hv
  have hx := B.exec
  have hb := B.bytes
  have hr := B.returns
  have hts := atoms_spec (ws := wsX10_level) B.pre
  have hown : s.vm.findClass RX10 = some m.cls := findClass_of_methodNamed B.named
  have hlocks := B.notSynchronized
  subst hsz
  have hD := hD0.self (sz := s.heap.size)
  generalize hAe : va_A [(h0, .inr (10, [.ref tp, .ref rd, .ref tb, .ref rg, .ref bl, .ref pa, .ref fm, .ref te, .ref hi, .ref fr, .int fd, .int rf, .int lf, .int fp])), (tb, .inr (8, [.int 0, .int lk, .int ct, .int vr, .ref a1, .ref a2, .ref a3, .ref a4]))] s.heap.size = A at hD ⊢
  have hA : ∀ q : Nat, s.heap.size ≤ q → A q := fun q h => by rw [← hAe]; exact Or.inr h
  have hS : va_S A s.heap s.heap [] := va_S.rf
  have hP : va_P (dC, dI) vwCl [(h0, .inr (10, [.ref tp, .ref rd, .ref tb, .ref rg, .ref bl, .ref pa, .ref fm, .ref te, .ref hi, .ref fr, .int fd, .int rf, .int lf, .int fp])), (tb, .inr (8, [.int 0, .int lk, .int ct, .int vr, .ref a1, .ref a2, .ref a3, .ref a4]))] s.heap := hP
  have hl := lv_entry ([.ref h0]) (n := 3) (Nat.le_of_ble_eq_true rfl)
  rw [lg_entry_eq]
  generalize (lg_sl ([.ref h0]) ++ List.replicate (3 - (lg_sl ([.ref h0])).length) Slot.unset).toArray = ls at hl ⊢
  have hl : lv_has ls 3 [(0, .ref h0)] := hl
  refine lv_aload_n hx hb dX10_level_0 rfl (lv_at hl 0 rfl) ?_
  have hPc := hP.sub (ws' := [(h0, .inr (10, [.ref tp, .ref rd, .ref tb, .ref rg, .ref bl, .ref pa, .ref fm, .ref te, .ref hi, .ref fr, .int fd, .int rf, .int lf, .int fp])), (tb, .inr (8, [.int 0, .int lk, .int ct, .int vr, .ref a1, .ref a2, .ref a3, .ref a4]))]) [0, 1] rfl
  have hDc := hD.sub (ws' := [(h0, .inr (10, [.ref tp, .ref rd, .ref tb, .ref rg, .ref bl, .ref pa, .ref fm, .ref te, .ref hi, .ref fr, .int fd, .int rf, .int lf, .int fp])), (tb, .inr (8, [.int 0, .int lk, .int ct, .int vr, .ref a1, .ref a2, .ref a3, .ref a4]))]) [0, 1] (by decide) rfl
  have hKc := hK.sub (tys' := []) [] rfl
  have hFc := va_free (wc := [(h0, .inr (10, [.ref tp, .ref rd, .ref tb, .ref rg, .ref bl, .ref pa, .ref fm, .ref te, .ref hi, .ref fr, .int fd, .int rf, .int lf, .int fp])), (tb, .inr (8, [.int 0, .int lk, .int ct, .int vr, .ref a1, .ref a2, .ref a3, .ref a4]))]) hD hS hA [0, 1] rfl
  refine va_calli (va_runV (As := []) (rest := []) ⟨hx, hb, hml, hown, hts⟩ (c_noBook l dC dI s.heap.size h0 tp rd tb rg bl pa fm te hi fr fd rf lf fp lk ct vr a1 a2 a3 a4) (cwV 0 hts gX10_level_X10_noBook rfl rfl rfl (by decide +kernel) ⟨Nat.le_of_ble_eq_true rfl, Nat.le_of_ble_eq_true rfl⟩) ⟨fun a U g mk q => by obtain ⟨q0, q1, qP, qK, qD⟩ := q; exact ⟨q0, q1, qP, va_K.moved (u := U) (U := U.calling g mk a) (Vm.Alike.refl U.vm) qK, qD⟩, va_recv hKc hPc (ci := 10) (q0 := 0) rfl rfl, fun U hU hW => ⟨rfl, by rw [hU], by rw [hU]; exact hPc, va_K.moved hW.alike hKc, hDc.weaken (fun _ _ _ _ => trivial)⟩⟩ rfl rfl hl.1 rfl (lv_room (Nat.le_of_ble_eq_true rfl)) dX10_level_1 ⟨Nat.le_of_ble_eq_true rfl, Nat.le_of_ble_eq_true rfl⟩) hS (fun q _ h => hFc q h) hFc (fun r_1 u t H1 locs ht hvm hw hB hz1 hk1 hS => ?_)
  obtain ⟨hP1, hK1, hD1⟩ := hB
  rw [ht] at hP1
  have hK1 := va_K.moved hvm.symm hK1
  try dsimp only at hw
  obtain ⟨hP, hD⟩ := va_join (wr := []) (w1 := [(h0, .inr (10, [.ref tp, .ref rd, .ref tb, .ref rg, .ref bl, .ref pa, .ref fm, .ref te, .ref hi, .ref fr, .int fd, .int rf, .int lf, .int fp])), (tb, .inr (8, [.int 0, .int lk, .int ct, .int vr, .ref a1, .ref a2, .ref a3, .ref a4]))]) hP hD [0, 1] [] rfl rfl (by decide) (by decide) hk1 hFc hP1 hD1
  have hK := (hK.sub (tys' := []) [] rfl).app hK1
  generalize H1 = H at hP hS ⊢
  have hP : va_P (dC, dI) vwCl [(h0, .inr (10, [.ref tp, .ref rd, .ref tb, .ref rg, .ref bl, .ref pa, .ref fm, .ref te, .ref hi, .ref fr, .int fd, .int rf, .int lf, .int fp])), (tb, .inr (8, [.int 0, .int lk, .int ct, .int vr, .ref a1, .ref a2, .ref a3, .ref a4]))] H := hP
  have hD : va_D A [(h0, .inr (10, [.ref tp, .ref rd, .ref tb, .ref rg, .ref bl, .ref pa, .ref fm, .ref te, .ref hi, .ref fr, .int fd, .int rf, .int lf, .int fp])), (tb, .inr (8, [.int 0, .int lk, .int ct, .int vr, .ref a1, .ref a2, .ref a3, .ref a4]))] := hD
  have hK : va_K (dC, dI) vwCl [] s := hK
  refine W.widen (k := 0) (n := 0) (by omega) (by omega) ?_
  have er_1 : r_1 = 1 := hw
  subst er_1
  refine lv_if_eq (tgt := 13) hx hb dX10_level_4 (by decide) (fun c_2 => absurd c_2 (by decide)) (fun c_2 => ?_)
  refine lv_aload_n hx hb dX10_level_7 rfl (lv_at hl 0 rfl) ?_
  refine lv_iconst (v := 1) hx hb dX10_level_8 (by decide) ?_
  have hPc := hP.sub (ws' := [(h0, .inr (10, [.ref tp, .ref rd, .ref tb, .ref rg, .ref bl, .ref pa, .ref fm, .ref te, .ref hi, .ref fr, .int fd, .int rf, .int lf, .int fp]))]) [0] rfl
  have hDc := hD.sub (ws' := [(h0, .inr (10, [.ref tp, .ref rd, .ref tb, .ref rg, .ref bl, .ref pa, .ref fm, .ref te, .ref hi, .ref fr, .int fd, .int rf, .int lf, .int fp]))]) [0] (by decide) rfl
  have hKc := hK.sub (tys' := []) [] rfl
  have hFc := va_free (wc := [(h0, .inr (10, [.ref tp, .ref rd, .ref tb, .ref rg, .ref bl, .ref pa, .ref fm, .ref te, .ref hi, .ref fr, .int fd, .int rf, .int lf, .int fp]))]) hD hS hA [0] rfl
  refine va_calli (va_runV (As := [.int 1]) (rest := []) ⟨hx, hb, hml, hown, hts⟩ (c_refused l dC dI H.size h0 tp rd tb rg bl pa fm te hi fr fd rf lf fp 1) (cwV 1 hts gX10_level_X10_refused rfl rfl rfl (by decide +kernel) ⟨Nat.le_of_ble_eq_true rfl, Nat.le_of_ble_eq_true rfl⟩) ⟨fun a U g mk q => by obtain ⟨q0, q1, qP, qK, qD⟩ := q; exact ⟨q0, q1, qP, va_K.moved (u := U) (U := U.calling g mk a) (Vm.Alike.refl U.vm) qK, qD⟩, va_recv hKc hPc (ci := 10) (q0 := 0) rfl rfl, fun U hU hW => ⟨rfl, by rw [hU], by rw [hU]; exact hPc, va_K.moved hW.alike hKc, hDc.weaken (fun _ _ _ _ => trivial)⟩⟩ rfl rfl hl.1 rfl (lv_room (Nat.le_of_ble_eq_true rfl)) dX10_level_9 ⟨Nat.le_of_ble_eq_true rfl, Nat.le_of_ble_eq_true rfl⟩) hS (fun q _ h => hFc q h) hFc (fun r_3 u t H1 locs ht hvm hw hB hz1 hk1 hS => ?_)
  obtain ⟨hP1, hK1, hD1⟩ := hB
  rw [ht] at hP1
  have hK1 := va_K.moved hvm.symm hK1
  try dsimp only at hw
  obtain ⟨hP, hD⟩ := va_join (wr := [(tb, .inr (8, [.int 0, .int lk, .int ct, .int vr, .ref a1, .ref a2, .ref a3, .ref a4]))]) (w1 := [(h0, .inr (10, [.ref tp, .ref rd, .ref tb, .ref rg, .ref bl, .ref pa, .ref fm, .ref te, .ref hi, .ref fr, .int fd, .int 1, .int lf, .int fp]))]) hP hD [0] [1] rfl rfl (by decide) (by decide) hk1 hFc hP1 hD1
  have hK := (hK.sub (tys' := []) [] rfl).app hK1
  generalize H1 = H at hP hS ⊢
  have hP : va_P (dC, dI) vwCl [(tb, .inr (8, [.int 0, .int lk, .int ct, .int vr, .ref a1, .ref a2, .ref a3, .ref a4])), (h0, .inr (10, [.ref tp, .ref rd, .ref tb, .ref rg, .ref bl, .ref pa, .ref fm, .ref te, .ref hi, .ref fr, .int fd, .int 1, .int lf, .int fp]))] H := hP
  have hD : va_D A [(tb, .inr (8, [.int 0, .int lk, .int ct, .int vr, .ref a1, .ref a2, .ref a3, .ref a4])), (h0, .inr (10, [.ref tp, .ref rd, .ref tb, .ref rg, .ref bl, .ref pa, .ref fm, .ref te, .ref hi, .ref fr, .int fd, .int 1, .int lf, .int fp]))] := hD
  have hK : va_K (dC, dI) vwCl [] s := hK
  refine W.widen (k := 0) (n := 0) (by omega) (by omega) ?_
  have er_3 : r_3 = (-1) := hw
  subst er_3
  have hP9 := hP.sub (ws' := [(h0, .inr (10, [.ref tp, .ref rd, .ref tb, .ref rg, .ref bl, .ref pa, .ref fm, .ref te, .ref hi, .ref fr, .int fd, .int 1, .int lf, .int fp])), (tb, .inr (8, [.int 0, .int lk, .int ct, .int vr, .ref a1, .ref a2, .ref a3, .ref a4]))]) [1, 0] rfl
  have hD9 := hD.sub (ws' := [(h0, .inr (10, [.ref tp, .ref rd, .ref tb, .ref rg, .ref bl, .ref pa, .ref fm, .ref te, .ref hi, .ref fr, .int fd, .int 1, .int lf, .int fp])), (tb, .inr (8, [.int 0, .int lk, .int ct, .int vr, .ref a1, .ref a2, .ref a3, .ref a4]))]) [1, 0] (by decide) rfl
  have hK9 := hK.sub (tys' := []) [] rfl
  refine W.widen (k := 0) (n := 0) (Nat.le_of_ble_eq_true rfl) (Nat.le_of_ble_eq_true rfl) ?_
  exact W.iret (v := (-1)) hx hb hr (fun t ht hW => ⟨⟨(-1), (), rfl, rfl, by rw [ht]; exact hP9, va_K.moved hW.alike hK9, hD9⟩, hS.F ht⟩) hS.2.2 dX10_level_12

set_option maxHeartbeats 4000000 in
set_option maxRecDepth 100000 in
/-- hidden without a BOOK -/
theorem c_hidden_0 (l : Launch) (dC : Nat → ClassId) (dI : Nat → Nat → Nat) (sz : Nat) (h0 : Nat) (tp : Nat) (rd : Nat) (tb : Nat) (rg : Nat) (bl : Nat) (pa : Nat) (fm : Nat) (te : Nat) (hi : Nat) (fr : Nat) (fd : Int32) (rf : Int32) (lf : Int32) (fp : Int32) (lk : Int32) (ct : Int32) (vr : Int32) (a1 : Nat) (a2 : Nat) (a3 : Nat) (a4 : Nat)  : Met l yX10_hidden wsX10_hidden ({ frames := 1, cells := 0, slots := 0, locals := 21 }) (va_Pc [.ref h0] (fun U => U.heap.size = sz ∧ va_P (dC, dI) vwCl [(h0, .inr (10, [.ref tp, .ref rd, .ref tb, .ref rg, .ref bl, .ref pa, .ref fm, .ref te, .ref hi, .ref fr, .int fd, .int rf, .int lf, .int fp])), (tb, .inr (8, [.int 0, .int lk, .int ct, .int vr, .ref a1, .ref a2, .ref a3, .ref a4]))] U.heap ∧ va_K (dC, dI) vwCl [] U ∧ va_D (fun _ => True) [(h0, .inr (10, [.ref tp, .ref rd, .ref tb, .ref rg, .ref bl, .ref pa, .ref fm, .ref te, .ref hi, .ref fr, .int fd, .int rf, .int lf, .int fp])), (tb, .inr (8, [.int 0, .int lk, .int ct, .int vr, .ref a1, .ref a2, .ref a3, .ref a4]))])) (va_Qi (fun (r : Int32) (_ : Unit) => r = (-1)) (fun _ t => va_P (dC, dI) vwCl [(h0, .inr (10, [.ref tp, .ref rd, .ref tb, .ref rg, .ref bl, .ref pa, .ref fm, .ref te, .ref hi, .ref fr, .int fd, .int 1, .int lf, .int fp])), (tb, .inr (8, [.int 0, .int lk, .int ct, .int vr, .ref a1, .ref a2, .ref a3, .ref a4]))] t.heap ∧ va_K (dC, dI) vwCl [] t ∧ va_D (va_A [(h0, .inr (10, [.ref tp, .ref rd, .ref tb, .ref rg, .ref bl, .ref pa, .ref fm, .ref te, .ref hi, .ref fr, .int fd, .int rf, .int lf, .int fp])), (tb, .inr (8, [.int 0, .int lk, .int ct, .int vr, .ref a1, .ref a2, .ref a3, .ref a4]))] sz) [(h0, .inr (10, [.ref tp, .ref rd, .ref tb, .ref rg, .ref bl, .ref pa, .ref fm, .ref te, .ref hi, .ref fr, .int fd, .int 1, .int lf, .int fp])), (tb, .inr (8, [.int 0, .int lk, .int ct, .int vr, .ref a1, .ref a2, .ref a3, .ref a4]))]) (va_A [(h0, .inr (10, [.ref tp, .ref rd, .ref tb, .ref rg, .ref bl, .ref pa, .ref fm, .ref te, .ref hi, .ref fr, .int fd, .int rf, .int lf, .int fp])), (tb, .inr (8, [.int 0, .int lk, .int ct, .int vr, .ref a1, .ref a2, .ref a3, .ref a4]))] sz)) 0 0 (va_A [(h0, .inr (10, [.ref tp, .ref rd, .ref tb, .ref rg, .ref bl, .ref pa, .ref fm, .ref te, .ref hi, .ref fr, .int fd, .int rf, .int lf, .int fp])), (tb, .inr (8, [.int 0, .int lk, .int ct, .int vr, .ref a1, .ref a2, .ref a3, .ref a4]))] sz) := by
  refine Met.ofW (cc := cX10_hidden) (maxL := 1) (ret := (some .int)) (by decide) rfl ?_
  intro p e s m args below meth c s₁ B hml hv
  obtain ⟨rfl, hsz, hP, hK, hD0⟩ := hv
  have hx := B.exec
  have hb := B.bytes
  have hr := B.returns
  have hts := atoms_spec (ws := wsX10_hidden) B.pre
  have hown : s.vm.findClass RX10 = some m.cls := findClass_of_methodNamed B.named
  have hlocks := B.notSynchronized
  subst hsz
  have hD := hD0.self (sz := s.heap.size)
  generalize hAe : va_A [(h0, .inr (10, [.ref tp, .ref rd, .ref tb, .ref rg, .ref bl, .ref pa, .ref fm, .ref te, .ref hi, .ref fr, .int fd, .int rf, .int lf, .int fp])), (tb, .inr (8, [.int 0, .int lk, .int ct, .int vr, .ref a1, .ref a2, .ref a3, .ref a4]))] s.heap.size = A at hD ⊢
  have hA : ∀ q : Nat, s.heap.size ≤ q → A q := fun q h => by rw [← hAe]; exact Or.inr h
  have hS : va_S A s.heap s.heap [] := va_S.rf
  have hP : va_P (dC, dI) vwCl [(h0, .inr (10, [.ref tp, .ref rd, .ref tb, .ref rg, .ref bl, .ref pa, .ref fm, .ref te, .ref hi, .ref fr, .int fd, .int rf, .int lf, .int fp])), (tb, .inr (8, [.int 0, .int lk, .int ct, .int vr, .ref a1, .ref a2, .ref a3, .ref a4]))] s.heap := hP
  have hl := lv_entry ([.ref h0]) (n := 1) (Nat.le_of_ble_eq_true rfl)
  rw [lg_entry_eq]
  generalize (lg_sl ([.ref h0]) ++ List.replicate (1 - (lg_sl ([.ref h0])).length) Slot.unset).toArray = ls at hl ⊢
  have hl : lv_has ls 1 [(0, .ref h0)] := hl
  refine lv_aload_n hx hb dX10_hidden_0 rfl (lv_at hl 0 rfl) ?_
  have hPc := hP.sub (ws' := [(h0, .inr (10, [.ref tp, .ref rd, .ref tb, .ref rg, .ref bl, .ref pa, .ref fm, .ref te, .ref hi, .ref fr, .int fd, .int rf, .int lf, .int fp])), (tb, .inr (8, [.int 0, .int lk, .int ct, .int vr, .ref a1, .ref a2, .ref a3, .ref a4]))]) [0, 1] rfl
  have hDc := hD.sub (ws' := [(h0, .inr (10, [.ref tp, .ref rd, .ref tb, .ref rg, .ref bl, .ref pa, .ref fm, .ref te, .ref hi, .ref fr, .int fd, .int rf, .int lf, .int fp])), (tb, .inr (8, [.int 0, .int lk, .int ct, .int vr, .ref a1, .ref a2, .ref a3, .ref a4]))]) [0, 1] (by decide) rfl
  have hKc := hK.sub (tys' := []) [] rfl
  have hFc := va_free (wc := [(h0, .inr (10, [.ref tp, .ref rd, .ref tb, .ref rg, .ref bl, .ref pa, .ref fm, .ref te, .ref hi, .ref fr, .int fd, .int rf, .int lf, .int fp])), (tb, .inr (8, [.int 0, .int lk, .int ct, .int vr, .ref a1, .ref a2, .ref a3, .ref a4]))]) hD hS hA [0, 1] rfl
  refine va_calli (va_runV (As := []) (rest := []) ⟨hx, hb, hml, hown, hts⟩ (c_noBook l dC dI s.heap.size h0 tp rd tb rg bl pa fm te hi fr fd rf lf fp lk ct vr a1 a2 a3 a4) (cwV 0 hts gX10_hidden_X10_noBook rfl rfl rfl (by decide +kernel) ⟨Nat.le_of_ble_eq_true rfl, Nat.le_of_ble_eq_true rfl⟩) ⟨fun a U g mk q => by obtain ⟨q0, q1, qP, qK, qD⟩ := q; exact ⟨q0, q1, qP, va_K.moved (u := U) (U := U.calling g mk a) (Vm.Alike.refl U.vm) qK, qD⟩, va_recv hKc hPc (ci := 10) (q0 := 0) rfl rfl, fun U hU hW => ⟨rfl, by rw [hU], by rw [hU]; exact hPc, va_K.moved hW.alike hKc, hDc.weaken (fun _ _ _ _ => trivial)⟩⟩ rfl rfl hl.1 rfl (lv_room (Nat.le_of_ble_eq_true rfl)) dX10_hidden_1 ⟨Nat.le_of_ble_eq_true rfl, Nat.le_of_ble_eq_true rfl⟩) hS (fun q _ h => hFc q h) hFc (fun r_1 u t H1 locs ht hvm hw hB hz1 hk1 hS => ?_)
  obtain ⟨hP1, hK1, hD1⟩ := hB
  rw [ht] at hP1
  have hK1 := va_K.moved hvm.symm hK1
  try dsimp only at hw
  obtain ⟨hP, hD⟩ := va_join (wr := []) (w1 := [(h0, .inr (10, [.ref tp, .ref rd, .ref tb, .ref rg, .ref bl, .ref pa, .ref fm, .ref te, .ref hi, .ref fr, .int fd, .int rf, .int lf, .int fp])), (tb, .inr (8, [.int 0, .int lk, .int ct, .int vr, .ref a1, .ref a2, .ref a3, .ref a4]))]) hP hD [0, 1] [] rfl rfl (by decide) (by decide) hk1 hFc hP1 hD1
  have hK := (hK.sub (tys' := []) [] rfl).app hK1
  generalize H1 = H at hP hS ⊢
  have hP : va_P (dC, dI) vwCl [(h0, .inr (10, [.ref tp, .ref rd, .ref tb, .ref rg, .ref bl, .ref pa, .ref fm, .ref te, .ref hi, .ref fr, .int fd, .int rf, .int lf, .int fp])), (tb, .inr (8, [.int 0, .int lk, .int ct, .int vr, .ref a1, .ref a2, .ref a3, .ref a4]))] H := hP
  have hD : va_D A [(h0, .inr (10, [.ref tp, .ref rd, .ref tb, .ref rg, .ref bl, .ref pa, .ref fm, .ref te, .ref hi, .ref fr, .int fd, .int rf, .int lf, .int fp])), (tb, .inr (8, [.int 0, .int lk, .int ct, .int vr, .ref a1, .ref a2, .ref a3, .ref a4]))] := hD
  have hK : va_K (dC, dI) vwCl [] s := hK
  refine W.widen (k := 0) (n := 0) (by omega) (by omega) ?_
  have er_1 : r_1 = 1 := hw
  subst er_1
  refine lv_if_eq (tgt := 13) hx hb dX10_hidden_4 (by decide) (fun c_2 => absurd c_2 (by decide)) (fun c_2 => ?_)
  refine lv_aload_n hx hb dX10_hidden_7 rfl (lv_at hl 0 rfl) ?_
  refine lv_iconst (v := 1) hx hb dX10_hidden_8 (by decide) ?_
  have hPc := hP.sub (ws' := [(h0, .inr (10, [.ref tp, .ref rd, .ref tb, .ref rg, .ref bl, .ref pa, .ref fm, .ref te, .ref hi, .ref fr, .int fd, .int rf, .int lf, .int fp]))]) [0] rfl
  have hDc := hD.sub (ws' := [(h0, .inr (10, [.ref tp, .ref rd, .ref tb, .ref rg, .ref bl, .ref pa, .ref fm, .ref te, .ref hi, .ref fr, .int fd, .int rf, .int lf, .int fp]))]) [0] (by decide) rfl
  have hKc := hK.sub (tys' := []) [] rfl
  have hFc := va_free (wc := [(h0, .inr (10, [.ref tp, .ref rd, .ref tb, .ref rg, .ref bl, .ref pa, .ref fm, .ref te, .ref hi, .ref fr, .int fd, .int rf, .int lf, .int fp]))]) hD hS hA [0] rfl
  refine va_calli (va_runV (As := [.int 1]) (rest := []) ⟨hx, hb, hml, hown, hts⟩ (c_refused l dC dI H.size h0 tp rd tb rg bl pa fm te hi fr fd rf lf fp 1) (cwV 1 hts gX10_hidden_X10_refused rfl rfl rfl (by decide +kernel) ⟨Nat.le_of_ble_eq_true rfl, Nat.le_of_ble_eq_true rfl⟩) ⟨fun a U g mk q => by obtain ⟨q0, q1, qP, qK, qD⟩ := q; exact ⟨q0, q1, qP, va_K.moved (u := U) (U := U.calling g mk a) (Vm.Alike.refl U.vm) qK, qD⟩, va_recv hKc hPc (ci := 10) (q0 := 0) rfl rfl, fun U hU hW => ⟨rfl, by rw [hU], by rw [hU]; exact hPc, va_K.moved hW.alike hKc, hDc.weaken (fun _ _ _ _ => trivial)⟩⟩ rfl rfl hl.1 rfl (lv_room (Nat.le_of_ble_eq_true rfl)) dX10_hidden_9 ⟨Nat.le_of_ble_eq_true rfl, Nat.le_of_ble_eq_true rfl⟩) hS (fun q _ h => hFc q h) hFc (fun r_3 u t H1 locs ht hvm hw hB hz1 hk1 hS => ?_)
  obtain ⟨hP1, hK1, hD1⟩ := hB
  rw [ht] at hP1
  have hK1 := va_K.moved hvm.symm hK1
  try dsimp only at hw
  obtain ⟨hP, hD⟩ := va_join (wr := [(tb, .inr (8, [.int 0, .int lk, .int ct, .int vr, .ref a1, .ref a2, .ref a3, .ref a4]))]) (w1 := [(h0, .inr (10, [.ref tp, .ref rd, .ref tb, .ref rg, .ref bl, .ref pa, .ref fm, .ref te, .ref hi, .ref fr, .int fd, .int 1, .int lf, .int fp]))]) hP hD [0] [1] rfl rfl (by decide) (by decide) hk1 hFc hP1 hD1
  have hK := (hK.sub (tys' := []) [] rfl).app hK1
  generalize H1 = H at hP hS ⊢
  have hP : va_P (dC, dI) vwCl [(tb, .inr (8, [.int 0, .int lk, .int ct, .int vr, .ref a1, .ref a2, .ref a3, .ref a4])), (h0, .inr (10, [.ref tp, .ref rd, .ref tb, .ref rg, .ref bl, .ref pa, .ref fm, .ref te, .ref hi, .ref fr, .int fd, .int 1, .int lf, .int fp]))] H := hP
  have hD : va_D A [(tb, .inr (8, [.int 0, .int lk, .int ct, .int vr, .ref a1, .ref a2, .ref a3, .ref a4])), (h0, .inr (10, [.ref tp, .ref rd, .ref tb, .ref rg, .ref bl, .ref pa, .ref fm, .ref te, .ref hi, .ref fr, .int fd, .int 1, .int lf, .int fp]))] := hD
  have hK : va_K (dC, dI) vwCl [] s := hK
  refine W.widen (k := 0) (n := 0) (by omega) (by omega) ?_
  have er_3 : r_3 = (-1) := hw
  subst er_3
  have hP9 := hP.sub (ws' := [(h0, .inr (10, [.ref tp, .ref rd, .ref tb, .ref rg, .ref bl, .ref pa, .ref fm, .ref te, .ref hi, .ref fr, .int fd, .int 1, .int lf, .int fp])), (tb, .inr (8, [.int 0, .int lk, .int ct, .int vr, .ref a1, .ref a2, .ref a3, .ref a4]))]) [1, 0] rfl
  have hD9 := hD.sub (ws' := [(h0, .inr (10, [.ref tp, .ref rd, .ref tb, .ref rg, .ref bl, .ref pa, .ref fm, .ref te, .ref hi, .ref fr, .int fd, .int 1, .int lf, .int fp])), (tb, .inr (8, [.int 0, .int lk, .int ct, .int vr, .ref a1, .ref a2, .ref a3, .ref a4]))]) [1, 0] (by decide) rfl
  have hK9 := hK.sub (tys' := []) [] rfl
  refine W.widen (k := 0) (n := 0) (Nat.le_of_ble_eq_true rfl) (Nat.le_of_ble_eq_true rfl) ?_
  exact W.iret (v := (-1)) hx hb hr (fun t ht hW => ⟨⟨(-1), (), rfl, rfl, by rw [ht]; exact hP9, va_K.moved hW.alike hK9, hD9⟩, hS.F ht⟩) hS.2.2 dX10_hidden_12

set_option maxHeartbeats 4000000 in
set_option maxRecDepth 100000 in
/-- answer without a BOOK -/
theorem c_answer_0 (l : Launch) (dC : Nat → ClassId) (dI : Nat → Nat → Nat) (sz : Nat) (h0 : Nat) (tp : Nat) (rd : Nat) (tb : Nat) (rg : Nat) (bl : Nat) (pa : Nat) (fm : Nat) (te : Nat) (hi : Nat) (fr : Nat) (fd : Int32) (rf : Int32) (lf : Int32) (fp : Int32) (lk : Int32) (ct : Int32) (vr : Int32) (a1 : Nat) (a2 : Nat) (a3 : Nat) (a4 : Nat) (p0 : Int32)  : Met l yX10_answer wsX10_answer ({ frames := 1, cells := 0, slots := 0, locals := 21 }) (va_Pc [.ref h0, .int p0] (fun U => U.heap.size = sz ∧ va_P (dC, dI) vwCl [(h0, .inr (10, [.ref tp, .ref rd, .ref tb, .ref rg, .ref bl, .ref pa, .ref fm, .ref te, .ref hi, .ref fr, .int fd, .int rf, .int lf, .int fp])), (tb, .inr (8, [.int 0, .int lk, .int ct, .int vr, .ref a1, .ref a2, .ref a3, .ref a4]))] U.heap ∧ va_K (dC, dI) vwCl [] U ∧ va_D (fun _ => True) [(h0, .inr (10, [.ref tp, .ref rd, .ref tb, .ref rg, .ref bl, .ref pa, .ref fm, .ref te, .ref hi, .ref fr, .int fd, .int rf, .int lf, .int fp])), (tb, .inr (8, [.int 0, .int lk, .int ct, .int vr, .ref a1, .ref a2, .ref a3, .ref a4]))])) (va_Qi (fun (r : Int32) (_ : Unit) => r = (-1)) (fun _ t => va_P (dC, dI) vwCl [(h0, .inr (10, [.ref tp, .ref rd, .ref tb, .ref rg, .ref bl, .ref pa, .ref fm, .ref te, .ref hi, .ref fr, .int fd, .int 1, .int lf, .int fp])), (tb, .inr (8, [.int 0, .int lk, .int ct, .int vr, .ref a1, .ref a2, .ref a3, .ref a4]))] t.heap ∧ va_K (dC, dI) vwCl [] t ∧ va_D (va_A [(h0, .inr (10, [.ref tp, .ref rd, .ref tb, .ref rg, .ref bl, .ref pa, .ref fm, .ref te, .ref hi, .ref fr, .int fd, .int rf, .int lf, .int fp])), (tb, .inr (8, [.int 0, .int lk, .int ct, .int vr, .ref a1, .ref a2, .ref a3, .ref a4]))] sz) [(h0, .inr (10, [.ref tp, .ref rd, .ref tb, .ref rg, .ref bl, .ref pa, .ref fm, .ref te, .ref hi, .ref fr, .int fd, .int 1, .int lf, .int fp])), (tb, .inr (8, [.int 0, .int lk, .int ct, .int vr, .ref a1, .ref a2, .ref a3, .ref a4]))]) (va_A [(h0, .inr (10, [.ref tp, .ref rd, .ref tb, .ref rg, .ref bl, .ref pa, .ref fm, .ref te, .ref hi, .ref fr, .int fd, .int rf, .int lf, .int fp])), (tb, .inr (8, [.int 0, .int lk, .int ct, .int vr, .ref a1, .ref a2, .ref a3, .ref a4]))] sz)) 0 0 (va_A [(h0, .inr (10, [.ref tp, .ref rd, .ref tb, .ref rg, .ref bl, .ref pa, .ref fm, .ref te, .ref hi, .ref fr, .int fd, .int rf, .int lf, .int fp])), (tb, .inr (8, [.int 0, .int lk, .int ct, .int vr, .ref a1, .ref a2, .ref a3, .ref a4]))] sz) := by
  refine Met.ofW (cc := cX10_answer) (maxL := 3) (ret := (some .int)) (by decide) rfl ?_
  intro p e s m args below meth c s₁ B hml hv
  obtain ⟨rfl, hsz, hP, hK, hD0⟩ := hv
  have hx := B.exec
  have hb := B.bytes
  have hr := B.returns
  have hts := atoms_spec (ws := wsX10_answer) B.pre
  have hown : s.vm.findClass RX10 = some m.cls := findClass_of_methodNamed B.named
  have hlocks := B.notSynchronized
  subst hsz
  have hD := hD0.self (sz := s.heap.size)
  generalize hAe : va_A [(h0, .inr (10, [.ref tp, .ref rd, .ref tb, .ref rg, .ref bl, .ref pa, .ref fm, .ref te, .ref hi, .ref fr, .int fd, .int rf, .int lf, .int fp])), (tb, .inr (8, [.int 0, .int lk, .int ct, .int vr, .ref a1, .ref a2, .ref a3, .ref a4]))] s.heap.size = A at hD ⊢
  have hA : ∀ q : Nat, s.heap.size ≤ q → A q := fun q h => by rw [← hAe]; exact Or.inr h
  have hS : va_S A s.heap s.heap [] := va_S.rf
  have hP : va_P (dC, dI) vwCl [(h0, .inr (10, [.ref tp, .ref rd, .ref tb, .ref rg, .ref bl, .ref pa, .ref fm, .ref te, .ref hi, .ref fr, .int fd, .int rf, .int lf, .int fp])), (tb, .inr (8, [.int 0, .int lk, .int ct, .int vr, .ref a1, .ref a2, .ref a3, .ref a4]))] s.heap := hP
  have hl := lv_entry ([.ref h0, .int p0]) (n := 3) (Nat.le_of_ble_eq_true rfl)
  rw [lg_entry_eq]
  generalize (lg_sl ([.ref h0, .int p0]) ++ List.replicate (3 - (lg_sl ([.ref h0, .int p0])).length) Slot.unset).toArray = ls at hl ⊢
  have hl : lv_has ls 3 [(0, .ref h0), (1, .int p0)] := hl
  refine lv_aload_n hx hb dX10_answer_0 rfl (lv_at hl 0 rfl) ?_
  have hPc := hP.sub (ws' := [(h0, .inr (10, [.ref tp, .ref rd, .ref tb, .ref rg, .ref bl, .ref pa, .ref fm, .ref te, .ref hi, .ref fr, .int fd, .int rf, .int lf, .int fp])), (tb, .inr (8, [.int 0, .int lk, .int ct, .int vr, .ref a1, .ref a2, .ref a3, .ref a4]))]) [0, 1] rfl
  have hDc := hD.sub (ws' := [(h0, .inr (10, [.ref tp, .ref rd, .ref tb, .ref rg, .ref bl, .ref pa, .ref fm, .ref te, .ref hi, .ref fr, .int fd, .int rf, .int lf, .int fp])), (tb, .inr (8, [.int 0, .int lk, .int ct, .int vr, .ref a1, .ref a2, .ref a3, .ref a4]))]) [0, 1] (by decide) rfl
  have hKc := hK.sub (tys' := []) [] rfl
  have hFc := va_free (wc := [(h0, .inr (10, [.ref tp, .ref rd, .ref tb, .ref rg, .ref bl, .ref pa, .ref fm, .ref te, .ref hi, .ref fr, .int fd, .int rf, .int lf, .int fp])), (tb, .inr (8, [.int 0, .int lk, .int ct, .int vr, .ref a1, .ref a2, .ref a3, .ref a4]))]) hD hS hA [0, 1] rfl
  refine va_calli (va_runV (As := []) (rest := []) ⟨hx, hb, hml, hown, hts⟩ (c_noBook l dC dI s.heap.size h0 tp rd tb rg bl pa fm te hi fr fd rf lf fp lk ct vr a1 a2 a3 a4) (cwV 0 hts gX10_answer_X10_noBook rfl rfl rfl (by decide +kernel) ⟨Nat.le_of_ble_eq_true rfl, Nat.le_of_ble_eq_true rfl⟩) ⟨fun a U g mk q => by obtain ⟨q0, q1, qP, qK, qD⟩ := q; exact ⟨q0, q1, qP, va_K.moved (u := U) (U := U.calling g mk a) (Vm.Alike.refl U.vm) qK, qD⟩, va_recv hKc hPc (ci := 10) (q0 := 0) rfl rfl, fun U hU hW => ⟨rfl, by rw [hU], by rw [hU]; exact hPc, va_K.moved hW.alike hKc, hDc.weaken (fun _ _ _ _ => trivial)⟩⟩ rfl rfl hl.1 rfl (lv_room (Nat.le_of_ble_eq_true rfl)) dX10_answer_1 ⟨Nat.le_of_ble_eq_true rfl, Nat.le_of_ble_eq_true rfl⟩) hS (fun q _ h => hFc q h) hFc (fun r_1 u t H1 locs ht hvm hw hB hz1 hk1 hS => ?_)
  obtain ⟨hP1, hK1, hD1⟩ := hB
  rw [ht] at hP1
  have hK1 := va_K.moved hvm.symm hK1
  try dsimp only at hw
  obtain ⟨hP, hD⟩ := va_join (wr := []) (w1 := [(h0, .inr (10, [.ref tp, .ref rd, .ref tb, .ref rg, .ref bl, .ref pa, .ref fm, .ref te, .ref hi, .ref fr, .int fd, .int rf, .int lf, .int fp])), (tb, .inr (8, [.int 0, .int lk, .int ct, .int vr, .ref a1, .ref a2, .ref a3, .ref a4]))]) hP hD [0, 1] [] rfl rfl (by decide) (by decide) hk1 hFc hP1 hD1
  have hK := (hK.sub (tys' := []) [] rfl).app hK1
  generalize H1 = H at hP hS ⊢
  have hP : va_P (dC, dI) vwCl [(h0, .inr (10, [.ref tp, .ref rd, .ref tb, .ref rg, .ref bl, .ref pa, .ref fm, .ref te, .ref hi, .ref fr, .int fd, .int rf, .int lf, .int fp])), (tb, .inr (8, [.int 0, .int lk, .int ct, .int vr, .ref a1, .ref a2, .ref a3, .ref a4]))] H := hP
  have hD : va_D A [(h0, .inr (10, [.ref tp, .ref rd, .ref tb, .ref rg, .ref bl, .ref pa, .ref fm, .ref te, .ref hi, .ref fr, .int fd, .int rf, .int lf, .int fp])), (tb, .inr (8, [.int 0, .int lk, .int ct, .int vr, .ref a1, .ref a2, .ref a3, .ref a4]))] := hD
  have hK : va_K (dC, dI) vwCl [] s := hK
  refine W.widen (k := 0) (n := 0) (by omega) (by omega) ?_
  have er_1 : r_1 = 1 := hw
  subst er_1
  refine lv_if_eq (tgt := 11) hx hb dX10_answer_4 (by decide) (fun c_2 => absurd c_2 (by decide)) (fun c_2 => ?_)
  refine lv_iconst (v := (-1)) hx hb dX10_answer_7 (by decide) ?_
  refine lv_goto (tgt := 19) hx hb dX10_answer_8 (by decide) ?_
  refine lv_istore_n (lv' := [(2, .int ((-1))), (0, .ref h0), (1, .int p0)]) hx hb dX10_answer_19 rfl hl (by decide) rfl (fun ls hl => ?_)
  refine lv_iload_n hx hb dX10_answer_20 rfl (lv_at hl 0 rfl) ?_
  refine lv_if_ge (tgt := 32) hx hb dX10_answer_21 (by decide) (fun c_3 => absurd c_3 (by decide)) (fun c_3 => ?_)
  refine lv_aload_n hx hb dX10_answer_24 rfl (lv_at hl 1 rfl) ?_
  refine lv_iconst (v := 1) hx hb dX10_answer_25 (by decide) ?_
  have hPc := hP.sub (ws' := [(h0, .inr (10, [.ref tp, .ref rd, .ref tb, .ref rg, .ref bl, .ref pa, .ref fm, .ref te, .ref hi, .ref fr, .int fd, .int rf, .int lf, .int fp]))]) [0] rfl
  have hDc := hD.sub (ws' := [(h0, .inr (10, [.ref tp, .ref rd, .ref tb, .ref rg, .ref bl, .ref pa, .ref fm, .ref te, .ref hi, .ref fr, .int fd, .int rf, .int lf, .int fp]))]) [0] (by decide) rfl
  have hKc := hK.sub (tys' := []) [] rfl
  have hFc := va_free (wc := [(h0, .inr (10, [.ref tp, .ref rd, .ref tb, .ref rg, .ref bl, .ref pa, .ref fm, .ref te, .ref hi, .ref fr, .int fd, .int rf, .int lf, .int fp]))]) hD hS hA [0] rfl
  refine va_calli (va_runV (As := [.int 1]) (rest := []) ⟨hx, hb, hml, hown, hts⟩ (c_refused l dC dI H.size h0 tp rd tb rg bl pa fm te hi fr fd rf lf fp 1) (cwV 1 hts gX10_answer_X10_refused rfl rfl rfl (by decide +kernel) ⟨Nat.le_of_ble_eq_true rfl, Nat.le_of_ble_eq_true rfl⟩) ⟨fun a U g mk q => by obtain ⟨q0, q1, qP, qK, qD⟩ := q; exact ⟨q0, q1, qP, va_K.moved (u := U) (U := U.calling g mk a) (Vm.Alike.refl U.vm) qK, qD⟩, va_recv hKc hPc (ci := 10) (q0 := 0) rfl rfl, fun U hU hW => ⟨rfl, by rw [hU], by rw [hU]; exact hPc, va_K.moved hW.alike hKc, hDc.weaken (fun _ _ _ _ => trivial)⟩⟩ rfl rfl hl.1 rfl (lv_room (Nat.le_of_ble_eq_true rfl)) dX10_answer_26 ⟨Nat.le_of_ble_eq_true rfl, Nat.le_of_ble_eq_true rfl⟩) hS (fun q _ h => hFc q h) hFc (fun r_4 u t H1 locs ht hvm hw hB hz1 hk1 hS => ?_)
  obtain ⟨hP1, hK1, hD1⟩ := hB
  rw [ht] at hP1
  have hK1 := va_K.moved hvm.symm hK1
  try dsimp only at hw
  obtain ⟨hP, hD⟩ := va_join (wr := [(tb, .inr (8, [.int 0, .int lk, .int ct, .int vr, .ref a1, .ref a2, .ref a3, .ref a4]))]) (w1 := [(h0, .inr (10, [.ref tp, .ref rd, .ref tb, .ref rg, .ref bl, .ref pa, .ref fm, .ref te, .ref hi, .ref fr, .int fd, .int 1, .int lf, .int fp]))]) hP hD [0] [1] rfl rfl (by decide) (by decide) hk1 hFc hP1 hD1
  have hK := (hK.sub (tys' := []) [] rfl).app hK1
  generalize H1 = H at hP hS ⊢
  have hP : va_P (dC, dI) vwCl [(tb, .inr (8, [.int 0, .int lk, .int ct, .int vr, .ref a1, .ref a2, .ref a3, .ref a4])), (h0, .inr (10, [.ref tp, .ref rd, .ref tb, .ref rg, .ref bl, .ref pa, .ref fm, .ref te, .ref hi, .ref fr, .int fd, .int 1, .int lf, .int fp]))] H := hP
  have hD : va_D A [(tb, .inr (8, [.int 0, .int lk, .int ct, .int vr, .ref a1, .ref a2, .ref a3, .ref a4])), (h0, .inr (10, [.ref tp, .ref rd, .ref tb, .ref rg, .ref bl, .ref pa, .ref fm, .ref te, .ref hi, .ref fr, .int fd, .int 1, .int lf, .int fp]))] := hD
  have hK : va_K (dC, dI) vwCl [] s := hK
  refine W.widen (k := 0) (n := 0) (by omega) (by omega) ?_
  have er_4 : r_4 = (-1) := hw
  subst er_4
  refine lv_goto (tgt := 37) hx hb dX10_answer_29 (by decide) ?_
  have hP9 := hP.sub (ws' := [(h0, .inr (10, [.ref tp, .ref rd, .ref tb, .ref rg, .ref bl, .ref pa, .ref fm, .ref te, .ref hi, .ref fr, .int fd, .int 1, .int lf, .int fp])), (tb, .inr (8, [.int 0, .int lk, .int ct, .int vr, .ref a1, .ref a2, .ref a3, .ref a4]))]) [1, 0] rfl
  have hD9 := hD.sub (ws' := [(h0, .inr (10, [.ref tp, .ref rd, .ref tb, .ref rg, .ref bl, .ref pa, .ref fm, .ref te, .ref hi, .ref fr, .int fd, .int 1, .int lf, .int fp])), (tb, .inr (8, [.int 0, .int lk, .int ct, .int vr, .ref a1, .ref a2, .ref a3, .ref a4]))]) [1, 0] (by decide) rfl
  have hK9 := hK.sub (tys' := []) [] rfl
  refine W.widen (k := 0) (n := 0) (Nat.le_of_ble_eq_true rfl) (Nat.le_of_ble_eq_true rfl) ?_
  exact W.iret (v := (-1)) hx hb hr (fun t ht hW => ⟨⟨(-1), (), rfl, rfl, by rw [ht]; exact hP9, va_K.moved hW.alike hK9, hD9⟩, hS.F ht⟩) hS.2.2 dX10_answer_37

set_option maxHeartbeats 4000000 in
set_option maxRecDepth 100000 in
/-- disturbed without a BOOK -/
theorem c_disturbed_0 (l : Launch) (dC : Nat → ClassId) (dI : Nat → Nat → Nat) (sz : Nat) (h0 : Nat) (tp : Nat) (rd : Nat) (tb : Nat) (rg : Nat) (bl : Nat) (pa : Nat) (fm : Nat) (te : Nat) (hi : Nat) (fr : Nat) (fd : Int32) (rf : Int32) (lf : Int32) (fp : Int32) (lk : Int32) (ct : Int32) (vr : Int32) (a1 : Nat) (a2 : Nat) (a3 : Nat) (a4 : Nat)  : Met l yX10_disturbed wsX10_disturbed ({ frames := 1, cells := 0, slots := 0, locals := 21 }) (va_Pc [.ref h0] (fun U => U.heap.size = sz ∧ va_P (dC, dI) vwCl [(h0, .inr (10, [.ref tp, .ref rd, .ref tb, .ref rg, .ref bl, .ref pa, .ref fm, .ref te, .ref hi, .ref fr, .int fd, .int rf, .int lf, .int fp])), (tb, .inr (8, [.int 0, .int lk, .int ct, .int vr, .ref a1, .ref a2, .ref a3, .ref a4]))] U.heap ∧ va_K (dC, dI) vwCl [] U ∧ va_D (fun _ => True) [(h0, .inr (10, [.ref tp, .ref rd, .ref tb, .ref rg, .ref bl, .ref pa, .ref fm, .ref te, .ref hi, .ref fr, .int fd, .int rf, .int lf, .int fp])), (tb, .inr (8, [.int 0, .int lk, .int ct, .int vr, .ref a1, .ref a2, .ref a3, .ref a4]))])) (va_Qi (fun (r : Int32) (_ : Unit) => r = (-1)) (fun _ t => va_P (dC, dI) vwCl [(h0, .inr (10, [.ref tp, .ref rd, .ref tb, .ref rg, .ref bl, .ref pa, .ref fm, .ref te, .ref hi, .ref fr, .int fd, .int 1, .int lf, .int fp])), (tb, .inr (8, [.int 0, .int lk, .int ct, .int vr, .ref a1, .ref a2, .ref a3, .ref a4]))] t.heap ∧ va_K (dC, dI) vwCl [] t ∧ va_D (va_A [(h0, .inr (10, [.ref tp, .ref rd, .ref tb, .ref rg, .ref bl, .ref pa, .ref fm, .ref te, .ref hi, .ref fr, .int fd, .int rf, .int lf, .int fp])), (tb, .inr (8, [.int 0, .int lk, .int ct, .int vr, .ref a1, .ref a2, .ref a3, .ref a4]))] sz) [(h0, .inr (10, [.ref tp, .ref rd, .ref tb, .ref rg, .ref bl, .ref pa, .ref fm, .ref te, .ref hi, .ref fr, .int fd, .int 1, .int lf, .int fp])), (tb, .inr (8, [.int 0, .int lk, .int ct, .int vr, .ref a1, .ref a2, .ref a3, .ref a4]))]) (va_A [(h0, .inr (10, [.ref tp, .ref rd, .ref tb, .ref rg, .ref bl, .ref pa, .ref fm, .ref te, .ref hi, .ref fr, .int fd, .int rf, .int lf, .int fp])), (tb, .inr (8, [.int 0, .int lk, .int ct, .int vr, .ref a1, .ref a2, .ref a3, .ref a4]))] sz)) 0 0 (va_A [(h0, .inr (10, [.ref tp, .ref rd, .ref tb, .ref rg, .ref bl, .ref pa, .ref fm, .ref te, .ref hi, .ref fr, .int fd, .int rf, .int lf, .int fp])), (tb, .inr (8, [.int 0, .int lk, .int ct, .int vr, .ref a1, .ref a2, .ref a3, .ref a4]))] sz) := by
  refine Met.ofW (cc := cX10_disturbed) (maxL := 1) (ret := (some .int)) (by decide) rfl ?_
  intro p e s m args below meth c s₁ B hml hv
  obtain ⟨rfl, hsz, hP, hK, hD0⟩ := hv
  have hx := B.exec
  have hb := B.bytes
  have hr := B.returns
  have hts := atoms_spec (ws := wsX10_disturbed) B.pre
  have hown : s.vm.findClass RX10 = some m.cls := findClass_of_methodNamed B.named
  have hlocks := B.notSynchronized
  subst hsz
  have hD := hD0.self (sz := s.heap.size)
  generalize hAe : va_A [(h0, .inr (10, [.ref tp, .ref rd, .ref tb, .ref rg, .ref bl, .ref pa, .ref fm, .ref te, .ref hi, .ref fr, .int fd, .int rf, .int lf, .int fp])), (tb, .inr (8, [.int 0, .int lk, .int ct, .int vr, .ref a1, .ref a2, .ref a3, .ref a4]))] s.heap.size = A at hD ⊢
  have hA : ∀ q : Nat, s.heap.size ≤ q → A q := fun q h => by rw [← hAe]; exact Or.inr h
  have hS : va_S A s.heap s.heap [] := va_S.rf
  have hP : va_P (dC, dI) vwCl [(h0, .inr (10, [.ref tp, .ref rd, .ref tb, .ref rg, .ref bl, .ref pa, .ref fm, .ref te, .ref hi, .ref fr, .int fd, .int rf, .int lf, .int fp])), (tb, .inr (8, [.int 0, .int lk, .int ct, .int vr, .ref a1, .ref a2, .ref a3, .ref a4]))] s.heap := hP
  have hl := lv_entry ([.ref h0]) (n := 1) (Nat.le_of_ble_eq_true rfl)
  rw [lg_entry_eq]
  generalize (lg_sl ([.ref h0]) ++ List.replicate (1 - (lg_sl ([.ref h0])).length) Slot.unset).toArray = ls at hl ⊢
  have hl : lv_has ls 1 [(0, .ref h0)] := hl
  refine lv_aload_n hx hb dX10_disturbed_0 rfl (lv_at hl 0 rfl) ?_
  have hPc := hP.sub (ws' := [(h0, .inr (10, [.ref tp, .ref rd, .ref tb, .ref rg, .ref bl, .ref pa, .ref fm, .ref te, .ref hi, .ref fr, .int fd, .int rf, .int lf, .int fp])), (tb, .inr (8, [.int 0, .int lk, .int ct, .int vr, .ref a1, .ref a2, .ref a3, .ref a4]))]) [0, 1] rfl
  have hDc := hD.sub (ws' := [(h0, .inr (10, [.ref tp, .ref rd, .ref tb, .ref rg, .ref bl, .ref pa, .ref fm, .ref te, .ref hi, .ref fr, .int fd, .int rf, .int lf, .int fp])), (tb, .inr (8, [.int 0, .int lk, .int ct, .int vr, .ref a1, .ref a2, .ref a3, .ref a4]))]) [0, 1] (by decide) rfl
  have hKc := hK.sub (tys' := []) [] rfl
  have hFc := va_free (wc := [(h0, .inr (10, [.ref tp, .ref rd, .ref tb, .ref rg, .ref bl, .ref pa, .ref fm, .ref te, .ref hi, .ref fr, .int fd, .int rf, .int lf, .int fp])), (tb, .inr (8, [.int 0, .int lk, .int ct, .int vr, .ref a1, .ref a2, .ref a3, .ref a4]))]) hD hS hA [0, 1] rfl
  refine va_calli (va_runV (As := []) (rest := []) ⟨hx, hb, hml, hown, hts⟩ (c_noBook l dC dI s.heap.size h0 tp rd tb rg bl pa fm te hi fr fd rf lf fp lk ct vr a1 a2 a3 a4) (cwV 0 hts gX10_disturbed_X10_noBook rfl rfl rfl (by decide +kernel) ⟨Nat.le_of_ble_eq_true rfl, Nat.le_of_ble_eq_true rfl⟩) ⟨fun a U g mk q => by obtain ⟨q0, q1, qP, qK, qD⟩ := q; exact ⟨q0, q1, qP, va_K.moved (u := U) (U := U.calling g mk a) (Vm.Alike.refl U.vm) qK, qD⟩, va_recv hKc hPc (ci := 10) (q0 := 0) rfl rfl, fun U hU hW => ⟨rfl, by rw [hU], by rw [hU]; exact hPc, va_K.moved hW.alike hKc, hDc.weaken (fun _ _ _ _ => trivial)⟩⟩ rfl rfl hl.1 rfl (lv_room (Nat.le_of_ble_eq_true rfl)) dX10_disturbed_1 ⟨Nat.le_of_ble_eq_true rfl, Nat.le_of_ble_eq_true rfl⟩) hS (fun q _ h => hFc q h) hFc (fun r_1 u t H1 locs ht hvm hw hB hz1 hk1 hS => ?_)
  obtain ⟨hP1, hK1, hD1⟩ := hB
  rw [ht] at hP1
  have hK1 := va_K.moved hvm.symm hK1
  try dsimp only at hw
  obtain ⟨hP, hD⟩ := va_join (wr := []) (w1 := [(h0, .inr (10, [.ref tp, .ref rd, .ref tb, .ref rg, .ref bl, .ref pa, .ref fm, .ref te, .ref hi, .ref fr, .int fd, .int rf, .int lf, .int fp])), (tb, .inr (8, [.int 0, .int lk, .int ct, .int vr, .ref a1, .ref a2, .ref a3, .ref a4]))]) hP hD [0, 1] [] rfl rfl (by decide) (by decide) hk1 hFc hP1 hD1
  have hK := (hK.sub (tys' := []) [] rfl).app hK1
  generalize H1 = H at hP hS ⊢
  have hP : va_P (dC, dI) vwCl [(h0, .inr (10, [.ref tp, .ref rd, .ref tb, .ref rg, .ref bl, .ref pa, .ref fm, .ref te, .ref hi, .ref fr, .int fd, .int rf, .int lf, .int fp])), (tb, .inr (8, [.int 0, .int lk, .int ct, .int vr, .ref a1, .ref a2, .ref a3, .ref a4]))] H := hP
  have hD : va_D A [(h0, .inr (10, [.ref tp, .ref rd, .ref tb, .ref rg, .ref bl, .ref pa, .ref fm, .ref te, .ref hi, .ref fr, .int fd, .int rf, .int lf, .int fp])), (tb, .inr (8, [.int 0, .int lk, .int ct, .int vr, .ref a1, .ref a2, .ref a3, .ref a4]))] := hD
  have hK : va_K (dC, dI) vwCl [] s := hK
  refine W.widen (k := 0) (n := 0) (by omega) (by omega) ?_
  have er_1 : r_1 = 1 := hw
  subst er_1
  refine lv_if_eq (tgt := 13) hx hb dX10_disturbed_4 (by decide) (fun c_2 => absurd c_2 (by decide)) (fun c_2 => ?_)
  refine lv_aload_n hx hb dX10_disturbed_7 rfl (lv_at hl 0 rfl) ?_
  refine lv_iconst (v := 1) hx hb dX10_disturbed_8 (by decide) ?_
  have hPc := hP.sub (ws' := [(h0, .inr (10, [.ref tp, .ref rd, .ref tb, .ref rg, .ref bl, .ref pa, .ref fm, .ref te, .ref hi, .ref fr, .int fd, .int rf, .int lf, .int fp]))]) [0] rfl
  have hDc := hD.sub (ws' := [(h0, .inr (10, [.ref tp, .ref rd, .ref tb, .ref rg, .ref bl, .ref pa, .ref fm, .ref te, .ref hi, .ref fr, .int fd, .int rf, .int lf, .int fp]))]) [0] (by decide) rfl
  have hKc := hK.sub (tys' := []) [] rfl
  have hFc := va_free (wc := [(h0, .inr (10, [.ref tp, .ref rd, .ref tb, .ref rg, .ref bl, .ref pa, .ref fm, .ref te, .ref hi, .ref fr, .int fd, .int rf, .int lf, .int fp]))]) hD hS hA [0] rfl
  refine va_calli (va_runV (As := [.int 1]) (rest := []) ⟨hx, hb, hml, hown, hts⟩ (c_refused l dC dI H.size h0 tp rd tb rg bl pa fm te hi fr fd rf lf fp 1) (cwV 1 hts gX10_disturbed_X10_refused rfl rfl rfl (by decide +kernel) ⟨Nat.le_of_ble_eq_true rfl, Nat.le_of_ble_eq_true rfl⟩) ⟨fun a U g mk q => by obtain ⟨q0, q1, qP, qK, qD⟩ := q; exact ⟨q0, q1, qP, va_K.moved (u := U) (U := U.calling g mk a) (Vm.Alike.refl U.vm) qK, qD⟩, va_recv hKc hPc (ci := 10) (q0 := 0) rfl rfl, fun U hU hW => ⟨rfl, by rw [hU], by rw [hU]; exact hPc, va_K.moved hW.alike hKc, hDc.weaken (fun _ _ _ _ => trivial)⟩⟩ rfl rfl hl.1 rfl (lv_room (Nat.le_of_ble_eq_true rfl)) dX10_disturbed_9 ⟨Nat.le_of_ble_eq_true rfl, Nat.le_of_ble_eq_true rfl⟩) hS (fun q _ h => hFc q h) hFc (fun r_3 u t H1 locs ht hvm hw hB hz1 hk1 hS => ?_)
  obtain ⟨hP1, hK1, hD1⟩ := hB
  rw [ht] at hP1
  have hK1 := va_K.moved hvm.symm hK1
  try dsimp only at hw
  obtain ⟨hP, hD⟩ := va_join (wr := [(tb, .inr (8, [.int 0, .int lk, .int ct, .int vr, .ref a1, .ref a2, .ref a3, .ref a4]))]) (w1 := [(h0, .inr (10, [.ref tp, .ref rd, .ref tb, .ref rg, .ref bl, .ref pa, .ref fm, .ref te, .ref hi, .ref fr, .int fd, .int 1, .int lf, .int fp]))]) hP hD [0] [1] rfl rfl (by decide) (by decide) hk1 hFc hP1 hD1
  have hK := (hK.sub (tys' := []) [] rfl).app hK1
  generalize H1 = H at hP hS ⊢
  have hP : va_P (dC, dI) vwCl [(tb, .inr (8, [.int 0, .int lk, .int ct, .int vr, .ref a1, .ref a2, .ref a3, .ref a4])), (h0, .inr (10, [.ref tp, .ref rd, .ref tb, .ref rg, .ref bl, .ref pa, .ref fm, .ref te, .ref hi, .ref fr, .int fd, .int 1, .int lf, .int fp]))] H := hP
  have hD : va_D A [(tb, .inr (8, [.int 0, .int lk, .int ct, .int vr, .ref a1, .ref a2, .ref a3, .ref a4])), (h0, .inr (10, [.ref tp, .ref rd, .ref tb, .ref rg, .ref bl, .ref pa, .ref fm, .ref te, .ref hi, .ref fr, .int fd, .int 1, .int lf, .int fp]))] := hD
  have hK : va_K (dC, dI) vwCl [] s := hK
  refine W.widen (k := 0) (n := 0) (by omega) (by omega) ?_
  have er_3 : r_3 = (-1) := hw
  subst er_3
  have hP9 := hP.sub (ws' := [(h0, .inr (10, [.ref tp, .ref rd, .ref tb, .ref rg, .ref bl, .ref pa, .ref fm, .ref te, .ref hi, .ref fr, .int fd, .int 1, .int lf, .int fp])), (tb, .inr (8, [.int 0, .int lk, .int ct, .int vr, .ref a1, .ref a2, .ref a3, .ref a4]))]) [1, 0] rfl
  have hD9 := hD.sub (ws' := [(h0, .inr (10, [.ref tp, .ref rd, .ref tb, .ref rg, .ref bl, .ref pa, .ref fm, .ref te, .ref hi, .ref fr, .int fd, .int 1, .int lf, .int fp])), (tb, .inr (8, [.int 0, .int lk, .int ct, .int vr, .ref a1, .ref a2, .ref a3, .ref a4]))]) [1, 0] (by decide) rfl
  have hK9 := hK.sub (tys' := []) [] rfl
  refine W.widen (k := 0) (n := 0) (Nat.le_of_ble_eq_true rfl) (Nat.le_of_ble_eq_true rfl) ?_
  exact W.iret (v := (-1)) hx hb hr (fun t ht hW => ⟨⟨(-1), (), rfl, rfl, by rw [ht]; exact hP9, va_K.moved hW.alike hK9, hD9⟩, hS.F ht⟩) hS.2.2 dX10_disturbed_12

set_option maxHeartbeats 4000000 in
set_option maxRecDepth 100000 in
/-- cycles without a BOOK -/
theorem c_cycles_0 (l : Launch) (dC : Nat → ClassId) (dI : Nat → Nat → Nat) (sz : Nat) (h0 : Nat) (tp : Nat) (rd : Nat) (tb : Nat) (rg : Nat) (bl : Nat) (pa : Nat) (fm : Nat) (te : Nat) (hi : Nat) (fr : Nat) (fd : Int32) (rf : Int32) (lf : Int32) (fp : Int32) (lk : Int32) (ct : Int32) (vr : Int32) (a1 : Nat) (a2 : Nat) (a3 : Nat) (a4 : Nat)  : Met l yX10_cycles wsX10_cycles ({ frames := 1, cells := 0, slots := 0, locals := 21 }) (va_Pc [.ref h0] (fun U => U.heap.size = sz ∧ va_P (dC, dI) vwCl [(h0, .inr (10, [.ref tp, .ref rd, .ref tb, .ref rg, .ref bl, .ref pa, .ref fm, .ref te, .ref hi, .ref fr, .int fd, .int rf, .int lf, .int fp])), (tb, .inr (8, [.int 0, .int lk, .int ct, .int vr, .ref a1, .ref a2, .ref a3, .ref a4]))] U.heap ∧ va_K (dC, dI) vwCl [] U ∧ va_D (fun _ => True) [(h0, .inr (10, [.ref tp, .ref rd, .ref tb, .ref rg, .ref bl, .ref pa, .ref fm, .ref te, .ref hi, .ref fr, .int fd, .int rf, .int lf, .int fp])), (tb, .inr (8, [.int 0, .int lk, .int ct, .int vr, .ref a1, .ref a2, .ref a3, .ref a4]))])) (va_Qi (fun (r : Int32) (_ : Unit) => r = (-1)) (fun _ t => va_P (dC, dI) vwCl [(h0, .inr (10, [.ref tp, .ref rd, .ref tb, .ref rg, .ref bl, .ref pa, .ref fm, .ref te, .ref hi, .ref fr, .int fd, .int 1, .int lf, .int fp])), (tb, .inr (8, [.int 0, .int lk, .int ct, .int vr, .ref a1, .ref a2, .ref a3, .ref a4]))] t.heap ∧ va_K (dC, dI) vwCl [] t ∧ va_D (va_A [(h0, .inr (10, [.ref tp, .ref rd, .ref tb, .ref rg, .ref bl, .ref pa, .ref fm, .ref te, .ref hi, .ref fr, .int fd, .int rf, .int lf, .int fp])), (tb, .inr (8, [.int 0, .int lk, .int ct, .int vr, .ref a1, .ref a2, .ref a3, .ref a4]))] sz) [(h0, .inr (10, [.ref tp, .ref rd, .ref tb, .ref rg, .ref bl, .ref pa, .ref fm, .ref te, .ref hi, .ref fr, .int fd, .int 1, .int lf, .int fp])), (tb, .inr (8, [.int 0, .int lk, .int ct, .int vr, .ref a1, .ref a2, .ref a3, .ref a4]))]) (va_A [(h0, .inr (10, [.ref tp, .ref rd, .ref tb, .ref rg, .ref bl, .ref pa, .ref fm, .ref te, .ref hi, .ref fr, .int fd, .int rf, .int lf, .int fp])), (tb, .inr (8, [.int 0, .int lk, .int ct, .int vr, .ref a1, .ref a2, .ref a3, .ref a4]))] sz)) 0 0 (va_A [(h0, .inr (10, [.ref tp, .ref rd, .ref tb, .ref rg, .ref bl, .ref pa, .ref fm, .ref te, .ref hi, .ref fr, .int fd, .int rf, .int lf, .int fp])), (tb, .inr (8, [.int 0, .int lk, .int ct, .int vr, .ref a1, .ref a2, .ref a3, .ref a4]))] sz) := by
  refine Met.ofW (cc := cX10_cycles) (maxL := 1) (ret := (some .int)) (by decide) rfl ?_
  intro p e s m args below meth c s₁ B hml hv
  obtain ⟨rfl, hsz, hP, hK, hD0⟩ := hv
  have hx := B.exec
  have hb := B.bytes
  have hr := B.returns
  have hts := atoms_spec (ws := wsX10_cycles) B.pre
  have hown : s.vm.findClass RX10 = some m.cls := findClass_of_methodNamed B.named
  have hlocks := B.notSynchronized
  subst hsz
  have hD := hD0.self (sz := s.heap.size)
  generalize hAe : va_A [(h0, .inr (10, [.ref tp, .ref rd, .ref tb, .ref rg, .ref bl, .ref pa, .ref fm, .ref te, .ref hi, .ref fr, .int fd, .int rf, .int lf, .int fp])), (tb, .inr (8, [.int 0, .int lk, .int ct, .int vr, .ref a1, .ref a2, .ref a3, .ref a4]))] s.heap.size = A at hD ⊢
  have hA : ∀ q : Nat, s.heap.size ≤ q → A q := fun q h => by rw [← hAe]; exact Or.inr h
  have hS : va_S A s.heap s.heap [] := va_S.rf
  have hP : va_P (dC, dI) vwCl [(h0, .inr (10, [.ref tp, .ref rd, .ref tb, .ref rg, .ref bl, .ref pa, .ref fm, .ref te, .ref hi, .ref fr, .int fd, .int rf, .int lf, .int fp])), (tb, .inr (8, [.int 0, .int lk, .int ct, .int vr, .ref a1, .ref a2, .ref a3, .ref a4]))] s.heap := hP
  have hl := lv_entry ([.ref h0]) (n := 1) (Nat.le_of_ble_eq_true rfl)
  rw [lg_entry_eq]
  generalize (lg_sl ([.ref h0]) ++ List.replicate (1 - (lg_sl ([.ref h0])).length) Slot.unset).toArray = ls at hl ⊢
  have hl : lv_has ls 1 [(0, .ref h0)] := hl
  refine lv_aload_n hx hb dX10_cycles_0 rfl (lv_at hl 0 rfl) ?_
  have hPc := hP.sub (ws' := [(h0, .inr (10, [.ref tp, .ref rd, .ref tb, .ref rg, .ref bl, .ref pa, .ref fm, .ref te, .ref hi, .ref fr, .int fd, .int rf, .int lf, .int fp])), (tb, .inr (8, [.int 0, .int lk, .int ct, .int vr, .ref a1, .ref a2, .ref a3, .ref a4]))]) [0, 1] rfl
  have hDc := hD.sub (ws' := [(h0, .inr (10, [.ref tp, .ref rd, .ref tb, .ref rg, .ref bl, .ref pa, .ref fm, .ref te, .ref hi, .ref fr, .int fd, .int rf, .int lf, .int fp])), (tb, .inr (8, [.int 0, .int lk, .int ct, .int vr, .ref a1, .ref a2, .ref a3, .ref a4]))]) [0, 1] (by decide) rfl
  have hKc := hK.sub (tys' := []) [] rfl
  have hFc := va_free (wc := [(h0, .inr (10, [.ref tp, .ref rd, .ref tb, .ref rg, .ref bl, .ref pa, .ref fm, .ref te, .ref hi, .ref fr, .int fd, .int rf, .int lf, .int fp])), (tb, .inr (8, [.int 0, .int lk, .int ct, .int vr, .ref a1, .ref a2, .ref a3, .ref a4]))]) hD hS hA [0, 1] rfl
  refine va_calli (va_runV (As := []) (rest := []) ⟨hx, hb, hml, hown, hts⟩ (c_noBook l dC dI s.heap.size h0 tp rd tb rg bl pa fm te hi fr fd rf lf fp lk ct vr a1 a2 a3 a4) (cwV 0 hts gX10_cycles_X10_noBook rfl rfl rfl (by decide +kernel) ⟨Nat.le_of_ble_eq_true rfl, Nat.le_of_ble_eq_true rfl⟩) ⟨fun a U g mk q => by obtain ⟨q0, q1, qP, qK, qD⟩ := q; exact ⟨q0, q1, qP, va_K.moved (u := U) (U := U.calling g mk a) (Vm.Alike.refl U.vm) qK, qD⟩, va_recv hKc hPc (ci := 10) (q0 := 0) rfl rfl, fun U hU hW => ⟨rfl, by rw [hU], by rw [hU]; exact hPc, va_K.moved hW.alike hKc, hDc.weaken (fun _ _ _ _ => trivial)⟩⟩ rfl rfl hl.1 rfl (lv_room (Nat.le_of_ble_eq_true rfl)) dX10_cycles_1 ⟨Nat.le_of_ble_eq_true rfl, Nat.le_of_ble_eq_true rfl⟩) hS (fun q _ h => hFc q h) hFc (fun r_1 u t H1 locs ht hvm hw hB hz1 hk1 hS => ?_)
  obtain ⟨hP1, hK1, hD1⟩ := hB
  rw [ht] at hP1
  have hK1 := va_K.moved hvm.symm hK1
  try dsimp only at hw
  obtain ⟨hP, hD⟩ := va_join (wr := []) (w1 := [(h0, .inr (10, [.ref tp, .ref rd, .ref tb, .ref rg, .ref bl, .ref pa, .ref fm, .ref te, .ref hi, .ref fr, .int fd, .int rf, .int lf, .int fp])), (tb, .inr (8, [.int 0, .int lk, .int ct, .int vr, .ref a1, .ref a2, .ref a3, .ref a4]))]) hP hD [0, 1] [] rfl rfl (by decide) (by decide) hk1 hFc hP1 hD1
  have hK := (hK.sub (tys' := []) [] rfl).app hK1
  generalize H1 = H at hP hS ⊢
  have hP : va_P (dC, dI) vwCl [(h0, .inr (10, [.ref tp, .ref rd, .ref tb, .ref rg, .ref bl, .ref pa, .ref fm, .ref te, .ref hi, .ref fr, .int fd, .int rf, .int lf, .int fp])), (tb, .inr (8, [.int 0, .int lk, .int ct, .int vr, .ref a1, .ref a2, .ref a3, .ref a4]))] H := hP
  have hD : va_D A [(h0, .inr (10, [.ref tp, .ref rd, .ref tb, .ref rg, .ref bl, .ref pa, .ref fm, .ref te, .ref hi, .ref fr, .int fd, .int rf, .int lf, .int fp])), (tb, .inr (8, [.int 0, .int lk, .int ct, .int vr, .ref a1, .ref a2, .ref a3, .ref a4]))] := hD
  have hK : va_K (dC, dI) vwCl [] s := hK
  refine W.widen (k := 0) (n := 0) (by omega) (by omega) ?_
  have er_1 : r_1 = 1 := hw
  subst er_1
  refine lv_if_eq (tgt := 13) hx hb dX10_cycles_4 (by decide) (fun c_2 => absurd c_2 (by decide)) (fun c_2 => ?_)
  refine lv_aload_n hx hb dX10_cycles_7 rfl (lv_at hl 0 rfl) ?_
  refine lv_iconst (v := 1) hx hb dX10_cycles_8 (by decide) ?_
  have hPc := hP.sub (ws' := [(h0, .inr (10, [.ref tp, .ref rd, .ref tb, .ref rg, .ref bl, .ref pa, .ref fm, .ref te, .ref hi, .ref fr, .int fd, .int rf, .int lf, .int fp]))]) [0] rfl
  have hDc := hD.sub (ws' := [(h0, .inr (10, [.ref tp, .ref rd, .ref tb, .ref rg, .ref bl, .ref pa, .ref fm, .ref te, .ref hi, .ref fr, .int fd, .int rf, .int lf, .int fp]))]) [0] (by decide) rfl
  have hKc := hK.sub (tys' := []) [] rfl
  have hFc := va_free (wc := [(h0, .inr (10, [.ref tp, .ref rd, .ref tb, .ref rg, .ref bl, .ref pa, .ref fm, .ref te, .ref hi, .ref fr, .int fd, .int rf, .int lf, .int fp]))]) hD hS hA [0] rfl
  refine va_calli (va_runV (As := [.int 1]) (rest := []) ⟨hx, hb, hml, hown, hts⟩ (c_refused l dC dI H.size h0 tp rd tb rg bl pa fm te hi fr fd rf lf fp 1) (cwV 1 hts gX10_cycles_X10_refused rfl rfl rfl (by decide +kernel) ⟨Nat.le_of_ble_eq_true rfl, Nat.le_of_ble_eq_true rfl⟩) ⟨fun a U g mk q => by obtain ⟨q0, q1, qP, qK, qD⟩ := q; exact ⟨q0, q1, qP, va_K.moved (u := U) (U := U.calling g mk a) (Vm.Alike.refl U.vm) qK, qD⟩, va_recv hKc hPc (ci := 10) (q0 := 0) rfl rfl, fun U hU hW => ⟨rfl, by rw [hU], by rw [hU]; exact hPc, va_K.moved hW.alike hKc, hDc.weaken (fun _ _ _ _ => trivial)⟩⟩ rfl rfl hl.1 rfl (lv_room (Nat.le_of_ble_eq_true rfl)) dX10_cycles_9 ⟨Nat.le_of_ble_eq_true rfl, Nat.le_of_ble_eq_true rfl⟩) hS (fun q _ h => hFc q h) hFc (fun r_3 u t H1 locs ht hvm hw hB hz1 hk1 hS => ?_)
  obtain ⟨hP1, hK1, hD1⟩ := hB
  rw [ht] at hP1
  have hK1 := va_K.moved hvm.symm hK1
  try dsimp only at hw
  obtain ⟨hP, hD⟩ := va_join (wr := [(tb, .inr (8, [.int 0, .int lk, .int ct, .int vr, .ref a1, .ref a2, .ref a3, .ref a4]))]) (w1 := [(h0, .inr (10, [.ref tp, .ref rd, .ref tb, .ref rg, .ref bl, .ref pa, .ref fm, .ref te, .ref hi, .ref fr, .int fd, .int 1, .int lf, .int fp]))]) hP hD [0] [1] rfl rfl (by decide) (by decide) hk1 hFc hP1 hD1
  have hK := (hK.sub (tys' := []) [] rfl).app hK1
  generalize H1 = H at hP hS ⊢
  have hP : va_P (dC, dI) vwCl [(tb, .inr (8, [.int 0, .int lk, .int ct, .int vr, .ref a1, .ref a2, .ref a3, .ref a4])), (h0, .inr (10, [.ref tp, .ref rd, .ref tb, .ref rg, .ref bl, .ref pa, .ref fm, .ref te, .ref hi, .ref fr, .int fd, .int 1, .int lf, .int fp]))] H := hP
  have hD : va_D A [(tb, .inr (8, [.int 0, .int lk, .int ct, .int vr, .ref a1, .ref a2, .ref a3, .ref a4])), (h0, .inr (10, [.ref tp, .ref rd, .ref tb, .ref rg, .ref bl, .ref pa, .ref fm, .ref te, .ref hi, .ref fr, .int fd, .int 1, .int lf, .int fp]))] := hD
  have hK : va_K (dC, dI) vwCl [] s := hK
  refine W.widen (k := 0) (n := 0) (by omega) (by omega) ?_
  have er_3 : r_3 = (-1) := hw
  subst er_3
  have hP9 := hP.sub (ws' := [(h0, .inr (10, [.ref tp, .ref rd, .ref tb, .ref rg, .ref bl, .ref pa, .ref fm, .ref te, .ref hi, .ref fr, .int fd, .int 1, .int lf, .int fp])), (tb, .inr (8, [.int 0, .int lk, .int ct, .int vr, .ref a1, .ref a2, .ref a3, .ref a4]))]) [1, 0] rfl
  have hD9 := hD.sub (ws' := [(h0, .inr (10, [.ref tp, .ref rd, .ref tb, .ref rg, .ref bl, .ref pa, .ref fm, .ref te, .ref hi, .ref fr, .int fd, .int 1, .int lf, .int fp])), (tb, .inr (8, [.int 0, .int lk, .int ct, .int vr, .ref a1, .ref a2, .ref a3, .ref a4]))]) [1, 0] (by decide) rfl
  have hK9 := hK.sub (tys' := []) [] rfl
  refine W.widen (k := 0) (n := 0) (Nat.le_of_ble_eq_true rfl) (Nat.le_of_ble_eq_true rfl) ?_
  exact W.iret (v := (-1)) hx hb hr (fun t ht hW => ⟨⟨(-1), (), rfl, rfl, by rw [ht]; exact hP9, va_K.moved hW.alike hK9, hD9⟩, hS.F ht⟩) hS.2.2 dX10_cycles_12

set_option maxHeartbeats 4000000 in
set_option maxRecDepth 100000 in
/-- cycle without a BOOK -/
theorem c_cycle_0 (l : Launch) (dC : Nat → ClassId) (dI : Nat → Nat → Nat) (sz : Nat) (h0 : Nat) (tp : Nat) (rd : Nat) (tb : Nat) (rg : Nat) (bl : Nat) (pa : Nat) (fm : Nat) (te : Nat) (hi : Nat) (fr : Nat) (fd : Int32) (rf : Int32) (lf : Int32) (fp : Int32) (lk : Int32) (ct : Int32) (vr : Int32) (a1 : Nat) (a2 : Nat) (a3 : Nat) (a4 : Nat) (p0 : Int32)  : Met l yX10_cycle wsX10_cycle ({ frames := 1, cells := 0, slots := 0, locals := 21 }) (va_Pc [.ref h0, .int p0] (fun U => U.heap.size = sz ∧ va_P (dC, dI) vwCl [(h0, .inr (10, [.ref tp, .ref rd, .ref tb, .ref rg, .ref bl, .ref pa, .ref fm, .ref te, .ref hi, .ref fr, .int fd, .int rf, .int lf, .int fp])), (tb, .inr (8, [.int 0, .int lk, .int ct, .int vr, .ref a1, .ref a2, .ref a3, .ref a4]))] U.heap ∧ va_K (dC, dI) vwCl [] U ∧ va_D (fun _ => True) [(h0, .inr (10, [.ref tp, .ref rd, .ref tb, .ref rg, .ref bl, .ref pa, .ref fm, .ref te, .ref hi, .ref fr, .int fd, .int rf, .int lf, .int fp])), (tb, .inr (8, [.int 0, .int lk, .int ct, .int vr, .ref a1, .ref a2, .ref a3, .ref a4]))])) (va_Qi (fun (r : Int32) (_ : Unit) => r = (-1)) (fun _ t => va_P (dC, dI) vwCl [(h0, .inr (10, [.ref tp, .ref rd, .ref tb, .ref rg, .ref bl, .ref pa, .ref fm, .ref te, .ref hi, .ref fr, .int fd, .int 1, .int lf, .int fp])), (tb, .inr (8, [.int 0, .int lk, .int ct, .int vr, .ref a1, .ref a2, .ref a3, .ref a4]))] t.heap ∧ va_K (dC, dI) vwCl [] t ∧ va_D (va_A [(h0, .inr (10, [.ref tp, .ref rd, .ref tb, .ref rg, .ref bl, .ref pa, .ref fm, .ref te, .ref hi, .ref fr, .int fd, .int rf, .int lf, .int fp])), (tb, .inr (8, [.int 0, .int lk, .int ct, .int vr, .ref a1, .ref a2, .ref a3, .ref a4]))] sz) [(h0, .inr (10, [.ref tp, .ref rd, .ref tb, .ref rg, .ref bl, .ref pa, .ref fm, .ref te, .ref hi, .ref fr, .int fd, .int 1, .int lf, .int fp])), (tb, .inr (8, [.int 0, .int lk, .int ct, .int vr, .ref a1, .ref a2, .ref a3, .ref a4]))]) (va_A [(h0, .inr (10, [.ref tp, .ref rd, .ref tb, .ref rg, .ref bl, .ref pa, .ref fm, .ref te, .ref hi, .ref fr, .int fd, .int rf, .int lf, .int fp])), (tb, .inr (8, [.int 0, .int lk, .int ct, .int vr, .ref a1, .ref a2, .ref a3, .ref a4]))] sz)) 0 0 (va_A [(h0, .inr (10, [.ref tp, .ref rd, .ref tb, .ref rg, .ref bl, .ref pa, .ref fm, .ref te, .ref hi, .ref fr, .int fd, .int rf, .int lf, .int fp])), (tb, .inr (8, [.int 0, .int lk, .int ct, .int vr, .ref a1, .ref a2, .ref a3, .ref a4]))] sz) := by
  refine Met.ofW (cc := cX10_cycle) (maxL := 3) (ret := (some .int)) (by decide) rfl ?_
  intro p e s m args below meth c s₁ B hml hv
  obtain ⟨rfl, hsz, hP, hK, hD0⟩ := hv
  have hx := B.exec
  have hb := B.bytes
  have hr := B.returns
  have hts := atoms_spec (ws := wsX10_cycle) B.pre
  have hown : s.vm.findClass RX10 = some m.cls := findClass_of_methodNamed B.named
  have hlocks := B.notSynchronized
  subst hsz
  have hD := hD0.self (sz := s.heap.size)
  generalize hAe : va_A [(h0, .inr (10, [.ref tp, .ref rd, .ref tb, .ref rg, .ref bl, .ref pa, .ref fm, .ref te, .ref hi, .ref fr, .int fd, .int rf, .int lf, .int fp])), (tb, .inr (8, [.int 0, .int lk, .int ct, .int vr, .ref a1, .ref a2, .ref a3, .ref a4]))] s.heap.size = A at hD ⊢
  have hA : ∀ q : Nat, s.heap.size ≤ q → A q := fun q h => by rw [← hAe]; exact Or.inr h
  have hS : va_S A s.heap s.heap [] := va_S.rf
  have hP : va_P (dC, dI) vwCl [(h0, .inr (10, [.ref tp, .ref rd, .ref tb, .ref rg, .ref bl, .ref pa, .ref fm, .ref te, .ref hi, .ref fr, .int fd, .int rf, .int lf, .int fp])), (tb, .inr (8, [.int 0, .int lk, .int ct, .int vr, .ref a1, .ref a2, .ref a3, .ref a4]))] s.heap := hP
  have hl := lv_entry ([.ref h0, .int p0]) (n := 3) (Nat.le_of_ble_eq_true rfl)
  rw [lg_entry_eq]
  generalize (lg_sl ([.ref h0, .int p0]) ++ List.replicate (3 - (lg_sl ([.ref h0, .int p0])).length) Slot.unset).toArray = ls at hl ⊢
  have hl : lv_has ls 3 [(0, .ref h0), (1, .int p0)] := hl
  refine lv_aload_n hx hb dX10_cycle_0 rfl (lv_at hl 0 rfl) ?_
  have hPc := hP.sub (ws' := [(h0, .inr (10, [.ref tp, .ref rd, .ref tb, .ref rg, .ref bl, .ref pa, .ref fm, .ref te, .ref hi, .ref fr, .int fd, .int rf, .int lf, .int fp])), (tb, .inr (8, [.int 0, .int lk, .int ct, .int vr, .ref a1, .ref a2, .ref a3, .ref a4]))]) [0, 1] rfl
  have hDc := hD.sub (ws' := [(h0, .inr (10, [.ref tp, .ref rd, .ref tb, .ref rg, .ref bl, .ref pa, .ref fm, .ref te, .ref hi, .ref fr, .int fd, .int rf, .int lf, .int fp])), (tb, .inr (8, [.int 0, .int lk, .int ct, .int vr, .ref a1, .ref a2, .ref a3, .ref a4]))]) [0, 1] (by decide) rfl
  have hKc := hK.sub (tys' := []) [] rfl
  have hFc := va_free (wc := [(h0, .inr (10, [.ref tp, .ref rd, .ref tb, .ref rg, .ref bl, .ref pa, .ref fm, .ref te, .ref hi, .ref fr, .int fd, .int rf, .int lf, .int fp])), (tb, .inr (8, [.int 0, .int lk, .int ct, .int vr, .ref a1, .ref a2, .ref a3, .ref a4]))]) hD hS hA [0, 1] rfl
  refine va_calli (va_runV (As := []) (rest := []) ⟨hx, hb, hml, hown, hts⟩ (c_noBook l dC dI s.heap.size h0 tp rd tb rg bl pa fm te hi fr fd rf lf fp lk ct vr a1 a2 a3 a4) (cwV 0 hts gX10_cycle_X10_noBook rfl rfl rfl (by decide +kernel) ⟨Nat.le_of_ble_eq_true rfl, Nat.le_of_ble_eq_true rfl⟩) ⟨fun a U g mk q => by obtain ⟨q0, q1, qP, qK, qD⟩ := q; exact ⟨q0, q1, qP, va_K.moved (u := U) (U := U.calling g mk a) (Vm.Alike.refl U.vm) qK, qD⟩, va_recv hKc hPc (ci := 10) (q0 := 0) rfl rfl, fun U hU hW => ⟨rfl, by rw [hU], by rw [hU]; exact hPc, va_K.moved hW.alike hKc, hDc.weaken (fun _ _ _ _ => trivial)⟩⟩ rfl rfl hl.1 rfl (lv_room (Nat.le_of_ble_eq_true rfl)) dX10_cycle_1 ⟨Nat.le_of_ble_eq_true rfl, Nat.le_of_ble_eq_true rfl⟩) hS (fun q _ h => hFc q h) hFc (fun r_1 u t H1 locs ht hvm hw hB hz1 hk1 hS => ?_)
  obtain ⟨hP1, hK1, hD1⟩ := hB
  rw [ht] at hP1
  have hK1 := va_K.moved hvm.symm hK1
  try dsimp only at hw
  obtain ⟨hP, hD⟩ := va_join (wr := []) (w1 := [(h0, .inr (10, [.ref tp, .ref rd, .ref tb, .ref rg, .ref bl, .ref pa, .ref fm, .ref te, .ref hi, .ref fr, .int fd, .int rf, .int lf, .int fp])), (tb, .inr (8, [.int 0, .int lk, .int ct, .int vr, .ref a1, .ref a2, .ref a3, .ref a4]))]) hP hD [0, 1] [] rfl rfl (by decide) (by decide) hk1 hFc hP1 hD1
  have hK := (hK.sub (tys' := []) [] rfl).app hK1
  generalize H1 = H at hP hS ⊢
  have hP : va_P (dC, dI) vwCl [(h0, .inr (10, [.ref tp, .ref rd, .ref tb, .ref rg, .ref bl, .ref pa, .ref fm, .ref te, .ref hi, .ref fr, .int fd, .int rf, .int lf, .int fp])), (tb, .inr (8, [.int 0, .int lk, .int ct, .int vr, .ref a1, .ref a2, .ref a3, .ref a4]))] H := hP
  have hD : va_D A [(h0, .inr (10, [.ref tp, .ref rd, .ref tb, .ref rg, .ref bl, .ref pa, .ref fm, .ref te, .ref hi, .ref fr, .int fd, .int rf, .int lf, .int fp])), (tb, .inr (8, [.int 0, .int lk, .int ct, .int vr, .ref a1, .ref a2, .ref a3, .ref a4]))] := hD
  have hK : va_K (dC, dI) vwCl [] s := hK
  refine W.widen (k := 0) (n := 0) (by omega) (by omega) ?_
  have er_1 : r_1 = 1 := hw
  subst er_1
  refine lv_if_eq (tgt := 11) hx hb dX10_cycle_4 (by decide) (fun c_2 => absurd c_2 (by decide)) (fun c_2 => ?_)
  refine lv_iconst (v := (-1)) hx hb dX10_cycle_7 (by decide) ?_
  refine lv_goto (tgt := 19) hx hb dX10_cycle_8 (by decide) ?_
  refine lv_istore_n (lv' := [(2, .int ((-1))), (0, .ref h0), (1, .int p0)]) hx hb dX10_cycle_19 rfl hl (by decide) rfl (fun ls hl => ?_)
  refine lv_iload_n hx hb dX10_cycle_20 rfl (lv_at hl 0 rfl) ?_
  refine lv_if_ge (tgt := 32) hx hb dX10_cycle_21 (by decide) (fun c_3 => absurd c_3 (by decide)) (fun c_3 => ?_)
  refine lv_aload_n hx hb dX10_cycle_24 rfl (lv_at hl 1 rfl) ?_
  refine lv_iconst (v := 1) hx hb dX10_cycle_25 (by decide) ?_
  have hPc := hP.sub (ws' := [(h0, .inr (10, [.ref tp, .ref rd, .ref tb, .ref rg, .ref bl, .ref pa, .ref fm, .ref te, .ref hi, .ref fr, .int fd, .int rf, .int lf, .int fp]))]) [0] rfl
  have hDc := hD.sub (ws' := [(h0, .inr (10, [.ref tp, .ref rd, .ref tb, .ref rg, .ref bl, .ref pa, .ref fm, .ref te, .ref hi, .ref fr, .int fd, .int rf, .int lf, .int fp]))]) [0] (by decide) rfl
  have hKc := hK.sub (tys' := []) [] rfl
  have hFc := va_free (wc := [(h0, .inr (10, [.ref tp, .ref rd, .ref tb, .ref rg, .ref bl, .ref pa, .ref fm, .ref te, .ref hi, .ref fr, .int fd, .int rf, .int lf, .int fp]))]) hD hS hA [0] rfl
  refine va_calli (va_runV (As := [.int 1]) (rest := []) ⟨hx, hb, hml, hown, hts⟩ (c_refused l dC dI H.size h0 tp rd tb rg bl pa fm te hi fr fd rf lf fp 1) (cwV 1 hts gX10_cycle_X10_refused rfl rfl rfl (by decide +kernel) ⟨Nat.le_of_ble_eq_true rfl, Nat.le_of_ble_eq_true rfl⟩) ⟨fun a U g mk q => by obtain ⟨q0, q1, qP, qK, qD⟩ := q; exact ⟨q0, q1, qP, va_K.moved (u := U) (U := U.calling g mk a) (Vm.Alike.refl U.vm) qK, qD⟩, va_recv hKc hPc (ci := 10) (q0 := 0) rfl rfl, fun U hU hW => ⟨rfl, by rw [hU], by rw [hU]; exact hPc, va_K.moved hW.alike hKc, hDc.weaken (fun _ _ _ _ => trivial)⟩⟩ rfl rfl hl.1 rfl (lv_room (Nat.le_of_ble_eq_true rfl)) dX10_cycle_26 ⟨Nat.le_of_ble_eq_true rfl, Nat.le_of_ble_eq_true rfl⟩) hS (fun q _ h => hFc q h) hFc (fun r_4 u t H1 locs ht hvm hw hB hz1 hk1 hS => ?_)
  obtain ⟨hP1, hK1, hD1⟩ := hB
  rw [ht] at hP1
  have hK1 := va_K.moved hvm.symm hK1
  try dsimp only at hw
  obtain ⟨hP, hD⟩ := va_join (wr := [(tb, .inr (8, [.int 0, .int lk, .int ct, .int vr, .ref a1, .ref a2, .ref a3, .ref a4]))]) (w1 := [(h0, .inr (10, [.ref tp, .ref rd, .ref tb, .ref rg, .ref bl, .ref pa, .ref fm, .ref te, .ref hi, .ref fr, .int fd, .int 1, .int lf, .int fp]))]) hP hD [0] [1] rfl rfl (by decide) (by decide) hk1 hFc hP1 hD1
  have hK := (hK.sub (tys' := []) [] rfl).app hK1
  generalize H1 = H at hP hS ⊢
  have hP : va_P (dC, dI) vwCl [(tb, .inr (8, [.int 0, .int lk, .int ct, .int vr, .ref a1, .ref a2, .ref a3, .ref a4])), (h0, .inr (10, [.ref tp, .ref rd, .ref tb, .ref rg, .ref bl, .ref pa, .ref fm, .ref te, .ref hi, .ref fr, .int fd, .int 1, .int lf, .int fp]))] H := hP
  have hD : va_D A [(tb, .inr (8, [.int 0, .int lk, .int ct, .int vr, .ref a1, .ref a2, .ref a3, .ref a4])), (h0, .inr (10, [.ref tp, .ref rd, .ref tb, .ref rg, .ref bl, .ref pa, .ref fm, .ref te, .ref hi, .ref fr, .int fd, .int 1, .int lf, .int fp]))] := hD
  have hK : va_K (dC, dI) vwCl [] s := hK
  refine W.widen (k := 0) (n := 0) (by omega) (by omega) ?_
  have er_4 : r_4 = (-1) := hw
  subst er_4
  refine lv_goto (tgt := 37) hx hb dX10_cycle_29 (by decide) ?_
  have hP9 := hP.sub (ws' := [(h0, .inr (10, [.ref tp, .ref rd, .ref tb, .ref rg, .ref bl, .ref pa, .ref fm, .ref te, .ref hi, .ref fr, .int fd, .int 1, .int lf, .int fp])), (tb, .inr (8, [.int 0, .int lk, .int ct, .int vr, .ref a1, .ref a2, .ref a3, .ref a4]))]) [1, 0] rfl
  have hD9 := hD.sub (ws' := [(h0, .inr (10, [.ref tp, .ref rd, .ref tb, .ref rg, .ref bl, .ref pa, .ref fm, .ref te, .ref hi, .ref fr, .int fd, .int 1, .int lf, .int fp])), (tb, .inr (8, [.int 0, .int lk, .int ct, .int vr, .ref a1, .ref a2, .ref a3, .ref a4]))]) [1, 0] (by decide) rfl
  have hK9 := hK.sub (tys' := []) [] rfl
  refine W.widen (k := 0) (n := 0) (Nat.le_of_ble_eq_true rfl) (Nat.le_of_ble_eq_true rfl) ?_
  exact W.iret (v := (-1)) hx hb hr (fun t ht hW => ⟨⟨(-1), (), rfl, rfl, by rw [ht]; exact hP9, va_K.moved hW.alike hK9, hD9⟩, hS.F ht⟩) hS.2.2 dX10_cycle_37

set_option maxHeartbeats 4000000 in
set_option maxRecDepth 100000 in
/-- widest without a BOOK -/
theorem c_widest_0 (l : Launch) (dC : Nat → ClassId) (dI : Nat → Nat → Nat) (sz : Nat) (h0 : Nat) (tp : Nat) (rd : Nat) (tb : Nat) (rg : Nat) (bl : Nat) (pa : Nat) (fm : Nat) (te : Nat) (hi : Nat) (fr : Nat) (fd : Int32) (rf : Int32) (lf : Int32) (fp : Int32) (lk : Int32) (ct : Int32) (vr : Int32) (a1 : Nat) (a2 : Nat) (a3 : Nat) (a4 : Nat)  : Met l yX10_widest wsX10_widest ({ frames := 1, cells := 0, slots := 0, locals := 21 }) (va_Pc [.ref h0] (fun U => U.heap.size = sz ∧ va_P (dC, dI) vwCl [(h0, .inr (10, [.ref tp, .ref rd, .ref tb, .ref rg, .ref bl, .ref pa, .ref fm, .ref te, .ref hi, .ref fr, .int fd, .int rf, .int lf, .int fp])), (tb, .inr (8, [.int 0, .int lk, .int ct, .int vr, .ref a1, .ref a2, .ref a3, .ref a4]))] U.heap ∧ va_K (dC, dI) vwCl [] U ∧ va_D (fun _ => True) [(h0, .inr (10, [.ref tp, .ref rd, .ref tb, .ref rg, .ref bl, .ref pa, .ref fm, .ref te, .ref hi, .ref fr, .int fd, .int rf, .int lf, .int fp])), (tb, .inr (8, [.int 0, .int lk, .int ct, .int vr, .ref a1, .ref a2, .ref a3, .ref a4]))])) (va_Qi (fun (r : Int32) (_ : Unit) => r = (-1)) (fun _ t => va_P (dC, dI) vwCl [(h0, .inr (10, [.ref tp, .ref rd, .ref tb, .ref rg, .ref bl, .ref pa, .ref fm, .ref te, .ref hi, .ref fr, .int fd, .int 1, .int lf, .int fp])), (tb, .inr (8, [.int 0, .int lk, .int ct, .int vr, .ref a1, .ref a2, .ref a3, .ref a4]))] t.heap ∧ va_K (dC, dI) vwCl [] t ∧ va_D (va_A [(h0, .inr (10, [.ref tp, .ref rd, .ref tb, .ref rg, .ref bl, .ref pa, .ref fm, .ref te, .ref hi, .ref fr, .int fd, .int rf, .int lf, .int fp])), (tb, .inr (8, [.int 0, .int lk, .int ct, .int vr, .ref a1, .ref a2, .ref a3, .ref a4]))] sz) [(h0, .inr (10, [.ref tp, .ref rd, .ref tb, .ref rg, .ref bl, .ref pa, .ref fm, .ref te, .ref hi, .ref fr, .int fd, .int 1, .int lf, .int fp])), (tb, .inr (8, [.int 0, .int lk, .int ct, .int vr, .ref a1, .ref a2, .ref a3, .ref a4]))]) (va_A [(h0, .inr (10, [.ref tp, .ref rd, .ref tb, .ref rg, .ref bl, .ref pa, .ref fm, .ref te, .ref hi, .ref fr, .int fd, .int rf, .int lf, .int fp])), (tb, .inr (8, [.int 0, .int lk, .int ct, .int vr, .ref a1, .ref a2, .ref a3, .ref a4]))] sz)) 0 0 (va_A [(h0, .inr (10, [.ref tp, .ref rd, .ref tb, .ref rg, .ref bl, .ref pa, .ref fm, .ref te, .ref hi, .ref fr, .int fd, .int rf, .int lf, .int fp])), (tb, .inr (8, [.int 0, .int lk, .int ct, .int vr, .ref a1, .ref a2, .ref a3, .ref a4]))] sz) := by
  refine Met.ofW (cc := cX10_widest) (maxL := 1) (ret := (some .int)) (by decide) rfl ?_
  intro p e s m args below meth c s₁ B hml hv
  obtain ⟨rfl, hsz, hP, hK, hD0⟩ := hv
  have hx := B.exec
  have hb := B.bytes
  have hr := B.returns
  have hts := atoms_spec (ws := wsX10_widest) B.pre
  have hown : s.vm.findClass RX10 = some m.cls := findClass_of_methodNamed B.named
  have hlocks := B.notSynchronized
  subst hsz
  have hD := hD0.self (sz := s.heap.size)
  generalize hAe : va_A [(h0, .inr (10, [.ref tp, .ref rd, .ref tb, .ref rg, .ref bl, .ref pa, .ref fm, .ref te, .ref hi, .ref fr, .int fd, .int rf, .int lf, .int fp])), (tb, .inr (8, [.int 0, .int lk, .int ct, .int vr, .ref a1, .ref a2, .ref a3, .ref a4]))] s.heap.size = A at hD ⊢
  have hA : ∀ q : Nat, s.heap.size ≤ q → A q := fun q h => by rw [← hAe]; exact Or.inr h
  have hS : va_S A s.heap s.heap [] := va_S.rf
  have hP : va_P (dC, dI) vwCl [(h0, .inr (10, [.ref tp, .ref rd, .ref tb, .ref rg, .ref bl, .ref pa, .ref fm, .ref te, .ref hi, .ref fr, .int fd, .int rf, .int lf, .int fp])), (tb, .inr (8, [.int 0, .int lk, .int ct, .int vr, .ref a1, .ref a2, .ref a3, .ref a4]))] s.heap := hP
  have hl := lv_entry ([.ref h0]) (n := 1) (Nat.le_of_ble_eq_true rfl)
  rw [lg_entry_eq]
  generalize (lg_sl ([.ref h0]) ++ List.replicate (1 - (lg_sl ([.ref h0])).length) Slot.unset).toArray = ls at hl ⊢
  have hl : lv_has ls 1 [(0, .ref h0)] := hl
  refine lv_aload_n hx hb dX10_widest_0 rfl (lv_at hl 0 rfl) ?_
  have hPc := hP.sub (ws' := [(h0, .inr (10, [.ref tp, .ref rd, .ref tb, .ref rg, .ref bl, .ref pa, .ref fm, .ref te, .ref hi, .ref fr, .int fd, .int rf, .int lf, .int fp])), (tb, .inr (8, [.int 0, .int lk, .int ct, .int vr, .ref a1, .ref a2, .ref a3, .ref a4]))]) [0, 1] rfl
  have hDc := hD.sub (ws' := [(h0, .inr (10, [.ref tp, .ref rd, .ref tb, .ref rg, .ref bl, .ref pa, .ref fm, .ref te, .ref hi, .ref fr, .int fd, .int rf, .int lf, .int fp])), (tb, .inr (8, [.int 0, .int lk, .int ct, .int vr, .ref a1, .ref a2, .ref a3, .ref a4]))]) [0, 1] (by decide) rfl
  have hKc := hK.sub (tys' := []) [] rfl
  have hFc := va_free (wc := [(h0, .inr (10, [.ref tp, .ref rd, .ref tb, .ref rg, .ref bl, .ref pa, .ref fm, .ref te, .ref hi, .ref fr, .int fd, .int rf, .int lf, .int fp])), (tb, .inr (8, [.int 0, .int lk, .int ct, .int vr, .ref a1, .ref a2, .ref a3, .ref a4]))]) hD hS hA [0, 1] rfl
  refine va_calli (va_runV (As := []) (rest := []) ⟨hx, hb, hml, hown, hts⟩ (c_noBook l dC dI s.heap.size h0 tp rd tb rg bl pa fm te hi fr fd rf lf fp lk ct vr a1 a2 a3 a4) (cwV 0 hts gX10_widest_X10_noBook rfl rfl rfl (by decide +kernel) ⟨Nat.le_of_ble_eq_true rfl, Nat.le_of_ble_eq_true rfl⟩) ⟨fun a U g mk q => by obtain ⟨q0, q1, qP, qK, qD⟩ := q; exact ⟨q0, q1, qP, va_K.moved (u := U) (U := U.calling g mk a) (Vm.Alike.refl U.vm) qK, qD⟩, va_recv hKc hPc (ci := 10) (q0 := 0) rfl rfl, fun U hU hW => ⟨rfl, by rw [hU], by rw [hU]; exact hPc, va_K.moved hW.alike hKc, hDc.weaken (fun _ _ _ _ => trivial)⟩⟩ rfl rfl hl.1 rfl (lv_room (Nat.le_of_ble_eq_true rfl)) dX10_widest_1 ⟨Nat.le_of_ble_eq_true rfl, Nat.le_of_ble_eq_true rfl⟩) hS (fun q _ h => hFc q h) hFc (fun r_1 u t H1 locs ht hvm hw hB hz1 hk1 hS => ?_)
  obtain ⟨hP1, hK1, hD1⟩ := hB
  rw [ht] at hP1
  have hK1 := va_K.moved hvm.symm hK1
  try dsimp only at hw
  obtain ⟨hP, hD⟩ := va_join (wr := []) (w1 := [(h0, .inr (10, [.ref tp, .ref rd, .ref tb, .ref rg, .ref bl, .ref pa, .ref fm, .ref te, .ref hi, .ref fr, .int fd, .int rf, .int lf, .int fp])), (tb, .inr (8, [.int 0, .int lk, .int ct, .int vr, .ref a1, .ref a2, .ref a3, .ref a4]))]) hP hD [0, 1] [] rfl rfl (by decide) (by decide) hk1 hFc hP1 hD1
  have hK := (hK.sub (tys' := []) [] rfl).app hK1
  generalize H1 = H at hP hS ⊢
  have hP : va_P (dC, dI) vwCl [(h0, .inr (10, [.ref tp, .ref rd, .ref tb, .ref rg, .ref bl, .ref pa, .ref fm, .ref te, .ref hi, .ref fr, .int fd, .int rf, .int lf, .int fp])), (tb, .inr (8, [.int 0, .int lk, .int ct, .int vr, .ref a1, .ref a2, .ref a3, .ref a4]))] H := hP
  have hD : va_D A [(h0, .inr (10, [.ref tp, .ref rd, .ref tb, .ref rg, .ref bl, .ref pa, .ref fm, .ref te, .ref hi, .ref fr, .int fd, .int rf, .int lf, .int fp])), (tb, .inr (8, [.int 0, .int lk, .int ct, .int vr, .ref a1, .ref a2, .ref a3, .ref a4]))] := hD
  have hK : va_K (dC, dI) vwCl [] s := hK
  refine W.widen (k := 0) (n := 0) (by omega) (by omega) ?_
  have er_1 : r_1 = 1 := hw
  subst er_1
  refine lv_if_eq (tgt := 13) hx hb dX10_widest_4 (by decide) (fun c_2 => absurd c_2 (by decide)) (fun c_2 => ?_)
  refine lv_aload_n hx hb dX10_widest_7 rfl (lv_at hl 0 rfl) ?_
  refine lv_iconst (v := 1) hx hb dX10_widest_8 (by decide) ?_
  have hPc := hP.sub (ws' := [(h0, .inr (10, [.ref tp, .ref rd, .ref tb, .ref rg, .ref bl, .ref pa, .ref fm, .ref te, .ref hi, .ref fr, .int fd, .int rf, .int lf, .int fp]))]) [0] rfl
  have hDc := hD.sub (ws' := [(h0, .inr (10, [.ref tp, .ref rd, .ref tb, .ref rg, .ref bl, .ref pa, .ref fm, .ref te, .ref hi, .ref fr, .int fd, .int rf, .int lf, .int fp]))]) [0] (by decide) rfl
  have hKc := hK.sub (tys' := []) [] rfl
  have hFc := va_free (wc := [(h0, .inr (10, [.ref tp, .ref rd, .ref tb, .ref rg, .ref bl, .ref pa, .ref fm, .ref te, .ref hi, .ref fr, .int fd, .int rf, .int lf, .int fp]))]) hD hS hA [0] rfl
  refine va_calli (va_runV (As := [.int 1]) (rest := []) ⟨hx, hb, hml, hown, hts⟩ (c_refused l dC dI H.size h0 tp rd tb rg bl pa fm te hi fr fd rf lf fp 1) (cwV 1 hts gX10_widest_X10_refused rfl rfl rfl (by decide +kernel) ⟨Nat.le_of_ble_eq_true rfl, Nat.le_of_ble_eq_true rfl⟩) ⟨fun a U g mk q => by obtain ⟨q0, q1, qP, qK, qD⟩ := q; exact ⟨q0, q1, qP, va_K.moved (u := U) (U := U.calling g mk a) (Vm.Alike.refl U.vm) qK, qD⟩, va_recv hKc hPc (ci := 10) (q0 := 0) rfl rfl, fun U hU hW => ⟨rfl, by rw [hU], by rw [hU]; exact hPc, va_K.moved hW.alike hKc, hDc.weaken (fun _ _ _ _ => trivial)⟩⟩ rfl rfl hl.1 rfl (lv_room (Nat.le_of_ble_eq_true rfl)) dX10_widest_9 ⟨Nat.le_of_ble_eq_true rfl, Nat.le_of_ble_eq_true rfl⟩) hS (fun q _ h => hFc q h) hFc (fun r_3 u t H1 locs ht hvm hw hB hz1 hk1 hS => ?_)
  obtain ⟨hP1, hK1, hD1⟩ := hB
  rw [ht] at hP1
  have hK1 := va_K.moved hvm.symm hK1
  try dsimp only at hw
  obtain ⟨hP, hD⟩ := va_join (wr := [(tb, .inr (8, [.int 0, .int lk, .int ct, .int vr, .ref a1, .ref a2, .ref a3, .ref a4]))]) (w1 := [(h0, .inr (10, [.ref tp, .ref rd, .ref tb, .ref rg, .ref bl, .ref pa, .ref fm, .ref te, .ref hi, .ref fr, .int fd, .int 1, .int lf, .int fp]))]) hP hD [0] [1] rfl rfl (by decide) (by decide) hk1 hFc hP1 hD1
  have hK := (hK.sub (tys' := []) [] rfl).app hK1
  generalize H1 = H at hP hS ⊢
  have hP : va_P (dC, dI) vwCl [(tb, .inr (8, [.int 0, .int lk, .int ct, .int vr, .ref a1, .ref a2, .ref a3, .ref a4])), (h0, .inr (10, [.ref tp, .ref rd, .ref tb, .ref rg, .ref bl, .ref pa, .ref fm, .ref te, .ref hi, .ref fr, .int fd, .int 1, .int lf, .int fp]))] H := hP
  have hD : va_D A [(tb, .inr (8, [.int 0, .int lk, .int ct, .int vr, .ref a1, .ref a2, .ref a3, .ref a4])), (h0, .inr (10, [.ref tp, .ref rd, .ref tb, .ref rg, .ref bl, .ref pa, .ref fm, .ref te, .ref hi, .ref fr, .int fd, .int 1, .int lf, .int fp]))] := hD
  have hK : va_K (dC, dI) vwCl [] s := hK
  refine W.widen (k := 0) (n := 0) (by omega) (by omega) ?_
  have er_3 : r_3 = (-1) := hw
  subst er_3
  have hP9 := hP.sub (ws' := [(h0, .inr (10, [.ref tp, .ref rd, .ref tb, .ref rg, .ref bl, .ref pa, .ref fm, .ref te, .ref hi, .ref fr, .int fd, .int 1, .int lf, .int fp])), (tb, .inr (8, [.int 0, .int lk, .int ct, .int vr, .ref a1, .ref a2, .ref a3, .ref a4]))]) [1, 0] rfl
  have hD9 := hD.sub (ws' := [(h0, .inr (10, [.ref tp, .ref rd, .ref tb, .ref rg, .ref bl, .ref pa, .ref fm, .ref te, .ref hi, .ref fr, .int fd, .int 1, .int lf, .int fp])), (tb, .inr (8, [.int 0, .int lk, .int ct, .int vr, .ref a1, .ref a2, .ref a3, .ref a4]))]) [1, 0] (by decide) rfl
  have hK9 := hK.sub (tys' := []) [] rfl
  refine W.widen (k := 0) (n := 0) (Nat.le_of_ble_eq_true rfl) (Nat.le_of_ble_eq_true rfl) ?_
  exact W.iret (v := (-1)) hx hb hr (fun t ht hW => ⟨⟨(-1), (), rfl, rfl, by rw [ht]; exact hP9, va_K.moved hW.alike hK9, hD9⟩, hS.F ht⟩) hS.2.2 dX10_widest_12

set_option maxHeartbeats 4000000 in
set_option maxRecDepth 100000 in
/-- wins without a BOOK -/
theorem c_wins_0 (l : Launch) (dC : Nat → ClassId) (dI : Nat → Nat → Nat) (sz : Nat) (h0 : Nat) (tp : Nat) (rd : Nat) (tb : Nat) (rg : Nat) (bl : Nat) (pa : Nat) (fm : Nat) (te : Nat) (hi : Nat) (fr : Nat) (fd : Int32) (rf : Int32) (lf : Int32) (fp : Int32) (lk : Int32) (ct : Int32) (vr : Int32) (a1 : Nat) (a2 : Nat) (a3 : Nat) (a4 : Nat)  : Met l yX10_wins wsX10_wins ({ frames := 1, cells := 0, slots := 0, locals := 21 }) (va_Pc [.ref h0] (fun U => U.heap.size = sz ∧ va_P (dC, dI) vwCl [(h0, .inr (10, [.ref tp, .ref rd, .ref tb, .ref rg, .ref bl, .ref pa, .ref fm, .ref te, .ref hi, .ref fr, .int fd, .int rf, .int lf, .int fp])), (tb, .inr (8, [.int 0, .int lk, .int ct, .int vr, .ref a1, .ref a2, .ref a3, .ref a4]))] U.heap ∧ va_K (dC, dI) vwCl [] U ∧ va_D (fun _ => True) [(h0, .inr (10, [.ref tp, .ref rd, .ref tb, .ref rg, .ref bl, .ref pa, .ref fm, .ref te, .ref hi, .ref fr, .int fd, .int rf, .int lf, .int fp])), (tb, .inr (8, [.int 0, .int lk, .int ct, .int vr, .ref a1, .ref a2, .ref a3, .ref a4]))])) (va_Qi (fun (r : Int32) (_ : Unit) => r = (-1)) (fun _ t => va_P (dC, dI) vwCl [(h0, .inr (10, [.ref tp, .ref rd, .ref tb, .ref rg, .ref bl, .ref pa, .ref fm, .ref te, .ref hi, .ref fr, .int fd, .int 1, .int lf, .int fp])), (tb, .inr (8, [.int 0, .int lk, .int ct, .int vr, .ref a1, .ref a2, .ref a3, .ref a4]))] t.heap ∧ va_K (dC, dI) vwCl [] t ∧ va_D (va_A [(h0, .inr (10, [.ref tp, .ref rd, .ref tb, .ref rg, .ref bl, .ref pa, .ref fm, .ref te, .ref hi, .ref fr, .int fd, .int rf, .int lf, .int fp])), (tb, .inr (8, [.int 0, .int lk, .int ct, .int vr, .ref a1, .ref a2, .ref a3, .ref a4]))] sz) [(h0, .inr (10, [.ref tp, .ref rd, .ref tb, .ref rg, .ref bl, .ref pa, .ref fm, .ref te, .ref hi, .ref fr, .int fd, .int 1, .int lf, .int fp])), (tb, .inr (8, [.int 0, .int lk, .int ct, .int vr, .ref a1, .ref a2, .ref a3, .ref a4]))]) (va_A [(h0, .inr (10, [.ref tp, .ref rd, .ref tb, .ref rg, .ref bl, .ref pa, .ref fm, .ref te, .ref hi, .ref fr, .int fd, .int rf, .int lf, .int fp])), (tb, .inr (8, [.int 0, .int lk, .int ct, .int vr, .ref a1, .ref a2, .ref a3, .ref a4]))] sz)) 0 0 (va_A [(h0, .inr (10, [.ref tp, .ref rd, .ref tb, .ref rg, .ref bl, .ref pa, .ref fm, .ref te, .ref hi, .ref fr, .int fd, .int rf, .int lf, .int fp])), (tb, .inr (8, [.int 0, .int lk, .int ct, .int vr, .ref a1, .ref a2, .ref a3, .ref a4]))] sz) := by
  refine Met.ofW (cc := cX10_wins) (maxL := 1) (ret := (some .int)) (by decide) rfl ?_
  intro p e s m args below meth c s₁ B hml hv
  obtain ⟨rfl, hsz, hP, hK, hD0⟩ := hv
  have hx := B.exec
  have hb := B.bytes
  have hr := B.returns
  have hts := atoms_spec (ws := wsX10_wins) B.pre
  have hown : s.vm.findClass RX10 = some m.cls := findClass_of_methodNamed B.named
  have hlocks := B.notSynchronized
  subst hsz
  have hD := hD0.self (sz := s.heap.size)
  generalize hAe : va_A [(h0, .inr (10, [.ref tp, .ref rd, .ref tb, .ref rg, .ref bl, .ref pa, .ref fm, .ref te, .ref hi, .ref fr, .int fd, .int rf, .int lf, .int fp])), (tb, .inr (8, [.int 0, .int lk, .int ct, .int vr, .ref a1, .ref a2, .ref a3, .ref a4]))] s.heap.size = A at hD ⊢
  have hA : ∀ q : Nat, s.heap.size ≤ q → A q := fun q h => by rw [← hAe]; exact Or.inr h
  have hS : va_S A s.heap s.heap [] := va_S.rf
  have hP : va_P (dC, dI) vwCl [(h0, .inr (10, [.ref tp, .ref rd, .ref tb, .ref rg, .ref bl, .ref pa, .ref fm, .ref te, .ref hi, .ref fr, .int fd, .int rf, .int lf, .int fp])), (tb, .inr (8, [.int 0, .int lk, .int ct, .int vr, .ref a1, .ref a2, .ref a3, .ref a4]))] s.heap := hP
  have hl := lv_entry ([.ref h0]) (n := 1) (Nat.le_of_ble_eq_true rfl)
  rw [lg_entry_eq]
  generalize (lg_sl ([.ref h0]) ++ List.replicate (1 - (lg_sl ([.ref h0])).length) Slot.unset).toArray = ls at hl ⊢
  have hl : lv_has ls 1 [(0, .ref h0)] := hl
  refine lv_aload_n hx hb dX10_wins_0 rfl (lv_at hl 0 rfl) ?_
  have hPc := hP.sub (ws' := [(h0, .inr (10, [.ref tp, .ref rd, .ref tb, .ref rg, .ref bl, .ref pa, .ref fm, .ref te, .ref hi, .ref fr, .int fd, .int rf, .int lf, .int fp])), (tb, .inr (8, [.int 0, .int lk, .int ct, .int vr, .ref a1, .ref a2, .ref a3, .ref a4]))]) [0, 1] rfl
  have hDc := hD.sub (ws' := [(h0, .inr (10, [.ref tp, .ref rd, .ref tb, .ref rg, .ref bl, .ref pa, .ref fm, .ref te, .ref hi, .ref fr, .int fd, .int rf, .int lf, .int fp])), (tb, .inr (8, [.int 0, .int lk, .int ct, .int vr, .ref a1, .ref a2, .ref a3, .ref a4]))]) [0, 1] (by decide) rfl
  have hKc := hK.sub (tys' := []) [] rfl
  have hFc := va_free (wc := [(h0, .inr (10, [.ref tp, .ref rd, .ref tb, .ref rg, .ref bl, .ref pa, .ref fm, .ref te, .ref hi, .ref fr, .int fd, .int rf, .int lf, .int fp])), (tb, .inr (8, [.int 0, .int lk, .int ct, .int vr, .ref a1, .ref a2, .ref a3, .ref a4]))]) hD hS hA [0, 1] rfl
  refine va_calli (va_runV (As := []) (rest := []) ⟨hx, hb, hml, hown, hts⟩ (c_noBook l dC dI s.heap.size h0 tp rd tb rg bl pa fm te hi fr fd rf lf fp lk ct vr a1 a2 a3 a4) (cwV 0 hts gX10_wins_X10_noBook rfl rfl rfl (by decide +kernel) ⟨Nat.le_of_ble_eq_true rfl, Nat.le_of_ble_eq_true rfl⟩) ⟨fun a U g mk q => by obtain ⟨q0, q1, qP, qK, qD⟩ := q; exact ⟨q0, q1, qP, va_K.moved (u := U) (U := U.calling g mk a) (Vm.Alike.refl U.vm) qK, qD⟩, va_recv hKc hPc (ci := 10) (q0 := 0) rfl rfl, fun U hU hW => ⟨rfl, by rw [hU], by rw [hU]; exact hPc, va_K.moved hW.alike hKc, hDc.weaken (fun _ _ _ _ => trivial)⟩⟩ rfl rfl hl.1 rfl (lv_room (Nat.le_of_ble_eq_true rfl)) dX10_wins_1 ⟨Nat.le_of_ble_eq_true rfl, Nat.le_of_ble_eq_true rfl⟩) hS (fun q _ h => hFc q h) hFc (fun r_1 u t H1 locs ht hvm hw hB hz1 hk1 hS => ?_)
  obtain ⟨hP1, hK1, hD1⟩ := hB
  rw [ht] at hP1
  have hK1 := va_K.moved hvm.symm hK1
  try dsimp only at hw
  obtain ⟨hP, hD⟩ := va_join (wr := []) (w1 := [(h0, .inr (10, [.ref tp, .ref rd, .ref tb, .ref rg, .ref bl, .ref pa, .ref fm, .ref te, .ref hi, .ref fr, .int fd, .int rf, .int lf, .int fp])), (tb, .inr (8, [.int 0, .int lk, .int ct, .int vr, .ref a1, .ref a2, .ref a3, .ref a4]))]) hP hD [0, 1] [] rfl rfl (by decide) (by decide) hk1 hFc hP1 hD1
  have hK := (hK.sub (tys' := []) [] rfl).app hK1
  generalize H1 = H at hP hS ⊢
  have hP : va_P (dC, dI) vwCl [(h0, .inr (10, [.ref tp, .ref rd, .ref tb, .ref rg, .ref bl, .ref pa, .ref fm, .ref te, .ref hi, .ref fr, .int fd, .int rf, .int lf, .int fp])), (tb, .inr (8, [.int 0, .int lk, .int ct, .int vr, .ref a1, .ref a2, .ref a3, .ref a4]))] H := hP
  have hD : va_D A [(h0, .inr (10, [.ref tp, .ref rd, .ref tb, .ref rg, .ref bl, .ref pa, .ref fm, .ref te, .ref hi, .ref fr, .int fd, .int rf, .int lf, .int fp])), (tb, .inr (8, [.int 0, .int lk, .int ct, .int vr, .ref a1, .ref a2, .ref a3, .ref a4]))] := hD
  have hK : va_K (dC, dI) vwCl [] s := hK
  refine W.widen (k := 0) (n := 0) (by omega) (by omega) ?_
  have er_1 : r_1 = 1 := hw
  subst er_1
  refine lv_if_eq (tgt := 13) hx hb dX10_wins_4 (by decide) (fun c_2 => absurd c_2 (by decide)) (fun c_2 => ?_)
  refine lv_aload_n hx hb dX10_wins_7 rfl (lv_at hl 0 rfl) ?_
  refine lv_iconst (v := 1) hx hb dX10_wins_8 (by decide) ?_
  have hPc := hP.sub (ws' := [(h0, .inr (10, [.ref tp, .ref rd, .ref tb, .ref rg, .ref bl, .ref pa, .ref fm, .ref te, .ref hi, .ref fr, .int fd, .int rf, .int lf, .int fp]))]) [0] rfl
  have hDc := hD.sub (ws' := [(h0, .inr (10, [.ref tp, .ref rd, .ref tb, .ref rg, .ref bl, .ref pa, .ref fm, .ref te, .ref hi, .ref fr, .int fd, .int rf, .int lf, .int fp]))]) [0] (by decide) rfl
  have hKc := hK.sub (tys' := []) [] rfl
  have hFc := va_free (wc := [(h0, .inr (10, [.ref tp, .ref rd, .ref tb, .ref rg, .ref bl, .ref pa, .ref fm, .ref te, .ref hi, .ref fr, .int fd, .int rf, .int lf, .int fp]))]) hD hS hA [0] rfl
  refine va_calli (va_runV (As := [.int 1]) (rest := []) ⟨hx, hb, hml, hown, hts⟩ (c_refused l dC dI H.size h0 tp rd tb rg bl pa fm te hi fr fd rf lf fp 1) (cwV 1 hts gX10_wins_X10_refused rfl rfl rfl (by decide +kernel) ⟨Nat.le_of_ble_eq_true rfl, Nat.le_of_ble_eq_true rfl⟩) ⟨fun a U g mk q => by obtain ⟨q0, q1, qP, qK, qD⟩ := q; exact ⟨q0, q1, qP, va_K.moved (u := U) (U := U.calling g mk a) (Vm.Alike.refl U.vm) qK, qD⟩, va_recv hKc hPc (ci := 10) (q0 := 0) rfl rfl, fun U hU hW => ⟨rfl, by rw [hU], by rw [hU]; exact hPc, va_K.moved hW.alike hKc, hDc.weaken (fun _ _ _ _ => trivial)⟩⟩ rfl rfl hl.1 rfl (lv_room (Nat.le_of_ble_eq_true rfl)) dX10_wins_9 ⟨Nat.le_of_ble_eq_true rfl, Nat.le_of_ble_eq_true rfl⟩) hS (fun q _ h => hFc q h) hFc (fun r_3 u t H1 locs ht hvm hw hB hz1 hk1 hS => ?_)
  obtain ⟨hP1, hK1, hD1⟩ := hB
  rw [ht] at hP1
  have hK1 := va_K.moved hvm.symm hK1
  try dsimp only at hw
  obtain ⟨hP, hD⟩ := va_join (wr := [(tb, .inr (8, [.int 0, .int lk, .int ct, .int vr, .ref a1, .ref a2, .ref a3, .ref a4]))]) (w1 := [(h0, .inr (10, [.ref tp, .ref rd, .ref tb, .ref rg, .ref bl, .ref pa, .ref fm, .ref te, .ref hi, .ref fr, .int fd, .int 1, .int lf, .int fp]))]) hP hD [0] [1] rfl rfl (by decide) (by decide) hk1 hFc hP1 hD1
  have hK := (hK.sub (tys' := []) [] rfl).app hK1
  generalize H1 = H at hP hS ⊢
  have hP : va_P (dC, dI) vwCl [(tb, .inr (8, [.int 0, .int lk, .int ct, .int vr, .ref a1, .ref a2, .ref a3, .ref a4])), (h0, .inr (10, [.ref tp, .ref rd, .ref tb, .ref rg, .ref bl, .ref pa, .ref fm, .ref te, .ref hi, .ref fr, .int fd, .int 1, .int lf, .int fp]))] H := hP
  have hD : va_D A [(tb, .inr (8, [.int 0, .int lk, .int ct, .int vr, .ref a1, .ref a2, .ref a3, .ref a4])), (h0, .inr (10, [.ref tp, .ref rd, .ref tb, .ref rg, .ref bl, .ref pa, .ref fm, .ref te, .ref hi, .ref fr, .int fd, .int 1, .int lf, .int fp]))] := hD
  have hK : va_K (dC, dI) vwCl [] s := hK
  refine W.widen (k := 0) (n := 0) (by omega) (by omega) ?_
  have er_3 : r_3 = (-1) := hw
  subst er_3
  have hP9 := hP.sub (ws' := [(h0, .inr (10, [.ref tp, .ref rd, .ref tb, .ref rg, .ref bl, .ref pa, .ref fm, .ref te, .ref hi, .ref fr, .int fd, .int 1, .int lf, .int fp])), (tb, .inr (8, [.int 0, .int lk, .int ct, .int vr, .ref a1, .ref a2, .ref a3, .ref a4]))]) [1, 0] rfl
  have hD9 := hD.sub (ws' := [(h0, .inr (10, [.ref tp, .ref rd, .ref tb, .ref rg, .ref bl, .ref pa, .ref fm, .ref te, .ref hi, .ref fr, .int fd, .int 1, .int lf, .int fp])), (tb, .inr (8, [.int 0, .int lk, .int ct, .int vr, .ref a1, .ref a2, .ref a3, .ref a4]))]) [1, 0] (by decide) rfl
  have hK9 := hK.sub (tys' := []) [] rfl
  refine W.widen (k := 0) (n := 0) (Nat.le_of_ble_eq_true rfl) (Nat.le_of_ble_eq_true rfl) ?_
  exact W.iret (v := (-1)) hx hb hr (fun t ht hW => ⟨⟨(-1), (), rfl, rfl, by rw [ht]; exact hP9, va_K.moved hW.alike hK9, hD9⟩, hS.F ht⟩) hS.2.2 dX10_wins_12

set_option maxHeartbeats 4000000 in
set_option maxRecDepth 100000 in
/-- worst without a BOOK -/
theorem c_worst_0 (l : Launch) (dC : Nat → ClassId) (dI : Nat → Nat → Nat) (sz : Nat) (h0 : Nat) (tp : Nat) (rd : Nat) (tb : Nat) (rg : Nat) (bl : Nat) (pa : Nat) (fm : Nat) (te : Nat) (hi : Nat) (fr : Nat) (fd : Int32) (rf : Int32) (lf : Int32) (fp : Int32) (lk : Int32) (ct : Int32) (vr : Int32) (a1 : Nat) (a2 : Nat) (a3 : Nat) (a4 : Nat)  : Met l yX10_worst wsX10_worst ({ frames := 1, cells := 0, slots := 0, locals := 21 }) (va_Pc [.ref h0] (fun U => U.heap.size = sz ∧ va_P (dC, dI) vwCl [(h0, .inr (10, [.ref tp, .ref rd, .ref tb, .ref rg, .ref bl, .ref pa, .ref fm, .ref te, .ref hi, .ref fr, .int fd, .int rf, .int lf, .int fp])), (tb, .inr (8, [.int 0, .int lk, .int ct, .int vr, .ref a1, .ref a2, .ref a3, .ref a4]))] U.heap ∧ va_K (dC, dI) vwCl [] U ∧ va_D (fun _ => True) [(h0, .inr (10, [.ref tp, .ref rd, .ref tb, .ref rg, .ref bl, .ref pa, .ref fm, .ref te, .ref hi, .ref fr, .int fd, .int rf, .int lf, .int fp])), (tb, .inr (8, [.int 0, .int lk, .int ct, .int vr, .ref a1, .ref a2, .ref a3, .ref a4]))])) (va_Qi (fun (r : Int32) (_ : Unit) => r = (-1)) (fun _ t => va_P (dC, dI) vwCl [(h0, .inr (10, [.ref tp, .ref rd, .ref tb, .ref rg, .ref bl, .ref pa, .ref fm, .ref te, .ref hi, .ref fr, .int fd, .int 1, .int lf, .int fp])), (tb, .inr (8, [.int 0, .int lk, .int ct, .int vr, .ref a1, .ref a2, .ref a3, .ref a4]))] t.heap ∧ va_K (dC, dI) vwCl [] t ∧ va_D (va_A [(h0, .inr (10, [.ref tp, .ref rd, .ref tb, .ref rg, .ref bl, .ref pa, .ref fm, .ref te, .ref hi, .ref fr, .int fd, .int rf, .int lf, .int fp])), (tb, .inr (8, [.int 0, .int lk, .int ct, .int vr, .ref a1, .ref a2, .ref a3, .ref a4]))] sz) [(h0, .inr (10, [.ref tp, .ref rd, .ref tb, .ref rg, .ref bl, .ref pa, .ref fm, .ref te, .ref hi, .ref fr, .int fd, .int 1, .int lf, .int fp])), (tb, .inr (8, [.int 0, .int lk, .int ct, .int vr, .ref a1, .ref a2, .ref a3, .ref a4]))]) (va_A [(h0, .inr (10, [.ref tp, .ref rd, .ref tb, .ref rg, .ref bl, .ref pa, .ref fm, .ref te, .ref hi, .ref fr, .int fd, .int rf, .int lf, .int fp])), (tb, .inr (8, [.int 0, .int lk, .int ct, .int vr, .ref a1, .ref a2, .ref a3, .ref a4]))] sz)) 0 0 (va_A [(h0, .inr (10, [.ref tp, .ref rd, .ref tb, .ref rg, .ref bl, .ref pa, .ref fm, .ref te, .ref hi, .ref fr, .int fd, .int rf, .int lf, .int fp])), (tb, .inr (8, [.int 0, .int lk, .int ct, .int vr, .ref a1, .ref a2, .ref a3, .ref a4]))] sz) := by
  refine Met.ofW (cc := cX10_worst) (maxL := 1) (ret := (some .int)) (by decide) rfl ?_
  intro p e s m args below meth c s₁ B hml hv
  obtain ⟨rfl, hsz, hP, hK, hD0⟩ := hv
  have hx := B.exec
  have hb := B.bytes
  have hr := B.returns
  have hts := atoms_spec (ws := wsX10_worst) B.pre
  have hown : s.vm.findClass RX10 = some m.cls := findClass_of_methodNamed B.named
  have hlocks := B.notSynchronized
  subst hsz
  have hD := hD0.self (sz := s.heap.size)
  generalize hAe : va_A [(h0, .inr (10, [.ref tp, .ref rd, .ref tb, .ref rg, .ref bl, .ref pa, .ref fm, .ref te, .ref hi, .ref fr, .int fd, .int rf, .int lf, .int fp])), (tb, .inr (8, [.int 0, .int lk, .int ct, .int vr, .ref a1, .ref a2, .ref a3, .ref a4]))] s.heap.size = A at hD ⊢
  have hA : ∀ q : Nat, s.heap.size ≤ q → A q := fun q h => by rw [← hAe]; exact Or.inr h
  have hS : va_S A s.heap s.heap [] := va_S.rf
  have hP : va_P (dC, dI) vwCl [(h0, .inr (10, [.ref tp, .ref rd, .ref tb, .ref rg, .ref bl, .ref pa, .ref fm, .ref te, .ref hi, .ref fr, .int fd, .int rf, .int lf, .int fp])), (tb, .inr (8, [.int 0, .int lk, .int ct, .int vr, .ref a1, .ref a2, .ref a3, .ref a4]))] s.heap := hP
  have hl := lv_entry ([.ref h0]) (n := 1) (Nat.le_of_ble_eq_true rfl)
  rw [lg_entry_eq]
  generalize (lg_sl ([.ref h0]) ++ List.replicate (1 - (lg_sl ([.ref h0])).length) Slot.unset).toArray = ls at hl ⊢
  have hl : lv_has ls 1 [(0, .ref h0)] := hl
  refine lv_aload_n hx hb dX10_worst_0 rfl (lv_at hl 0 rfl) ?_
  have hPc := hP.sub (ws' := [(h0, .inr (10, [.ref tp, .ref rd, .ref tb, .ref rg, .ref bl, .ref pa, .ref fm, .ref te, .ref hi, .ref fr, .int fd, .int rf, .int lf, .int fp])), (tb, .inr (8, [.int 0, .int lk, .int ct, .int vr, .ref a1, .ref a2, .ref a3, .ref a4]))]) [0, 1] rfl
  have hDc := hD.sub (ws' := [(h0, .inr (10, [.ref tp, .ref rd, .ref tb, .ref rg, .ref bl, .ref pa, .ref fm, .ref te, .ref hi, .ref fr, .int fd, .int rf, .int lf, .int fp])), (tb, .inr (8, [.int 0, .int lk, .int ct, .int vr, .ref a1, .ref a2, .ref a3, .ref a4]))]) [0, 1] (by decide) rfl
  have hKc := hK.sub (tys' := []) [] rfl
  have hFc := va_free (wc := [(h0, .inr (10, [.ref tp, .ref rd, .ref tb, .ref rg, .ref bl, .ref pa, .ref fm, .ref te, .ref hi, .ref fr, .int fd, .int rf, .int lf, .int fp])), (tb, .inr (8, [.int 0, .int lk, .int ct, .int vr, .ref a1, .ref a2, .ref a3, .ref a4]))]) hD hS hA [0, 1] rfl
  refine va_calli (va_runV (As := []) (rest := []) ⟨hx, hb, hml, hown, hts⟩ (c_noBook l dC dI s.heap.size h0 tp rd tb rg bl pa fm te hi fr fd rf lf fp lk ct vr a1 a2 a3 a4) (cwV 0 hts gX10_worst_X10_noBook rfl rfl rfl (by decide +kernel) ⟨Nat.le_of_ble_eq_true rfl, Nat.le_of_ble_eq_true rfl⟩) ⟨fun a U g mk q => by obtain ⟨q0, q1, qP, qK, qD⟩ := q; exact ⟨q0, q1, qP, va_K.moved (u := U) (U := U.calling g mk a) (Vm.Alike.refl U.vm) qK, qD⟩, va_recv hKc hPc (ci := 10) (q0 := 0) rfl rfl, fun U hU hW => ⟨rfl, by rw [hU], by rw [hU]; exact hPc, va_K.moved hW.alike hKc, hDc.weaken (fun _ _ _ _ => trivial)⟩⟩ rfl rfl hl.1 rfl (lv_room (Nat.le_of_ble_eq_true rfl)) dX10_worst_1 ⟨Nat.le_of_ble_eq_true rfl, Nat.le_of_ble_eq_true rfl⟩) hS (fun q _ h => hFc q h) hFc (fun r_1 u t H1 locs ht hvm hw hB hz1 hk1 hS => ?_)
  obtain ⟨hP1, hK1, hD1⟩ := hB
  rw [ht] at hP1
  have hK1 := va_K.moved hvm.symm hK1
  try dsimp only at hw
  obtain ⟨hP, hD⟩ := va_join (wr := []) (w1 := [(h0, .inr (10, [.ref tp, .ref rd, .ref tb, .ref rg, .ref bl, .ref pa, .ref fm, .ref te, .ref hi, .ref fr, .int fd, .int rf, .int lf, .int fp])), (tb, .inr (8, [.int 0, .int lk, .int ct, .int vr, .ref a1, .ref a2, .ref a3, .ref a4]))]) hP hD [0, 1] [] rfl rfl (by decide) (by decide) hk1 hFc hP1 hD1
  have hK := (hK.sub (tys' := []) [] rfl).app hK1
  generalize H1 = H at hP hS ⊢
  have hP : va_P (dC, dI) vwCl [(h0, .inr (10, [.ref tp, .ref rd, .ref tb, .ref rg, .ref bl, .ref pa, .ref fm, .ref te, .ref hi, .ref fr, .int fd, .int rf, .int lf, .int fp])), (tb, .inr (8, [.int 0, .int lk, .int ct, .int vr, .ref a1, .ref a2, .ref a3, .ref a4]))] H := hP
  have hD : va_D A [(h0, .inr (10, [.ref tp, .ref rd, .ref tb, .ref rg, .ref bl, .ref pa, .ref fm, .ref te, .ref hi, .ref fr, .int fd, .int rf, .int lf, .int fp])), (tb, .inr (8, [.int 0, .int lk, .int ct, .int vr, .ref a1, .ref a2, .ref a3, .ref a4]))] := hD
  have hK : va_K (dC, dI) vwCl [] s := hK
  refine W.widen (k := 0) (n := 0) (by omega) (by omega) ?_
  have er_1 : r_1 = 1 := hw
  subst er_1
  refine lv_if_eq (tgt := 13) hx hb dX10_worst_4 (by decide) (fun c_2 => absurd c_2 (by decide)) (fun c_2 => ?_)
  refine lv_aload_n hx hb dX10_worst_7 rfl (lv_at hl 0 rfl) ?_
  refine lv_iconst (v := 1) hx hb dX10_worst_8 (by decide) ?_
  have hPc := hP.sub (ws' := [(h0, .inr (10, [.ref tp, .ref rd, .ref tb, .ref rg, .ref bl, .ref pa, .ref fm, .ref te, .ref hi, .ref fr, .int fd, .int rf, .int lf, .int fp]))]) [0] rfl
  have hDc := hD.sub (ws' := [(h0, .inr (10, [.ref tp, .ref rd, .ref tb, .ref rg, .ref bl, .ref pa, .ref fm, .ref te, .ref hi, .ref fr, .int fd, .int rf, .int lf, .int fp]))]) [0] (by decide) rfl
  have hKc := hK.sub (tys' := []) [] rfl
  have hFc := va_free (wc := [(h0, .inr (10, [.ref tp, .ref rd, .ref tb, .ref rg, .ref bl, .ref pa, .ref fm, .ref te, .ref hi, .ref fr, .int fd, .int rf, .int lf, .int fp]))]) hD hS hA [0] rfl
  refine va_calli (va_runV (As := [.int 1]) (rest := []) ⟨hx, hb, hml, hown, hts⟩ (c_refused l dC dI H.size h0 tp rd tb rg bl pa fm te hi fr fd rf lf fp 1) (cwV 1 hts gX10_worst_X10_refused rfl rfl rfl (by decide +kernel) ⟨Nat.le_of_ble_eq_true rfl, Nat.le_of_ble_eq_true rfl⟩) ⟨fun a U g mk q => by obtain ⟨q0, q1, qP, qK, qD⟩ := q; exact ⟨q0, q1, qP, va_K.moved (u := U) (U := U.calling g mk a) (Vm.Alike.refl U.vm) qK, qD⟩, va_recv hKc hPc (ci := 10) (q0 := 0) rfl rfl, fun U hU hW => ⟨rfl, by rw [hU], by rw [hU]; exact hPc, va_K.moved hW.alike hKc, hDc.weaken (fun _ _ _ _ => trivial)⟩⟩ rfl rfl hl.1 rfl (lv_room (Nat.le_of_ble_eq_true rfl)) dX10_worst_9 ⟨Nat.le_of_ble_eq_true rfl, Nat.le_of_ble_eq_true rfl⟩) hS (fun q _ h => hFc q h) hFc (fun r_3 u t H1 locs ht hvm hw hB hz1 hk1 hS => ?_)
  obtain ⟨hP1, hK1, hD1⟩ := hB
  rw [ht] at hP1
  have hK1 := va_K.moved hvm.symm hK1
  try dsimp only at hw
  obtain ⟨hP, hD⟩ := va_join (wr := [(tb, .inr (8, [.int 0, .int lk, .int ct, .int vr, .ref a1, .ref a2, .ref a3, .ref a4]))]) (w1 := [(h0, .inr (10, [.ref tp, .ref rd, .ref tb, .ref rg, .ref bl, .ref pa, .ref fm, .ref te, .ref hi, .ref fr, .int fd, .int 1, .int lf, .int fp]))]) hP hD [0] [1] rfl rfl (by decide) (by decide) hk1 hFc hP1 hD1
  have hK := (hK.sub (tys' := []) [] rfl).app hK1
  generalize H1 = H at hP hS ⊢
  have hP : va_P (dC, dI) vwCl [(tb, .inr (8, [.int 0, .int lk, .int ct, .int vr, .ref a1, .ref a2, .ref a3, .ref a4])), (h0, .inr (10, [.ref tp, .ref rd, .ref tb, .ref rg, .ref bl, .ref pa, .ref fm, .ref te, .ref hi, .ref fr, .int fd, .int 1, .int lf, .int fp]))] H := hP
  have hD : va_D A [(tb, .inr (8, [.int 0, .int lk, .int ct, .int vr, .ref a1, .ref a2, .ref a3, .ref a4])), (h0, .inr (10, [.ref tp, .ref rd, .ref tb, .ref rg, .ref bl, .ref pa, .ref fm, .ref te, .ref hi, .ref fr, .int fd, .int 1, .int lf, .int fp]))] := hD
  have hK : va_K (dC, dI) vwCl [] s := hK
  refine W.widen (k := 0) (n := 0) (by omega) (by omega) ?_
  have er_3 : r_3 = (-1) := hw
  subst er_3
  have hP9 := hP.sub (ws' := [(h0, .inr (10, [.ref tp, .ref rd, .ref tb, .ref rg, .ref bl, .ref pa, .ref fm, .ref te, .ref hi, .ref fr, .int fd, .int 1, .int lf, .int fp])), (tb, .inr (8, [.int 0, .int lk, .int ct, .int vr, .ref a1, .ref a2, .ref a3, .ref a4]))]) [1, 0] rfl
  have hD9 := hD.sub (ws' := [(h0, .inr (10, [.ref tp, .ref rd, .ref tb, .ref rg, .ref bl, .ref pa, .ref fm, .ref te, .ref hi, .ref fr, .int fd, .int 1, .int lf, .int fp])), (tb, .inr (8, [.int 0, .int lk, .int ct, .int vr, .ref a1, .ref a2, .ref a3, .ref a4]))]) [1, 0] (by decide) rfl
  have hK9 := hK.sub (tys' := []) [] rfl
  refine W.widen (k := 0) (n := 0) (Nat.le_of_ble_eq_true rfl) (Nat.le_of_ble_eq_true rfl) ?_
  exact W.iret (v := (-1)) hx hb hr (fun t ht hW => ⟨⟨(-1), (), rfl, rfl, by rw [ht]; exact hP9, va_K.moved hW.alike hK9, hD9⟩, hS.F ht⟩) hS.2.2 dX10_worst_12

set_option maxHeartbeats 4000000 in
set_option maxRecDepth 100000 in
/-- worstAt without a BOOK -/
theorem c_worstAt_0 (l : Launch) (dC : Nat → ClassId) (dI : Nat → Nat → Nat) (sz : Nat) (h0 : Nat) (tp : Nat) (rd : Nat) (tb : Nat) (rg : Nat) (bl : Nat) (pa : Nat) (fm : Nat) (te : Nat) (hi : Nat) (fr : Nat) (fd : Int32) (rf : Int32) (lf : Int32) (fp : Int32) (lk : Int32) (ct : Int32) (vr : Int32) (a1 : Nat) (a2 : Nat) (a3 : Nat) (a4 : Nat)  : Met l yX10_worstAt wsX10_worstAt ({ frames := 1, cells := 0, slots := 0, locals := 21 }) (va_Pc [.ref h0] (fun U => U.heap.size = sz ∧ va_P (dC, dI) vwCl [(h0, .inr (10, [.ref tp, .ref rd, .ref tb, .ref rg, .ref bl, .ref pa, .ref fm, .ref te, .ref hi, .ref fr, .int fd, .int rf, .int lf, .int fp])), (tb, .inr (8, [.int 0, .int lk, .int ct, .int vr, .ref a1, .ref a2, .ref a3, .ref a4]))] U.heap ∧ va_K (dC, dI) vwCl [] U ∧ va_D (fun _ => True) [(h0, .inr (10, [.ref tp, .ref rd, .ref tb, .ref rg, .ref bl, .ref pa, .ref fm, .ref te, .ref hi, .ref fr, .int fd, .int rf, .int lf, .int fp])), (tb, .inr (8, [.int 0, .int lk, .int ct, .int vr, .ref a1, .ref a2, .ref a3, .ref a4]))])) (va_Qi (fun (r : Int32) (_ : Unit) => r = (-1)) (fun _ t => va_P (dC, dI) vwCl [(h0, .inr (10, [.ref tp, .ref rd, .ref tb, .ref rg, .ref bl, .ref pa, .ref fm, .ref te, .ref hi, .ref fr, .int fd, .int 1, .int lf, .int fp])), (tb, .inr (8, [.int 0, .int lk, .int ct, .int vr, .ref a1, .ref a2, .ref a3, .ref a4]))] t.heap ∧ va_K (dC, dI) vwCl [] t ∧ va_D (va_A [(h0, .inr (10, [.ref tp, .ref rd, .ref tb, .ref rg, .ref bl, .ref pa, .ref fm, .ref te, .ref hi, .ref fr, .int fd, .int rf, .int lf, .int fp])), (tb, .inr (8, [.int 0, .int lk, .int ct, .int vr, .ref a1, .ref a2, .ref a3, .ref a4]))] sz) [(h0, .inr (10, [.ref tp, .ref rd, .ref tb, .ref rg, .ref bl, .ref pa, .ref fm, .ref te, .ref hi, .ref fr, .int fd, .int 1, .int lf, .int fp])), (tb, .inr (8, [.int 0, .int lk, .int ct, .int vr, .ref a1, .ref a2, .ref a3, .ref a4]))]) (va_A [(h0, .inr (10, [.ref tp, .ref rd, .ref tb, .ref rg, .ref bl, .ref pa, .ref fm, .ref te, .ref hi, .ref fr, .int fd, .int rf, .int lf, .int fp])), (tb, .inr (8, [.int 0, .int lk, .int ct, .int vr, .ref a1, .ref a2, .ref a3, .ref a4]))] sz)) 0 0 (va_A [(h0, .inr (10, [.ref tp, .ref rd, .ref tb, .ref rg, .ref bl, .ref pa, .ref fm, .ref te, .ref hi, .ref fr, .int fd, .int rf, .int lf, .int fp])), (tb, .inr (8, [.int 0, .int lk, .int ct, .int vr, .ref a1, .ref a2, .ref a3, .ref a4]))] sz) := by
  refine Met.ofW (cc := cX10_worstAt) (maxL := 1) (ret := (some .int)) (by decide) rfl ?_
  intro p e s m args below meth c s₁ B hml hv
  obtain ⟨rfl, hsz, hP, hK, hD0⟩ := hv
  have hx := B.exec
  have hb := B.bytes
  have hr := B.returns
  have hts := atoms_spec (ws := wsX10_worstAt) B.pre
  have hown : s.vm.findClass RX10 = some m.cls := findClass_of_methodNamed B.named
  have hlocks := B.notSynchronized
  subst hsz
  have hD := hD0.self (sz := s.heap.size)
  generalize hAe : va_A [(h0, .inr (10, [.ref tp, .ref rd, .ref tb, .ref rg, .ref bl, .ref pa, .ref fm, .ref te, .ref hi, .ref fr, .int fd, .int rf, .int lf, .int fp])), (tb, .inr (8, [.int 0, .int lk, .int ct, .int vr, .ref a1, .ref a2, .ref a3, .ref a4]))] s.heap.size = A at hD ⊢
  have hA : ∀ q : Nat, s.heap.size ≤ q → A q := fun q h => by rw [← hAe]; exact Or.inr h
  have hS : va_S A s.heap s.heap [] := va_S.rf
  have hP : va_P (dC, dI) vwCl [(h0, .inr (10, [.ref tp, .ref rd, .ref tb, .ref rg, .ref bl, .ref pa, .ref fm, .ref te, .ref hi, .ref fr, .int fd, .int rf, .int lf, .int fp])), (tb, .inr (8, [.int 0, .int lk, .int ct, .int vr, .ref a1, .ref a2, .ref a3, .ref a4]))] s.heap := hP
  have hl := lv_entry ([.ref h0]) (n := 1) (Nat.le_of_ble_eq_true rfl)
  rw [lg_entry_eq]
  generalize (lg_sl ([.ref h0]) ++ List.replicate (1 - (lg_sl ([.ref h0])).length) Slot.unset).toArray = ls at hl ⊢
  have hl : lv_has ls 1 [(0, .ref h0)] := hl
  refine lv_aload_n hx hb dX10_worstAt_0 rfl (lv_at hl 0 rfl) ?_
  have hPc := hP.sub (ws' := [(h0, .inr (10, [.ref tp, .ref rd, .ref tb, .ref rg, .ref bl, .ref pa, .ref fm, .ref te, .ref hi, .ref fr, .int fd, .int rf, .int lf, .int fp])), (tb, .inr (8, [.int 0, .int lk, .int ct, .int vr, .ref a1, .ref a2, .ref a3, .ref a4]))]) [0, 1] rfl
  have hDc := hD.sub (ws' := [(h0, .inr (10, [.ref tp, .ref rd, .ref tb, .ref rg, .ref bl, .ref pa, .ref fm, .ref te, .ref hi, .ref fr, .int fd, .int rf, .int lf, .int fp])), (tb, .inr (8, [.int 0, .int lk, .int ct, .int vr, .ref a1, .ref a2, .ref a3, .ref a4]))]) [0, 1] (by decide) rfl
  have hKc := hK.sub (tys' := []) [] rfl
  have hFc := va_free (wc := [(h0, .inr (10, [.ref tp, .ref rd, .ref tb, .ref rg, .ref bl, .ref pa, .ref fm, .ref te, .ref hi, .ref fr, .int fd, .int rf, .int lf, .int fp])), (tb, .inr (8, [.int 0, .int lk, .int ct, .int vr, .ref a1, .ref a2, .ref a3, .ref a4]))]) hD hS hA [0, 1] rfl
  refine va_calli (va_runV (As := []) (rest := []) ⟨hx, hb, hml, hown, hts⟩ (c_noBook l dC dI s.heap.size h0 tp rd tb rg bl pa fm te hi fr fd rf lf fp lk ct vr a1 a2 a3 a4) (cwV 0 hts gX10_worstAt_X10_noBook rfl rfl rfl (by decide +kernel) ⟨Nat.le_of_ble_eq_true rfl, Nat.le_of_ble_eq_true rfl⟩) ⟨fun a U g mk q => by obtain ⟨q0, q1, qP, qK, qD⟩ := q; exact ⟨q0, q1, qP, va_K.moved (u := U) (U := U.calling g mk a) (Vm.Alike.refl U.vm) qK, qD⟩, va_recv hKc hPc (ci := 10) (q0 := 0) rfl rfl, fun U hU hW => ⟨rfl, by rw [hU], by rw [hU]; exact hPc, va_K.moved hW.alike hKc, hDc.weaken (fun _ _ _ _ => trivial)⟩⟩ rfl rfl hl.1 rfl (lv_room (Nat.le_of_ble_eq_true rfl)) dX10_worstAt_1 ⟨Nat.le_of_ble_eq_true rfl, Nat.le_of_ble_eq_true rfl⟩) hS (fun q _ h => hFc q h) hFc (fun r_1 u t H1 locs ht hvm hw hB hz1 hk1 hS => ?_)
  obtain ⟨hP1, hK1, hD1⟩ := hB
  rw [ht] at hP1
  have hK1 := va_K.moved hvm.symm hK1
  try dsimp only at hw
  obtain ⟨hP, hD⟩ := va_join (wr := []) (w1 := [(h0, .inr (10, [.ref tp, .ref rd, .ref tb, .ref rg, .ref bl, .ref pa, .ref fm, .ref te, .ref hi, .ref fr, .int fd, .int rf, .int lf, .int fp])), (tb, .inr (8, [.int 0, .int lk, .int ct, .int vr, .ref a1, .ref a2, .ref a3, .ref a4]))]) hP hD [0, 1] [] rfl rfl (by decide) (by decide) hk1 hFc hP1 hD1
  have hK := (hK.sub (tys' := []) [] rfl).app hK1
  generalize H1 = H at hP hS ⊢
  have hP : va_P (dC, dI) vwCl [(h0, .inr (10, [.ref tp, .ref rd, .ref tb, .ref rg, .ref bl, .ref pa, .ref fm, .ref te, .ref hi, .ref fr, .int fd, .int rf, .int lf, .int fp])), (tb, .inr (8, [.int 0, .int lk, .int ct, .int vr, .ref a1, .ref a2, .ref a3, .ref a4]))] H := hP
  have hD : va_D A [(h0, .inr (10, [.ref tp, .ref rd, .ref tb, .ref rg, .ref bl, .ref pa, .ref fm, .ref te, .ref hi, .ref fr, .int fd, .int rf, .int lf, .int fp])), (tb, .inr (8, [.int 0, .int lk, .int ct, .int vr, .ref a1, .ref a2, .ref a3, .ref a4]))] := hD
  have hK : va_K (dC, dI) vwCl [] s := hK
  refine W.widen (k := 0) (n := 0) (by omega) (by omega) ?_
  have er_1 : r_1 = 1 := hw
  subst er_1
  refine lv_if_eq (tgt := 13) hx hb dX10_worstAt_4 (by decide) (fun c_2 => absurd c_2 (by decide)) (fun c_2 => ?_)
  refine lv_aload_n hx hb dX10_worstAt_7 rfl (lv_at hl 0 rfl) ?_
  refine lv_iconst (v := 1) hx hb dX10_worstAt_8 (by decide) ?_
  have hPc := hP.sub (ws' := [(h0, .inr (10, [.ref tp, .ref rd, .ref tb, .ref rg, .ref bl, .ref pa, .ref fm, .ref te, .ref hi, .ref fr, .int fd, .int rf, .int lf, .int fp]))]) [0] rfl
  have hDc := hD.sub (ws' := [(h0, .inr (10, [.ref tp, .ref rd, .ref tb, .ref rg, .ref bl, .ref pa, .ref fm, .ref te, .ref hi, .ref fr, .int fd, .int rf, .int lf, .int fp]))]) [0] (by decide) rfl
  have hKc := hK.sub (tys' := []) [] rfl
  have hFc := va_free (wc := [(h0, .inr (10, [.ref tp, .ref rd, .ref tb, .ref rg, .ref bl, .ref pa, .ref fm, .ref te, .ref hi, .ref fr, .int fd, .int rf, .int lf, .int fp]))]) hD hS hA [0] rfl
  refine va_calli (va_runV (As := [.int 1]) (rest := []) ⟨hx, hb, hml, hown, hts⟩ (c_refused l dC dI H.size h0 tp rd tb rg bl pa fm te hi fr fd rf lf fp 1) (cwV 1 hts gX10_worstAt_X10_refused rfl rfl rfl (by decide +kernel) ⟨Nat.le_of_ble_eq_true rfl, Nat.le_of_ble_eq_true rfl⟩) ⟨fun a U g mk q => by obtain ⟨q0, q1, qP, qK, qD⟩ := q; exact ⟨q0, q1, qP, va_K.moved (u := U) (U := U.calling g mk a) (Vm.Alike.refl U.vm) qK, qD⟩, va_recv hKc hPc (ci := 10) (q0 := 0) rfl rfl, fun U hU hW => ⟨rfl, by rw [hU], by rw [hU]; exact hPc, va_K.moved hW.alike hKc, hDc.weaken (fun _ _ _ _ => trivial)⟩⟩ rfl rfl hl.1 rfl (lv_room (Nat.le_of_ble_eq_true rfl)) dX10_worstAt_9 ⟨Nat.le_of_ble_eq_true rfl, Nat.le_of_ble_eq_true rfl⟩) hS (fun q _ h => hFc q h) hFc (fun r_3 u t H1 locs ht hvm hw hB hz1 hk1 hS => ?_)
  obtain ⟨hP1, hK1, hD1⟩ := hB
  rw [ht] at hP1
  have hK1 := va_K.moved hvm.symm hK1
  try dsimp only at hw
  obtain ⟨hP, hD⟩ := va_join (wr := [(tb, .inr (8, [.int 0, .int lk, .int ct, .int vr, .ref a1, .ref a2, .ref a3, .ref a4]))]) (w1 := [(h0, .inr (10, [.ref tp, .ref rd, .ref tb, .ref rg, .ref bl, .ref pa, .ref fm, .ref te, .ref hi, .ref fr, .int fd, .int 1, .int lf, .int fp]))]) hP hD [0] [1] rfl rfl (by decide) (by decide) hk1 hFc hP1 hD1
  have hK := (hK.sub (tys' := []) [] rfl).app hK1
  generalize H1 = H at hP hS ⊢
  have hP : va_P (dC, dI) vwCl [(tb, .inr (8, [.int 0, .int lk, .int ct, .int vr, .ref a1, .ref a2, .ref a3, .ref a4])), (h0, .inr (10, [.ref tp, .ref rd, .ref tb, .ref rg, .ref bl, .ref pa, .ref fm, .ref te, .ref hi, .ref fr, .int fd, .int 1, .int lf, .int fp]))] H := hP
  have hD : va_D A [(tb, .inr (8, [.int 0, .int lk, .int ct, .int vr, .ref a1, .ref a2, .ref a3, .ref a4])), (h0, .inr (10, [.ref tp, .ref rd, .ref tb, .ref rg, .ref bl, .ref pa, .ref fm, .ref te, .ref hi, .ref fr, .int fd, .int 1, .int lf, .int fp]))] := hD
  have hK : va_K (dC, dI) vwCl [] s := hK
  refine W.widen (k := 0) (n := 0) (by omega) (by omega) ?_
  have er_3 : r_3 = (-1) := hw
  subst er_3
  have hP9 := hP.sub (ws' := [(h0, .inr (10, [.ref tp, .ref rd, .ref tb, .ref rg, .ref bl, .ref pa, .ref fm, .ref te, .ref hi, .ref fr, .int fd, .int 1, .int lf, .int fp])), (tb, .inr (8, [.int 0, .int lk, .int ct, .int vr, .ref a1, .ref a2, .ref a3, .ref a4]))]) [1, 0] rfl
  have hD9 := hD.sub (ws' := [(h0, .inr (10, [.ref tp, .ref rd, .ref tb, .ref rg, .ref bl, .ref pa, .ref fm, .ref te, .ref hi, .ref fr, .int fd, .int 1, .int lf, .int fp])), (tb, .inr (8, [.int 0, .int lk, .int ct, .int vr, .ref a1, .ref a2, .ref a3, .ref a4]))]) [1, 0] (by decide) rfl
  have hK9 := hK.sub (tys' := []) [] rfl
  refine W.widen (k := 0) (n := 0) (Nat.le_of_ble_eq_true rfl) (Nat.le_of_ble_eq_true rfl) ?_
  exact W.iret (v := (-1)) hx hb hr (fun t ht hW => ⟨⟨(-1), (), rfl, rfl, by rw [ht]; exact hP9, va_K.moved hW.alike hK9, hD9⟩, hS.F ht⟩) hS.2.2 dX10_worstAt_12

set_option maxHeartbeats 4000000 in
set_option maxRecDepth 100000 in
/-- bars without a BOOK -/
theorem c_bars_0 (l : Launch) (dC : Nat → ClassId) (dI : Nat → Nat → Nat) (sz : Nat) (h0 : Nat) (tp : Nat) (rd : Nat) (tb : Nat) (rg : Nat) (bl : Nat) (pa : Nat) (fm : Nat) (te : Nat) (hi : Nat) (fr : Nat) (fd : Int32) (rf : Int32) (lf : Int32) (fp : Int32) (lk : Int32) (ct : Int32) (vr : Int32) (a1 : Nat) (a2 : Nat) (a3 : Nat) (a4 : Nat)  : Met l yX10_bars wsX10_bars ({ frames := 1, cells := 0, slots := 0, locals := 21 }) (va_Pc [.ref h0] (fun U => U.heap.size = sz ∧ va_P (dC, dI) vwCl [(h0, .inr (10, [.ref tp, .ref rd, .ref tb, .ref rg, .ref bl, .ref pa, .ref fm, .ref te, .ref hi, .ref fr, .int fd, .int rf, .int lf, .int fp])), (tb, .inr (8, [.int 0, .int lk, .int ct, .int vr, .ref a1, .ref a2, .ref a3, .ref a4]))] U.heap ∧ va_K (dC, dI) vwCl [] U ∧ va_D (fun _ => True) [(h0, .inr (10, [.ref tp, .ref rd, .ref tb, .ref rg, .ref bl, .ref pa, .ref fm, .ref te, .ref hi, .ref fr, .int fd, .int rf, .int lf, .int fp])), (tb, .inr (8, [.int 0, .int lk, .int ct, .int vr, .ref a1, .ref a2, .ref a3, .ref a4]))])) (va_Qi (fun (r : Int32) (_ : Unit) => r = (-1)) (fun _ t => va_P (dC, dI) vwCl [(h0, .inr (10, [.ref tp, .ref rd, .ref tb, .ref rg, .ref bl, .ref pa, .ref fm, .ref te, .ref hi, .ref fr, .int fd, .int 1, .int lf, .int fp])), (tb, .inr (8, [.int 0, .int lk, .int ct, .int vr, .ref a1, .ref a2, .ref a3, .ref a4]))] t.heap ∧ va_K (dC, dI) vwCl [] t ∧ va_D (va_A [(h0, .inr (10, [.ref tp, .ref rd, .ref tb, .ref rg, .ref bl, .ref pa, .ref fm, .ref te, .ref hi, .ref fr, .int fd, .int rf, .int lf, .int fp])), (tb, .inr (8, [.int 0, .int lk, .int ct, .int vr, .ref a1, .ref a2, .ref a3, .ref a4]))] sz) [(h0, .inr (10, [.ref tp, .ref rd, .ref tb, .ref rg, .ref bl, .ref pa, .ref fm, .ref te, .ref hi, .ref fr, .int fd, .int 1, .int lf, .int fp])), (tb, .inr (8, [.int 0, .int lk, .int ct, .int vr, .ref a1, .ref a2, .ref a3, .ref a4]))]) (va_A [(h0, .inr (10, [.ref tp, .ref rd, .ref tb, .ref rg, .ref bl, .ref pa, .ref fm, .ref te, .ref hi, .ref fr, .int fd, .int rf, .int lf, .int fp])), (tb, .inr (8, [.int 0, .int lk, .int ct, .int vr, .ref a1, .ref a2, .ref a3, .ref a4]))] sz)) 0 0 (va_A [(h0, .inr (10, [.ref tp, .ref rd, .ref tb, .ref rg, .ref bl, .ref pa, .ref fm, .ref te, .ref hi, .ref fr, .int fd, .int rf, .int lf, .int fp])), (tb, .inr (8, [.int 0, .int lk, .int ct, .int vr, .ref a1, .ref a2, .ref a3, .ref a4]))] sz) := by
  refine Met.ofW (cc := cX10_bars) (maxL := 1) (ret := (some .int)) (by decide) rfl ?_
  intro p e s m args below meth c s₁ B hml hv
  obtain ⟨rfl, hsz, hP, hK, hD0⟩ := hv
  have hx := B.exec
  have hb := B.bytes
  have hr := B.returns
  have hts := atoms_spec (ws := wsX10_bars) B.pre
  have hown : s.vm.findClass RX10 = some m.cls := findClass_of_methodNamed B.named
  have hlocks := B.notSynchronized
  subst hsz
  have hD := hD0.self (sz := s.heap.size)
  generalize hAe : va_A [(h0, .inr (10, [.ref tp, .ref rd, .ref tb, .ref rg, .ref bl, .ref pa, .ref fm, .ref te, .ref hi, .ref fr, .int fd, .int rf, .int lf, .int fp])), (tb, .inr (8, [.int 0, .int lk, .int ct, .int vr, .ref a1, .ref a2, .ref a3, .ref a4]))] s.heap.size = A at hD ⊢
  have hA : ∀ q : Nat, s.heap.size ≤ q → A q := fun q h => by rw [← hAe]; exact Or.inr h
  have hS : va_S A s.heap s.heap [] := va_S.rf
  have hP : va_P (dC, dI) vwCl [(h0, .inr (10, [.ref tp, .ref rd, .ref tb, .ref rg, .ref bl, .ref pa, .ref fm, .ref te, .ref hi, .ref fr, .int fd, .int rf, .int lf, .int fp])), (tb, .inr (8, [.int 0, .int lk, .int ct, .int vr, .ref a1, .ref a2, .ref a3, .ref a4]))] s.heap := hP
  have hl := lv_entry ([.ref h0]) (n := 1) (Nat.le_of_ble_eq_true rfl)
  rw [lg_entry_eq]
  generalize (lg_sl ([.ref h0]) ++ List.replicate (1 - (lg_sl ([.ref h0])).length) Slot.unset).toArray = ls at hl ⊢
  have hl : lv_has ls 1 [(0, .ref h0)] := hl
  refine lv_aload_n hx hb dX10_bars_0 rfl (lv_at hl 0 rfl) ?_
  have hPc := hP.sub (ws' := [(h0, .inr (10, [.ref tp, .ref rd, .ref tb, .ref rg, .ref bl, .ref pa, .ref fm, .ref te, .ref hi, .ref fr, .int fd, .int rf, .int lf, .int fp])), (tb, .inr (8, [.int 0, .int lk, .int ct, .int vr, .ref a1, .ref a2, .ref a3, .ref a4]))]) [0, 1] rfl
  have hDc := hD.sub (ws' := [(h0, .inr (10, [.ref tp, .ref rd, .ref tb, .ref rg, .ref bl, .ref pa, .ref fm, .ref te, .ref hi, .ref fr, .int fd, .int rf, .int lf, .int fp])), (tb, .inr (8, [.int 0, .int lk, .int ct, .int vr, .ref a1, .ref a2, .ref a3, .ref a4]))]) [0, 1] (by decide) rfl
  have hKc := hK.sub (tys' := []) [] rfl
  have hFc := va_free (wc := [(h0, .inr (10, [.ref tp, .ref rd, .ref tb, .ref rg, .ref bl, .ref pa, .ref fm, .ref te, .ref hi, .ref fr, .int fd, .int rf, .int lf, .int fp])), (tb, .inr (8, [.int 0, .int lk, .int ct, .int vr, .ref a1, .ref a2, .ref a3, .ref a4]))]) hD hS hA [0, 1] rfl
  refine va_calli (va_runV (As := []) (rest := []) ⟨hx, hb, hml, hown, hts⟩ (c_noBook l dC dI s.heap.size h0 tp rd tb rg bl pa fm te hi fr fd rf lf fp lk ct vr a1 a2 a3 a4) (cwV 0 hts gX10_bars_X10_noBook rfl rfl rfl (by decide +kernel) ⟨Nat.le_of_ble_eq_true rfl, Nat.le_of_ble_eq_true rfl⟩) ⟨fun a U g mk q => by obtain ⟨q0, q1, qP, qK, qD⟩ := q; exact ⟨q0, q1, qP, va_K.moved (u := U) (U := U.calling g mk a) (Vm.Alike.refl U.vm) qK, qD⟩, va_recv hKc hPc (ci := 10) (q0 := 0) rfl rfl, fun U hU hW => ⟨rfl, by rw [hU], by rw [hU]; exact hPc, va_K.moved hW.alike hKc, hDc.weaken (fun _ _ _ _ => trivial)⟩⟩ rfl rfl hl.1 rfl (lv_room (Nat.le_of_ble_eq_true rfl)) dX10_bars_1 ⟨Nat.le_of_ble_eq_true rfl, Nat.le_of_ble_eq_true rfl⟩) hS (fun q _ h => hFc q h) hFc (fun r_1 u t H1 locs ht hvm hw hB hz1 hk1 hS => ?_)
  obtain ⟨hP1, hK1, hD1⟩ := hB
  rw [ht] at hP1
  have hK1 := va_K.moved hvm.symm hK1
  try dsimp only at hw
  obtain ⟨hP, hD⟩ := va_join (wr := []) (w1 := [(h0, .inr (10, [.ref tp, .ref rd, .ref tb, .ref rg, .ref bl, .ref pa, .ref fm, .ref te, .ref hi, .ref fr, .int fd, .int rf, .int lf, .int fp])), (tb, .inr (8, [.int 0, .int lk, .int ct, .int vr, .ref a1, .ref a2, .ref a3, .ref a4]))]) hP hD [0, 1] [] rfl rfl (by decide) (by decide) hk1 hFc hP1 hD1
  have hK := (hK.sub (tys' := []) [] rfl).app hK1
  generalize H1 = H at hP hS ⊢
  have hP : va_P (dC, dI) vwCl [(h0, .inr (10, [.ref tp, .ref rd, .ref tb, .ref rg, .ref bl, .ref pa, .ref fm, .ref te, .ref hi, .ref fr, .int fd, .int rf, .int lf, .int fp])), (tb, .inr (8, [.int 0, .int lk, .int ct, .int vr, .ref a1, .ref a2, .ref a3, .ref a4]))] H := hP
  have hD : va_D A [(h0, .inr (10, [.ref tp, .ref rd, .ref tb, .ref rg, .ref bl, .ref pa, .ref fm, .ref te, .ref hi, .ref fr, .int fd, .int rf, .int lf, .int fp])), (tb, .inr (8, [.int 0, .int lk, .int ct, .int vr, .ref a1, .ref a2, .ref a3, .ref a4]))] := hD
  have hK : va_K (dC, dI) vwCl [] s := hK
  refine W.widen (k := 0) (n := 0) (by omega) (by omega) ?_
  have er_1 : r_1 = 1 := hw
  subst er_1
  refine lv_if_eq (tgt := 13) hx hb dX10_bars_4 (by decide) (fun c_2 => absurd c_2 (by decide)) (fun c_2 => ?_)
  refine lv_aload_n hx hb dX10_bars_7 rfl (lv_at hl 0 rfl) ?_
  refine lv_iconst (v := 1) hx hb dX10_bars_8 (by decide) ?_
  have hPc := hP.sub (ws' := [(h0, .inr (10, [.ref tp, .ref rd, .ref tb, .ref rg, .ref bl, .ref pa, .ref fm, .ref te, .ref hi, .ref fr, .int fd, .int rf, .int lf, .int fp]))]) [0] rfl
  have hDc := hD.sub (ws' := [(h0, .inr (10, [.ref tp, .ref rd, .ref tb, .ref rg, .ref bl, .ref pa, .ref fm, .ref te, .ref hi, .ref fr, .int fd, .int rf, .int lf, .int fp]))]) [0] (by decide) rfl
  have hKc := hK.sub (tys' := []) [] rfl
  have hFc := va_free (wc := [(h0, .inr (10, [.ref tp, .ref rd, .ref tb, .ref rg, .ref bl, .ref pa, .ref fm, .ref te, .ref hi, .ref fr, .int fd, .int rf, .int lf, .int fp]))]) hD hS hA [0] rfl
  refine va_calli (va_runV (As := [.int 1]) (rest := []) ⟨hx, hb, hml, hown, hts⟩ (c_refused l dC dI H.size h0 tp rd tb rg bl pa fm te hi fr fd rf lf fp 1) (cwV 1 hts gX10_bars_X10_refused rfl rfl rfl (by decide +kernel) ⟨Nat.le_of_ble_eq_true rfl, Nat.le_of_ble_eq_true rfl⟩) ⟨fun a U g mk q => by obtain ⟨q0, q1, qP, qK, qD⟩ := q; exact ⟨q0, q1, qP, va_K.moved (u := U) (U := U.calling g mk a) (Vm.Alike.refl U.vm) qK, qD⟩, va_recv hKc hPc (ci := 10) (q0 := 0) rfl rfl, fun U hU hW => ⟨rfl, by rw [hU], by rw [hU]; exact hPc, va_K.moved hW.alike hKc, hDc.weaken (fun _ _ _ _ => trivial)⟩⟩ rfl rfl hl.1 rfl (lv_room (Nat.le_of_ble_eq_true rfl)) dX10_bars_9 ⟨Nat.le_of_ble_eq_true rfl, Nat.le_of_ble_eq_true rfl⟩) hS (fun q _ h => hFc q h) hFc (fun r_3 u t H1 locs ht hvm hw hB hz1 hk1 hS => ?_)
  obtain ⟨hP1, hK1, hD1⟩ := hB
  rw [ht] at hP1
  have hK1 := va_K.moved hvm.symm hK1
  try dsimp only at hw
  obtain ⟨hP, hD⟩ := va_join (wr := [(tb, .inr (8, [.int 0, .int lk, .int ct, .int vr, .ref a1, .ref a2, .ref a3, .ref a4]))]) (w1 := [(h0, .inr (10, [.ref tp, .ref rd, .ref tb, .ref rg, .ref bl, .ref pa, .ref fm, .ref te, .ref hi, .ref fr, .int fd, .int 1, .int lf, .int fp]))]) hP hD [0] [1] rfl rfl (by decide) (by decide) hk1 hFc hP1 hD1
  have hK := (hK.sub (tys' := []) [] rfl).app hK1
  generalize H1 = H at hP hS ⊢
  have hP : va_P (dC, dI) vwCl [(tb, .inr (8, [.int 0, .int lk, .int ct, .int vr, .ref a1, .ref a2, .ref a3, .ref a4])), (h0, .inr (10, [.ref tp, .ref rd, .ref tb, .ref rg, .ref bl, .ref pa, .ref fm, .ref te, .ref hi, .ref fr, .int fd, .int 1, .int lf, .int fp]))] H := hP
  have hD : va_D A [(tb, .inr (8, [.int 0, .int lk, .int ct, .int vr, .ref a1, .ref a2, .ref a3, .ref a4])), (h0, .inr (10, [.ref tp, .ref rd, .ref tb, .ref rg, .ref bl, .ref pa, .ref fm, .ref te, .ref hi, .ref fr, .int fd, .int 1, .int lf, .int fp]))] := hD
  have hK : va_K (dC, dI) vwCl [] s := hK
  refine W.widen (k := 0) (n := 0) (by omega) (by omega) ?_
  have er_3 : r_3 = (-1) := hw
  subst er_3
  have hP9 := hP.sub (ws' := [(h0, .inr (10, [.ref tp, .ref rd, .ref tb, .ref rg, .ref bl, .ref pa, .ref fm, .ref te, .ref hi, .ref fr, .int fd, .int 1, .int lf, .int fp])), (tb, .inr (8, [.int 0, .int lk, .int ct, .int vr, .ref a1, .ref a2, .ref a3, .ref a4]))]) [1, 0] rfl
  have hD9 := hD.sub (ws' := [(h0, .inr (10, [.ref tp, .ref rd, .ref tb, .ref rg, .ref bl, .ref pa, .ref fm, .ref te, .ref hi, .ref fr, .int fd, .int 1, .int lf, .int fp])), (tb, .inr (8, [.int 0, .int lk, .int ct, .int vr, .ref a1, .ref a2, .ref a3, .ref a4]))]) [1, 0] (by decide) rfl
  have hK9 := hK.sub (tys' := []) [] rfl
  refine W.widen (k := 0) (n := 0) (Nat.le_of_ble_eq_true rfl) (Nat.le_of_ble_eq_true rfl) ?_
  exact W.iret (v := (-1)) hx hb hr (fun t ht hW => ⟨⟨(-1), (), rfl, rfl, by rw [ht]; exact hP9, va_K.moved hW.alike hK9, hD9⟩, hS.F ht⟩) hS.2.2 dX10_bars_12

set_option maxHeartbeats 4000000 in
set_option maxRecDepth 100000 in
/-- fair without a BOOK -/
theorem c_fair_0 (l : Launch) (dC : Nat → ClassId) (dI : Nat → Nat → Nat) (sz : Nat) (h0 : Nat) (tp : Nat) (rd : Nat) (tb : Nat) (rg : Nat) (bl : Nat) (pa : Nat) (fm : Nat) (te : Nat) (hi : Nat) (fr : Nat) (fd : Int32) (rf : Int32) (lf : Int32) (fp : Int32) (lk : Int32) (ct : Int32) (vr : Int32) (a1 : Nat) (a2 : Nat) (a3 : Nat) (a4 : Nat) (p0 : Int32)  : Met l yX10_fair wsX10_fair ({ frames := 1, cells := 0, slots := 0, locals := 21 }) (va_Pc [.ref h0, .int p0] (fun U => U.heap.size = sz ∧ va_P (dC, dI) vwCl [(h0, .inr (10, [.ref tp, .ref rd, .ref tb, .ref rg, .ref bl, .ref pa, .ref fm, .ref te, .ref hi, .ref fr, .int fd, .int rf, .int lf, .int fp])), (tb, .inr (8, [.int 0, .int lk, .int ct, .int vr, .ref a1, .ref a2, .ref a3, .ref a4]))] U.heap ∧ va_K (dC, dI) vwCl [] U ∧ va_D (fun _ => True) [(h0, .inr (10, [.ref tp, .ref rd, .ref tb, .ref rg, .ref bl, .ref pa, .ref fm, .ref te, .ref hi, .ref fr, .int fd, .int rf, .int lf, .int fp])), (tb, .inr (8, [.int 0, .int lk, .int ct, .int vr, .ref a1, .ref a2, .ref a3, .ref a4]))])) (va_Qi (fun (r : Int32) (_ : Unit) => r = (-1)) (fun _ t => va_P (dC, dI) vwCl [(h0, .inr (10, [.ref tp, .ref rd, .ref tb, .ref rg, .ref bl, .ref pa, .ref fm, .ref te, .ref hi, .ref fr, .int fd, .int 1, .int lf, .int fp])), (tb, .inr (8, [.int 0, .int lk, .int ct, .int vr, .ref a1, .ref a2, .ref a3, .ref a4]))] t.heap ∧ va_K (dC, dI) vwCl [] t ∧ va_D (va_A [(h0, .inr (10, [.ref tp, .ref rd, .ref tb, .ref rg, .ref bl, .ref pa, .ref fm, .ref te, .ref hi, .ref fr, .int fd, .int rf, .int lf, .int fp])), (tb, .inr (8, [.int 0, .int lk, .int ct, .int vr, .ref a1, .ref a2, .ref a3, .ref a4]))] sz) [(h0, .inr (10, [.ref tp, .ref rd, .ref tb, .ref rg, .ref bl, .ref pa, .ref fm, .ref te, .ref hi, .ref fr, .int fd, .int 1, .int lf, .int fp])), (tb, .inr (8, [.int 0, .int lk, .int ct, .int vr, .ref a1, .ref a2, .ref a3, .ref a4]))]) (va_A [(h0, .inr (10, [.ref tp, .ref rd, .ref tb, .ref rg, .ref bl, .ref pa, .ref fm, .ref te, .ref hi, .ref fr, .int fd, .int rf, .int lf, .int fp])), (tb, .inr (8, [.int 0, .int lk, .int ct, .int vr, .ref a1, .ref a2, .ref a3, .ref a4]))] sz)) 0 0 (va_A [(h0, .inr (10, [.ref tp, .ref rd, .ref tb, .ref rg, .ref bl, .ref pa, .ref fm, .ref te, .ref hi, .ref fr, .int fd, .int rf, .int lf, .int fp])), (tb, .inr (8, [.int 0, .int lk, .int ct, .int vr, .ref a1, .ref a2, .ref a3, .ref a4]))] sz) := by
  refine Met.ofW (cc := cX10_fair) (maxL := 4) (ret := (some .int)) (by decide) rfl ?_
  intro p e s m args below meth c s₁ B hml hv
  obtain ⟨rfl, hsz, hP, hK, hD0⟩ := hv
  have hx := B.exec
  have hb := B.bytes
  have hr := B.returns
  have hts := atoms_spec (ws := wsX10_fair) B.pre
  have hown : s.vm.findClass RX10 = some m.cls := findClass_of_methodNamed B.named
  have hlocks := B.notSynchronized
  subst hsz
  have hD := hD0.self (sz := s.heap.size)
  generalize hAe : va_A [(h0, .inr (10, [.ref tp, .ref rd, .ref tb, .ref rg, .ref bl, .ref pa, .ref fm, .ref te, .ref hi, .ref fr, .int fd, .int rf, .int lf, .int fp])), (tb, .inr (8, [.int 0, .int lk, .int ct, .int vr, .ref a1, .ref a2, .ref a3, .ref a4]))] s.heap.size = A at hD ⊢
  have hA : ∀ q : Nat, s.heap.size ≤ q → A q := fun q h => by rw [← hAe]; exact Or.inr h
  have hS : va_S A s.heap s.heap [] := va_S.rf
  have hP : va_P (dC, dI) vwCl [(h0, .inr (10, [.ref tp, .ref rd, .ref tb, .ref rg, .ref bl, .ref pa, .ref fm, .ref te, .ref hi, .ref fr, .int fd, .int rf, .int lf, .int fp])), (tb, .inr (8, [.int 0, .int lk, .int ct, .int vr, .ref a1, .ref a2, .ref a3, .ref a4]))] s.heap := hP
  have hl := lv_entry ([.ref h0, .int p0]) (n := 4) (Nat.le_of_ble_eq_true rfl)
  rw [lg_entry_eq]
  generalize (lg_sl ([.ref h0, .int p0]) ++ List.replicate (4 - (lg_sl ([.ref h0, .int p0])).length) Slot.unset).toArray = ls at hl ⊢
  have hl : lv_has ls 4 [(0, .ref h0), (1, .int p0)] := hl
  refine lv_aload_n hx hb dX10_fair_0 rfl (lv_at hl 0 rfl) ?_
  have hPc := hP.sub (ws' := [(h0, .inr (10, [.ref tp, .ref rd, .ref tb, .ref rg, .ref bl, .ref pa, .ref fm, .ref te, .ref hi, .ref fr, .int fd, .int rf, .int lf, .int fp])), (tb, .inr (8, [.int 0, .int lk, .int ct, .int vr, .ref a1, .ref a2, .ref a3, .ref a4]))]) [0, 1] rfl
  have hDc := hD.sub (ws' := [(h0, .inr (10, [.ref tp, .ref rd, .ref tb, .ref rg, .ref bl, .ref pa, .ref fm, .ref te, .ref hi, .ref fr, .int fd, .int rf, .int lf, .int fp])), (tb, .inr (8, [.int 0, .int lk, .int ct, .int vr, .ref a1, .ref a2, .ref a3, .ref a4]))]) [0, 1] (by decide) rfl
  have hKc := hK.sub (tys' := []) [] rfl
  have hFc := va_free (wc := [(h0, .inr (10, [.ref tp, .ref rd, .ref tb, .ref rg, .ref bl, .ref pa, .ref fm, .ref te, .ref hi, .ref fr, .int fd, .int rf, .int lf, .int fp])), (tb, .inr (8, [.int 0, .int lk, .int ct, .int vr, .ref a1, .ref a2, .ref a3, .ref a4]))]) hD hS hA [0, 1] rfl
  refine va_calli (va_runV (As := []) (rest := []) ⟨hx, hb, hml, hown, hts⟩ (c_noBook l dC dI s.heap.size h0 tp rd tb rg bl pa fm te hi fr fd rf lf fp lk ct vr a1 a2 a3 a4) (cwV 0 hts gX10_fair_X10_noBook rfl rfl rfl (by decide +kernel) ⟨Nat.le_of_ble_eq_true rfl, Nat.le_of_ble_eq_true rfl⟩) ⟨fun a U g mk q => by obtain ⟨q0, q1, qP, qK, qD⟩ := q; exact ⟨q0, q1, qP, va_K.moved (u := U) (U := U.calling g mk a) (Vm.Alike.refl U.vm) qK, qD⟩, va_recv hKc hPc (ci := 10) (q0 := 0) rfl rfl, fun U hU hW => ⟨rfl, by rw [hU], by rw [hU]; exact hPc, va_K.moved hW.alike hKc, hDc.weaken (fun _ _ _ _ => trivial)⟩⟩ rfl rfl hl.1 rfl (lv_room (Nat.le_of_ble_eq_true rfl)) dX10_fair_1 ⟨Nat.le_of_ble_eq_true rfl, Nat.le_of_ble_eq_true rfl⟩) hS (fun q _ h => hFc q h) hFc (fun r_1 u t H1 locs ht hvm hw hB hz1 hk1 hS => ?_)
  obtain ⟨hP1, hK1, hD1⟩ := hB
  rw [ht] at hP1
  have hK1 := va_K.moved hvm.symm hK1
  try dsimp only at hw
  obtain ⟨hP, hD⟩ := va_join (wr := []) (w1 := [(h0, .inr (10, [.ref tp, .ref rd, .ref tb, .ref rg, .ref bl, .ref pa, .ref fm, .ref te, .ref hi, .ref fr, .int fd, .int rf, .int lf, .int fp])), (tb, .inr (8, [.int 0, .int lk, .int ct, .int vr, .ref a1, .ref a2, .ref a3, .ref a4]))]) hP hD [0, 1] [] rfl rfl (by decide) (by decide) hk1 hFc hP1 hD1
  have hK := (hK.sub (tys' := []) [] rfl).app hK1
  generalize H1 = H at hP hS ⊢
  have hP : va_P (dC, dI) vwCl [(h0, .inr (10, [.ref tp, .ref rd, .ref tb, .ref rg, .ref bl, .ref pa, .ref fm, .ref te, .ref hi, .ref fr, .int fd, .int rf, .int lf, .int fp])), (tb, .inr (8, [.int 0, .int lk, .int ct, .int vr, .ref a1, .ref a2, .ref a3, .ref a4]))] H := hP
  have hD : va_D A [(h0, .inr (10, [.ref tp, .ref rd, .ref tb, .ref rg, .ref bl, .ref pa, .ref fm, .ref te, .ref hi, .ref fr, .int fd, .int rf, .int lf, .int fp])), (tb, .inr (8, [.int 0, .int lk, .int ct, .int vr, .ref a1, .ref a2, .ref a3, .ref a4]))] := hD
  have hK : va_K (dC, dI) vwCl [] s := hK
  refine W.widen (k := 0) (n := 0) (by omega) (by omega) ?_
  have er_1 : r_1 = 1 := hw
  subst er_1
  refine lv_if_eq (tgt := 13) hx hb dX10_fair_4 (by decide) (fun c_2 => absurd c_2 (by decide)) (fun c_2 => ?_)
  refine lv_aload_n hx hb dX10_fair_7 rfl (lv_at hl 0 rfl) ?_
  refine lv_iconst (v := 1) hx hb dX10_fair_8 (by decide) ?_
  have hPc := hP.sub (ws' := [(h0, .inr (10, [.ref tp, .ref rd, .ref tb, .ref rg, .ref bl, .ref pa, .ref fm, .ref te, .ref hi, .ref fr, .int fd, .int rf, .int lf, .int fp]))]) [0] rfl
  have hDc := hD.sub (ws' := [(h0, .inr (10, [.ref tp, .ref rd, .ref tb, .ref rg, .ref bl, .ref pa, .ref fm, .ref te, .ref hi, .ref fr, .int fd, .int rf, .int lf, .int fp]))]) [0] (by decide) rfl
  have hKc := hK.sub (tys' := []) [] rfl
  have hFc := va_free (wc := [(h0, .inr (10, [.ref tp, .ref rd, .ref tb, .ref rg, .ref bl, .ref pa, .ref fm, .ref te, .ref hi, .ref fr, .int fd, .int rf, .int lf, .int fp]))]) hD hS hA [0] rfl
  refine va_calli (va_runV (As := [.int 1]) (rest := []) ⟨hx, hb, hml, hown, hts⟩ (c_refused l dC dI H.size h0 tp rd tb rg bl pa fm te hi fr fd rf lf fp 1) (cwV 1 hts gX10_fair_X10_refused rfl rfl rfl (by decide +kernel) ⟨Nat.le_of_ble_eq_true rfl, Nat.le_of_ble_eq_true rfl⟩) ⟨fun a U g mk q => by obtain ⟨q0, q1, qP, qK, qD⟩ := q; exact ⟨q0, q1, qP, va_K.moved (u := U) (U := U.calling g mk a) (Vm.Alike.refl U.vm) qK, qD⟩, va_recv hKc hPc (ci := 10) (q0 := 0) rfl rfl, fun U hU hW => ⟨rfl, by rw [hU], by rw [hU]; exact hPc, va_K.moved hW.alike hKc, hDc.weaken (fun _ _ _ _ => trivial)⟩⟩ rfl rfl hl.1 rfl (lv_room (Nat.le_of_ble_eq_true rfl)) dX10_fair_9 ⟨Nat.le_of_ble_eq_true rfl, Nat.le_of_ble_eq_true rfl⟩) hS (fun q _ h => hFc q h) hFc (fun r_3 u t H1 locs ht hvm hw hB hz1 hk1 hS => ?_)
  obtain ⟨hP1, hK1, hD1⟩ := hB
  rw [ht] at hP1
  have hK1 := va_K.moved hvm.symm hK1
  try dsimp only at hw
  obtain ⟨hP, hD⟩ := va_join (wr := [(tb, .inr (8, [.int 0, .int lk, .int ct, .int vr, .ref a1, .ref a2, .ref a3, .ref a4]))]) (w1 := [(h0, .inr (10, [.ref tp, .ref rd, .ref tb, .ref rg, .ref bl, .ref pa, .ref fm, .ref te, .ref hi, .ref fr, .int fd, .int 1, .int lf, .int fp]))]) hP hD [0] [1] rfl rfl (by decide) (by decide) hk1 hFc hP1 hD1
  have hK := (hK.sub (tys' := []) [] rfl).app hK1
  generalize H1 = H at hP hS ⊢
  have hP : va_P (dC, dI) vwCl [(tb, .inr (8, [.int 0, .int lk, .int ct, .int vr, .ref a1, .ref a2, .ref a3, .ref a4])), (h0, .inr (10, [.ref tp, .ref rd, .ref tb, .ref rg, .ref bl, .ref pa, .ref fm, .ref te, .ref hi, .ref fr, .int fd, .int 1, .int lf, .int fp]))] H := hP
  have hD : va_D A [(tb, .inr (8, [.int 0, .int lk, .int ct, .int vr, .ref a1, .ref a2, .ref a3, .ref a4])), (h0, .inr (10, [.ref tp, .ref rd, .ref tb, .ref rg, .ref bl, .ref pa, .ref fm, .ref te, .ref hi, .ref fr, .int fd, .int 1, .int lf, .int fp]))] := hD
  have hK : va_K (dC, dI) vwCl [] s := hK
  refine W.widen (k := 0) (n := 0) (by omega) (by omega) ?_
  have er_3 : r_3 = (-1) := hw
  subst er_3
  have hP9 := hP.sub (ws' := [(h0, .inr (10, [.ref tp, .ref rd, .ref tb, .ref rg, .ref bl, .ref pa, .ref fm, .ref te, .ref hi, .ref fr, .int fd, .int 1, .int lf, .int fp])), (tb, .inr (8, [.int 0, .int lk, .int ct, .int vr, .ref a1, .ref a2, .ref a3, .ref a4]))]) [1, 0] rfl
  have hD9 := hD.sub (ws' := [(h0, .inr (10, [.ref tp, .ref rd, .ref tb, .ref rg, .ref bl, .ref pa, .ref fm, .ref te, .ref hi, .ref fr, .int fd, .int 1, .int lf, .int fp])), (tb, .inr (8, [.int 0, .int lk, .int ct, .int vr, .ref a1, .ref a2, .ref a3, .ref a4]))]) [1, 0] (by decide) rfl
  have hK9 := hK.sub (tys' := []) [] rfl
  refine W.widen (k := 0) (n := 0) (Nat.le_of_ble_eq_true rfl) (Nat.le_of_ble_eq_true rfl) ?_
  exact W.iret (v := (-1)) hx hb hr (fun t ht hW => ⟨⟨(-1), (), rfl, rfl, by rw [ht]; exact hP9, va_K.moved hW.alike hK9, hD9⟩, hS.F ht⟩) hS.2.2 dX10_fair_12

set_option maxHeartbeats 4000000 in
set_option maxRecDepth 100000 in
/-- ways without a BOOK -/
theorem c_ways_0 (l : Launch) (dC : Nat → ClassId) (dI : Nat → Nat → Nat) (sz : Nat) (h0 : Nat) (tp : Nat) (rd : Nat) (tb : Nat) (rg : Nat) (bl : Nat) (pa : Nat) (fm : Nat) (te : Nat) (hi : Nat) (fr : Nat) (fd : Int32) (rf : Int32) (lf : Int32) (fp : Int32) (lk : Int32) (ct : Int32) (vr : Int32) (a1 : Nat) (a2 : Nat) (a3 : Nat) (a4 : Nat)  : Met l yX10_ways wsX10_ways ({ frames := 1, cells := 0, slots := 0, locals := 21 }) (va_Pc [.ref h0] (fun U => U.heap.size = sz ∧ va_P (dC, dI) vwCl [(h0, .inr (10, [.ref tp, .ref rd, .ref tb, .ref rg, .ref bl, .ref pa, .ref fm, .ref te, .ref hi, .ref fr, .int fd, .int rf, .int lf, .int fp])), (tb, .inr (8, [.int 0, .int lk, .int ct, .int vr, .ref a1, .ref a2, .ref a3, .ref a4]))] U.heap ∧ va_K (dC, dI) vwCl [] U ∧ va_D (fun _ => True) [(h0, .inr (10, [.ref tp, .ref rd, .ref tb, .ref rg, .ref bl, .ref pa, .ref fm, .ref te, .ref hi, .ref fr, .int fd, .int rf, .int lf, .int fp])), (tb, .inr (8, [.int 0, .int lk, .int ct, .int vr, .ref a1, .ref a2, .ref a3, .ref a4]))])) (va_Qi (fun (r : Int32) (_ : Unit) => r = (-1)) (fun _ t => va_P (dC, dI) vwCl [(h0, .inr (10, [.ref tp, .ref rd, .ref tb, .ref rg, .ref bl, .ref pa, .ref fm, .ref te, .ref hi, .ref fr, .int fd, .int 1, .int lf, .int fp])), (tb, .inr (8, [.int 0, .int lk, .int ct, .int vr, .ref a1, .ref a2, .ref a3, .ref a4]))] t.heap ∧ va_K (dC, dI) vwCl [] t ∧ va_D (va_A [(h0, .inr (10, [.ref tp, .ref rd, .ref tb, .ref rg, .ref bl, .ref pa, .ref fm, .ref te, .ref hi, .ref fr, .int fd, .int rf, .int lf, .int fp])), (tb, .inr (8, [.int 0, .int lk, .int ct, .int vr, .ref a1, .ref a2, .ref a3, .ref a4]))] sz) [(h0, .inr (10, [.ref tp, .ref rd, .ref tb, .ref rg, .ref bl, .ref pa, .ref fm, .ref te, .ref hi, .ref fr, .int fd, .int 1, .int lf, .int fp])), (tb, .inr (8, [.int 0, .int lk, .int ct, .int vr, .ref a1, .ref a2, .ref a3, .ref a4]))]) (va_A [(h0, .inr (10, [.ref tp, .ref rd, .ref tb, .ref rg, .ref bl, .ref pa, .ref fm, .ref te, .ref hi, .ref fr, .int fd, .int rf, .int lf, .int fp])), (tb, .inr (8, [.int 0, .int lk, .int ct, .int vr, .ref a1, .ref a2, .ref a3, .ref a4]))] sz)) 0 0 (va_A [(h0, .inr (10, [.ref tp, .ref rd, .ref tb, .ref rg, .ref bl, .ref pa, .ref fm, .ref te, .ref hi, .ref fr, .int fd, .int rf, .int lf, .int fp])), (tb, .inr (8, [.int 0, .int lk, .int ct, .int vr, .ref a1, .ref a2, .ref a3, .ref a4]))] sz) := by
  refine Met.ofW (cc := cX10_ways) (maxL := 1) (ret := (some .int)) (by decide) rfl ?_
  intro p e s m args below meth c s₁ B hml hv
  obtain ⟨rfl, hsz, hP, hK, hD0⟩ := hv
  have hx := B.exec
  have hb := B.bytes
  have hr := B.returns
  have hts := atoms_spec (ws := wsX10_ways) B.pre
  have hown : s.vm.findClass RX10 = some m.cls := findClass_of_methodNamed B.named
  have hlocks := B.notSynchronized
  subst hsz
  have hD := hD0.self (sz := s.heap.size)
  generalize hAe : va_A [(h0, .inr (10, [.ref tp, .ref rd, .ref tb, .ref rg, .ref bl, .ref pa, .ref fm, .ref te, .ref hi, .ref fr, .int fd, .int rf, .int lf, .int fp])), (tb, .inr (8, [.int 0, .int lk, .int ct, .int vr, .ref a1, .ref a2, .ref a3, .ref a4]))] s.heap.size = A at hD ⊢
  have hA : ∀ q : Nat, s.heap.size ≤ q → A q := fun q h => by rw [← hAe]; exact Or.inr h
  have hS : va_S A s.heap s.heap [] := va_S.rf
  have hP : va_P (dC, dI) vwCl [(h0, .inr (10, [.ref tp, .ref rd, .ref tb, .ref rg, .ref bl, .ref pa, .ref fm, .ref te, .ref hi, .ref fr, .int fd, .int rf, .int lf, .int fp])), (tb, .inr (8, [.int 0, .int lk, .int ct, .int vr, .ref a1, .ref a2, .ref a3, .ref a4]))] s.heap := hP
  have hl := lv_entry ([.ref h0]) (n := 1) (Nat.le_of_ble_eq_true rfl)
  rw [lg_entry_eq]
  generalize (lg_sl ([.ref h0]) ++ List.replicate (1 - (lg_sl ([.ref h0])).length) Slot.unset).toArray = ls at hl ⊢
  have hl : lv_has ls 1 [(0, .ref h0)] := hl
  refine lv_aload_n hx hb dX10_ways_0 rfl (lv_at hl 0 rfl) ?_
  have hPc := hP.sub (ws' := [(h0, .inr (10, [.ref tp, .ref rd, .ref tb, .ref rg, .ref bl, .ref pa, .ref fm, .ref te, .ref hi, .ref fr, .int fd, .int rf, .int lf, .int fp])), (tb, .inr (8, [.int 0, .int lk, .int ct, .int vr, .ref a1, .ref a2, .ref a3, .ref a4]))]) [0, 1] rfl
  have hDc := hD.sub (ws' := [(h0, .inr (10, [.ref tp, .ref rd, .ref tb, .ref rg, .ref bl, .ref pa, .ref fm, .ref te, .ref hi, .ref fr, .int fd, .int rf, .int lf, .int fp])), (tb, .inr (8, [.int 0, .int lk, .int ct, .int vr, .ref a1, .ref a2, .ref a3, .ref a4]))]) [0, 1] (by decide) rfl
  have hKc := hK.sub (tys' := []) [] rfl
  have hFc := va_free (wc := [(h0, .inr (10, [.ref tp, .ref rd, .ref tb, .ref rg, .ref bl, .ref pa, .ref fm, .ref te, .ref hi, .ref fr, .int fd, .int rf, .int lf, .int fp])), (tb, .inr (8, [.int 0, .int lk, .int ct, .int vr, .ref a1, .ref a2, .ref a3, .ref a4]))]) hD hS hA [0, 1] rfl
  refine va_calli (va_runV (As := []) (rest := []) ⟨hx, hb, hml, hown, hts⟩ (c_noBook l dC dI s.heap.size h0 tp rd tb rg bl pa fm te hi fr fd rf lf fp lk ct vr a1 a2 a3 a4) (cwV 0 hts gX10_ways_X10_noBook rfl rfl rfl (by decide +kernel) ⟨Nat.le_of_ble_eq_true rfl, Nat.le_of_ble_eq_true rfl⟩) ⟨fun a U g mk q => by obtain ⟨q0, q1, qP, qK, qD⟩ := q; exact ⟨q0, q1, qP, va_K.moved (u := U) (U := U.calling g mk a) (Vm.Alike.refl U.vm) qK, qD⟩, va_recv hKc hPc (ci := 10) (q0 := 0) rfl rfl, fun U hU hW => ⟨rfl, by rw [hU], by rw [hU]; exact hPc, va_K.moved hW.alike hKc, hDc.weaken (fun _ _ _ _ => trivial)⟩⟩ rfl rfl hl.1 rfl (lv_room (Nat.le_of_ble_eq_true rfl)) dX10_ways_1 ⟨Nat.le_of_ble_eq_true rfl, Nat.le_of_ble_eq_true rfl⟩) hS (fun q _ h => hFc q h) hFc (fun r_1 u t H1 locs ht hvm hw hB hz1 hk1 hS => ?_)
  obtain ⟨hP1, hK1, hD1⟩ := hB
  rw [ht] at hP1
  have hK1 := va_K.moved hvm.symm hK1
  try dsimp only at hw
  obtain ⟨hP, hD⟩ := va_join (wr := []) (w1 := [(h0, .inr (10, [.ref tp, .ref rd, .ref tb, .ref rg, .ref bl, .ref pa, .ref fm, .ref te, .ref hi, .ref fr, .int fd, .int rf, .int lf, .int fp])), (tb, .inr (8, [.int 0, .int lk, .int ct, .int vr, .ref a1, .ref a2, .ref a3, .ref a4]))]) hP hD [0, 1] [] rfl rfl (by decide) (by decide) hk1 hFc hP1 hD1
  have hK := (hK.sub (tys' := []) [] rfl).app hK1
  generalize H1 = H at hP hS ⊢
  have hP : va_P (dC, dI) vwCl [(h0, .inr (10, [.ref tp, .ref rd, .ref tb, .ref rg, .ref bl, .ref pa, .ref fm, .ref te, .ref hi, .ref fr, .int fd, .int rf, .int lf, .int fp])), (tb, .inr (8, [.int 0, .int lk, .int ct, .int vr, .ref a1, .ref a2, .ref a3, .ref a4]))] H := hP
  have hD : va_D A [(h0, .inr (10, [.ref tp, .ref rd, .ref tb, .ref rg, .ref bl, .ref pa, .ref fm, .ref te, .ref hi, .ref fr, .int fd, .int rf, .int lf, .int fp])), (tb, .inr (8, [.int 0, .int lk, .int ct, .int vr, .ref a1, .ref a2, .ref a3, .ref a4]))] := hD
  have hK : va_K (dC, dI) vwCl [] s := hK
  refine W.widen (k := 0) (n := 0) (by omega) (by omega) ?_
  have er_1 : r_1 = 1 := hw
  subst er_1
  refine lv_if_eq (tgt := 13) hx hb dX10_ways_4 (by decide) (fun c_2 => absurd c_2 (by decide)) (fun c_2 => ?_)
  refine lv_aload_n hx hb dX10_ways_7 rfl (lv_at hl 0 rfl) ?_
  refine lv_iconst (v := 1) hx hb dX10_ways_8 (by decide) ?_
  have hPc := hP.sub (ws' := [(h0, .inr (10, [.ref tp, .ref rd, .ref tb, .ref rg, .ref bl, .ref pa, .ref fm, .ref te, .ref hi, .ref fr, .int fd, .int rf, .int lf, .int fp]))]) [0] rfl
  have hDc := hD.sub (ws' := [(h0, .inr (10, [.ref tp, .ref rd, .ref tb, .ref rg, .ref bl, .ref pa, .ref fm, .ref te, .ref hi, .ref fr, .int fd, .int rf, .int lf, .int fp]))]) [0] (by decide) rfl
  have hKc := hK.sub (tys' := []) [] rfl
  have hFc := va_free (wc := [(h0, .inr (10, [.ref tp, .ref rd, .ref tb, .ref rg, .ref bl, .ref pa, .ref fm, .ref te, .ref hi, .ref fr, .int fd, .int rf, .int lf, .int fp]))]) hD hS hA [0] rfl
  refine va_calli (va_runV (As := [.int 1]) (rest := []) ⟨hx, hb, hml, hown, hts⟩ (c_refused l dC dI H.size h0 tp rd tb rg bl pa fm te hi fr fd rf lf fp 1) (cwV 1 hts gX10_ways_X10_refused rfl rfl rfl (by decide +kernel) ⟨Nat.le_of_ble_eq_true rfl, Nat.le_of_ble_eq_true rfl⟩) ⟨fun a U g mk q => by obtain ⟨q0, q1, qP, qK, qD⟩ := q; exact ⟨q0, q1, qP, va_K.moved (u := U) (U := U.calling g mk a) (Vm.Alike.refl U.vm) qK, qD⟩, va_recv hKc hPc (ci := 10) (q0 := 0) rfl rfl, fun U hU hW => ⟨rfl, by rw [hU], by rw [hU]; exact hPc, va_K.moved hW.alike hKc, hDc.weaken (fun _ _ _ _ => trivial)⟩⟩ rfl rfl hl.1 rfl (lv_room (Nat.le_of_ble_eq_true rfl)) dX10_ways_9 ⟨Nat.le_of_ble_eq_true rfl, Nat.le_of_ble_eq_true rfl⟩) hS (fun q _ h => hFc q h) hFc (fun r_3 u t H1 locs ht hvm hw hB hz1 hk1 hS => ?_)
  obtain ⟨hP1, hK1, hD1⟩ := hB
  rw [ht] at hP1
  have hK1 := va_K.moved hvm.symm hK1
  try dsimp only at hw
  obtain ⟨hP, hD⟩ := va_join (wr := [(tb, .inr (8, [.int 0, .int lk, .int ct, .int vr, .ref a1, .ref a2, .ref a3, .ref a4]))]) (w1 := [(h0, .inr (10, [.ref tp, .ref rd, .ref tb, .ref rg, .ref bl, .ref pa, .ref fm, .ref te, .ref hi, .ref fr, .int fd, .int 1, .int lf, .int fp]))]) hP hD [0] [1] rfl rfl (by decide) (by decide) hk1 hFc hP1 hD1
  have hK := (hK.sub (tys' := []) [] rfl).app hK1
  generalize H1 = H at hP hS ⊢
  have hP : va_P (dC, dI) vwCl [(tb, .inr (8, [.int 0, .int lk, .int ct, .int vr, .ref a1, .ref a2, .ref a3, .ref a4])), (h0, .inr (10, [.ref tp, .ref rd, .ref tb, .ref rg, .ref bl, .ref pa, .ref fm, .ref te, .ref hi, .ref fr, .int fd, .int 1, .int lf, .int fp]))] H := hP
  have hD : va_D A [(tb, .inr (8, [.int 0, .int lk, .int ct, .int vr, .ref a1, .ref a2, .ref a3, .ref a4])), (h0, .inr (10, [.ref tp, .ref rd, .ref tb, .ref rg, .ref bl, .ref pa, .ref fm, .ref te, .ref hi, .ref fr, .int fd, .int 1, .int lf, .int fp]))] := hD
  have hK : va_K (dC, dI) vwCl [] s := hK
  refine W.widen (k := 0) (n := 0) (by omega) (by omega) ?_
  have er_3 : r_3 = (-1) := hw
  subst er_3
  have hP9 := hP.sub (ws' := [(h0, .inr (10, [.ref tp, .ref rd, .ref tb, .ref rg, .ref bl, .ref pa, .ref fm, .ref te, .ref hi, .ref fr, .int fd, .int 1, .int lf, .int fp])), (tb, .inr (8, [.int 0, .int lk, .int ct, .int vr, .ref a1, .ref a2, .ref a3, .ref a4]))]) [1, 0] rfl
  have hD9 := hD.sub (ws' := [(h0, .inr (10, [.ref tp, .ref rd, .ref tb, .ref rg, .ref bl, .ref pa, .ref fm, .ref te, .ref hi, .ref fr, .int fd, .int 1, .int lf, .int fp])), (tb, .inr (8, [.int 0, .int lk, .int ct, .int vr, .ref a1, .ref a2, .ref a3, .ref a4]))]) [1, 0] (by decide) rfl
  have hK9 := hK.sub (tys' := []) [] rfl
  refine W.widen (k := 0) (n := 0) (Nat.le_of_ble_eq_true rfl) (Nat.le_of_ble_eq_true rfl) ?_
  exact W.iret (v := (-1)) hx hb hr (fun t ht hW => ⟨⟨(-1), (), rfl, rfl, by rw [ht]; exact hP9, va_K.moved hW.alike hK9, hD9⟩, hS.F ht⟩) hS.2.2 dX10_ways_12

set_option maxHeartbeats 4000000 in
set_option maxRecDepth 100000 in
/-- core without a BOOK -/
theorem c_core_0 (l : Launch) (dC : Nat → ClassId) (dI : Nat → Nat → Nat) (sz : Nat) (h0 : Nat) (tp : Nat) (rd : Nat) (tb : Nat) (rg : Nat) (bl : Nat) (pa : Nat) (fm : Nat) (te : Nat) (hi : Nat) (fr : Nat) (fd : Int32) (rf : Int32) (lf : Int32) (fp : Int32) (lk : Int32) (ct : Int32) (vr : Int32) (a1 : Nat) (a2 : Nat) (a3 : Nat) (a4 : Nat)  : Met l yX10_core wsX10_core ({ frames := 1, cells := 0, slots := 0, locals := 21 }) (va_Pc [.ref h0] (fun U => U.heap.size = sz ∧ va_P (dC, dI) vwCl [(h0, .inr (10, [.ref tp, .ref rd, .ref tb, .ref rg, .ref bl, .ref pa, .ref fm, .ref te, .ref hi, .ref fr, .int fd, .int rf, .int lf, .int fp])), (tb, .inr (8, [.int 0, .int lk, .int ct, .int vr, .ref a1, .ref a2, .ref a3, .ref a4]))] U.heap ∧ va_K (dC, dI) vwCl [] U ∧ va_D (fun _ => True) [(h0, .inr (10, [.ref tp, .ref rd, .ref tb, .ref rg, .ref bl, .ref pa, .ref fm, .ref te, .ref hi, .ref fr, .int fd, .int rf, .int lf, .int fp])), (tb, .inr (8, [.int 0, .int lk, .int ct, .int vr, .ref a1, .ref a2, .ref a3, .ref a4]))])) (va_Qi (fun (r : Int32) (_ : Unit) => r = (-1)) (fun _ t => va_P (dC, dI) vwCl [(h0, .inr (10, [.ref tp, .ref rd, .ref tb, .ref rg, .ref bl, .ref pa, .ref fm, .ref te, .ref hi, .ref fr, .int fd, .int 1, .int lf, .int fp])), (tb, .inr (8, [.int 0, .int lk, .int ct, .int vr, .ref a1, .ref a2, .ref a3, .ref a4]))] t.heap ∧ va_K (dC, dI) vwCl [] t ∧ va_D (va_A [(h0, .inr (10, [.ref tp, .ref rd, .ref tb, .ref rg, .ref bl, .ref pa, .ref fm, .ref te, .ref hi, .ref fr, .int fd, .int rf, .int lf, .int fp])), (tb, .inr (8, [.int 0, .int lk, .int ct, .int vr, .ref a1, .ref a2, .ref a3, .ref a4]))] sz) [(h0, .inr (10, [.ref tp, .ref rd, .ref tb, .ref rg, .ref bl, .ref pa, .ref fm, .ref te, .ref hi, .ref fr, .int fd, .int 1, .int lf, .int fp])), (tb, .inr (8, [.int 0, .int lk, .int ct, .int vr, .ref a1, .ref a2, .ref a3, .ref a4]))]) (va_A [(h0, .inr (10, [.ref tp, .ref rd, .ref tb, .ref rg, .ref bl, .ref pa, .ref fm, .ref te, .ref hi, .ref fr, .int fd, .int rf, .int lf, .int fp])), (tb, .inr (8, [.int 0, .int lk, .int ct, .int vr, .ref a1, .ref a2, .ref a3, .ref a4]))] sz)) 0 0 (va_A [(h0, .inr (10, [.ref tp, .ref rd, .ref tb, .ref rg, .ref bl, .ref pa, .ref fm, .ref te, .ref hi, .ref fr, .int fd, .int rf, .int lf, .int fp])), (tb, .inr (8, [.int 0, .int lk, .int ct, .int vr, .ref a1, .ref a2, .ref a3, .ref a4]))] sz) := by
  refine Met.ofW (cc := cX10_core) (maxL := 1) (ret := (some .int)) (by decide) rfl ?_
  intro p e s m args below meth c s₁ B hml hv
  obtain ⟨rfl, hsz, hP, hK, hD0⟩ := hv
  have hx := B.exec
  have hb := B.bytes
  have hr := B.returns
  have hts := atoms_spec (ws := wsX10_core) B.pre
  have hown : s.vm.findClass RX10 = some m.cls := findClass_of_methodNamed B.named
  have hlocks := B.notSynchronized
  subst hsz
  have hD := hD0.self (sz := s.heap.size)
  generalize hAe : va_A [(h0, .inr (10, [.ref tp, .ref rd, .ref tb, .ref rg, .ref bl, .ref pa, .ref fm, .ref te, .ref hi, .ref fr, .int fd, .int rf, .int lf, .int fp])), (tb, .inr (8, [.int 0, .int lk, .int ct, .int vr, .ref a1, .ref a2, .ref a3, .ref a4]))] s.heap.size = A at hD ⊢
  have hA : ∀ q : Nat, s.heap.size ≤ q → A q := fun q h => by rw [← hAe]; exact Or.inr h
  have hS : va_S A s.heap s.heap [] := va_S.rf
  have hP : va_P (dC, dI) vwCl [(h0, .inr (10, [.ref tp, .ref rd, .ref tb, .ref rg, .ref bl, .ref pa, .ref fm, .ref te, .ref hi, .ref fr, .int fd, .int rf, .int lf, .int fp])), (tb, .inr (8, [.int 0, .int lk, .int ct, .int vr, .ref a1, .ref a2, .ref a3, .ref a4]))] s.heap := hP
  have hl := lv_entry ([.ref h0]) (n := 1) (Nat.le_of_ble_eq_true rfl)
  rw [lg_entry_eq]
  generalize (lg_sl ([.ref h0]) ++ List.replicate (1 - (lg_sl ([.ref h0])).length) Slot.unset).toArray = ls at hl ⊢
  have hl : lv_has ls 1 [(0, .ref h0)] := hl
  refine lv_aload_n hx hb dX10_core_0 rfl (lv_at hl 0 rfl) ?_
  have hPc := hP.sub (ws' := [(h0, .inr (10, [.ref tp, .ref rd, .ref tb, .ref rg, .ref bl, .ref pa, .ref fm, .ref te, .ref hi, .ref fr, .int fd, .int rf, .int lf, .int fp])), (tb, .inr (8, [.int 0, .int lk, .int ct, .int vr, .ref a1, .ref a2, .ref a3, .ref a4]))]) [0, 1] rfl
  have hDc := hD.sub (ws' := [(h0, .inr (10, [.ref tp, .ref rd, .ref tb, .ref rg, .ref bl, .ref pa, .ref fm, .ref te, .ref hi, .ref fr, .int fd, .int rf, .int lf, .int fp])), (tb, .inr (8, [.int 0, .int lk, .int ct, .int vr, .ref a1, .ref a2, .ref a3, .ref a4]))]) [0, 1] (by decide) rfl
  have hKc := hK.sub (tys' := []) [] rfl
  have hFc := va_free (wc := [(h0, .inr (10, [.ref tp, .ref rd, .ref tb, .ref rg, .ref bl, .ref pa, .ref fm, .ref te, .ref hi, .ref fr, .int fd, .int rf, .int lf, .int fp])), (tb, .inr (8, [.int 0, .int lk, .int ct, .int vr, .ref a1, .ref a2, .ref a3, .ref a4]))]) hD hS hA [0, 1] rfl
  refine va_calli (va_runV (As := []) (rest := []) ⟨hx, hb, hml, hown, hts⟩ (c_noBook l dC dI s.heap.size h0 tp rd tb rg bl pa fm te hi fr fd rf lf fp lk ct vr a1 a2 a3 a4) (cwV 0 hts gX10_core_X10_noBook rfl rfl rfl (by decide +kernel) ⟨Nat.le_of_ble_eq_true rfl, Nat.le_of_ble_eq_true rfl⟩) ⟨fun a U g mk q => by obtain ⟨q0, q1, qP, qK, qD⟩ := q; exact ⟨q0, q1, qP, va_K.moved (u := U) (U := U.calling g mk a) (Vm.Alike.refl U.vm) qK, qD⟩, va_recv hKc hPc (ci := 10) (q0 := 0) rfl rfl, fun U hU hW => ⟨rfl, by rw [hU], by rw [hU]; exact hPc, va_K.moved hW.alike hKc, hDc.weaken (fun _ _ _ _ => trivial)⟩⟩ rfl rfl hl.1 rfl (lv_room (Nat.le_of_ble_eq_true rfl)) dX10_core_1 ⟨Nat.le_of_ble_eq_true rfl, Nat.le_of_ble_eq_true rfl⟩) hS (fun q _ h => hFc q h) hFc (fun r_1 u t H1 locs ht hvm hw hB hz1 hk1 hS => ?_)
  obtain ⟨hP1, hK1, hD1⟩ := hB
  rw [ht] at hP1
  have hK1 := va_K.moved hvm.symm hK1
  try dsimp only at hw
  obtain ⟨hP, hD⟩ := va_join (wr := []) (w1 := [(h0, .inr (10, [.ref tp, .ref rd, .ref tb, .ref rg, .ref bl, .ref pa, .ref fm, .ref te, .ref hi, .ref fr, .int fd, .int rf, .int lf, .int fp])), (tb, .inr (8, [.int 0, .int lk, .int ct, .int vr, .ref a1, .ref a2, .ref a3, .ref a4]))]) hP hD [0, 1] [] rfl rfl (by decide) (by decide) hk1 hFc hP1 hD1
  have hK := (hK.sub (tys' := []) [] rfl).app hK1
  generalize H1 = H at hP hS ⊢
  have hP : va_P (dC, dI) vwCl [(h0, .inr (10, [.ref tp, .ref rd, .ref tb, .ref rg, .ref bl, .ref pa, .ref fm, .ref te, .ref hi, .ref fr, .int fd, .int rf, .int lf, .int fp])), (tb, .inr (8, [.int 0, .int lk, .int ct, .int vr, .ref a1, .ref a2, .ref a3, .ref a4]))] H := hP
  have hD : va_D A [(h0, .inr (10, [.ref tp, .ref rd, .ref tb, .ref rg, .ref bl, .ref pa, .ref fm, .ref te, .ref hi, .ref fr, .int fd, .int rf, .int lf, .int fp])), (tb, .inr (8, [.int 0, .int lk, .int ct, .int vr, .ref a1, .ref a2, .ref a3, .ref a4]))] := hD
  have hK : va_K (dC, dI) vwCl [] s := hK
  refine W.widen (k := 0) (n := 0) (by omega) (by omega) ?_
  have er_1 : r_1 = 1 := hw
  subst er_1
  refine lv_if_eq (tgt := 13) hx hb dX10_core_4 (by decide) (fun c_2 => absurd c_2 (by decide)) (fun c_2 => ?_)
  refine lv_aload_n hx hb dX10_core_7 rfl (lv_at hl 0 rfl) ?_
  refine lv_iconst (v := 1) hx hb dX10_core_8 (by decide) ?_
  have hPc := hP.sub (ws' := [(h0, .inr (10, [.ref tp, .ref rd, .ref tb, .ref rg, .ref bl, .ref pa, .ref fm, .ref te, .ref hi, .ref fr, .int fd, .int rf, .int lf, .int fp]))]) [0] rfl
  have hDc := hD.sub (ws' := [(h0, .inr (10, [.ref tp, .ref rd, .ref tb, .ref rg, .ref bl, .ref pa, .ref fm, .ref te, .ref hi, .ref fr, .int fd, .int rf, .int lf, .int fp]))]) [0] (by decide) rfl
  have hKc := hK.sub (tys' := []) [] rfl
  have hFc := va_free (wc := [(h0, .inr (10, [.ref tp, .ref rd, .ref tb, .ref rg, .ref bl, .ref pa, .ref fm, .ref te, .ref hi, .ref fr, .int fd, .int rf, .int lf, .int fp]))]) hD hS hA [0] rfl
  refine va_calli (va_runV (As := [.int 1]) (rest := []) ⟨hx, hb, hml, hown, hts⟩ (c_refused l dC dI H.size h0 tp rd tb rg bl pa fm te hi fr fd rf lf fp 1) (cwV 1 hts gX10_core_X10_refused rfl rfl rfl (by decide +kernel) ⟨Nat.le_of_ble_eq_true rfl, Nat.le_of_ble_eq_true rfl⟩) ⟨fun a U g mk q => by obtain ⟨q0, q1, qP, qK, qD⟩ := q; exact ⟨q0, q1, qP, va_K.moved (u := U) (U := U.calling g mk a) (Vm.Alike.refl U.vm) qK, qD⟩, va_recv hKc hPc (ci := 10) (q0 := 0) rfl rfl, fun U hU hW => ⟨rfl, by rw [hU], by rw [hU]; exact hPc, va_K.moved hW.alike hKc, hDc.weaken (fun _ _ _ _ => trivial)⟩⟩ rfl rfl hl.1 rfl (lv_room (Nat.le_of_ble_eq_true rfl)) dX10_core_9 ⟨Nat.le_of_ble_eq_true rfl, Nat.le_of_ble_eq_true rfl⟩) hS (fun q _ h => hFc q h) hFc (fun r_3 u t H1 locs ht hvm hw hB hz1 hk1 hS => ?_)
  obtain ⟨hP1, hK1, hD1⟩ := hB
  rw [ht] at hP1
  have hK1 := va_K.moved hvm.symm hK1
  try dsimp only at hw
  obtain ⟨hP, hD⟩ := va_join (wr := [(tb, .inr (8, [.int 0, .int lk, .int ct, .int vr, .ref a1, .ref a2, .ref a3, .ref a4]))]) (w1 := [(h0, .inr (10, [.ref tp, .ref rd, .ref tb, .ref rg, .ref bl, .ref pa, .ref fm, .ref te, .ref hi, .ref fr, .int fd, .int 1, .int lf, .int fp]))]) hP hD [0] [1] rfl rfl (by decide) (by decide) hk1 hFc hP1 hD1
  have hK := (hK.sub (tys' := []) [] rfl).app hK1
  generalize H1 = H at hP hS ⊢
  have hP : va_P (dC, dI) vwCl [(tb, .inr (8, [.int 0, .int lk, .int ct, .int vr, .ref a1, .ref a2, .ref a3, .ref a4])), (h0, .inr (10, [.ref tp, .ref rd, .ref tb, .ref rg, .ref bl, .ref pa, .ref fm, .ref te, .ref hi, .ref fr, .int fd, .int 1, .int lf, .int fp]))] H := hP
  have hD : va_D A [(tb, .inr (8, [.int 0, .int lk, .int ct, .int vr, .ref a1, .ref a2, .ref a3, .ref a4])), (h0, .inr (10, [.ref tp, .ref rd, .ref tb, .ref rg, .ref bl, .ref pa, .ref fm, .ref te, .ref hi, .ref fr, .int fd, .int 1, .int lf, .int fp]))] := hD
  have hK : va_K (dC, dI) vwCl [] s := hK
  refine W.widen (k := 0) (n := 0) (by omega) (by omega) ?_
  have er_3 : r_3 = (-1) := hw
  subst er_3
  have hP9 := hP.sub (ws' := [(h0, .inr (10, [.ref tp, .ref rd, .ref tb, .ref rg, .ref bl, .ref pa, .ref fm, .ref te, .ref hi, .ref fr, .int fd, .int 1, .int lf, .int fp])), (tb, .inr (8, [.int 0, .int lk, .int ct, .int vr, .ref a1, .ref a2, .ref a3, .ref a4]))]) [1, 0] rfl
  have hD9 := hD.sub (ws' := [(h0, .inr (10, [.ref tp, .ref rd, .ref tb, .ref rg, .ref bl, .ref pa, .ref fm, .ref te, .ref hi, .ref fr, .int fd, .int 1, .int lf, .int fp])), (tb, .inr (8, [.int 0, .int lk, .int ct, .int vr, .ref a1, .ref a2, .ref a3, .ref a4]))]) [1, 0] (by decide) rfl
  have hK9 := hK.sub (tys' := []) [] rfl
  refine W.widen (k := 0) (n := 0) (Nat.le_of_ble_eq_true rfl) (Nat.le_of_ble_eq_true rfl) ?_
  exact W.iret (v := (-1)) hx hb hr (fun t ht hW => ⟨⟨(-1), (), rfl, rfl, by rw [ht]; exact hP9, va_K.moved hW.alike hK9, hD9⟩, hS.F ht⟩) hS.2.2 dX10_core_12

set_option maxHeartbeats 4000000 in
set_option maxRecDepth 100000 in
/-- can without a BOOK -/
theorem c_can_0 (l : Launch) (dC : Nat → ClassId) (dI : Nat → Nat → Nat) (sz : Nat) (h0 : Nat) (tp : Nat) (rd : Nat) (tb : Nat) (rg : Nat) (bl : Nat) (pa : Nat) (fm : Nat) (te : Nat) (hi : Nat) (fr : Nat) (fd : Int32) (rf : Int32) (lf : Int32) (fp : Int32) (lk : Int32) (ct : Int32) (vr : Int32) (a1 : Nat) (a2 : Nat) (a3 : Nat) (a4 : Nat) (p0 : Int32)  : Met l yX10_can wsX10_can ({ frames := 1, cells := 0, slots := 0, locals := 21 }) (va_Pc [.ref h0, .int p0] (fun U => U.heap.size = sz ∧ va_P (dC, dI) vwCl [(h0, .inr (10, [.ref tp, .ref rd, .ref tb, .ref rg, .ref bl, .ref pa, .ref fm, .ref te, .ref hi, .ref fr, .int fd, .int rf, .int lf, .int fp])), (tb, .inr (8, [.int 0, .int lk, .int ct, .int vr, .ref a1, .ref a2, .ref a3, .ref a4]))] U.heap ∧ va_K (dC, dI) vwCl [] U ∧ va_D (fun _ => True) [(h0, .inr (10, [.ref tp, .ref rd, .ref tb, .ref rg, .ref bl, .ref pa, .ref fm, .ref te, .ref hi, .ref fr, .int fd, .int rf, .int lf, .int fp])), (tb, .inr (8, [.int 0, .int lk, .int ct, .int vr, .ref a1, .ref a2, .ref a3, .ref a4]))])) (va_Qi (fun (r : Int32) (_ : Unit) => r = (-1)) (fun _ t => va_P (dC, dI) vwCl [(h0, .inr (10, [.ref tp, .ref rd, .ref tb, .ref rg, .ref bl, .ref pa, .ref fm, .ref te, .ref hi, .ref fr, .int fd, .int 1, .int lf, .int fp])), (tb, .inr (8, [.int 0, .int lk, .int ct, .int vr, .ref a1, .ref a2, .ref a3, .ref a4]))] t.heap ∧ va_K (dC, dI) vwCl [] t ∧ va_D (va_A [(h0, .inr (10, [.ref tp, .ref rd, .ref tb, .ref rg, .ref bl, .ref pa, .ref fm, .ref te, .ref hi, .ref fr, .int fd, .int rf, .int lf, .int fp])), (tb, .inr (8, [.int 0, .int lk, .int ct, .int vr, .ref a1, .ref a2, .ref a3, .ref a4]))] sz) [(h0, .inr (10, [.ref tp, .ref rd, .ref tb, .ref rg, .ref bl, .ref pa, .ref fm, .ref te, .ref hi, .ref fr, .int fd, .int 1, .int lf, .int fp])), (tb, .inr (8, [.int 0, .int lk, .int ct, .int vr, .ref a1, .ref a2, .ref a3, .ref a4]))]) (va_A [(h0, .inr (10, [.ref tp, .ref rd, .ref tb, .ref rg, .ref bl, .ref pa, .ref fm, .ref te, .ref hi, .ref fr, .int fd, .int rf, .int lf, .int fp])), (tb, .inr (8, [.int 0, .int lk, .int ct, .int vr, .ref a1, .ref a2, .ref a3, .ref a4]))] sz)) 0 0 (va_A [(h0, .inr (10, [.ref tp, .ref rd, .ref tb, .ref rg, .ref bl, .ref pa, .ref fm, .ref te, .ref hi, .ref fr, .int fd, .int rf, .int lf, .int fp])), (tb, .inr (8, [.int 0, .int lk, .int ct, .int vr, .ref a1, .ref a2, .ref a3, .ref a4]))] sz) := by
  refine Met.ofW (cc := cX10_can) (maxL := 2) (ret := (some .int)) (by decide) rfl ?_
  intro p e s m args below meth c s₁ B hml hv
  obtain ⟨rfl, hsz, hP, hK, hD0⟩ := hv
  have hx := B.exec
  have hb := B.bytes
  have hr := B.returns
  have hts := atoms_spec (ws := wsX10_can) B.pre
  have hown : s.vm.findClass RX10 = some m.cls := findClass_of_methodNamed B.named
  have hlocks := B.notSynchronized
  subst hsz
  have hD := hD0.self (sz := s.heap.size)
  generalize hAe : va_A [(h0, .inr (10, [.ref tp, .ref rd, .ref tb, .ref rg, .ref bl, .ref pa, .ref fm, .ref te, .ref hi, .ref fr, .int fd, .int rf, .int lf, .int fp])), (tb, .inr (8, [.int 0, .int lk, .int ct, .int vr, .ref a1, .ref a2, .ref a3, .ref a4]))] s.heap.size = A at hD ⊢
  have hA : ∀ q : Nat, s.heap.size ≤ q → A q := fun q h => by rw [← hAe]; exact Or.inr h
  have hS : va_S A s.heap s.heap [] := va_S.rf
  have hP : va_P (dC, dI) vwCl [(h0, .inr (10, [.ref tp, .ref rd, .ref tb, .ref rg, .ref bl, .ref pa, .ref fm, .ref te, .ref hi, .ref fr, .int fd, .int rf, .int lf, .int fp])), (tb, .inr (8, [.int 0, .int lk, .int ct, .int vr, .ref a1, .ref a2, .ref a3, .ref a4]))] s.heap := hP
  have hl := lv_entry ([.ref h0, .int p0]) (n := 2) (Nat.le_of_ble_eq_true rfl)
  rw [lg_entry_eq]
  generalize (lg_sl ([.ref h0, .int p0]) ++ List.replicate (2 - (lg_sl ([.ref h0, .int p0])).length) Slot.unset).toArray = ls at hl ⊢
  have hl : lv_has ls 2 [(0, .ref h0), (1, .int p0)] := hl
  refine lv_aload_n hx hb dX10_can_0 rfl (lv_at hl 0 rfl) ?_
  have hPc := hP.sub (ws' := [(h0, .inr (10, [.ref tp, .ref rd, .ref tb, .ref rg, .ref bl, .ref pa, .ref fm, .ref te, .ref hi, .ref fr, .int fd, .int rf, .int lf, .int fp])), (tb, .inr (8, [.int 0, .int lk, .int ct, .int vr, .ref a1, .ref a2, .ref a3, .ref a4]))]) [0, 1] rfl
  have hDc := hD.sub (ws' := [(h0, .inr (10, [.ref tp, .ref rd, .ref tb, .ref rg, .ref bl, .ref pa, .ref fm, .ref te, .ref hi, .ref fr, .int fd, .int rf, .int lf, .int fp])), (tb, .inr (8, [.int 0, .int lk, .int ct, .int vr, .ref a1, .ref a2, .ref a3, .ref a4]))]) [0, 1] (by decide) rfl
  have hKc := hK.sub (tys' := []) [] rfl
  have hFc := va_free (wc := [(h0, .inr (10, [.ref tp, .ref rd, .ref tb, .ref rg, .ref bl, .ref pa, .ref fm, .ref te, .ref hi, .ref fr, .int fd, .int rf, .int lf, .int fp])), (tb, .inr (8, [.int 0, .int lk, .int ct, .int vr, .ref a1, .ref a2, .ref a3, .ref a4]))]) hD hS hA [0, 1] rfl
  refine va_calli (va_runV (As := []) (rest := []) ⟨hx, hb, hml, hown, hts⟩ (c_noBook l dC dI s.heap.size h0 tp rd tb rg bl pa fm te hi fr fd rf lf fp lk ct vr a1 a2 a3 a4) (cwV 0 hts gX10_can_X10_noBook rfl rfl rfl (by decide +kernel) ⟨Nat.le_of_ble_eq_true rfl, Nat.le_of_ble_eq_true rfl⟩) ⟨fun a U g mk q => by obtain ⟨q0, q1, qP, qK, qD⟩ := q; exact ⟨q0, q1, qP, va_K.moved (u := U) (U := U.calling g mk a) (Vm.Alike.refl U.vm) qK, qD⟩, va_recv hKc hPc (ci := 10) (q0 := 0) rfl rfl, fun U hU hW => ⟨rfl, by rw [hU], by rw [hU]; exact hPc, va_K.moved hW.alike hKc, hDc.weaken (fun _ _ _ _ => trivial)⟩⟩ rfl rfl hl.1 rfl (lv_room (Nat.le_of_ble_eq_true rfl)) dX10_can_1 ⟨Nat.le_of_ble_eq_true rfl, Nat.le_of_ble_eq_true rfl⟩) hS (fun q _ h => hFc q h) hFc (fun r_1 u t H1 locs ht hvm hw hB hz1 hk1 hS => ?_)
  obtain ⟨hP1, hK1, hD1⟩ := hB
  rw [ht] at hP1
  have hK1 := va_K.moved hvm.symm hK1
  try dsimp only at hw
  obtain ⟨hP, hD⟩ := va_join (wr := []) (w1 := [(h0, .inr (10, [.ref tp, .ref rd, .ref tb, .ref rg, .ref bl, .ref pa, .ref fm, .ref te, .ref hi, .ref fr, .int fd, .int rf, .int lf, .int fp])), (tb, .inr (8, [.int 0, .int lk, .int ct, .int vr, .ref a1, .ref a2, .ref a3, .ref a4]))]) hP hD [0, 1] [] rfl rfl (by decide) (by decide) hk1 hFc hP1 hD1
  have hK := (hK.sub (tys' := []) [] rfl).app hK1
  generalize H1 = H at hP hS ⊢
  have hP : va_P (dC, dI) vwCl [(h0, .inr (10, [.ref tp, .ref rd, .ref tb, .ref rg, .ref bl, .ref pa, .ref fm, .ref te, .ref hi, .ref fr, .int fd, .int rf, .int lf, .int fp])), (tb, .inr (8, [.int 0, .int lk, .int ct, .int vr, .ref a1, .ref a2, .ref a3, .ref a4]))] H := hP
  have hD : va_D A [(h0, .inr (10, [.ref tp, .ref rd, .ref tb, .ref rg, .ref bl, .ref pa, .ref fm, .ref te, .ref hi, .ref fr, .int fd, .int rf, .int lf, .int fp])), (tb, .inr (8, [.int 0, .int lk, .int ct, .int vr, .ref a1, .ref a2, .ref a3, .ref a4]))] := hD
  have hK : va_K (dC, dI) vwCl [] s := hK
  refine W.widen (k := 0) (n := 0) (by omega) (by omega) ?_
  have er_1 : r_1 = 1 := hw
  subst er_1
  refine lv_if_eq (tgt := 13) hx hb dX10_can_4 (by decide) (fun c_2 => absurd c_2 (by decide)) (fun c_2 => ?_)
  refine lv_aload_n hx hb dX10_can_7 rfl (lv_at hl 0 rfl) ?_
  refine lv_iconst (v := 1) hx hb dX10_can_8 (by decide) ?_
  have hPc := hP.sub (ws' := [(h0, .inr (10, [.ref tp, .ref rd, .ref tb, .ref rg, .ref bl, .ref pa, .ref fm, .ref te, .ref hi, .ref fr, .int fd, .int rf, .int lf, .int fp]))]) [0] rfl
  have hDc := hD.sub (ws' := [(h0, .inr (10, [.ref tp, .ref rd, .ref tb, .ref rg, .ref bl, .ref pa, .ref fm, .ref te, .ref hi, .ref fr, .int fd, .int rf, .int lf, .int fp]))]) [0] (by decide) rfl
  have hKc := hK.sub (tys' := []) [] rfl
  have hFc := va_free (wc := [(h0, .inr (10, [.ref tp, .ref rd, .ref tb, .ref rg, .ref bl, .ref pa, .ref fm, .ref te, .ref hi, .ref fr, .int fd, .int rf, .int lf, .int fp]))]) hD hS hA [0] rfl
  refine va_calli (va_runV (As := [.int 1]) (rest := []) ⟨hx, hb, hml, hown, hts⟩ (c_refused l dC dI H.size h0 tp rd tb rg bl pa fm te hi fr fd rf lf fp 1) (cwV 1 hts gX10_can_X10_refused rfl rfl rfl (by decide +kernel) ⟨Nat.le_of_ble_eq_true rfl, Nat.le_of_ble_eq_true rfl⟩) ⟨fun a U g mk q => by obtain ⟨q0, q1, qP, qK, qD⟩ := q; exact ⟨q0, q1, qP, va_K.moved (u := U) (U := U.calling g mk a) (Vm.Alike.refl U.vm) qK, qD⟩, va_recv hKc hPc (ci := 10) (q0 := 0) rfl rfl, fun U hU hW => ⟨rfl, by rw [hU], by rw [hU]; exact hPc, va_K.moved hW.alike hKc, hDc.weaken (fun _ _ _ _ => trivial)⟩⟩ rfl rfl hl.1 rfl (lv_room (Nat.le_of_ble_eq_true rfl)) dX10_can_9 ⟨Nat.le_of_ble_eq_true rfl, Nat.le_of_ble_eq_true rfl⟩) hS (fun q _ h => hFc q h) hFc (fun r_3 u t H1 locs ht hvm hw hB hz1 hk1 hS => ?_)
  obtain ⟨hP1, hK1, hD1⟩ := hB
  rw [ht] at hP1
  have hK1 := va_K.moved hvm.symm hK1
  try dsimp only at hw
  obtain ⟨hP, hD⟩ := va_join (wr := [(tb, .inr (8, [.int 0, .int lk, .int ct, .int vr, .ref a1, .ref a2, .ref a3, .ref a4]))]) (w1 := [(h0, .inr (10, [.ref tp, .ref rd, .ref tb, .ref rg, .ref bl, .ref pa, .ref fm, .ref te, .ref hi, .ref fr, .int fd, .int 1, .int lf, .int fp]))]) hP hD [0] [1] rfl rfl (by decide) (by decide) hk1 hFc hP1 hD1
  have hK := (hK.sub (tys' := []) [] rfl).app hK1
  generalize H1 = H at hP hS ⊢
  have hP : va_P (dC, dI) vwCl [(tb, .inr (8, [.int 0, .int lk, .int ct, .int vr, .ref a1, .ref a2, .ref a3, .ref a4])), (h0, .inr (10, [.ref tp, .ref rd, .ref tb, .ref rg, .ref bl, .ref pa, .ref fm, .ref te, .ref hi, .ref fr, .int fd, .int 1, .int lf, .int fp]))] H := hP
  have hD : va_D A [(tb, .inr (8, [.int 0, .int lk, .int ct, .int vr, .ref a1, .ref a2, .ref a3, .ref a4])), (h0, .inr (10, [.ref tp, .ref rd, .ref tb, .ref rg, .ref bl, .ref pa, .ref fm, .ref te, .ref hi, .ref fr, .int fd, .int 1, .int lf, .int fp]))] := hD
  have hK : va_K (dC, dI) vwCl [] s := hK
  refine W.widen (k := 0) (n := 0) (by omega) (by omega) ?_
  have er_3 : r_3 = (-1) := hw
  subst er_3
  have hP9 := hP.sub (ws' := [(h0, .inr (10, [.ref tp, .ref rd, .ref tb, .ref rg, .ref bl, .ref pa, .ref fm, .ref te, .ref hi, .ref fr, .int fd, .int 1, .int lf, .int fp])), (tb, .inr (8, [.int 0, .int lk, .int ct, .int vr, .ref a1, .ref a2, .ref a3, .ref a4]))]) [1, 0] rfl
  have hD9 := hD.sub (ws' := [(h0, .inr (10, [.ref tp, .ref rd, .ref tb, .ref rg, .ref bl, .ref pa, .ref fm, .ref te, .ref hi, .ref fr, .int fd, .int 1, .int lf, .int fp])), (tb, .inr (8, [.int 0, .int lk, .int ct, .int vr, .ref a1, .ref a2, .ref a3, .ref a4]))]) [1, 0] (by decide) rfl
  have hK9 := hK.sub (tys' := []) [] rfl
  refine W.widen (k := 0) (n := 0) (Nat.le_of_ble_eq_true rfl) (Nat.le_of_ble_eq_true rfl) ?_
  exact W.iret (v := (-1)) hx hb hr (fun t ht hW => ⟨⟨(-1), (), rfl, rfl, by rw [ht]; exact hP9, va_K.moved hW.alike hK9, hD9⟩, hS.F ht⟩) hS.2.2 dX10_can_12

set_option maxHeartbeats 4000000 in
set_option maxRecDepth 100000 in
/-- game without a BOOK -/
theorem c_game_0 (l : Launch) (dC : Nat → ClassId) (dI : Nat → Nat → Nat) (sz : Nat) (h0 : Nat) (tp : Nat) (rd : Nat) (tb : Nat) (rg : Nat) (bl : Nat) (pa : Nat) (fm : Nat) (te : Nat) (hi : Nat) (fr : Nat) (fd : Int32) (rf : Int32) (lf : Int32) (fp : Int32) (lk : Int32) (ct : Int32) (vr : Int32) (a1 : Nat) (a2 : Nat) (a3 : Nat) (a4 : Nat)  : Met l yX10_game wsX10_game ({ frames := 1, cells := 0, slots := 0, locals := 21 }) (va_Pc [.ref h0] (fun U => U.heap.size = sz ∧ va_P (dC, dI) vwCl [(h0, .inr (10, [.ref tp, .ref rd, .ref tb, .ref rg, .ref bl, .ref pa, .ref fm, .ref te, .ref hi, .ref fr, .int fd, .int rf, .int lf, .int fp])), (tb, .inr (8, [.int 0, .int lk, .int ct, .int vr, .ref a1, .ref a2, .ref a3, .ref a4]))] U.heap ∧ va_K (dC, dI) vwCl [] U ∧ va_D (fun _ => True) [(h0, .inr (10, [.ref tp, .ref rd, .ref tb, .ref rg, .ref bl, .ref pa, .ref fm, .ref te, .ref hi, .ref fr, .int fd, .int rf, .int lf, .int fp])), (tb, .inr (8, [.int 0, .int lk, .int ct, .int vr, .ref a1, .ref a2, .ref a3, .ref a4]))])) (va_Qi (fun (r : Int32) (_ : Unit) => r = (-1)) (fun _ t => va_P (dC, dI) vwCl [(h0, .inr (10, [.ref tp, .ref rd, .ref tb, .ref rg, .ref bl, .ref pa, .ref fm, .ref te, .ref hi, .ref fr, .int fd, .int 1, .int lf, .int fp])), (tb, .inr (8, [.int 0, .int lk, .int ct, .int vr, .ref a1, .ref a2, .ref a3, .ref a4]))] t.heap ∧ va_K (dC, dI) vwCl [] t ∧ va_D (va_A [(h0, .inr (10, [.ref tp, .ref rd, .ref tb, .ref rg, .ref bl, .ref pa, .ref fm, .ref te, .ref hi, .ref fr, .int fd, .int rf, .int lf, .int fp])), (tb, .inr (8, [.int 0, .int lk, .int ct, .int vr, .ref a1, .ref a2, .ref a3, .ref a4]))] sz) [(h0, .inr (10, [.ref tp, .ref rd, .ref tb, .ref rg, .ref bl, .ref pa, .ref fm, .ref te, .ref hi, .ref fr, .int fd, .int 1, .int lf, .int fp])), (tb, .inr (8, [.int 0, .int lk, .int ct, .int vr, .ref a1, .ref a2, .ref a3, .ref a4]))]) (va_A [(h0, .inr (10, [.ref tp, .ref rd, .ref tb, .ref rg, .ref bl, .ref pa, .ref fm, .ref te, .ref hi, .ref fr, .int fd, .int rf, .int lf, .int fp])), (tb, .inr (8, [.int 0, .int lk, .int ct, .int vr, .ref a1, .ref a2, .ref a3, .ref a4]))] sz)) 0 0 (va_A [(h0, .inr (10, [.ref tp, .ref rd, .ref tb, .ref rg, .ref bl, .ref pa, .ref fm, .ref te, .ref hi, .ref fr, .int fd, .int rf, .int lf, .int fp])), (tb, .inr (8, [.int 0, .int lk, .int ct, .int vr, .ref a1, .ref a2, .ref a3, .ref a4]))] sz) := by
  refine Met.ofW (cc := cX10_game) (maxL := 1) (ret := (some .int)) (by decide) rfl ?_
  intro p e s m args below meth c s₁ B hml hv
  obtain ⟨rfl, hsz, hP, hK, hD0⟩ := hv
  have hx := B.exec
  have hb := B.bytes
  have hr := B.returns
  have hts := atoms_spec (ws := wsX10_game) B.pre
  have hown : s.vm.findClass RX10 = some m.cls := findClass_of_methodNamed B.named
  have hlocks := B.notSynchronized
  subst hsz
  have hD := hD0.self (sz := s.heap.size)
  generalize hAe : va_A [(h0, .inr (10, [.ref tp, .ref rd, .ref tb, .ref rg, .ref bl, .ref pa, .ref fm, .ref te, .ref hi, .ref fr, .int fd, .int rf, .int lf, .int fp])), (tb, .inr (8, [.int 0, .int lk, .int ct, .int vr, .ref a1, .ref a2, .ref a3, .ref a4]))] s.heap.size = A at hD ⊢
  have hA : ∀ q : Nat, s.heap.size ≤ q → A q := fun q h => by rw [← hAe]; exact Or.inr h
  have hS : va_S A s.heap s.heap [] := va_S.rf
  have hP : va_P (dC, dI) vwCl [(h0, .inr (10, [.ref tp, .ref rd, .ref tb, .ref rg, .ref bl, .ref pa, .ref fm, .ref te, .ref hi, .ref fr, .int fd, .int rf, .int lf, .int fp])), (tb, .inr (8, [.int 0, .int lk, .int ct, .int vr, .ref a1, .ref a2, .ref a3, .ref a4]))] s.heap := hP
  have hl := lv_entry ([.ref h0]) (n := 1) (Nat.le_of_ble_eq_true rfl)
  rw [lg_entry_eq]
  generalize (lg_sl ([.ref h0]) ++ List.replicate (1 - (lg_sl ([.ref h0])).length) Slot.unset).toArray = ls at hl ⊢
  have hl : lv_has ls 1 [(0, .ref h0)] := hl
  refine lv_aload_n hx hb dX10_game_0 rfl (lv_at hl 0 rfl) ?_
  have hPc := hP.sub (ws' := [(h0, .inr (10, [.ref tp, .ref rd, .ref tb, .ref rg, .ref bl, .ref pa, .ref fm, .ref te, .ref hi, .ref fr, .int fd, .int rf, .int lf, .int fp])), (tb, .inr (8, [.int 0, .int lk, .int ct, .int vr, .ref a1, .ref a2, .ref a3, .ref a4]))]) [0, 1] rfl
  have hDc := hD.sub (ws' := [(h0, .inr (10, [.ref tp, .ref rd, .ref tb, .ref rg, .ref bl, .ref pa, .ref fm, .ref te, .ref hi, .ref fr, .int fd, .int rf, .int lf, .int fp])), (tb, .inr (8, [.int 0, .int lk, .int ct, .int vr, .ref a1, .ref a2, .ref a3, .ref a4]))]) [0, 1] (by decide) rfl
  have hKc := hK.sub (tys' := []) [] rfl
  have hFc := va_free (wc := [(h0, .inr (10, [.ref tp, .ref rd, .ref tb, .ref rg, .ref bl, .ref pa, .ref fm, .ref te, .ref hi, .ref fr, .int fd, .int rf, .int lf, .int fp])), (tb, .inr (8, [.int 0, .int lk, .int ct, .int vr, .ref a1, .ref a2, .ref a3, .ref a4]))]) hD hS hA [0, 1] rfl
  refine va_calli (va_runV (As := []) (rest := []) ⟨hx, hb, hml, hown, hts⟩ (c_noBook l dC dI s.heap.size h0 tp rd tb rg bl pa fm te hi fr fd rf lf fp lk ct vr a1 a2 a3 a4) (cwV 0 hts gX10_game_X10_noBook rfl rfl rfl (by decide +kernel) ⟨Nat.le_of_ble_eq_true rfl, Nat.le_of_ble_eq_true rfl⟩) ⟨fun a U g mk q => by obtain ⟨q0, q1, qP, qK, qD⟩ := q; exact ⟨q0, q1, qP, va_K.moved (u := U) (U := U.calling g mk a) (Vm.Alike.refl U.vm) qK, qD⟩, va_recv hKc hPc (ci := 10) (q0 := 0) rfl rfl, fun U hU hW => ⟨rfl, by rw [hU], by rw [hU]; exact hPc, va_K.moved hW.alike hKc, hDc.weaken (fun _ _ _ _ => trivial)⟩⟩ rfl rfl hl.1 rfl (lv_room (Nat.le_of_ble_eq_true rfl)) dX10_game_1 ⟨Nat.le_of_ble_eq_true rfl, Nat.le_of_ble_eq_true rfl⟩) hS (fun q _ h => hFc q h) hFc (fun r_1 u t H1 locs ht hvm hw hB hz1 hk1 hS => ?_)
  obtain ⟨hP1, hK1, hD1⟩ := hB
  rw [ht] at hP1
  have hK1 := va_K.moved hvm.symm hK1
  try dsimp only at hw
  obtain ⟨hP, hD⟩ := va_join (wr := []) (w1 := [(h0, .inr (10, [.ref tp, .ref rd, .ref tb, .ref rg, .ref bl, .ref pa, .ref fm, .ref te, .ref hi, .ref fr, .int fd, .int rf, .int lf, .int fp])), (tb, .inr (8, [.int 0, .int lk, .int ct, .int vr, .ref a1, .ref a2, .ref a3, .ref a4]))]) hP hD [0, 1] [] rfl rfl (by decide) (by decide) hk1 hFc hP1 hD1
  have hK := (hK.sub (tys' := []) [] rfl).app hK1
  generalize H1 = H at hP hS ⊢
  have hP : va_P (dC, dI) vwCl [(h0, .inr (10, [.ref tp, .ref rd, .ref tb, .ref rg, .ref bl, .ref pa, .ref fm, .ref te, .ref hi, .ref fr, .int fd, .int rf, .int lf, .int fp])), (tb, .inr (8, [.int 0, .int lk, .int ct, .int vr, .ref a1, .ref a2, .ref a3, .ref a4]))] H := hP
  have hD : va_D A [(h0, .inr (10, [.ref tp, .ref rd, .ref tb, .ref rg, .ref bl, .ref pa, .ref fm, .ref te, .ref hi, .ref fr, .int fd, .int rf, .int lf, .int fp])), (tb, .inr (8, [.int 0, .int lk, .int ct, .int vr, .ref a1, .ref a2, .ref a3, .ref a4]))] := hD
  have hK : va_K (dC, dI) vwCl [] s := hK
  refine W.widen (k := 0) (n := 0) (by omega) (by omega) ?_
  have er_1 : r_1 = 1 := hw
  subst er_1
  refine lv_if_eq (tgt := 13) hx hb dX10_game_4 (by decide) (fun c_2 => absurd c_2 (by decide)) (fun c_2 => ?_)
  refine lv_aload_n hx hb dX10_game_7 rfl (lv_at hl 0 rfl) ?_
  refine lv_iconst (v := 1) hx hb dX10_game_8 (by decide) ?_
  have hPc := hP.sub (ws' := [(h0, .inr (10, [.ref tp, .ref rd, .ref tb, .ref rg, .ref bl, .ref pa, .ref fm, .ref te, .ref hi, .ref fr, .int fd, .int rf, .int lf, .int fp]))]) [0] rfl
  have hDc := hD.sub (ws' := [(h0, .inr (10, [.ref tp, .ref rd, .ref tb, .ref rg, .ref bl, .ref pa, .ref fm, .ref te, .ref hi, .ref fr, .int fd, .int rf, .int lf, .int fp]))]) [0] (by decide) rfl
  have hKc := hK.sub (tys' := []) [] rfl
  have hFc := va_free (wc := [(h0, .inr (10, [.ref tp, .ref rd, .ref tb, .ref rg, .ref bl, .ref pa, .ref fm, .ref te, .ref hi, .ref fr, .int fd, .int rf, .int lf, .int fp]))]) hD hS hA [0] rfl
  refine va_calli (va_runV (As := [.int 1]) (rest := []) ⟨hx, hb, hml, hown, hts⟩ (c_refused l dC dI H.size h0 tp rd tb rg bl pa fm te hi fr fd rf lf fp 1) (cwV 1 hts gX10_game_X10_refused rfl rfl rfl (by decide +kernel) ⟨Nat.le_of_ble_eq_true rfl, Nat.le_of_ble_eq_true rfl⟩) ⟨fun a U g mk q => by obtain ⟨q0, q1, qP, qK, qD⟩ := q; exact ⟨q0, q1, qP, va_K.moved (u := U) (U := U.calling g mk a) (Vm.Alike.refl U.vm) qK, qD⟩, va_recv hKc hPc (ci := 10) (q0 := 0) rfl rfl, fun U hU hW => ⟨rfl, by rw [hU], by rw [hU]; exact hPc, va_K.moved hW.alike hKc, hDc.weaken (fun _ _ _ _ => trivial)⟩⟩ rfl rfl hl.1 rfl (lv_room (Nat.le_of_ble_eq_true rfl)) dX10_game_9 ⟨Nat.le_of_ble_eq_true rfl, Nat.le_of_ble_eq_true rfl⟩) hS (fun q _ h => hFc q h) hFc (fun r_3 u t H1 locs ht hvm hw hB hz1 hk1 hS => ?_)
  obtain ⟨hP1, hK1, hD1⟩ := hB
  rw [ht] at hP1
  have hK1 := va_K.moved hvm.symm hK1
  try dsimp only at hw
  obtain ⟨hP, hD⟩ := va_join (wr := [(tb, .inr (8, [.int 0, .int lk, .int ct, .int vr, .ref a1, .ref a2, .ref a3, .ref a4]))]) (w1 := [(h0, .inr (10, [.ref tp, .ref rd, .ref tb, .ref rg, .ref bl, .ref pa, .ref fm, .ref te, .ref hi, .ref fr, .int fd, .int 1, .int lf, .int fp]))]) hP hD [0] [1] rfl rfl (by decide) (by decide) hk1 hFc hP1 hD1
  have hK := (hK.sub (tys' := []) [] rfl).app hK1
  generalize H1 = H at hP hS ⊢
  have hP : va_P (dC, dI) vwCl [(tb, .inr (8, [.int 0, .int lk, .int ct, .int vr, .ref a1, .ref a2, .ref a3, .ref a4])), (h0, .inr (10, [.ref tp, .ref rd, .ref tb, .ref rg, .ref bl, .ref pa, .ref fm, .ref te, .ref hi, .ref fr, .int fd, .int 1, .int lf, .int fp]))] H := hP
  have hD : va_D A [(tb, .inr (8, [.int 0, .int lk, .int ct, .int vr, .ref a1, .ref a2, .ref a3, .ref a4])), (h0, .inr (10, [.ref tp, .ref rd, .ref tb, .ref rg, .ref bl, .ref pa, .ref fm, .ref te, .ref hi, .ref fr, .int fd, .int 1, .int lf, .int fp]))] := hD
  have hK : va_K (dC, dI) vwCl [] s := hK
  refine W.widen (k := 0) (n := 0) (by omega) (by omega) ?_
  have er_3 : r_3 = (-1) := hw
  subst er_3
  have hP9 := hP.sub (ws' := [(h0, .inr (10, [.ref tp, .ref rd, .ref tb, .ref rg, .ref bl, .ref pa, .ref fm, .ref te, .ref hi, .ref fr, .int fd, .int 1, .int lf, .int fp])), (tb, .inr (8, [.int 0, .int lk, .int ct, .int vr, .ref a1, .ref a2, .ref a3, .ref a4]))]) [1, 0] rfl
  have hD9 := hD.sub (ws' := [(h0, .inr (10, [.ref tp, .ref rd, .ref tb, .ref rg, .ref bl, .ref pa, .ref fm, .ref te, .ref hi, .ref fr, .int fd, .int 1, .int lf, .int fp])), (tb, .inr (8, [.int 0, .int lk, .int ct, .int vr, .ref a1, .ref a2, .ref a3, .ref a4]))]) [1, 0] (by decide) rfl
  have hK9 := hK.sub (tys' := []) [] rfl
  refine W.widen (k := 0) (n := 0) (Nat.le_of_ble_eq_true rfl) (Nat.le_of_ble_eq_true rfl) ?_
  exact W.iret (v := (-1)) hx hb hr (fun t ht hW => ⟨⟨(-1), (), rfl, rfl, by rw [ht]; exact hP9, va_K.moved hW.alike hK9, hD9⟩, hS.F ht⟩) hS.2.2 dX10_game_12

set_option maxHeartbeats 4000000 in
set_option maxRecDepth 100000 in
/-- corners without a BOOK -/
theorem c_corners_0 (l : Launch) (dC : Nat → ClassId) (dI : Nat → Nat → Nat) (sz : Nat) (h0 : Nat) (tp : Nat) (rd : Nat) (tb : Nat) (rg : Nat) (bl : Nat) (pa : Nat) (fm : Nat) (te : Nat) (hi : Nat) (fr : Nat) (fd : Int32) (rf : Int32) (lf : Int32) (fp : Int32) (lk : Int32) (ct : Int32) (vr : Int32) (a1 : Nat) (a2 : Nat) (a3 : Nat) (a4 : Nat)  : Met l yX10_corners wsX10_corners ({ frames := 1, cells := 0, slots := 0, locals := 21 }) (va_Pc [.ref h0] (fun U => U.heap.size = sz ∧ va_P (dC, dI) vwCl [(h0, .inr (10, [.ref tp, .ref rd, .ref tb, .ref rg, .ref bl, .ref pa, .ref fm, .ref te, .ref hi, .ref fr, .int fd, .int rf, .int lf, .int fp])), (tb, .inr (8, [.int 0, .int lk, .int ct, .int vr, .ref a1, .ref a2, .ref a3, .ref a4]))] U.heap ∧ va_K (dC, dI) vwCl [] U ∧ va_D (fun _ => True) [(h0, .inr (10, [.ref tp, .ref rd, .ref tb, .ref rg, .ref bl, .ref pa, .ref fm, .ref te, .ref hi, .ref fr, .int fd, .int rf, .int lf, .int fp])), (tb, .inr (8, [.int 0, .int lk, .int ct, .int vr, .ref a1, .ref a2, .ref a3, .ref a4]))])) (va_Qi (fun (r : Int32) (_ : Unit) => r = (-1)) (fun _ t => va_P (dC, dI) vwCl [(h0, .inr (10, [.ref tp, .ref rd, .ref tb, .ref rg, .ref bl, .ref pa, .ref fm, .ref te, .ref hi, .ref fr, .int fd, .int 1, .int lf, .int fp])), (tb, .inr (8, [.int 0, .int lk, .int ct, .int vr, .ref a1, .ref a2, .ref a3, .ref a4]))] t.heap ∧ va_K (dC, dI) vwCl [] t ∧ va_D (va_A [(h0, .inr (10, [.ref tp, .ref rd, .ref tb, .ref rg, .ref bl, .ref pa, .ref fm, .ref te, .ref hi, .ref fr, .int fd, .int rf, .int lf, .int fp])), (tb, .inr (8, [.int 0, .int lk, .int ct, .int vr, .ref a1, .ref a2, .ref a3, .ref a4]))] sz) [(h0, .inr (10, [.ref tp, .ref rd, .ref tb, .ref rg, .ref bl, .ref pa, .ref fm, .ref te, .ref hi, .ref fr, .int fd, .int 1, .int lf, .int fp])), (tb, .inr (8, [.int 0, .int lk, .int ct, .int vr, .ref a1, .ref a2, .ref a3, .ref a4]))]) (va_A [(h0, .inr (10, [.ref tp, .ref rd, .ref tb, .ref rg, .ref bl, .ref pa, .ref fm, .ref te, .ref hi, .ref fr, .int fd, .int rf, .int lf, .int fp])), (tb, .inr (8, [.int 0, .int lk, .int ct, .int vr, .ref a1, .ref a2, .ref a3, .ref a4]))] sz)) 0 0 (va_A [(h0, .inr (10, [.ref tp, .ref rd, .ref tb, .ref rg, .ref bl, .ref pa, .ref fm, .ref te, .ref hi, .ref fr, .int fd, .int rf, .int lf, .int fp])), (tb, .inr (8, [.int 0, .int lk, .int ct, .int vr, .ref a1, .ref a2, .ref a3, .ref a4]))] sz) := by
  refine Met.ofW (cc := cX10_corners) (maxL := 1) (ret := (some .int)) (by decide) rfl ?_
  intro p e s m args below meth c s₁ B hml hv
  obtain ⟨rfl, hsz, hP, hK, hD0⟩ := hv
  have hx := B.exec
  have hb := B.bytes
  have hr := B.returns
  have hts := atoms_spec (ws := wsX10_corners) B.pre
  have hown : s.vm.findClass RX10 = some m.cls := findClass_of_methodNamed B.named
  have hlocks := B.notSynchronized
  subst hsz
  have hD := hD0.self (sz := s.heap.size)
  generalize hAe : va_A [(h0, .inr (10, [.ref tp, .ref rd, .ref tb, .ref rg, .ref bl, .ref pa, .ref fm, .ref te, .ref hi, .ref fr, .int fd, .int rf, .int lf, .int fp])), (tb, .inr (8, [.int 0, .int lk, .int ct, .int vr, .ref a1, .ref a2, .ref a3, .ref a4]))] s.heap.size = A at hD ⊢
  have hA : ∀ q : Nat, s.heap.size ≤ q → A q := fun q h => by rw [← hAe]; exact Or.inr h
  have hS : va_S A s.heap s.heap [] := va_S.rf
  have hP : va_P (dC, dI) vwCl [(h0, .inr (10, [.ref tp, .ref rd, .ref tb, .ref rg, .ref bl, .ref pa, .ref fm, .ref te, .ref hi, .ref fr, .int fd, .int rf, .int lf, .int fp])), (tb, .inr (8, [.int 0, .int lk, .int ct, .int vr, .ref a1, .ref a2, .ref a3, .ref a4]))] s.heap := hP
  have hl := lv_entry ([.ref h0]) (n := 1) (Nat.le_of_ble_eq_true rfl)
  rw [lg_entry_eq]
  generalize (lg_sl ([.ref h0]) ++ List.replicate (1 - (lg_sl ([.ref h0])).length) Slot.unset).toArray = ls at hl ⊢
  have hl : lv_has ls 1 [(0, .ref h0)] := hl
  refine lv_aload_n hx hb dX10_corners_0 rfl (lv_at hl 0 rfl) ?_
  have hPc := hP.sub (ws' := [(h0, .inr (10, [.ref tp, .ref rd, .ref tb, .ref rg, .ref bl, .ref pa, .ref fm, .ref te, .ref hi, .ref fr, .int fd, .int rf, .int lf, .int fp])), (tb, .inr (8, [.int 0, .int lk, .int ct, .int vr, .ref a1, .ref a2, .ref a3, .ref a4]))]) [0, 1] rfl
  have hDc := hD.sub (ws' := [(h0, .inr (10, [.ref tp, .ref rd, .ref tb, .ref rg, .ref bl, .ref pa, .ref fm, .ref te, .ref hi, .ref fr, .int fd, .int rf, .int lf, .int fp])), (tb, .inr (8, [.int 0, .int lk, .int ct, .int vr, .ref a1, .ref a2, .ref a3, .ref a4]))]) [0, 1] (by decide) rfl
  have hKc := hK.sub (tys' := []) [] rfl
  have hFc := va_free (wc := [(h0, .inr (10, [.ref tp, .ref rd, .ref tb, .ref rg, .ref bl, .ref pa, .ref fm, .ref te, .ref hi, .ref fr, .int fd, .int rf, .int lf, .int fp])), (tb, .inr (8, [.int 0, .int lk, .int ct, .int vr, .ref a1, .ref a2, .ref a3, .ref a4]))]) hD hS hA [0, 1] rfl
  refine va_calli (va_runV (As := []) (rest := []) ⟨hx, hb, hml, hown, hts⟩ (c_noBook l dC dI s.heap.size h0 tp rd tb rg bl pa fm te hi fr fd rf lf fp lk ct vr a1 a2 a3 a4) (cwV 0 hts gX10_corners_X10_noBook rfl rfl rfl (by decide +kernel) ⟨Nat.le_of_ble_eq_true rfl, Nat.le_of_ble_eq_true rfl⟩) ⟨fun a U g mk q => by obtain ⟨q0, q1, qP, qK, qD⟩ := q; exact ⟨q0, q1, qP, va_K.moved (u := U) (U := U.calling g mk a) (Vm.Alike.refl U.vm) qK, qD⟩, va_recv hKc hPc (ci := 10) (q0 := 0) rfl rfl, fun U hU hW => ⟨rfl, by rw [hU], by rw [hU]; exact hPc, va_K.moved hW.alike hKc, hDc.weaken (fun _ _ _ _ => trivial)⟩⟩ rfl rfl hl.1 rfl (lv_room (Nat.le_of_ble_eq_true rfl)) dX10_corners_1 ⟨Nat.le_of_ble_eq_true rfl, Nat.le_of_ble_eq_true rfl⟩) hS (fun q _ h => hFc q h) hFc (fun r_1 u t H1 locs ht hvm hw hB hz1 hk1 hS => ?_)
  obtain ⟨hP1, hK1, hD1⟩ := hB
  rw [ht] at hP1
  have hK1 := va_K.moved hvm.symm hK1
  try dsimp only at hw
  obtain ⟨hP, hD⟩ := va_join (wr := []) (w1 := [(h0, .inr (10, [.ref tp, .ref rd, .ref tb, .ref rg, .ref bl, .ref pa, .ref fm, .ref te, .ref hi, .ref fr, .int fd, .int rf, .int lf, .int fp])), (tb, .inr (8, [.int 0, .int lk, .int ct, .int vr, .ref a1, .ref a2, .ref a3, .ref a4]))]) hP hD [0, 1] [] rfl rfl (by decide) (by decide) hk1 hFc hP1 hD1
  have hK := (hK.sub (tys' := []) [] rfl).app hK1
  generalize H1 = H at hP hS ⊢
  have hP : va_P (dC, dI) vwCl [(h0, .inr (10, [.ref tp, .ref rd, .ref tb, .ref rg, .ref bl, .ref pa, .ref fm, .ref te, .ref hi, .ref fr, .int fd, .int rf, .int lf, .int fp])), (tb, .inr (8, [.int 0, .int lk, .int ct, .int vr, .ref a1, .ref a2, .ref a3, .ref a4]))] H := hP
  have hD : va_D A [(h0, .inr (10, [.ref tp, .ref rd, .ref tb, .ref rg, .ref bl, .ref pa, .ref fm, .ref te, .ref hi, .ref fr, .int fd, .int rf, .int lf, .int fp])), (tb, .inr (8, [.int 0, .int lk, .int ct, .int vr, .ref a1, .ref a2, .ref a3, .ref a4]))] := hD
  have hK : va_K (dC, dI) vwCl [] s := hK
  refine W.widen (k := 0) (n := 0) (by omega) (by omega) ?_
  have er_1 : r_1 = 1 := hw
  subst er_1
  refine lv_if_eq (tgt := 13) hx hb dX10_corners_4 (by decide) (fun c_2 => absurd c_2 (by decide)) (fun c_2 => ?_)
  refine lv_aload_n hx hb dX10_corners_7 rfl (lv_at hl 0 rfl) ?_
  refine lv_iconst (v := 1) hx hb dX10_corners_8 (by decide) ?_
  have hPc := hP.sub (ws' := [(h0, .inr (10, [.ref tp, .ref rd, .ref tb, .ref rg, .ref bl, .ref pa, .ref fm, .ref te, .ref hi, .ref fr, .int fd, .int rf, .int lf, .int fp]))]) [0] rfl
  have hDc := hD.sub (ws' := [(h0, .inr (10, [.ref tp, .ref rd, .ref tb, .ref rg, .ref bl, .ref pa, .ref fm, .ref te, .ref hi, .ref fr, .int fd, .int rf, .int lf, .int fp]))]) [0] (by decide) rfl
  have hKc := hK.sub (tys' := []) [] rfl
  have hFc := va_free (wc := [(h0, .inr (10, [.ref tp, .ref rd, .ref tb, .ref rg, .ref bl, .ref pa, .ref fm, .ref te, .ref hi, .ref fr, .int fd, .int rf, .int lf, .int fp]))]) hD hS hA [0] rfl
  refine va_calli (va_runV (As := [.int 1]) (rest := []) ⟨hx, hb, hml, hown, hts⟩ (c_refused l dC dI H.size h0 tp rd tb rg bl pa fm te hi fr fd rf lf fp 1) (cwV 1 hts gX10_corners_X10_refused rfl rfl rfl (by decide +kernel) ⟨Nat.le_of_ble_eq_true rfl, Nat.le_of_ble_eq_true rfl⟩) ⟨fun a U g mk q => by obtain ⟨q0, q1, qP, qK, qD⟩ := q; exact ⟨q0, q1, qP, va_K.moved (u := U) (U := U.calling g mk a) (Vm.Alike.refl U.vm) qK, qD⟩, va_recv hKc hPc (ci := 10) (q0 := 0) rfl rfl, fun U hU hW => ⟨rfl, by rw [hU], by rw [hU]; exact hPc, va_K.moved hW.alike hKc, hDc.weaken (fun _ _ _ _ => trivial)⟩⟩ rfl rfl hl.1 rfl (lv_room (Nat.le_of_ble_eq_true rfl)) dX10_corners_9 ⟨Nat.le_of_ble_eq_true rfl, Nat.le_of_ble_eq_true rfl⟩) hS (fun q _ h => hFc q h) hFc (fun r_3 u t H1 locs ht hvm hw hB hz1 hk1 hS => ?_)
  obtain ⟨hP1, hK1, hD1⟩ := hB
  rw [ht] at hP1
  have hK1 := va_K.moved hvm.symm hK1
  try dsimp only at hw
  obtain ⟨hP, hD⟩ := va_join (wr := [(tb, .inr (8, [.int 0, .int lk, .int ct, .int vr, .ref a1, .ref a2, .ref a3, .ref a4]))]) (w1 := [(h0, .inr (10, [.ref tp, .ref rd, .ref tb, .ref rg, .ref bl, .ref pa, .ref fm, .ref te, .ref hi, .ref fr, .int fd, .int 1, .int lf, .int fp]))]) hP hD [0] [1] rfl rfl (by decide) (by decide) hk1 hFc hP1 hD1
  have hK := (hK.sub (tys' := []) [] rfl).app hK1
  generalize H1 = H at hP hS ⊢
  have hP : va_P (dC, dI) vwCl [(tb, .inr (8, [.int 0, .int lk, .int ct, .int vr, .ref a1, .ref a2, .ref a3, .ref a4])), (h0, .inr (10, [.ref tp, .ref rd, .ref tb, .ref rg, .ref bl, .ref pa, .ref fm, .ref te, .ref hi, .ref fr, .int fd, .int 1, .int lf, .int fp]))] H := hP
  have hD : va_D A [(tb, .inr (8, [.int 0, .int lk, .int ct, .int vr, .ref a1, .ref a2, .ref a3, .ref a4])), (h0, .inr (10, [.ref tp, .ref rd, .ref tb, .ref rg, .ref bl, .ref pa, .ref fm, .ref te, .ref hi, .ref fr, .int fd, .int 1, .int lf, .int fp]))] := hD
  have hK : va_K (dC, dI) vwCl [] s := hK
  refine W.widen (k := 0) (n := 0) (by omega) (by omega) ?_
  have er_3 : r_3 = (-1) := hw
  subst er_3
  have hP9 := hP.sub (ws' := [(h0, .inr (10, [.ref tp, .ref rd, .ref tb, .ref rg, .ref bl, .ref pa, .ref fm, .ref te, .ref hi, .ref fr, .int fd, .int 1, .int lf, .int fp])), (tb, .inr (8, [.int 0, .int lk, .int ct, .int vr, .ref a1, .ref a2, .ref a3, .ref a4]))]) [1, 0] rfl
  have hD9 := hD.sub (ws' := [(h0, .inr (10, [.ref tp, .ref rd, .ref tb, .ref rg, .ref bl, .ref pa, .ref fm, .ref te, .ref hi, .ref fr, .int fd, .int 1, .int lf, .int fp])), (tb, .inr (8, [.int 0, .int lk, .int ct, .int vr, .ref a1, .ref a2, .ref a3, .ref a4]))]) [1, 0] (by decide) rfl
  have hK9 := hK.sub (tys' := []) [] rfl
  refine W.widen (k := 0) (n := 0) (Nat.le_of_ble_eq_true rfl) (Nat.le_of_ble_eq_true rfl) ?_
  exact W.iret (v := (-1)) hx hb hr (fun t ht hW => ⟨⟨(-1), (), rfl, rfl, by rw [ht]; exact hP9, va_K.moved hW.alike hK9, hD9⟩, hS.F ht⟩) hS.2.2 dX10_corners_12

set_option maxHeartbeats 4000000 in
set_option maxRecDepth 100000 in
/-- colours without a BOOK -/
theorem c_colours_0 (l : Launch) (dC : Nat → ClassId) (dI : Nat → Nat → Nat) (sz : Nat) (h0 : Nat) (tp : Nat) (rd : Nat) (tb : Nat) (rg : Nat) (bl : Nat) (pa : Nat) (fm : Nat) (te : Nat) (hi : Nat) (fr : Nat) (fd : Int32) (rf : Int32) (lf : Int32) (fp : Int32) (lk : Int32) (ct : Int32) (vr : Int32) (a1 : Nat) (a2 : Nat) (a3 : Nat) (a4 : Nat)  : Met l yX10_colours wsX10_colours ({ frames := 1, cells := 0, slots := 0, locals := 21 }) (va_Pc [.ref h0] (fun U => U.heap.size = sz ∧ va_P (dC, dI) vwCl [(h0, .inr (10, [.ref tp, .ref rd, .ref tb, .ref rg, .ref bl, .ref pa, .ref fm, .ref te, .ref hi, .ref fr, .int fd, .int rf, .int lf, .int fp])), (tb, .inr (8, [.int 0, .int lk, .int ct, .int vr, .ref a1, .ref a2, .ref a3, .ref a4]))] U.heap ∧ va_K (dC, dI) vwCl [] U ∧ va_D (fun _ => True) [(h0, .inr (10, [.ref tp, .ref rd, .ref tb, .ref rg, .ref bl, .ref pa, .ref fm, .ref te, .ref hi, .ref fr, .int fd, .int rf, .int lf, .int fp])), (tb, .inr (8, [.int 0, .int lk, .int ct, .int vr, .ref a1, .ref a2, .ref a3, .ref a4]))])) (va_Qi (fun (r : Int32) (_ : Unit) => r = (-1)) (fun _ t => va_P (dC, dI) vwCl [(h0, .inr (10, [.ref tp, .ref rd, .ref tb, .ref rg, .ref bl, .ref pa, .ref fm, .ref te, .ref hi, .ref fr, .int fd, .int 1, .int lf, .int fp])), (tb, .inr (8, [.int 0, .int lk, .int ct, .int vr, .ref a1, .ref a2, .ref a3, .ref a4]))] t.heap ∧ va_K (dC, dI) vwCl [] t ∧ va_D (va_A [(h0, .inr (10, [.ref tp, .ref rd, .ref tb, .ref rg, .ref bl, .ref pa, .ref fm, .ref te, .ref hi, .ref fr, .int fd, .int rf, .int lf, .int fp])), (tb, .inr (8, [.int 0, .int lk, .int ct, .int vr, .ref a1, .ref a2, .ref a3, .ref a4]))] sz) [(h0, .inr (10, [.ref tp, .ref rd, .ref tb, .ref rg, .ref bl, .ref pa, .ref fm, .ref te, .ref hi, .ref fr, .int fd, .int 1, .int lf, .int fp])), (tb, .inr (8, [.int 0, .int lk, .int ct, .int vr, .ref a1, .ref a2, .ref a3, .ref a4]))]) (va_A [(h0, .inr (10, [.ref tp, .ref rd, .ref tb, .ref rg, .ref bl, .ref pa, .ref fm, .ref te, .ref hi, .ref fr, .int fd, .int rf, .int lf, .int fp])), (tb, .inr (8, [.int 0, .int lk, .int ct, .int vr, .ref a1, .ref a2, .ref a3, .ref a4]))] sz)) 0 0 (va_A [(h0, .inr (10, [.ref tp, .ref rd, .ref tb, .ref rg, .ref bl, .ref pa, .ref fm, .ref te, .ref hi, .ref fr, .int fd, .int rf, .int lf, .int fp])), (tb, .inr (8, [.int 0, .int lk, .int ct, .int vr, .ref a1, .ref a2, .ref a3, .ref a4]))] sz) := by
  refine Met.ofW (cc := cX10_colours) (maxL := 1) (ret := (some .int)) (by decide) rfl ?_
  intro p e s m args below meth c s₁ B hml hv
  obtain ⟨rfl, hsz, hP, hK, hD0⟩ := hv
  have hx := B.exec
  have hb := B.bytes
  have hr := B.returns
  have hts := atoms_spec (ws := wsX10_colours) B.pre
  have hown : s.vm.findClass RX10 = some m.cls := findClass_of_methodNamed B.named
  have hlocks := B.notSynchronized
  subst hsz
  have hD := hD0.self (sz := s.heap.size)
  generalize hAe : va_A [(h0, .inr (10, [.ref tp, .ref rd, .ref tb, .ref rg, .ref bl, .ref pa, .ref fm, .ref te, .ref hi, .ref fr, .int fd, .int rf, .int lf, .int fp])), (tb, .inr (8, [.int 0, .int lk, .int ct, .int vr, .ref a1, .ref a2, .ref a3, .ref a4]))] s.heap.size = A at hD ⊢
  have hA : ∀ q : Nat, s.heap.size ≤ q → A q := fun q h => by rw [← hAe]; exact Or.inr h
  have hS : va_S A s.heap s.heap [] := va_S.rf
  have hP : va_P (dC, dI) vwCl [(h0, .inr (10, [.ref tp, .ref rd, .ref tb, .ref rg, .ref bl, .ref pa, .ref fm, .ref te, .ref hi, .ref fr, .int fd, .int rf, .int lf, .int fp])), (tb, .inr (8, [.int 0, .int lk, .int ct, .int vr, .ref a1, .ref a2, .ref a3, .ref a4]))] s.heap := hP
  have hl := lv_entry ([.ref h0]) (n := 1) (Nat.le_of_ble_eq_true rfl)
  rw [lg_entry_eq]
  generalize (lg_sl ([.ref h0]) ++ List.replicate (1 - (lg_sl ([.ref h0])).length) Slot.unset).toArray = ls at hl ⊢
  have hl : lv_has ls 1 [(0, .ref h0)] := hl
  refine lv_aload_n hx hb dX10_colours_0 rfl (lv_at hl 0 rfl) ?_
  have hPc := hP.sub (ws' := [(h0, .inr (10, [.ref tp, .ref rd, .ref tb, .ref rg, .ref bl, .ref pa, .ref fm, .ref te, .ref hi, .ref fr, .int fd, .int rf, .int lf, .int fp])), (tb, .inr (8, [.int 0, .int lk, .int ct, .int vr, .ref a1, .ref a2, .ref a3, .ref a4]))]) [0, 1] rfl
  have hDc := hD.sub (ws' := [(h0, .inr (10, [.ref tp, .ref rd, .ref tb, .ref rg, .ref bl, .ref pa, .ref fm, .ref te, .ref hi, .ref fr, .int fd, .int rf, .int lf, .int fp])), (tb, .inr (8, [.int 0, .int lk, .int ct, .int vr, .ref a1, .ref a2, .ref a3, .ref a4]))]) [0, 1] (by decide) rfl
  have hKc := hK.sub (tys' := []) [] rfl
  have hFc := va_free (wc := [(h0, .inr (10, [.ref tp, .ref rd, .ref tb, .ref rg, .ref bl, .ref pa, .ref fm, .ref te, .ref hi, .ref fr, .int fd, .int rf, .int lf, .int fp])), (tb, .inr (8, [.int 0, .int lk, .int ct, .int vr, .ref a1, .ref a2, .ref a3, .ref a4]))]) hD hS hA [0, 1] rfl
  refine va_calli (va_runV (As := []) (rest := []) ⟨hx, hb, hml, hown, hts⟩ (c_noBook l dC dI s.heap.size h0 tp rd tb rg bl pa fm te hi fr fd rf lf fp lk ct vr a1 a2 a3 a4) (cwV 0 hts gX10_colours_X10_noBook rfl rfl rfl (by decide +kernel) ⟨Nat.le_of_ble_eq_true rfl, Nat.le_of_ble_eq_true rfl⟩) ⟨fun a U g mk q => by obtain ⟨q0, q1, qP, qK, qD⟩ := q; exact ⟨q0, q1, qP, va_K.moved (u := U) (U := U.calling g mk a) (Vm.Alike.refl U.vm) qK, qD⟩, va_recv hKc hPc (ci := 10) (q0 := 0) rfl rfl, fun U hU hW => ⟨rfl, by rw [hU], by rw [hU]; exact hPc, va_K.moved hW.alike hKc, hDc.weaken (fun _ _ _ _ => trivial)⟩⟩ rfl rfl hl.1 rfl (lv_room (Nat.le_of_ble_eq_true rfl)) dX10_colours_1 ⟨Nat.le_of_ble_eq_true rfl, Nat.le_of_ble_eq_true rfl⟩) hS (fun q _ h => hFc q h) hFc (fun r_1 u t H1 locs ht hvm hw hB hz1 hk1 hS => ?_)
  obtain ⟨hP1, hK1, hD1⟩ := hB
  rw [ht] at hP1
  have hK1 := va_K.moved hvm.symm hK1
  try dsimp only at hw
  obtain ⟨hP, hD⟩ := va_join (wr := []) (w1 := [(h0, .inr (10, [.ref tp, .ref rd, .ref tb, .ref rg, .ref bl, .ref pa, .ref fm, .ref te, .ref hi, .ref fr, .int fd, .int rf, .int lf, .int fp])), (tb, .inr (8, [.int 0, .int lk, .int ct, .int vr, .ref a1, .ref a2, .ref a3, .ref a4]))]) hP hD [0, 1] [] rfl rfl (by decide) (by decide) hk1 hFc hP1 hD1
  have hK := (hK.sub (tys' := []) [] rfl).app hK1
  generalize H1 = H at hP hS ⊢
  have hP : va_P (dC, dI) vwCl [(h0, .inr (10, [.ref tp, .ref rd, .ref tb, .ref rg, .ref bl, .ref pa, .ref fm, .ref te, .ref hi, .ref fr, .int fd, .int rf, .int lf, .int fp])), (tb, .inr (8, [.int 0, .int lk, .int ct, .int vr, .ref a1, .ref a2, .ref a3, .ref a4]))] H := hP
  have hD : va_D A [(h0, .inr (10, [.ref tp, .ref rd, .ref tb, .ref rg, .ref bl, .ref pa, .ref fm, .ref te, .ref hi, .ref fr, .int fd, .int rf, .int lf, .int fp])), (tb, .inr (8, [.int 0, .int lk, .int ct, .int vr, .ref a1, .ref a2, .ref a3, .ref a4]))] := hD
  have hK : va_K (dC, dI) vwCl [] s := hK
  refine W.widen (k := 0) (n := 0) (by omega) (by omega) ?_
  have er_1 : r_1 = 1 := hw
  subst er_1
  refine lv_if_eq (tgt := 13) hx hb dX10_colours_4 (by decide) (fun c_2 => absurd c_2 (by decide)) (fun c_2 => ?_)
  refine lv_aload_n hx hb dX10_colours_7 rfl (lv_at hl 0 rfl) ?_
  refine lv_iconst (v := 1) hx hb dX10_colours_8 (by decide) ?_
  have hPc := hP.sub (ws' := [(h0, .inr (10, [.ref tp, .ref rd, .ref tb, .ref rg, .ref bl, .ref pa, .ref fm, .ref te, .ref hi, .ref fr, .int fd, .int rf, .int lf, .int fp]))]) [0] rfl
  have hDc := hD.sub (ws' := [(h0, .inr (10, [.ref tp, .ref rd, .ref tb, .ref rg, .ref bl, .ref pa, .ref fm, .ref te, .ref hi, .ref fr, .int fd, .int rf, .int lf, .int fp]))]) [0] (by decide) rfl
  have hKc := hK.sub (tys' := []) [] rfl
  have hFc := va_free (wc := [(h0, .inr (10, [.ref tp, .ref rd, .ref tb, .ref rg, .ref bl, .ref pa, .ref fm, .ref te, .ref hi, .ref fr, .int fd, .int rf, .int lf, .int fp]))]) hD hS hA [0] rfl
  refine va_calli (va_runV (As := [.int 1]) (rest := []) ⟨hx, hb, hml, hown, hts⟩ (c_refused l dC dI H.size h0 tp rd tb rg bl pa fm te hi fr fd rf lf fp 1) (cwV 1 hts gX10_colours_X10_refused rfl rfl rfl (by decide +kernel) ⟨Nat.le_of_ble_eq_true rfl, Nat.le_of_ble_eq_true rfl⟩) ⟨fun a U g mk q => by obtain ⟨q0, q1, qP, qK, qD⟩ := q; exact ⟨q0, q1, qP, va_K.moved (u := U) (U := U.calling g mk a) (Vm.Alike.refl U.vm) qK, qD⟩, va_recv hKc hPc (ci := 10) (q0 := 0) rfl rfl, fun U hU hW => ⟨rfl, by rw [hU], by rw [hU]; exact hPc, va_K.moved hW.alike hKc, hDc.weaken (fun _ _ _ _ => trivial)⟩⟩ rfl rfl hl.1 rfl (lv_room (Nat.le_of_ble_eq_true rfl)) dX10_colours_9 ⟨Nat.le_of_ble_eq_true rfl, Nat.le_of_ble_eq_true rfl⟩) hS (fun q _ h => hFc q h) hFc (fun r_3 u t H1 locs ht hvm hw hB hz1 hk1 hS => ?_)
  obtain ⟨hP1, hK1, hD1⟩ := hB
  rw [ht] at hP1
  have hK1 := va_K.moved hvm.symm hK1
  try dsimp only at hw
  obtain ⟨hP, hD⟩ := va_join (wr := [(tb, .inr (8, [.int 0, .int lk, .int ct, .int vr, .ref a1, .ref a2, .ref a3, .ref a4]))]) (w1 := [(h0, .inr (10, [.ref tp, .ref rd, .ref tb, .ref rg, .ref bl, .ref pa, .ref fm, .ref te, .ref hi, .ref fr, .int fd, .int 1, .int lf, .int fp]))]) hP hD [0] [1] rfl rfl (by decide) (by decide) hk1 hFc hP1 hD1
  have hK := (hK.sub (tys' := []) [] rfl).app hK1
  generalize H1 = H at hP hS ⊢
  have hP : va_P (dC, dI) vwCl [(tb, .inr (8, [.int 0, .int lk, .int ct, .int vr, .ref a1, .ref a2, .ref a3, .ref a4])), (h0, .inr (10, [.ref tp, .ref rd, .ref tb, .ref rg, .ref bl, .ref pa, .ref fm, .ref te, .ref hi, .ref fr, .int fd, .int 1, .int lf, .int fp]))] H := hP
  have hD : va_D A [(tb, .inr (8, [.int 0, .int lk, .int ct, .int vr, .ref a1, .ref a2, .ref a3, .ref a4])), (h0, .inr (10, [.ref tp, .ref rd, .ref tb, .ref rg, .ref bl, .ref pa, .ref fm, .ref te, .ref hi, .ref fr, .int fd, .int 1, .int lf, .int fp]))] := hD
  have hK : va_K (dC, dI) vwCl [] s := hK
  refine W.widen (k := 0) (n := 0) (by omega) (by omega) ?_
  have er_3 : r_3 = (-1) := hw
  subst er_3
  have hP9 := hP.sub (ws' := [(h0, .inr (10, [.ref tp, .ref rd, .ref tb, .ref rg, .ref bl, .ref pa, .ref fm, .ref te, .ref hi, .ref fr, .int fd, .int 1, .int lf, .int fp])), (tb, .inr (8, [.int 0, .int lk, .int ct, .int vr, .ref a1, .ref a2, .ref a3, .ref a4]))]) [1, 0] rfl
  have hD9 := hD.sub (ws' := [(h0, .inr (10, [.ref tp, .ref rd, .ref tb, .ref rg, .ref bl, .ref pa, .ref fm, .ref te, .ref hi, .ref fr, .int fd, .int 1, .int lf, .int fp])), (tb, .inr (8, [.int 0, .int lk, .int ct, .int vr, .ref a1, .ref a2, .ref a3, .ref a4]))]) [1, 0] (by decide) rfl
  have hK9 := hK.sub (tys' := []) [] rfl
  refine W.widen (k := 0) (n := 0) (Nat.le_of_ble_eq_true rfl) (Nat.le_of_ble_eq_true rfl) ?_
  exact W.iret (v := (-1)) hx hb hr (fun t ht hW => ⟨⟨(-1), (), rfl, rfl, by rw [ht]; exact hP9, va_K.moved hW.alike hK9, hD9⟩, hS.F ht⟩) hS.2.2 dX10_colours_12

set_option maxHeartbeats 4000000 in
set_option maxRecDepth 100000 in
/-- ones without a BOOK -/
theorem c_ones_0 (l : Launch) (dC : Nat → ClassId) (dI : Nat → Nat → Nat) (sz : Nat) (h0 : Nat) (tp : Nat) (rd : Nat) (tb : Nat) (rg : Nat) (bl : Nat) (pa : Nat) (fm : Nat) (te : Nat) (hi : Nat) (fr : Nat) (fd : Int32) (rf : Int32) (lf : Int32) (fp : Int32) (lk : Int32) (ct : Int32) (vr : Int32) (a1 : Nat) (a2 : Nat) (a3 : Nat) (a4 : Nat)  : Met l yX10_ones wsX10_ones ({ frames := 1, cells := 0, slots := 0, locals := 21 }) (va_Pc [.ref h0] (fun U => U.heap.size = sz ∧ va_P (dC, dI) vwCl [(h0, .inr (10, [.ref tp, .ref rd, .ref tb, .ref rg, .ref bl, .ref pa, .ref fm, .ref te, .ref hi, .ref fr, .int fd, .int rf, .int lf, .int fp])), (tb, .inr (8, [.int 0, .int lk, .int ct, .int vr, .ref a1, .ref a2, .ref a3, .ref a4]))] U.heap ∧ va_K (dC, dI) vwCl [] U ∧ va_D (fun _ => True) [(h0, .inr (10, [.ref tp, .ref rd, .ref tb, .ref rg, .ref bl, .ref pa, .ref fm, .ref te, .ref hi, .ref fr, .int fd, .int rf, .int lf, .int fp])), (tb, .inr (8, [.int 0, .int lk, .int ct, .int vr, .ref a1, .ref a2, .ref a3, .ref a4]))])) (va_Qi (fun (r : Int32) (_ : Unit) => r = (-1)) (fun _ t => va_P (dC, dI) vwCl [(h0, .inr (10, [.ref tp, .ref rd, .ref tb, .ref rg, .ref bl, .ref pa, .ref fm, .ref te, .ref hi, .ref fr, .int fd, .int 1, .int lf, .int fp])), (tb, .inr (8, [.int 0, .int lk, .int ct, .int vr, .ref a1, .ref a2, .ref a3, .ref a4]))] t.heap ∧ va_K (dC, dI) vwCl [] t ∧ va_D (va_A [(h0, .inr (10, [.ref tp, .ref rd, .ref tb, .ref rg, .ref bl, .ref pa, .ref fm, .ref te, .ref hi, .ref fr, .int fd, .int rf, .int lf, .int fp])), (tb, .inr (8, [.int 0, .int lk, .int ct, .int vr, .ref a1, .ref a2, .ref a3, .ref a4]))] sz) [(h0, .inr (10, [.ref tp, .ref rd, .ref tb, .ref rg, .ref bl, .ref pa, .ref fm, .ref te, .ref hi, .ref fr, .int fd, .int 1, .int lf, .int fp])), (tb, .inr (8, [.int 0, .int lk, .int ct, .int vr, .ref a1, .ref a2, .ref a3, .ref a4]))]) (va_A [(h0, .inr (10, [.ref tp, .ref rd, .ref tb, .ref rg, .ref bl, .ref pa, .ref fm, .ref te, .ref hi, .ref fr, .int fd, .int rf, .int lf, .int fp])), (tb, .inr (8, [.int 0, .int lk, .int ct, .int vr, .ref a1, .ref a2, .ref a3, .ref a4]))] sz)) 0 0 (va_A [(h0, .inr (10, [.ref tp, .ref rd, .ref tb, .ref rg, .ref bl, .ref pa, .ref fm, .ref te, .ref hi, .ref fr, .int fd, .int rf, .int lf, .int fp])), (tb, .inr (8, [.int 0, .int lk, .int ct, .int vr, .ref a1, .ref a2, .ref a3, .ref a4]))] sz) := by
  refine Met.ofW (cc := cX10_ones) (maxL := 1) (ret := (some .int)) (by decide) rfl ?_
  intro p e s m args below meth c s₁ B hml hv
  obtain ⟨rfl, hsz, hP, hK, hD0⟩ := hv
  have hx := B.exec
  have hb := B.bytes
  have hr := B.returns
  have hts := atoms_spec (ws := wsX10_ones) B.pre
  have hown : s.vm.findClass RX10 = some m.cls := findClass_of_methodNamed B.named
  have hlocks := B.notSynchronized
  subst hsz
  have hD := hD0.self (sz := s.heap.size)
  generalize hAe : va_A [(h0, .inr (10, [.ref tp, .ref rd, .ref tb, .ref rg, .ref bl, .ref pa, .ref fm, .ref te, .ref hi, .ref fr, .int fd, .int rf, .int lf, .int fp])), (tb, .inr (8, [.int 0, .int lk, .int ct, .int vr, .ref a1, .ref a2, .ref a3, .ref a4]))] s.heap.size = A at hD ⊢
  have hA : ∀ q : Nat, s.heap.size ≤ q → A q := fun q h => by rw [← hAe]; exact Or.inr h
  have hS : va_S A s.heap s.heap [] := va_S.rf
  have hP : va_P (dC, dI) vwCl [(h0, .inr (10, [.ref tp, .ref rd, .ref tb, .ref rg, .ref bl, .ref pa, .ref fm, .ref te, .ref hi, .ref fr, .int fd, .int rf, .int lf, .int fp])), (tb, .inr (8, [.int 0, .int lk, .int ct, .int vr, .ref a1, .ref a2, .ref a3, .ref a4]))] s.heap := hP
  have hl := lv_entry ([.ref h0]) (n := 1) (Nat.le_of_ble_eq_true rfl)
  rw [lg_entry_eq]
  generalize (lg_sl ([.ref h0]) ++ List.replicate (1 - (lg_sl ([.ref h0])).length) Slot.unset).toArray = ls at hl ⊢
  have hl : lv_has ls 1 [(0, .ref h0)] := hl
  refine lv_aload_n hx hb dX10_ones_0 rfl (lv_at hl 0 rfl) ?_
  have hPc := hP.sub (ws' := [(h0, .inr (10, [.ref tp, .ref rd, .ref tb, .ref rg, .ref bl, .ref pa, .ref fm, .ref te, .ref hi, .ref fr, .int fd, .int rf, .int lf, .int fp])), (tb, .inr (8, [.int 0, .int lk, .int ct, .int vr, .ref a1, .ref a2, .ref a3, .ref a4]))]) [0, 1] rfl
  have hDc := hD.sub (ws' := [(h0, .inr (10, [.ref tp, .ref rd, .ref tb, .ref rg, .ref bl, .ref pa, .ref fm, .ref te, .ref hi, .ref fr, .int fd, .int rf, .int lf, .int fp])), (tb, .inr (8, [.int 0, .int lk, .int ct, .int vr, .ref a1, .ref a2, .ref a3, .ref a4]))]) [0, 1] (by decide) rfl
  have hKc := hK.sub (tys' := []) [] rfl
  have hFc := va_free (wc := [(h0, .inr (10, [.ref tp, .ref rd, .ref tb, .ref rg, .ref bl, .ref pa, .ref fm, .ref te, .ref hi, .ref fr, .int fd, .int rf, .int lf, .int fp])), (tb, .inr (8, [.int 0, .int lk, .int ct, .int vr, .ref a1, .ref a2, .ref a3, .ref a4]))]) hD hS hA [0, 1] rfl
  refine va_calli (va_runV (As := []) (rest := []) ⟨hx, hb, hml, hown, hts⟩ (c_noBook l dC dI s.heap.size h0 tp rd tb rg bl pa fm te hi fr fd rf lf fp lk ct vr a1 a2 a3 a4) (cwV 0 hts gX10_ones_X10_noBook rfl rfl rfl (by decide +kernel) ⟨Nat.le_of_ble_eq_true rfl, Nat.le_of_ble_eq_true rfl⟩) ⟨fun a U g mk q => by obtain ⟨q0, q1, qP, qK, qD⟩ := q; exact ⟨q0, q1, qP, va_K.moved (u := U) (U := U.calling g mk a) (Vm.Alike.refl U.vm) qK, qD⟩, va_recv hKc hPc (ci := 10) (q0 := 0) rfl rfl, fun U hU hW => ⟨rfl, by rw [hU], by rw [hU]; exact hPc, va_K.moved hW.alike hKc, hDc.weaken (fun _ _ _ _ => trivial)⟩⟩ rfl rfl hl.1 rfl (lv_room (Nat.le_of_ble_eq_true rfl)) dX10_ones_1 ⟨Nat.le_of_ble_eq_true rfl, Nat.le_of_ble_eq_true rfl⟩) hS (fun q _ h => hFc q h) hFc (fun r_1 u t H1 locs ht hvm hw hB hz1 hk1 hS => ?_)
  obtain ⟨hP1, hK1, hD1⟩ := hB
  rw [ht] at hP1
  have hK1 := va_K.moved hvm.symm hK1
  try dsimp only at hw
  obtain ⟨hP, hD⟩ := va_join (wr := []) (w1 := [(h0, .inr (10, [.ref tp, .ref rd, .ref tb, .ref rg, .ref bl, .ref pa, .ref fm, .ref te, .ref hi, .ref fr, .int fd, .int rf, .int lf, .int fp])), (tb, .inr (8, [.int 0, .int lk, .int ct, .int vr, .ref a1, .ref a2, .ref a3, .ref a4]))]) hP hD [0, 1] [] rfl rfl (by decide) (by decide) hk1 hFc hP1 hD1
  have hK := (hK.sub (tys' := []) [] rfl).app hK1
  generalize H1 = H at hP hS ⊢
  have hP : va_P (dC, dI) vwCl [(h0, .inr (10, [.ref tp, .ref rd, .ref tb, .ref rg, .ref bl, .ref pa, .ref fm, .ref te, .ref hi, .ref fr, .int fd, .int rf, .int lf, .int fp])), (tb, .inr (8, [.int 0, .int lk, .int ct, .int vr, .ref a1, .ref a2, .ref a3, .ref a4]))] H := hP
  have hD : va_D A [(h0, .inr (10, [.ref tp, .ref rd, .ref tb, .ref rg, .ref bl, .ref pa, .ref fm, .ref te, .ref hi, .ref fr, .int fd, .int rf, .int lf, .int fp])), (tb, .inr (8, [.int 0, .int lk, .int ct, .int vr, .ref a1, .ref a2, .ref a3, .ref a4]))] := hD
  have hK : va_K (dC, dI) vwCl [] s := hK
  refine W.widen (k := 0) (n := 0) (by omega) (by omega) ?_
  have er_1 : r_1 = 1 := hw
  subst er_1
  refine lv_if_eq (tgt := 13) hx hb dX10_ones_4 (by decide) (fun c_2 => absurd c_2 (by decide)) (fun c_2 => ?_)
  refine lv_aload_n hx hb dX10_ones_7 rfl (lv_at hl 0 rfl) ?_
  refine lv_iconst (v := 1) hx hb dX10_ones_8 (by decide) ?_
  have hPc := hP.sub (ws' := [(h0, .inr (10, [.ref tp, .ref rd, .ref tb, .ref rg, .ref bl, .ref pa, .ref fm, .ref te, .ref hi, .ref fr, .int fd, .int rf, .int lf, .int fp]))]) [0] rfl
  have hDc := hD.sub (ws' := [(h0, .inr (10, [.ref tp, .ref rd, .ref tb, .ref rg, .ref bl, .ref pa, .ref fm, .ref te, .ref hi, .ref fr, .int fd, .int rf, .int lf, .int fp]))]) [0] (by decide) rfl
  have hKc := hK.sub (tys' := []) [] rfl
  have hFc := va_free (wc := [(h0, .inr (10, [.ref tp, .ref rd, .ref tb, .ref rg, .ref bl, .ref pa, .ref fm, .ref te, .ref hi, .ref fr, .int fd, .int rf, .int lf, .int fp]))]) hD hS hA [0] rfl
  refine va_calli (va_runV (As := [.int 1]) (rest := []) ⟨hx, hb, hml, hown, hts⟩ (c_refused l dC dI H.size h0 tp rd tb rg bl pa fm te hi fr fd rf lf fp 1) (cwV 1 hts gX10_ones_X10_refused rfl rfl rfl (by decide +kernel) ⟨Nat.le_of_ble_eq_true rfl, Nat.le_of_ble_eq_true rfl⟩) ⟨fun a U g mk q => by obtain ⟨q0, q1, qP, qK, qD⟩ := q; exact ⟨q0, q1, qP, va_K.moved (u := U) (U := U.calling g mk a) (Vm.Alike.refl U.vm) qK, qD⟩, va_recv hKc hPc (ci := 10) (q0 := 0) rfl rfl, fun U hU hW => ⟨rfl, by rw [hU], by rw [hU]; exact hPc, va_K.moved hW.alike hKc, hDc.weaken (fun _ _ _ _ => trivial)⟩⟩ rfl rfl hl.1 rfl (lv_room (Nat.le_of_ble_eq_true rfl)) dX10_ones_9 ⟨Nat.le_of_ble_eq_true rfl, Nat.le_of_ble_eq_true rfl⟩) hS (fun q _ h => hFc q h) hFc (fun r_3 u t H1 locs ht hvm hw hB hz1 hk1 hS => ?_)
  obtain ⟨hP1, hK1, hD1⟩ := hB
  rw [ht] at hP1
  have hK1 := va_K.moved hvm.symm hK1
  try dsimp only at hw
  obtain ⟨hP, hD⟩ := va_join (wr := [(tb, .inr (8, [.int 0, .int lk, .int ct, .int vr, .ref a1, .ref a2, .ref a3, .ref a4]))]) (w1 := [(h0, .inr (10, [.ref tp, .ref rd, .ref tb, .ref rg, .ref bl, .ref pa, .ref fm, .ref te, .ref hi, .ref fr, .int fd, .int 1, .int lf, .int fp]))]) hP hD [0] [1] rfl rfl (by decide) (by decide) hk1 hFc hP1 hD1
  have hK := (hK.sub (tys' := []) [] rfl).app hK1
  generalize H1 = H at hP hS ⊢
  have hP : va_P (dC, dI) vwCl [(tb, .inr (8, [.int 0, .int lk, .int ct, .int vr, .ref a1, .ref a2, .ref a3, .ref a4])), (h0, .inr (10, [.ref tp, .ref rd, .ref tb, .ref rg, .ref bl, .ref pa, .ref fm, .ref te, .ref hi, .ref fr, .int fd, .int 1, .int lf, .int fp]))] H := hP
  have hD : va_D A [(tb, .inr (8, [.int 0, .int lk, .int ct, .int vr, .ref a1, .ref a2, .ref a3, .ref a4])), (h0, .inr (10, [.ref tp, .ref rd, .ref tb, .ref rg, .ref bl, .ref pa, .ref fm, .ref te, .ref hi, .ref fr, .int fd, .int 1, .int lf, .int fp]))] := hD
  have hK : va_K (dC, dI) vwCl [] s := hK
  refine W.widen (k := 0) (n := 0) (by omega) (by omega) ?_
  have er_3 : r_3 = (-1) := hw
  subst er_3
  have hP9 := hP.sub (ws' := [(h0, .inr (10, [.ref tp, .ref rd, .ref tb, .ref rg, .ref bl, .ref pa, .ref fm, .ref te, .ref hi, .ref fr, .int fd, .int 1, .int lf, .int fp])), (tb, .inr (8, [.int 0, .int lk, .int ct, .int vr, .ref a1, .ref a2, .ref a3, .ref a4]))]) [1, 0] rfl
  have hD9 := hD.sub (ws' := [(h0, .inr (10, [.ref tp, .ref rd, .ref tb, .ref rg, .ref bl, .ref pa, .ref fm, .ref te, .ref hi, .ref fr, .int fd, .int 1, .int lf, .int fp])), (tb, .inr (8, [.int 0, .int lk, .int ct, .int vr, .ref a1, .ref a2, .ref a3, .ref a4]))]) [1, 0] (by decide) rfl
  have hK9 := hK.sub (tys' := []) [] rfl
  refine W.widen (k := 0) (n := 0) (Nat.le_of_ble_eq_true rfl) (Nat.le_of_ble_eq_true rfl) ?_
  exact W.iret (v := (-1)) hx hb hr (fun t ht hW => ⟨⟨(-1), (), rfl, rfl, by rw [ht]; exact hP9, va_K.moved hW.alike hK9, hD9⟩, hS.F ht⟩) hS.2.2 dX10_ones_12

set_option maxHeartbeats 4000000 in
set_option maxRecDepth 100000 in
/-- spare without a BOOK -/
theorem c_spare_0 (l : Launch) (dC : Nat → ClassId) (dI : Nat → Nat → Nat) (sz : Nat) (h0 : Nat) (tp : Nat) (rd : Nat) (tb : Nat) (rg : Nat) (bl : Nat) (pa : Nat) (fm : Nat) (te : Nat) (hi : Nat) (fr : Nat) (fd : Int32) (rf : Int32) (lf : Int32) (fp : Int32) (lk : Int32) (ct : Int32) (vr : Int32) (a1 : Nat) (a2 : Nat) (a3 : Nat) (a4 : Nat)  : Met l yX10_spare wsX10_spare ({ frames := 1, cells := 0, slots := 0, locals := 21 }) (va_Pc [.ref h0] (fun U => U.heap.size = sz ∧ va_P (dC, dI) vwCl [(h0, .inr (10, [.ref tp, .ref rd, .ref tb, .ref rg, .ref bl, .ref pa, .ref fm, .ref te, .ref hi, .ref fr, .int fd, .int rf, .int lf, .int fp])), (tb, .inr (8, [.int 0, .int lk, .int ct, .int vr, .ref a1, .ref a2, .ref a3, .ref a4]))] U.heap ∧ va_K (dC, dI) vwCl [] U ∧ va_D (fun _ => True) [(h0, .inr (10, [.ref tp, .ref rd, .ref tb, .ref rg, .ref bl, .ref pa, .ref fm, .ref te, .ref hi, .ref fr, .int fd, .int rf, .int lf, .int fp])), (tb, .inr (8, [.int 0, .int lk, .int ct, .int vr, .ref a1, .ref a2, .ref a3, .ref a4]))])) (va_Qi (fun (r : Int32) (_ : Unit) => r = (-1)) (fun _ t => va_P (dC, dI) vwCl [(h0, .inr (10, [.ref tp, .ref rd, .ref tb, .ref rg, .ref bl, .ref pa, .ref fm, .ref te, .ref hi, .ref fr, .int fd, .int 1, .int lf, .int fp])), (tb, .inr (8, [.int 0, .int lk, .int ct, .int vr, .ref a1, .ref a2, .ref a3, .ref a4]))] t.heap ∧ va_K (dC, dI) vwCl [] t ∧ va_D (va_A [(h0, .inr (10, [.ref tp, .ref rd, .ref tb, .ref rg, .ref bl, .ref pa, .ref fm, .ref te, .ref hi, .ref fr, .int fd, .int rf, .int lf, .int fp])), (tb, .inr (8, [.int 0, .int lk, .int ct, .int vr, .ref a1, .ref a2, .ref a3, .ref a4]))] sz) [(h0, .inr (10, [.ref tp, .ref rd, .ref tb, .ref rg, .ref bl, .ref pa, .ref fm, .ref te, .ref hi, .ref fr, .int fd, .int 1, .int lf, .int fp])), (tb, .inr (8, [.int 0, .int lk, .int ct, .int vr, .ref a1, .ref a2, .ref a3, .ref a4]))]) (va_A [(h0, .inr (10, [.ref tp, .ref rd, .ref tb, .ref rg, .ref bl, .ref pa, .ref fm, .ref te, .ref hi, .ref fr, .int fd, .int rf, .int lf, .int fp])), (tb, .inr (8, [.int 0, .int lk, .int ct, .int vr, .ref a1, .ref a2, .ref a3, .ref a4]))] sz)) 0 0 (va_A [(h0, .inr (10, [.ref tp, .ref rd, .ref tb, .ref rg, .ref bl, .ref pa, .ref fm, .ref te, .ref hi, .ref fr, .int fd, .int rf, .int lf, .int fp])), (tb, .inr (8, [.int 0, .int lk, .int ct, .int vr, .ref a1, .ref a2, .ref a3, .ref a4]))] sz) := by
  refine Met.ofW (cc := cX10_spare) (maxL := 1) (ret := (some .int)) (by decide) rfl ?_
  intro p e s m args below meth c s₁ B hml hv
  obtain ⟨rfl, hsz, hP, hK, hD0⟩ := hv
  have hx := B.exec
  have hb := B.bytes
  have hr := B.returns
  have hts := atoms_spec (ws := wsX10_spare) B.pre
  have hown : s.vm.findClass RX10 = some m.cls := findClass_of_methodNamed B.named
  have hlocks := B.notSynchronized
  subst hsz
  have hD := hD0.self (sz := s.heap.size)
  generalize hAe : va_A [(h0, .inr (10, [.ref tp, .ref rd, .ref tb, .ref rg, .ref bl, .ref pa, .ref fm, .ref te, .ref hi, .ref fr, .int fd, .int rf, .int lf, .int fp])), (tb, .inr (8, [.int 0, .int lk, .int ct, .int vr, .ref a1, .ref a2, .ref a3, .ref a4]))] s.heap.size = A at hD ⊢
  have hA : ∀ q : Nat, s.heap.size ≤ q → A q := fun q h => by rw [← hAe]; exact Or.inr h
  have hS : va_S A s.heap s.heap [] := va_S.rf
  have hP : va_P (dC, dI) vwCl [(h0, .inr (10, [.ref tp, .ref rd, .ref tb, .ref rg, .ref bl, .ref pa, .ref fm, .ref te, .ref hi, .ref fr, .int fd, .int rf, .int lf, .int fp])), (tb, .inr (8, [.int 0, .int lk, .int ct, .int vr, .ref a1, .ref a2, .ref a3, .ref a4]))] s.heap := hP
  have hl := lv_entry ([.ref h0]) (n := 1) (Nat.le_of_ble_eq_true rfl)
  rw [lg_entry_eq]
  generalize (lg_sl ([.ref h0]) ++ List.replicate (1 - (lg_sl ([.ref h0])).length) Slot.unset).toArray = ls at hl ⊢
  have hl : lv_has ls 1 [(0, .ref h0)] := hl
  refine lv_aload_n hx hb dX10_spare_0 rfl (lv_at hl 0 rfl) ?_
  have hPc := hP.sub (ws' := [(h0, .inr (10, [.ref tp, .ref rd, .ref tb, .ref rg, .ref bl, .ref pa, .ref fm, .ref te, .ref hi, .ref fr, .int fd, .int rf, .int lf, .int fp])), (tb, .inr (8, [.int 0, .int lk, .int ct, .int vr, .ref a1, .ref a2, .ref a3, .ref a4]))]) [0, 1] rfl
  have hDc := hD.sub (ws' := [(h0, .inr (10, [.ref tp, .ref rd, .ref tb, .ref rg, .ref bl, .ref pa, .ref fm, .ref te, .ref hi, .ref fr, .int fd, .int rf, .int lf, .int fp])), (tb, .inr (8, [.int 0, .int lk, .int ct, .int vr, .ref a1, .ref a2, .ref a3, .ref a4]))]) [0, 1] (by decide) rfl
  have hKc := hK.sub (tys' := []) [] rfl
  have hFc := va_free (wc := [(h0, .inr (10, [.ref tp, .ref rd, .ref tb, .ref rg, .ref bl, .ref pa, .ref fm, .ref te, .ref hi, .ref fr, .int fd, .int rf, .int lf, .int fp])), (tb, .inr (8, [.int 0, .int lk, .int ct, .int vr, .ref a1, .ref a2, .ref a3, .ref a4]))]) hD hS hA [0, 1] rfl
  refine va_calli (va_runV (As := []) (rest := []) ⟨hx, hb, hml, hown, hts⟩ (c_noBook l dC dI s.heap.size h0 tp rd tb rg bl pa fm te hi fr fd rf lf fp lk ct vr a1 a2 a3 a4) (cwV 0 hts gX10_spare_X10_noBook rfl rfl rfl (by decide +kernel) ⟨Nat.le_of_ble_eq_true rfl, Nat.le_of_ble_eq_true rfl⟩) ⟨fun a U g mk q => by obtain ⟨q0, q1, qP, qK, qD⟩ := q; exact ⟨q0, q1, qP, va_K.moved (u := U) (U := U.calling g mk a) (Vm.Alike.refl U.vm) qK, qD⟩, va_recv hKc hPc (ci := 10) (q0 := 0) rfl rfl, fun U hU hW => ⟨rfl, by rw [hU], by rw [hU]; exact hPc, va_K.moved hW.alike hKc, hDc.weaken (fun _ _ _ _ => trivial)⟩⟩ rfl rfl hl.1 rfl (lv_room (Nat.le_of_ble_eq_true rfl)) dX10_spare_1 ⟨Nat.le_of_ble_eq_true rfl, Nat.le_of_ble_eq_true rfl⟩) hS (fun q _ h => hFc q h) hFc (fun r_1 u t H1 locs ht hvm hw hB hz1 hk1 hS => ?_)
  obtain ⟨hP1, hK1, hD1⟩ := hB
  rw [ht] at hP1
  have hK1 := va_K.moved hvm.symm hK1
  try dsimp only at hw
  obtain ⟨hP, hD⟩ := va_join (wr := []) (w1 := [(h0, .inr (10, [.ref tp, .ref rd, .ref tb, .ref rg, .ref bl, .ref pa, .ref fm, .ref te, .ref hi, .ref fr, .int fd, .int rf, .int lf, .int fp])), (tb, .inr (8, [.int 0, .int lk, .int ct, .int vr, .ref a1, .ref a2, .ref a3, .ref a4]))]) hP hD [0, 1] [] rfl rfl (by decide) (by decide) hk1 hFc hP1 hD1
  have hK := (hK.sub (tys' := []) [] rfl).app hK1
  generalize H1 = H at hP hS ⊢
  have hP : va_P (dC, dI) vwCl [(h0, .inr (10, [.ref tp, .ref rd, .ref tb, .ref rg, .ref bl, .ref pa, .ref fm, .ref te, .ref hi, .ref fr, .int fd, .int rf, .int lf, .int fp])), (tb, .inr (8, [.int 0, .int lk, .int ct, .int vr, .ref a1, .ref a2, .ref a3, .ref a4]))] H := hP
  have hD : va_D A [(h0, .inr (10, [.ref tp, .ref rd, .ref tb, .ref rg, .ref bl, .ref pa, .ref fm, .ref te, .ref hi, .ref fr, .int fd, .int rf, .int lf, .int fp])), (tb, .inr (8, [.int 0, .int lk, .int ct, .int vr, .ref a1, .ref a2, .ref a3, .ref a4]))] := hD
  have hK : va_K (dC, dI) vwCl [] s := hK
  refine W.widen (k := 0) (n := 0) (by omega) (by omega) ?_
  have er_1 : r_1 = 1 := hw
  subst er_1
  refine lv_if_eq (tgt := 13) hx hb dX10_spare_4 (by decide) (fun c_2 => absurd c_2 (by decide)) (fun c_2 => ?_)
  refine lv_aload_n hx hb dX10_spare_7 rfl (lv_at hl 0 rfl) ?_
  refine lv_iconst (v := 1) hx hb dX10_spare_8 (by decide) ?_
  have hPc := hP.sub (ws' := [(h0, .inr (10, [.ref tp, .ref rd, .ref tb, .ref rg, .ref bl, .ref pa, .ref fm, .ref te, .ref hi, .ref fr, .int fd, .int rf, .int lf, .int fp]))]) [0] rfl
  have hDc := hD.sub (ws' := [(h0, .inr (10, [.ref tp, .ref rd, .ref tb, .ref rg, .ref bl, .ref pa, .ref fm, .ref te, .ref hi, .ref fr, .int fd, .int rf, .int lf, .int fp]))]) [0] (by decide) rfl
  have hKc := hK.sub (tys' := []) [] rfl
  have hFc := va_free (wc := [(h0, .inr (10, [.ref tp, .ref rd, .ref tb, .ref rg, .ref bl, .ref pa, .ref fm, .ref te, .ref hi, .ref fr, .int fd, .int rf, .int lf, .int fp]))]) hD hS hA [0] rfl
  refine va_calli (va_runV (As := [.int 1]) (rest := []) ⟨hx, hb, hml, hown, hts⟩ (c_refused l dC dI H.size h0 tp rd tb rg bl pa fm te hi fr fd rf lf fp 1) (cwV 1 hts gX10_spare_X10_refused rfl rfl rfl (by decide +kernel) ⟨Nat.le_of_ble_eq_true rfl, Nat.le_of_ble_eq_true rfl⟩) ⟨fun a U g mk q => by obtain ⟨q0, q1, qP, qK, qD⟩ := q; exact ⟨q0, q1, qP, va_K.moved (u := U) (U := U.calling g mk a) (Vm.Alike.refl U.vm) qK, qD⟩, va_recv hKc hPc (ci := 10) (q0 := 0) rfl rfl, fun U hU hW => ⟨rfl, by rw [hU], by rw [hU]; exact hPc, va_K.moved hW.alike hKc, hDc.weaken (fun _ _ _ _ => trivial)⟩⟩ rfl rfl hl.1 rfl (lv_room (Nat.le_of_ble_eq_true rfl)) dX10_spare_9 ⟨Nat.le_of_ble_eq_true rfl, Nat.le_of_ble_eq_true rfl⟩) hS (fun q _ h => hFc q h) hFc (fun r_3 u t H1 locs ht hvm hw hB hz1 hk1 hS => ?_)
  obtain ⟨hP1, hK1, hD1⟩ := hB
  rw [ht] at hP1
  have hK1 := va_K.moved hvm.symm hK1
  try dsimp only at hw
  obtain ⟨hP, hD⟩ := va_join (wr := [(tb, .inr (8, [.int 0, .int lk, .int ct, .int vr, .ref a1, .ref a2, .ref a3, .ref a4]))]) (w1 := [(h0, .inr (10, [.ref tp, .ref rd, .ref tb, .ref rg, .ref bl, .ref pa, .ref fm, .ref te, .ref hi, .ref fr, .int fd, .int 1, .int lf, .int fp]))]) hP hD [0] [1] rfl rfl (by decide) (by decide) hk1 hFc hP1 hD1
  have hK := (hK.sub (tys' := []) [] rfl).app hK1
  generalize H1 = H at hP hS ⊢
  have hP : va_P (dC, dI) vwCl [(tb, .inr (8, [.int 0, .int lk, .int ct, .int vr, .ref a1, .ref a2, .ref a3, .ref a4])), (h0, .inr (10, [.ref tp, .ref rd, .ref tb, .ref rg, .ref bl, .ref pa, .ref fm, .ref te, .ref hi, .ref fr, .int fd, .int 1, .int lf, .int fp]))] H := hP
  have hD : va_D A [(tb, .inr (8, [.int 0, .int lk, .int ct, .int vr, .ref a1, .ref a2, .ref a3, .ref a4])), (h0, .inr (10, [.ref tp, .ref rd, .ref tb, .ref rg, .ref bl, .ref pa, .ref fm, .ref te, .ref hi, .ref fr, .int fd, .int 1, .int lf, .int fp]))] := hD
  have hK : va_K (dC, dI) vwCl [] s := hK
  refine W.widen (k := 0) (n := 0) (by omega) (by omega) ?_
  have er_3 : r_3 = (-1) := hw
  subst er_3
  have hP9 := hP.sub (ws' := [(h0, .inr (10, [.ref tp, .ref rd, .ref tb, .ref rg, .ref bl, .ref pa, .ref fm, .ref te, .ref hi, .ref fr, .int fd, .int 1, .int lf, .int fp])), (tb, .inr (8, [.int 0, .int lk, .int ct, .int vr, .ref a1, .ref a2, .ref a3, .ref a4]))]) [1, 0] rfl
  have hD9 := hD.sub (ws' := [(h0, .inr (10, [.ref tp, .ref rd, .ref tb, .ref rg, .ref bl, .ref pa, .ref fm, .ref te, .ref hi, .ref fr, .int fd, .int 1, .int lf, .int fp])), (tb, .inr (8, [.int 0, .int lk, .int ct, .int vr, .ref a1, .ref a2, .ref a3, .ref a4]))]) [1, 0] (by decide) rfl
  have hK9 := hK.sub (tys' := []) [] rfl
  refine W.widen (k := 0) (n := 0) (Nat.le_of_ble_eq_true rfl) (Nat.le_of_ble_eq_true rfl) ?_
  exact W.iret (v := (-1)) hx hb hr (fun t ht hW => ⟨⟨(-1), (), rfl, rfl, by rw [ht]; exact hP9, va_K.moved hW.alike hK9, hD9⟩, hS.F ht⟩) hS.2.2 dX10_spare_12

set_option maxHeartbeats 4000000 in
set_option maxRecDepth 100000 in
/-- critical without a BOOK -/
theorem c_critical_0 (l : Launch) (dC : Nat → ClassId) (dI : Nat → Nat → Nat) (sz : Nat) (h0 : Nat) (tp : Nat) (rd : Nat) (tb : Nat) (rg : Nat) (bl : Nat) (pa : Nat) (fm : Nat) (te : Nat) (hi : Nat) (fr : Nat) (fd : Int32) (rf : Int32) (lf : Int32) (fp : Int32) (lk : Int32) (ct : Int32) (vr : Int32) (a1 : Nat) (a2 : Nat) (a3 : Nat) (a4 : Nat)  : Met l yX10_critical wsX10_critical ({ frames := 1, cells := 0, slots := 0, locals := 21 }) (va_Pc [.ref h0] (fun U => U.heap.size = sz ∧ va_P (dC, dI) vwCl [(h0, .inr (10, [.ref tp, .ref rd, .ref tb, .ref rg, .ref bl, .ref pa, .ref fm, .ref te, .ref hi, .ref fr, .int fd, .int rf, .int lf, .int fp])), (tb, .inr (8, [.int 0, .int lk, .int ct, .int vr, .ref a1, .ref a2, .ref a3, .ref a4]))] U.heap ∧ va_K (dC, dI) vwCl [] U ∧ va_D (fun _ => True) [(h0, .inr (10, [.ref tp, .ref rd, .ref tb, .ref rg, .ref bl, .ref pa, .ref fm, .ref te, .ref hi, .ref fr, .int fd, .int rf, .int lf, .int fp])), (tb, .inr (8, [.int 0, .int lk, .int ct, .int vr, .ref a1, .ref a2, .ref a3, .ref a4]))])) (va_Qi (fun (r : Int32) (_ : Unit) => r = (-1)) (fun _ t => va_P (dC, dI) vwCl [(h0, .inr (10, [.ref tp, .ref rd, .ref tb, .ref rg, .ref bl, .ref pa, .ref fm, .ref te, .ref hi, .ref fr, .int fd, .int 1, .int lf, .int fp])), (tb, .inr (8, [.int 0, .int lk, .int ct, .int vr, .ref a1, .ref a2, .ref a3, .ref a4]))] t.heap ∧ va_K (dC, dI) vwCl [] t ∧ va_D (va_A [(h0, .inr (10, [.ref tp, .ref rd, .ref tb, .ref rg, .ref bl, .ref pa, .ref fm, .ref te, .ref hi, .ref fr, .int fd, .int rf, .int lf, .int fp])), (tb, .inr (8, [.int 0, .int lk, .int ct, .int vr, .ref a1, .ref a2, .ref a3, .ref a4]))] sz) [(h0, .inr (10, [.ref tp, .ref rd, .ref tb, .ref rg, .ref bl, .ref pa, .ref fm, .ref te, .ref hi, .ref fr, .int fd, .int 1, .int lf, .int fp])), (tb, .inr (8, [.int 0, .int lk, .int ct, .int vr, .ref a1, .ref a2, .ref a3, .ref a4]))]) (va_A [(h0, .inr (10, [.ref tp, .ref rd, .ref tb, .ref rg, .ref bl, .ref pa, .ref fm, .ref te, .ref hi, .ref fr, .int fd, .int rf, .int lf, .int fp])), (tb, .inr (8, [.int 0, .int lk, .int ct, .int vr, .ref a1, .ref a2, .ref a3, .ref a4]))] sz)) 0 0 (va_A [(h0, .inr (10, [.ref tp, .ref rd, .ref tb, .ref rg, .ref bl, .ref pa, .ref fm, .ref te, .ref hi, .ref fr, .int fd, .int rf, .int lf, .int fp])), (tb, .inr (8, [.int 0, .int lk, .int ct, .int vr, .ref a1, .ref a2, .ref a3, .ref a4]))] sz) := by
  refine Met.ofW (cc := cX10_critical) (maxL := 1) (ret := (some .int)) (by decide) rfl ?_
  intro p e s m args below meth c s₁ B hml hv
  obtain ⟨rfl, hsz, hP, hK, hD0⟩ := hv
  have hx := B.exec
  have hb := B.bytes
  have hr := B.returns
  have hts := atoms_spec (ws := wsX10_critical) B.pre
  have hown : s.vm.findClass RX10 = some m.cls := findClass_of_methodNamed B.named
  have hlocks := B.notSynchronized
  subst hsz
  have hD := hD0.self (sz := s.heap.size)
  generalize hAe : va_A [(h0, .inr (10, [.ref tp, .ref rd, .ref tb, .ref rg, .ref bl, .ref pa, .ref fm, .ref te, .ref hi, .ref fr, .int fd, .int rf, .int lf, .int fp])), (tb, .inr (8, [.int 0, .int lk, .int ct, .int vr, .ref a1, .ref a2, .ref a3, .ref a4]))] s.heap.size = A at hD ⊢
  have hA : ∀ q : Nat, s.heap.size ≤ q → A q := fun q h => by rw [← hAe]; exact Or.inr h
  have hS : va_S A s.heap s.heap [] := va_S.rf
  have hP : va_P (dC, dI) vwCl [(h0, .inr (10, [.ref tp, .ref rd, .ref tb, .ref rg, .ref bl, .ref pa, .ref fm, .ref te, .ref hi, .ref fr, .int fd, .int rf, .int lf, .int fp])), (tb, .inr (8, [.int 0, .int lk, .int ct, .int vr, .ref a1, .ref a2, .ref a3, .ref a4]))] s.heap := hP
  have hl := lv_entry ([.ref h0]) (n := 1) (Nat.le_of_ble_eq_true rfl)
  rw [lg_entry_eq]
  generalize (lg_sl ([.ref h0]) ++ List.replicate (1 - (lg_sl ([.ref h0])).length) Slot.unset).toArray = ls at hl ⊢
  have hl : lv_has ls 1 [(0, .ref h0)] := hl
  refine lv_aload_n hx hb dX10_critical_0 rfl (lv_at hl 0 rfl) ?_
  have hPc := hP.sub (ws' := [(h0, .inr (10, [.ref tp, .ref rd, .ref tb, .ref rg, .ref bl, .ref pa, .ref fm, .ref te, .ref hi, .ref fr, .int fd, .int rf, .int lf, .int fp])), (tb, .inr (8, [.int 0, .int lk, .int ct, .int vr, .ref a1, .ref a2, .ref a3, .ref a4]))]) [0, 1] rfl
  have hDc := hD.sub (ws' := [(h0, .inr (10, [.ref tp, .ref rd, .ref tb, .ref rg, .ref bl, .ref pa, .ref fm, .ref te, .ref hi, .ref fr, .int fd, .int rf, .int lf, .int fp])), (tb, .inr (8, [.int 0, .int lk, .int ct, .int vr, .ref a1, .ref a2, .ref a3, .ref a4]))]) [0, 1] (by decide) rfl
  have hKc := hK.sub (tys' := []) [] rfl
  have hFc := va_free (wc := [(h0, .inr (10, [.ref tp, .ref rd, .ref tb, .ref rg, .ref bl, .ref pa, .ref fm, .ref te, .ref hi, .ref fr, .int fd, .int rf, .int lf, .int fp])), (tb, .inr (8, [.int 0, .int lk, .int ct, .int vr, .ref a1, .ref a2, .ref a3, .ref a4]))]) hD hS hA [0, 1] rfl
  refine va_calli (va_runV (As := []) (rest := []) ⟨hx, hb, hml, hown, hts⟩ (c_noBook l dC dI s.heap.size h0 tp rd tb rg bl pa fm te hi fr fd rf lf fp lk ct vr a1 a2 a3 a4) (cwV 0 hts gX10_critical_X10_noBook rfl rfl rfl (by decide +kernel) ⟨Nat.le_of_ble_eq_true rfl, Nat.le_of_ble_eq_true rfl⟩) ⟨fun a U g mk q => by obtain ⟨q0, q1, qP, qK, qD⟩ := q; exact ⟨q0, q1, qP, va_K.moved (u := U) (U := U.calling g mk a) (Vm.Alike.refl U.vm) qK, qD⟩, va_recv hKc hPc (ci := 10) (q0 := 0) rfl rfl, fun U hU hW => ⟨rfl, by rw [hU], by rw [hU]; exact hPc, va_K.moved hW.alike hKc, hDc.weaken (fun _ _ _ _ => trivial)⟩⟩ rfl rfl hl.1 rfl (lv_room (Nat.le_of_ble_eq_true rfl)) dX10_critical_1 ⟨Nat.le_of_ble_eq_true rfl, Nat.le_of_ble_eq_true rfl⟩) hS (fun q _ h => hFc q h) hFc (fun r_1 u t H1 locs ht hvm hw hB hz1 hk1 hS => ?_)
  obtain ⟨hP1, hK1, hD1⟩ := hB
  rw [ht] at hP1
  have hK1 := va_K.moved hvm.symm hK1
  try dsimp only at hw
  obtain ⟨hP, hD⟩ := va_join (wr := []) (w1 := [(h0, .inr (10, [.ref tp, .ref rd, .ref tb, .ref rg, .ref bl, .ref pa, .ref fm, .ref te, .ref hi, .ref fr, .int fd, .int rf, .int lf, .int fp])), (tb, .inr (8, [.int 0, .int lk, .int ct, .int vr, .ref a1, .ref a2, .ref a3, .ref a4]))]) hP hD [0, 1] [] rfl rfl (by decide) (by decide) hk1 hFc hP1 hD1
  have hK := (hK.sub (tys' := []) [] rfl).app hK1
  generalize H1 = H at hP hS ⊢
  have hP : va_P (dC, dI) vwCl [(h0, .inr (10, [.ref tp, .ref rd, .ref tb, .ref rg, .ref bl, .ref pa, .ref fm, .ref te, .ref hi, .ref fr, .int fd, .int rf, .int lf, .int fp])), (tb, .inr (8, [.int 0, .int lk, .int ct, .int vr, .ref a1, .ref a2, .ref a3, .ref a4]))] H := hP
  have hD : va_D A [(h0, .inr (10, [.ref tp, .ref rd, .ref tb, .ref rg, .ref bl, .ref pa, .ref fm, .ref te, .ref hi, .ref fr, .int fd, .int rf, .int lf, .int fp])), (tb, .inr (8, [.int 0, .int lk, .int ct, .int vr, .ref a1, .ref a2, .ref a3, .ref a4]))] := hD
  have hK : va_K (dC, dI) vwCl [] s := hK
  refine W.widen (k := 0) (n := 0) (by omega) (by omega) ?_
  have er_1 : r_1 = 1 := hw
  subst er_1
  refine lv_if_eq (tgt := 13) hx hb dX10_critical_4 (by decide) (fun c_2 => absurd c_2 (by decide)) (fun c_2 => ?_)
  refine lv_aload_n hx hb dX10_critical_7 rfl (lv_at hl 0 rfl) ?_
  refine lv_iconst (v := 1) hx hb dX10_critical_8 (by decide) ?_
  have hPc := hP.sub (ws' := [(h0, .inr (10, [.ref tp, .ref rd, .ref tb, .ref rg, .ref bl, .ref pa, .ref fm, .ref te, .ref hi, .ref fr, .int fd, .int rf, .int lf, .int fp]))]) [0] rfl
  have hDc := hD.sub (ws' := [(h0, .inr (10, [.ref tp, .ref rd, .ref tb, .ref rg, .ref bl, .ref pa, .ref fm, .ref te, .ref hi, .ref fr, .int fd, .int rf, .int lf, .int fp]))]) [0] (by decide) rfl
  have hKc := hK.sub (tys' := []) [] rfl
  have hFc := va_free (wc := [(h0, .inr (10, [.ref tp, .ref rd, .ref tb, .ref rg, .ref bl, .ref pa, .ref fm, .ref te, .ref hi, .ref fr, .int fd, .int rf, .int lf, .int fp]))]) hD hS hA [0] rfl
  refine va_calli (va_runV (As := [.int 1]) (rest := []) ⟨hx, hb, hml, hown, hts⟩ (c_refused l dC dI H.size h0 tp rd tb rg bl pa fm te hi fr fd rf lf fp 1) (cwV 1 hts gX10_critical_X10_refused rfl rfl rfl (by decide +kernel) ⟨Nat.le_of_ble_eq_true rfl, Nat.le_of_ble_eq_true rfl⟩) ⟨fun a U g mk q => by obtain ⟨q0, q1, qP, qK, qD⟩ := q; exact ⟨q0, q1, qP, va_K.moved (u := U) (U := U.calling g mk a) (Vm.Alike.refl U.vm) qK, qD⟩, va_recv hKc hPc (ci := 10) (q0 := 0) rfl rfl, fun U hU hW => ⟨rfl, by rw [hU], by rw [hU]; exact hPc, va_K.moved hW.alike hKc, hDc.weaken (fun _ _ _ _ => trivial)⟩⟩ rfl rfl hl.1 rfl (lv_room (Nat.le_of_ble_eq_true rfl)) dX10_critical_9 ⟨Nat.le_of_ble_eq_true rfl, Nat.le_of_ble_eq_true rfl⟩) hS (fun q _ h => hFc q h) hFc (fun r_3 u t H1 locs ht hvm hw hB hz1 hk1 hS => ?_)
  obtain ⟨hP1, hK1, hD1⟩ := hB
  rw [ht] at hP1
  have hK1 := va_K.moved hvm.symm hK1
  try dsimp only at hw
  obtain ⟨hP, hD⟩ := va_join (wr := [(tb, .inr (8, [.int 0, .int lk, .int ct, .int vr, .ref a1, .ref a2, .ref a3, .ref a4]))]) (w1 := [(h0, .inr (10, [.ref tp, .ref rd, .ref tb, .ref rg, .ref bl, .ref pa, .ref fm, .ref te, .ref hi, .ref fr, .int fd, .int 1, .int lf, .int fp]))]) hP hD [0] [1] rfl rfl (by decide) (by decide) hk1 hFc hP1 hD1
  have hK := (hK.sub (tys' := []) [] rfl).app hK1
  generalize H1 = H at hP hS ⊢
  have hP : va_P (dC, dI) vwCl [(tb, .inr (8, [.int 0, .int lk, .int ct, .int vr, .ref a1, .ref a2, .ref a3, .ref a4])), (h0, .inr (10, [.ref tp, .ref rd, .ref tb, .ref rg, .ref bl, .ref pa, .ref fm, .ref te, .ref hi, .ref fr, .int fd, .int 1, .int lf, .int fp]))] H := hP
  have hD : va_D A [(tb, .inr (8, [.int 0, .int lk, .int ct, .int vr, .ref a1, .ref a2, .ref a3, .ref a4])), (h0, .inr (10, [.ref tp, .ref rd, .ref tb, .ref rg, .ref bl, .ref pa, .ref fm, .ref te, .ref hi, .ref fr, .int fd, .int 1, .int lf, .int fp]))] := hD
  have hK : va_K (dC, dI) vwCl [] s := hK
  refine W.widen (k := 0) (n := 0) (by omega) (by omega) ?_
  have er_3 : r_3 = (-1) := hw
  subst er_3
  have hP9 := hP.sub (ws' := [(h0, .inr (10, [.ref tp, .ref rd, .ref tb, .ref rg, .ref bl, .ref pa, .ref fm, .ref te, .ref hi, .ref fr, .int fd, .int 1, .int lf, .int fp])), (tb, .inr (8, [.int 0, .int lk, .int ct, .int vr, .ref a1, .ref a2, .ref a3, .ref a4]))]) [1, 0] rfl
  have hD9 := hD.sub (ws' := [(h0, .inr (10, [.ref tp, .ref rd, .ref tb, .ref rg, .ref bl, .ref pa, .ref fm, .ref te, .ref hi, .ref fr, .int fd, .int 1, .int lf, .int fp])), (tb, .inr (8, [.int 0, .int lk, .int ct, .int vr, .ref a1, .ref a2, .ref a3, .ref a4]))]) [1, 0] (by decide) rfl
  have hK9 := hK.sub (tys' := []) [] rfl
  refine W.widen (k := 0) (n := 0) (Nat.le_of_ble_eq_true rfl) (Nat.le_of_ble_eq_true rfl) ?_
  exact W.iret (v := (-1)) hx hb hr (fun t ht hW => ⟨⟨(-1), (), rfl, rfl, by rw [ht]; exact hP9, va_K.moved hW.alike hK9, hD9⟩, hS.F ht⟩) hS.2.2 dX10_critical_12

set_option maxHeartbeats 4000000 in
set_option maxRecDepth 100000 in
/-- memory without a BOOK -/
theorem c_memory_0 (l : Launch) (dC : Nat → ClassId) (dI : Nat → Nat → Nat) (sz : Nat) (h0 : Nat) (tp : Nat) (rd : Nat) (tb : Nat) (rg : Nat) (bl : Nat) (pa : Nat) (fm : Nat) (te : Nat) (hi : Nat) (fr : Nat) (fd : Int32) (rf : Int32) (lf : Int32) (fp : Int32) (lk : Int32) (ct : Int32) (vr : Int32) (a1 : Nat) (a2 : Nat) (a3 : Nat) (a4 : Nat)  : Met l yX10_memory wsX10_memory ({ frames := 1, cells := 0, slots := 0, locals := 21 }) (va_Pc [.ref h0] (fun U => U.heap.size = sz ∧ va_P (dC, dI) vwCl [(h0, .inr (10, [.ref tp, .ref rd, .ref tb, .ref rg, .ref bl, .ref pa, .ref fm, .ref te, .ref hi, .ref fr, .int fd, .int rf, .int lf, .int fp])), (tb, .inr (8, [.int 0, .int lk, .int ct, .int vr, .ref a1, .ref a2, .ref a3, .ref a4]))] U.heap ∧ va_K (dC, dI) vwCl [] U ∧ va_D (fun _ => True) [(h0, .inr (10, [.ref tp, .ref rd, .ref tb, .ref rg, .ref bl, .ref pa, .ref fm, .ref te, .ref hi, .ref fr, .int fd, .int rf, .int lf, .int fp])), (tb, .inr (8, [.int 0, .int lk, .int ct, .int vr, .ref a1, .ref a2, .ref a3, .ref a4]))])) (va_Qi (fun (r : Int32) (_ : Unit) => r = (-1)) (fun _ t => va_P (dC, dI) vwCl [(h0, .inr (10, [.ref tp, .ref rd, .ref tb, .ref rg, .ref bl, .ref pa, .ref fm, .ref te, .ref hi, .ref fr, .int fd, .int 1, .int lf, .int fp])), (tb, .inr (8, [.int 0, .int lk, .int ct, .int vr, .ref a1, .ref a2, .ref a3, .ref a4]))] t.heap ∧ va_K (dC, dI) vwCl [] t ∧ va_D (va_A [(h0, .inr (10, [.ref tp, .ref rd, .ref tb, .ref rg, .ref bl, .ref pa, .ref fm, .ref te, .ref hi, .ref fr, .int fd, .int rf, .int lf, .int fp])), (tb, .inr (8, [.int 0, .int lk, .int ct, .int vr, .ref a1, .ref a2, .ref a3, .ref a4]))] sz) [(h0, .inr (10, [.ref tp, .ref rd, .ref tb, .ref rg, .ref bl, .ref pa, .ref fm, .ref te, .ref hi, .ref fr, .int fd, .int 1, .int lf, .int fp])), (tb, .inr (8, [.int 0, .int lk, .int ct, .int vr, .ref a1, .ref a2, .ref a3, .ref a4]))]) (va_A [(h0, .inr (10, [.ref tp, .ref rd, .ref tb, .ref rg, .ref bl, .ref pa, .ref fm, .ref te, .ref hi, .ref fr, .int fd, .int rf, .int lf, .int fp])), (tb, .inr (8, [.int 0, .int lk, .int ct, .int vr, .ref a1, .ref a2, .ref a3, .ref a4]))] sz)) 0 0 (va_A [(h0, .inr (10, [.ref tp, .ref rd, .ref tb, .ref rg, .ref bl, .ref pa, .ref fm, .ref te, .ref hi, .ref fr, .int fd, .int rf, .int lf, .int fp])), (tb, .inr (8, [.int 0, .int lk, .int ct, .int vr, .ref a1, .ref a2, .ref a3, .ref a4]))] sz) := by
  refine Met.ofW (cc := cX10_memory) (maxL := 1) (ret := (some .int)) (by decide) rfl ?_
  intro p e s m args below meth c s₁ B hml hv
  obtain ⟨rfl, hsz, hP, hK, hD0⟩ := hv
  have hx := B.exec
  have hb := B.bytes
  have hr := B.returns
  have hts := atoms_spec (ws := wsX10_memory) B.pre
  have hown : s.vm.findClass RX10 = some m.cls := findClass_of_methodNamed B.named
  have hlocks := B.notSynchronized
  subst hsz
  have hD := hD0.self (sz := s.heap.size)
  generalize hAe : va_A [(h0, .inr (10, [.ref tp, .ref rd, .ref tb, .ref rg, .ref bl, .ref pa, .ref fm, .ref te, .ref hi, .ref fr, .int fd, .int rf, .int lf, .int fp])), (tb, .inr (8, [.int 0, .int lk, .int ct, .int vr, .ref a1, .ref a2, .ref a3, .ref a4]))] s.heap.size = A at hD ⊢
  have hA : ∀ q : Nat, s.heap.size ≤ q → A q := fun q h => by rw [← hAe]; exact Or.inr h
  have hS : va_S A s.heap s.heap [] := va_S.rf
  have hP : va_P (dC, dI) vwCl [(h0, .inr (10, [.ref tp, .ref rd, .ref tb, .ref rg, .ref bl, .ref pa, .ref fm, .ref te, .ref hi, .ref fr, .int fd, .int rf, .int lf, .int fp])), (tb, .inr (8, [.int 0, .int lk, .int ct, .int vr, .ref a1, .ref a2, .ref a3, .ref a4]))] s.heap := hP
  have hl := lv_entry ([.ref h0]) (n := 1) (Nat.le_of_ble_eq_true rfl)
  rw [lg_entry_eq]
  generalize (lg_sl ([.ref h0]) ++ List.replicate (1 - (lg_sl ([.ref h0])).length) Slot.unset).toArray = ls at hl ⊢
  have hl : lv_has ls 1 [(0, .ref h0)] := hl
  refine lv_aload_n hx hb dX10_memory_0 rfl (lv_at hl 0 rfl) ?_
  have hPc := hP.sub (ws' := [(h0, .inr (10, [.ref tp, .ref rd, .ref tb, .ref rg, .ref bl, .ref pa, .ref fm, .ref te, .ref hi, .ref fr, .int fd, .int rf, .int lf, .int fp])), (tb, .inr (8, [.int 0, .int lk, .int ct, .int vr, .ref a1, .ref a2, .ref a3, .ref a4]))]) [0, 1] rfl
  have hDc := hD.sub (ws' := [(h0, .inr (10, [.ref tp, .ref rd, .ref tb, .ref rg, .ref bl, .ref pa, .ref fm, .ref te, .ref hi, .ref fr, .int fd, .int rf, .int lf, .int fp])), (tb, .inr (8, [.int 0, .int lk, .int ct, .int vr, .ref a1, .ref a2, .ref a3, .ref a4]))]) [0, 1] (by decide) rfl
  have hKc := hK.sub (tys' := []) [] rfl
  have hFc := va_free (wc := [(h0, .inr (10, [.ref tp, .ref rd, .ref tb, .ref rg, .ref bl, .ref pa, .ref fm, .ref te, .ref hi, .ref fr, .int fd, .int rf, .int lf, .int fp])), (tb, .inr (8, [.int 0, .int lk, .int ct, .int vr, .ref a1, .ref a2, .ref a3, .ref a4]))]) hD hS hA [0, 1] rfl
  refine va_calli (va_runV (As := []) (rest := []) ⟨hx, hb, hml, hown, hts⟩ (c_noBook l dC dI s.heap.size h0 tp rd tb rg bl pa fm te hi fr fd rf lf fp lk ct vr a1 a2 a3 a4) (cwV 0 hts gX10_memory_X10_noBook rfl rfl rfl (by decide +kernel) ⟨Nat.le_of_ble_eq_true rfl, Nat.le_of_ble_eq_true rfl⟩) ⟨fun a U g mk q => by obtain ⟨q0, q1, qP, qK, qD⟩ := q; exact ⟨q0, q1, qP, va_K.moved (u := U) (U := U.calling g mk a) (Vm.Alike.refl U.vm) qK, qD⟩, va_recv hKc hPc (ci := 10) (q0 := 0) rfl rfl, fun U hU hW => ⟨rfl, by rw [hU], by rw [hU]; exact hPc, va_K.moved hW.alike hKc, hDc.weaken (fun _ _ _ _ => trivial)⟩⟩ rfl rfl hl.1 rfl (lv_room (Nat.le_of_ble_eq_true rfl)) dX10_memory_1 ⟨Nat.le_of_ble_eq_true rfl, Nat.le_of_ble_eq_true rfl⟩) hS (fun q _ h => hFc q h) hFc (fun r_1 u t H1 locs ht hvm hw hB hz1 hk1 hS => ?_)
  obtain ⟨hP1, hK1, hD1⟩ := hB
  rw [ht] at hP1
  have hK1 := va_K.moved hvm.symm hK1
  try dsimp only at hw
  obtain ⟨hP, hD⟩ := va_join (wr := []) (w1 := [(h0, .inr (10, [.ref tp, .ref rd, .ref tb, .ref rg, .ref bl, .ref pa, .ref fm, .ref te, .ref hi, .ref fr, .int fd, .int rf, .int lf, .int fp])), (tb, .inr (8, [.int 0, .int lk, .int ct, .int vr, .ref a1, .ref a2, .ref a3, .ref a4]))]) hP hD [0, 1] [] rfl rfl (by decide) (by decide) hk1 hFc hP1 hD1
  have hK := (hK.sub (tys' := []) [] rfl).app hK1
  generalize H1 = H at hP hS ⊢
  have hP : va_P (dC, dI) vwCl [(h0, .inr (10, [.ref tp, .ref rd, .ref tb, .ref rg, .ref bl, .ref pa, .ref fm, .ref te, .ref hi, .ref fr, .int fd, .int rf, .int lf, .int fp])), (tb, .inr (8, [.int 0, .int lk, .int ct, .int vr, .ref a1, .ref a2, .ref a3, .ref a4]))] H := hP
  have hD : va_D A [(h0, .inr (10, [.ref tp, .ref rd, .ref tb, .ref rg, .ref bl, .ref pa, .ref fm, .ref te, .ref hi, .ref fr, .int fd, .int rf, .int lf, .int fp])), (tb, .inr (8, [.int 0, .int lk, .int ct, .int vr, .ref a1, .ref a2, .ref a3, .ref a4]))] := hD
  have hK : va_K (dC, dI) vwCl [] s := hK
  refine W.widen (k := 0) (n := 0) (by omega) (by omega) ?_
  have er_1 : r_1 = 1 := hw
  subst er_1
  refine lv_if_eq (tgt := 13) hx hb dX10_memory_4 (by decide) (fun c_2 => absurd c_2 (by decide)) (fun c_2 => ?_)
  refine lv_aload_n hx hb dX10_memory_7 rfl (lv_at hl 0 rfl) ?_
  refine lv_iconst (v := 1) hx hb dX10_memory_8 (by decide) ?_
  have hPc := hP.sub (ws' := [(h0, .inr (10, [.ref tp, .ref rd, .ref tb, .ref rg, .ref bl, .ref pa, .ref fm, .ref te, .ref hi, .ref fr, .int fd, .int rf, .int lf, .int fp]))]) [0] rfl
  have hDc := hD.sub (ws' := [(h0, .inr (10, [.ref tp, .ref rd, .ref tb, .ref rg, .ref bl, .ref pa, .ref fm, .ref te, .ref hi, .ref fr, .int fd, .int rf, .int lf, .int fp]))]) [0] (by decide) rfl
  have hKc := hK.sub (tys' := []) [] rfl
  have hFc := va_free (wc := [(h0, .inr (10, [.ref tp, .ref rd, .ref tb, .ref rg, .ref bl, .ref pa, .ref fm, .ref te, .ref hi, .ref fr, .int fd, .int rf, .int lf, .int fp]))]) hD hS hA [0] rfl
  refine va_calli (va_runV (As := [.int 1]) (rest := []) ⟨hx, hb, hml, hown, hts⟩ (c_refused l dC dI H.size h0 tp rd tb rg bl pa fm te hi fr fd rf lf fp 1) (cwV 1 hts gX10_memory_X10_refused rfl rfl rfl (by decide +kernel) ⟨Nat.le_of_ble_eq_true rfl, Nat.le_of_ble_eq_true rfl⟩) ⟨fun a U g mk q => by obtain ⟨q0, q1, qP, qK, qD⟩ := q; exact ⟨q0, q1, qP, va_K.moved (u := U) (U := U.calling g mk a) (Vm.Alike.refl U.vm) qK, qD⟩, va_recv hKc hPc (ci := 10) (q0 := 0) rfl rfl, fun U hU hW => ⟨rfl, by rw [hU], by rw [hU]; exact hPc, va_K.moved hW.alike hKc, hDc.weaken (fun _ _ _ _ => trivial)⟩⟩ rfl rfl hl.1 rfl (lv_room (Nat.le_of_ble_eq_true rfl)) dX10_memory_9 ⟨Nat.le_of_ble_eq_true rfl, Nat.le_of_ble_eq_true rfl⟩) hS (fun q _ h => hFc q h) hFc (fun r_3 u t H1 locs ht hvm hw hB hz1 hk1 hS => ?_)
  obtain ⟨hP1, hK1, hD1⟩ := hB
  rw [ht] at hP1
  have hK1 := va_K.moved hvm.symm hK1
  try dsimp only at hw
  obtain ⟨hP, hD⟩ := va_join (wr := [(tb, .inr (8, [.int 0, .int lk, .int ct, .int vr, .ref a1, .ref a2, .ref a3, .ref a4]))]) (w1 := [(h0, .inr (10, [.ref tp, .ref rd, .ref tb, .ref rg, .ref bl, .ref pa, .ref fm, .ref te, .ref hi, .ref fr, .int fd, .int 1, .int lf, .int fp]))]) hP hD [0] [1] rfl rfl (by decide) (by decide) hk1 hFc hP1 hD1
  have hK := (hK.sub (tys' := []) [] rfl).app hK1
  generalize H1 = H at hP hS ⊢
  have hP : va_P (dC, dI) vwCl [(tb, .inr (8, [.int 0, .int lk, .int ct, .int vr, .ref a1, .ref a2, .ref a3, .ref a4])), (h0, .inr (10, [.ref tp, .ref rd, .ref tb, .ref rg, .ref bl, .ref pa, .ref fm, .ref te, .ref hi, .ref fr, .int fd, .int 1, .int lf, .int fp]))] H := hP
  have hD : va_D A [(tb, .inr (8, [.int 0, .int lk, .int ct, .int vr, .ref a1, .ref a2, .ref a3, .ref a4])), (h0, .inr (10, [.ref tp, .ref rd, .ref tb, .ref rg, .ref bl, .ref pa, .ref fm, .ref te, .ref hi, .ref fr, .int fd, .int 1, .int lf, .int fp]))] := hD
  have hK : va_K (dC, dI) vwCl [] s := hK
  refine W.widen (k := 0) (n := 0) (by omega) (by omega) ?_
  have er_3 : r_3 = (-1) := hw
  subst er_3
  have hP9 := hP.sub (ws' := [(h0, .inr (10, [.ref tp, .ref rd, .ref tb, .ref rg, .ref bl, .ref pa, .ref fm, .ref te, .ref hi, .ref fr, .int fd, .int 1, .int lf, .int fp])), (tb, .inr (8, [.int 0, .int lk, .int ct, .int vr, .ref a1, .ref a2, .ref a3, .ref a4]))]) [1, 0] rfl
  have hD9 := hD.sub (ws' := [(h0, .inr (10, [.ref tp, .ref rd, .ref tb, .ref rg, .ref bl, .ref pa, .ref fm, .ref te, .ref hi, .ref fr, .int fd, .int 1, .int lf, .int fp])), (tb, .inr (8, [.int 0, .int lk, .int ct, .int vr, .ref a1, .ref a2, .ref a3, .ref a4]))]) [1, 0] (by decide) rfl
  have hK9 := hK.sub (tys' := []) [] rfl
  refine W.widen (k := 0) (n := 0) (Nat.le_of_ble_eq_true rfl) (Nat.le_of_ble_eq_true rfl) ?_
  exact W.iret (v := (-1)) hx hb hr (fun t ht hW => ⟨⟨(-1), (), rfl, rfl, by rw [ht]; exact hP9, va_K.moved hW.alike hK9, hD9⟩, hS.F ht⟩) hS.2.2 dX10_memory_12

set_option maxHeartbeats 4000000 in
set_option maxRecDepth 100000 in
/-- mark without a BOOK -/
theorem c_mark_0 (l : Launch) (dC : Nat → ClassId) (dI : Nat → Nat → Nat) (sz : Nat) (h0 : Nat) (tp : Nat) (rd : Nat) (tb : Nat) (rg : Nat) (bl : Nat) (pa : Nat) (fm : Nat) (te : Nat) (hi : Nat) (fr : Nat) (fd : Int32) (rf : Int32) (lf : Int32) (fp : Int32) (lk : Int32) (ct : Int32) (vr : Int32) (a1 : Nat) (a2 : Nat) (a3 : Nat) (a4 : Nat)  : Met l yX10_mark wsX10_mark ({ frames := 1, cells := 0, slots := 0, locals := 21 }) (va_Pc [.ref h0] (fun U => U.heap.size = sz ∧ va_P (dC, dI) vwCl [(h0, .inr (10, [.ref tp, .ref rd, .ref tb, .ref rg, .ref bl, .ref pa, .ref fm, .ref te, .ref hi, .ref fr, .int fd, .int rf, .int lf, .int fp])), (tb, .inr (8, [.int 0, .int lk, .int ct, .int vr, .ref a1, .ref a2, .ref a3, .ref a4]))] U.heap ∧ va_K (dC, dI) vwCl [] U ∧ va_D (fun _ => True) [(h0, .inr (10, [.ref tp, .ref rd, .ref tb, .ref rg, .ref bl, .ref pa, .ref fm, .ref te, .ref hi, .ref fr, .int fd, .int rf, .int lf, .int fp])), (tb, .inr (8, [.int 0, .int lk, .int ct, .int vr, .ref a1, .ref a2, .ref a3, .ref a4]))])) (va_Qi (fun (r : Int32) (_ : Unit) => r = (-1)) (fun _ t => va_P (dC, dI) vwCl [(h0, .inr (10, [.ref tp, .ref rd, .ref tb, .ref rg, .ref bl, .ref pa, .ref fm, .ref te, .ref hi, .ref fr, .int fd, .int 1, .int lf, .int fp])), (tb, .inr (8, [.int 0, .int lk, .int ct, .int vr, .ref a1, .ref a2, .ref a3, .ref a4]))] t.heap ∧ va_K (dC, dI) vwCl [] t ∧ va_D (va_A [(h0, .inr (10, [.ref tp, .ref rd, .ref tb, .ref rg, .ref bl, .ref pa, .ref fm, .ref te, .ref hi, .ref fr, .int fd, .int rf, .int lf, .int fp])), (tb, .inr (8, [.int 0, .int lk, .int ct, .int vr, .ref a1, .ref a2, .ref a3, .ref a4]))] sz) [(h0, .inr (10, [.ref tp, .ref rd, .ref tb, .ref rg, .ref bl, .ref pa, .ref fm, .ref te, .ref hi, .ref fr, .int fd, .int 1, .int lf, .int fp])), (tb, .inr (8, [.int 0, .int lk, .int ct, .int vr, .ref a1, .ref a2, .ref a3, .ref a4]))]) (va_A [(h0, .inr (10, [.ref tp, .ref rd, .ref tb, .ref rg, .ref bl, .ref pa, .ref fm, .ref te, .ref hi, .ref fr, .int fd, .int rf, .int lf, .int fp])), (tb, .inr (8, [.int 0, .int lk, .int ct, .int vr, .ref a1, .ref a2, .ref a3, .ref a4]))] sz)) 0 0 (va_A [(h0, .inr (10, [.ref tp, .ref rd, .ref tb, .ref rg, .ref bl, .ref pa, .ref fm, .ref te, .ref hi, .ref fr, .int fd, .int rf, .int lf, .int fp])), (tb, .inr (8, [.int 0, .int lk, .int ct, .int vr, .ref a1, .ref a2, .ref a3, .ref a4]))] sz) := by
  refine Met.ofW (cc := cX10_mark) (maxL := 1) (ret := (some .int)) (by decide) rfl ?_
  intro p e s m args below meth c s₁ B hml hv
  obtain ⟨rfl, hsz, hP, hK, hD0⟩ := hv
  have hx := B.exec
  have hb := B.bytes
  have hr := B.returns
  have hts := atoms_spec (ws := wsX10_mark) B.pre
  have hown : s.vm.findClass RX10 = some m.cls := findClass_of_methodNamed B.named
  have hlocks := B.notSynchronized
  subst hsz
  have hD := hD0.self (sz := s.heap.size)
  generalize hAe : va_A [(h0, .inr (10, [.ref tp, .ref rd, .ref tb, .ref rg, .ref bl, .ref pa, .ref fm, .ref te, .ref hi, .ref fr, .int fd, .int rf, .int lf, .int fp])), (tb, .inr (8, [.int 0, .int lk, .int ct, .int vr, .ref a1, .ref a2, .ref a3, .ref a4]))] s.heap.size = A at hD ⊢
  have hA : ∀ q : Nat, s.heap.size ≤ q → A q := fun q h => by rw [← hAe]; exact Or.inr h
  have hS : va_S A s.heap s.heap [] := va_S.rf
  have hP : va_P (dC, dI) vwCl [(h0, .inr (10, [.ref tp, .ref rd, .ref tb, .ref rg, .ref bl, .ref pa, .ref fm, .ref te, .ref hi, .ref fr, .int fd, .int rf, .int lf, .int fp])), (tb, .inr (8, [.int 0, .int lk, .int ct, .int vr, .ref a1, .ref a2, .ref a3, .ref a4]))] s.heap := hP
  have hl := lv_entry ([.ref h0]) (n := 1) (Nat.le_of_ble_eq_true rfl)
  rw [lg_entry_eq]
  generalize (lg_sl ([.ref h0]) ++ List.replicate (1 - (lg_sl ([.ref h0])).length) Slot.unset).toArray = ls at hl ⊢
  have hl : lv_has ls 1 [(0, .ref h0)] := hl
  refine lv_aload_n hx hb dX10_mark_0 rfl (lv_at hl 0 rfl) ?_
  have hPc := hP.sub (ws' := [(h0, .inr (10, [.ref tp, .ref rd, .ref tb, .ref rg, .ref bl, .ref pa, .ref fm, .ref te, .ref hi, .ref fr, .int fd, .int rf, .int lf, .int fp])), (tb, .inr (8, [.int 0, .int lk, .int ct, .int vr, .ref a1, .ref a2, .ref a3, .ref a4]))]) [0, 1] rfl
  have hDc := hD.sub (ws' := [(h0, .inr (10, [.ref tp, .ref rd, .ref tb, .ref rg, .ref bl, .ref pa, .ref fm, .ref te, .ref hi, .ref fr, .int fd, .int rf, .int lf, .int fp])), (tb, .inr (8, [.int 0, .int lk, .int ct, .int vr, .ref a1, .ref a2, .ref a3, .ref a4]))]) [0, 1] (by decide) rfl
  have hKc := hK.sub (tys' := []) [] rfl
  have hFc := va_free (wc := [(h0, .inr (10, [.ref tp, .ref rd, .ref tb, .ref rg, .ref bl, .ref pa, .ref fm, .ref te, .ref hi, .ref fr, .int fd, .int rf, .int lf, .int fp])), (tb, .inr (8, [.int 0, .int lk, .int ct, .int vr, .ref a1, .ref a2, .ref a3, .ref a4]))]) hD hS hA [0, 1] rfl
  refine va_calli (va_runV (As := []) (rest := []) ⟨hx, hb, hml, hown, hts⟩ (c_noBook l dC dI s.heap.size h0 tp rd tb rg bl pa fm te hi fr fd rf lf fp lk ct vr a1 a2 a3 a4) (cwV 0 hts gX10_mark_X10_noBook rfl rfl rfl (by decide +kernel) ⟨Nat.le_of_ble_eq_true rfl, Nat.le_of_ble_eq_true rfl⟩) ⟨fun a U g mk q => by obtain ⟨q0, q1, qP, qK, qD⟩ := q; exact ⟨q0, q1, qP, va_K.moved (u := U) (U := U.calling g mk a) (Vm.Alike.refl U.vm) qK, qD⟩, va_recv hKc hPc (ci := 10) (q0 := 0) rfl rfl, fun U hU hW => ⟨rfl, by rw [hU], by rw [hU]; exact hPc, va_K.moved hW.alike hKc, hDc.weaken (fun _ _ _ _ => trivial)⟩⟩ rfl rfl hl.1 rfl (lv_room (Nat.le_of_ble_eq_true rfl)) dX10_mark_1 ⟨Nat.le_of_ble_eq_true rfl, Nat.le_of_ble_eq_true rfl⟩) hS (fun q _ h => hFc q h) hFc (fun r_1 u t H1 locs ht hvm hw hB hz1 hk1 hS => ?_)
  obtain ⟨hP1, hK1, hD1⟩ := hB
  rw [ht] at hP1
  have hK1 := va_K.moved hvm.symm hK1
  try dsimp only at hw
  obtain ⟨hP, hD⟩ := va_join (wr := []) (w1 := [(h0, .inr (10, [.ref tp, .ref rd, .ref tb, .ref rg, .ref bl, .ref pa, .ref fm, .ref te, .ref hi, .ref fr, .int fd, .int rf, .int lf, .int fp])), (tb, .inr (8, [.int 0, .int lk, .int ct, .int vr, .ref a1, .ref a2, .ref a3, .ref a4]))]) hP hD [0, 1] [] rfl rfl (by decide) (by decide) hk1 hFc hP1 hD1
  have hK := (hK.sub (tys' := []) [] rfl).app hK1
  generalize H1 = H at hP hS ⊢
  have hP : va_P (dC, dI) vwCl [(h0, .inr (10, [.ref tp, .ref rd, .ref tb, .ref rg, .ref bl, .ref pa, .ref fm, .ref te, .ref hi, .ref fr, .int fd, .int rf, .int lf, .int fp])), (tb, .inr (8, [.int 0, .int lk, .int ct, .int vr, .ref a1, .ref a2, .ref a3, .ref a4]))] H := hP
  have hD : va_D A [(h0, .inr (10, [.ref tp, .ref rd, .ref tb, .ref rg, .ref bl, .ref pa, .ref fm, .ref te, .ref hi, .ref fr, .int fd, .int rf, .int lf, .int fp])), (tb, .inr (8, [.int 0, .int lk, .int ct, .int vr, .ref a1, .ref a2, .ref a3, .ref a4]))] := hD
  have hK : va_K (dC, dI) vwCl [] s := hK
  refine W.widen (k := 0) (n := 0) (by omega) (by omega) ?_
  have er_1 : r_1 = 1 := hw
  subst er_1
  refine lv_if_eq (tgt := 13) hx hb dX10_mark_4 (by decide) (fun c_2 => absurd c_2 (by decide)) (fun c_2 => ?_)
  refine lv_aload_n hx hb dX10_mark_7 rfl (lv_at hl 0 rfl) ?_
  refine lv_iconst (v := 1) hx hb dX10_mark_8 (by decide) ?_
  have hPc := hP.sub (ws' := [(h0, .inr (10, [.ref tp, .ref rd, .ref tb, .ref rg, .ref bl, .ref pa, .ref fm, .ref te, .ref hi, .ref fr, .int fd, .int rf, .int lf, .int fp]))]) [0] rfl
  have hDc := hD.sub (ws' := [(h0, .inr (10, [.ref tp, .ref rd, .ref tb, .ref rg, .ref bl, .ref pa, .ref fm, .ref te, .ref hi, .ref fr, .int fd, .int rf, .int lf, .int fp]))]) [0] (by decide) rfl
  have hKc := hK.sub (tys' := []) [] rfl
  have hFc := va_free (wc := [(h0, .inr (10, [.ref tp, .ref rd, .ref tb, .ref rg, .ref bl, .ref pa, .ref fm, .ref te, .ref hi, .ref fr, .int fd, .int rf, .int lf, .int fp]))]) hD hS hA [0] rfl
  refine va_calli (va_runV (As := [.int 1]) (rest := []) ⟨hx, hb, hml, hown, hts⟩ (c_refused l dC dI H.size h0 tp rd tb rg bl pa fm te hi fr fd rf lf fp 1) (cwV 1 hts gX10_mark_X10_refused rfl rfl rfl (by decide +kernel) ⟨Nat.le_of_ble_eq_true rfl, Nat.le_of_ble_eq_true rfl⟩) ⟨fun a U g mk q => by obtain ⟨q0, q1, qP, qK, qD⟩ := q; exact ⟨q0, q1, qP, va_K.moved (u := U) (U := U.calling g mk a) (Vm.Alike.refl U.vm) qK, qD⟩, va_recv hKc hPc (ci := 10) (q0 := 0) rfl rfl, fun U hU hW => ⟨rfl, by rw [hU], by rw [hU]; exact hPc, va_K.moved hW.alike hKc, hDc.weaken (fun _ _ _ _ => trivial)⟩⟩ rfl rfl hl.1 rfl (lv_room (Nat.le_of_ble_eq_true rfl)) dX10_mark_9 ⟨Nat.le_of_ble_eq_true rfl, Nat.le_of_ble_eq_true rfl⟩) hS (fun q _ h => hFc q h) hFc (fun r_3 u t H1 locs ht hvm hw hB hz1 hk1 hS => ?_)
  obtain ⟨hP1, hK1, hD1⟩ := hB
  rw [ht] at hP1
  have hK1 := va_K.moved hvm.symm hK1
  try dsimp only at hw
  obtain ⟨hP, hD⟩ := va_join (wr := [(tb, .inr (8, [.int 0, .int lk, .int ct, .int vr, .ref a1, .ref a2, .ref a3, .ref a4]))]) (w1 := [(h0, .inr (10, [.ref tp, .ref rd, .ref tb, .ref rg, .ref bl, .ref pa, .ref fm, .ref te, .ref hi, .ref fr, .int fd, .int 1, .int lf, .int fp]))]) hP hD [0] [1] rfl rfl (by decide) (by decide) hk1 hFc hP1 hD1
  have hK := (hK.sub (tys' := []) [] rfl).app hK1
  generalize H1 = H at hP hS ⊢
  have hP : va_P (dC, dI) vwCl [(tb, .inr (8, [.int 0, .int lk, .int ct, .int vr, .ref a1, .ref a2, .ref a3, .ref a4])), (h0, .inr (10, [.ref tp, .ref rd, .ref tb, .ref rg, .ref bl, .ref pa, .ref fm, .ref te, .ref hi, .ref fr, .int fd, .int 1, .int lf, .int fp]))] H := hP
  have hD : va_D A [(tb, .inr (8, [.int 0, .int lk, .int ct, .int vr, .ref a1, .ref a2, .ref a3, .ref a4])), (h0, .inr (10, [.ref tp, .ref rd, .ref tb, .ref rg, .ref bl, .ref pa, .ref fm, .ref te, .ref hi, .ref fr, .int fd, .int 1, .int lf, .int fp]))] := hD
  have hK : va_K (dC, dI) vwCl [] s := hK
  refine W.widen (k := 0) (n := 0) (by omega) (by omega) ?_
  have er_3 : r_3 = (-1) := hw
  subst er_3
  have hP9 := hP.sub (ws' := [(h0, .inr (10, [.ref tp, .ref rd, .ref tb, .ref rg, .ref bl, .ref pa, .ref fm, .ref te, .ref hi, .ref fr, .int fd, .int 1, .int lf, .int fp])), (tb, .inr (8, [.int 0, .int lk, .int ct, .int vr, .ref a1, .ref a2, .ref a3, .ref a4]))]) [1, 0] rfl
  have hD9 := hD.sub (ws' := [(h0, .inr (10, [.ref tp, .ref rd, .ref tb, .ref rg, .ref bl, .ref pa, .ref fm, .ref te, .ref hi, .ref fr, .int fd, .int 1, .int lf, .int fp])), (tb, .inr (8, [.int 0, .int lk, .int ct, .int vr, .ref a1, .ref a2, .ref a3, .ref a4]))]) [1, 0] (by decide) rfl
  have hK9 := hK.sub (tys' := []) [] rfl
  refine W.widen (k := 0) (n := 0) (Nat.le_of_ble_eq_true rfl) (Nat.le_of_ble_eq_true rfl) ?_
  exact W.iret (v := (-1)) hx hb hr (fun t ht hW => ⟨⟨(-1), (), rfl, rfl, by rw [ht]; exact hP9, va_K.moved hW.alike hK9, hD9⟩, hS.F ht⟩) hS.2.2 dX10_mark_12

set_option maxRecDepth 20000 in
theorem iw_X10_excess_X10_c_excess_0 : ∀ w ∈ wsX100, w ∈ wsX10_excess := by decide +kernel
set_option maxHeartbeats 4000000 in
set_option maxRecDepth 100000 in
/-- excess without a BOOK -/
theorem c_excess_0 (l : Launch) (dC : Nat → ClassId) (dI : Nat → Nat → Nat) (sz : Nat) (h0 : Nat) (tp : Nat) (rd : Nat) (tb : Nat) (rg : Nat) (bl : Nat) (pa : Nat) (fm : Nat) (te : Nat) (hi : Nat) (fr : Nat) (fd : Int32) (rf : Int32) (lf : Int32) (fp : Int32) (lk : Int32) (ct : Int32) (vr : Int32) (a1 : Nat) (a2 : Nat) (a3 : Nat) (a4 : Nat) (p0 : Int32)  : Met l yX10_excess wsX10_excess ({ frames := 1, cells := 0, slots := 0, locals := 20 }) (va_Pc [.ref h0, .int p0] (fun U => U.heap.size = sz ∧ va_P (dC, dI) vwCl [(h0, .inr (10, [.ref tp, .ref rd, .ref tb, .ref rg, .ref bl, .ref pa, .ref fm, .ref te, .ref hi, .ref fr, .int fd, .int rf, .int lf, .int fp])), (tb, .inr (8, [.int 0, .int lk, .int ct, .int vr, .ref a1, .ref a2, .ref a3, .ref a4]))] U.heap ∧ va_K (dC, dI) vwCl [] U ∧ va_D (fun _ => True) [(h0, .inr (10, [.ref tp, .ref rd, .ref tb, .ref rg, .ref bl, .ref pa, .ref fm, .ref te, .ref hi, .ref fr, .int fd, .int rf, .int lf, .int fp])), (tb, .inr (8, [.int 0, .int lk, .int ct, .int vr, .ref a1, .ref a2, .ref a3, .ref a4]))])) (va_Qi (fun (r : Int32) (_ : Unit) => r = (-1000)) (fun _ t => va_P (dC, dI) vwCl [(h0, .inr (10, [.ref tp, .ref rd, .ref tb, .ref rg, .ref bl, .ref pa, .ref fm, .ref te, .ref hi, .ref fr, .int fd, .int 1, .int lf, .int fp])), (tb, .inr (8, [.int 0, .int lk, .int ct, .int vr, .ref a1, .ref a2, .ref a3, .ref a4]))] t.heap ∧ va_K (dC, dI) vwCl [] t ∧ va_D (va_A [(h0, .inr (10, [.ref tp, .ref rd, .ref tb, .ref rg, .ref bl, .ref pa, .ref fm, .ref te, .ref hi, .ref fr, .int fd, .int rf, .int lf, .int fp])), (tb, .inr (8, [.int 0, .int lk, .int ct, .int vr, .ref a1, .ref a2, .ref a3, .ref a4]))] sz) [(h0, .inr (10, [.ref tp, .ref rd, .ref tb, .ref rg, .ref bl, .ref pa, .ref fm, .ref te, .ref hi, .ref fr, .int fd, .int 1, .int lf, .int fp])), (tb, .inr (8, [.int 0, .int lk, .int ct, .int vr, .ref a1, .ref a2, .ref a3, .ref a4]))]) (va_A [(h0, .inr (10, [.ref tp, .ref rd, .ref tb, .ref rg, .ref bl, .ref pa, .ref fm, .ref te, .ref hi, .ref fr, .int fd, .int rf, .int lf, .int fp])), (tb, .inr (8, [.int 0, .int lk, .int ct, .int vr, .ref a1, .ref a2, .ref a3, .ref a4]))] sz)) 0 0 (va_A [(h0, .inr (10, [.ref tp, .ref rd, .ref tb, .ref rg, .ref bl, .ref pa, .ref fm, .ref te, .ref hi, .ref fr, .int fd, .int rf, .int lf, .int fp])), (tb, .inr (8, [.int 0, .int lk, .int ct, .int vr, .ref a1, .ref a2, .ref a3, .ref a4]))] sz) := by
  refine Met.ofW (cc := cX10_excess) (maxL := 2) (ret := (some .int)) (by decide) rfl ?_
  intro p e s m args below meth c s₁ B hml hv
  obtain ⟨rfl, hsz, hP, hK, hD0⟩ := hv
  have hx := B.exec
  have hb := B.bytes
  have hr := B.returns
  have hts := atoms_spec (ws := wsX10_excess) B.pre
  have hown : s.vm.findClass RX10 = some m.cls := findClass_of_methodNamed B.named
  have hlocks := B.notSynchronized
  subst hsz
  have hD := hD0.self (sz := s.heap.size)
  generalize hAe : va_A [(h0, .inr (10, [.ref tp, .ref rd, .ref tb, .ref rg, .ref bl, .ref pa, .ref fm, .ref te, .ref hi, .ref fr, .int fd, .int rf, .int lf, .int fp])), (tb, .inr (8, [.int 0, .int lk, .int ct, .int vr, .ref a1, .ref a2, .ref a3, .ref a4]))] s.heap.size = A at hD ⊢
  have hA : ∀ q : Nat, s.heap.size ≤ q → A q := fun q h => by rw [← hAe]; exact Or.inr h
  have hS : va_S A s.heap s.heap [] := va_S.rf
  have hP : va_P (dC, dI) vwCl [(h0, .inr (10, [.ref tp, .ref rd, .ref tb, .ref rg, .ref bl, .ref pa, .ref fm, .ref te, .ref hi, .ref fr, .int fd, .int rf, .int lf, .int fp])), (tb, .inr (8, [.int 0, .int lk, .int ct, .int vr, .ref a1, .ref a2, .ref a3, .ref a4]))] s.heap := hP
  have hl := lv_entry ([.ref h0, .int p0]) (n := 2) (Nat.le_of_ble_eq_true rfl)
  rw [lg_entry_eq]
  generalize (lg_sl ([.ref h0, .int p0]) ++ List.replicate (2 - (lg_sl ([.ref h0, .int p0])).length) Slot.unset).toArray = ls at hl ⊢
  have hl : lv_has ls 2 [(0, .ref h0), (1, .int p0)] := hl
  refine lv_aload_n hx hb dX10_excess_0 rfl (lv_at hl 0 rfl) ?_
  have hPc := hP.sub (ws' := [(h0, .inr (10, [.ref tp, .ref rd, .ref tb, .ref rg, .ref bl, .ref pa, .ref fm, .ref te, .ref hi, .ref fr, .int fd, .int rf, .int lf, .int fp])), (tb, .inr (8, [.int 0, .int lk, .int ct, .int vr, .ref a1, .ref a2, .ref a3, .ref a4]))]) [0, 1] rfl
  have hDc := hD.sub (ws' := [(h0, .inr (10, [.ref tp, .ref rd, .ref tb, .ref rg, .ref bl, .ref pa, .ref fm, .ref te, .ref hi, .ref fr, .int fd, .int rf, .int lf, .int fp])), (tb, .inr (8, [.int 0, .int lk, .int ct, .int vr, .ref a1, .ref a2, .ref a3, .ref a4]))]) [0, 1] (by decide) rfl
  have hKc := hK.sub (tys' := []) [] rfl
  have hFc := va_free (wc := [(h0, .inr (10, [.ref tp, .ref rd, .ref tb, .ref rg, .ref bl, .ref pa, .ref fm, .ref te, .ref hi, .ref fr, .int fd, .int rf, .int lf, .int fp])), (tb, .inr (8, [.int 0, .int lk, .int ct, .int vr, .ref a1, .ref a2, .ref a3, .ref a4]))]) hD hS hA [0, 1] rfl
  refine va_calli (va_runV (As := []) (rest := []) ⟨hx, hb, hml, hown, hts⟩ (c_noBook l dC dI s.heap.size h0 tp rd tb rg bl pa fm te hi fr fd rf lf fp lk ct vr a1 a2 a3 a4) (cwV 0 hts gX10_excess_X10_noBook rfl rfl rfl (by decide +kernel) ⟨Nat.le_of_ble_eq_true rfl, Nat.le_of_ble_eq_true rfl⟩) ⟨fun a U g mk q => by obtain ⟨q0, q1, qP, qK, qD⟩ := q; exact ⟨q0, q1, qP, va_K.moved (u := U) (U := U.calling g mk a) (Vm.Alike.refl U.vm) qK, qD⟩, va_recv hKc hPc (ci := 10) (q0 := 0) rfl rfl, fun U hU hW => ⟨rfl, by rw [hU], by rw [hU]; exact hPc, va_K.moved hW.alike hKc, hDc.weaken (fun _ _ _ _ => trivial)⟩⟩ rfl rfl hl.1 rfl (lv_room (Nat.le_of_ble_eq_true rfl)) dX10_excess_1 ⟨Nat.le_of_ble_eq_true rfl, Nat.le_of_ble_eq_true rfl⟩) hS (fun q _ h => hFc q h) hFc (fun r_1 u t H1 locs ht hvm hw hB hz1 hk1 hS => ?_)
  obtain ⟨hP1, hK1, hD1⟩ := hB
  rw [ht] at hP1
  have hK1 := va_K.moved hvm.symm hK1
  try dsimp only at hw
  obtain ⟨hP, hD⟩ := va_join (wr := []) (w1 := [(h0, .inr (10, [.ref tp, .ref rd, .ref tb, .ref rg, .ref bl, .ref pa, .ref fm, .ref te, .ref hi, .ref fr, .int fd, .int rf, .int lf, .int fp])), (tb, .inr (8, [.int 0, .int lk, .int ct, .int vr, .ref a1, .ref a2, .ref a3, .ref a4]))]) hP hD [0, 1] [] rfl rfl (by decide) (by decide) hk1 hFc hP1 hD1
  have hK := (hK.sub (tys' := []) [] rfl).app hK1
  generalize H1 = H at hP hS ⊢
  have hP : va_P (dC, dI) vwCl [(h0, .inr (10, [.ref tp, .ref rd, .ref tb, .ref rg, .ref bl, .ref pa, .ref fm, .ref te, .ref hi, .ref fr, .int fd, .int rf, .int lf, .int fp])), (tb, .inr (8, [.int 0, .int lk, .int ct, .int vr, .ref a1, .ref a2, .ref a3, .ref a4]))] H := hP
  have hD : va_D A [(h0, .inr (10, [.ref tp, .ref rd, .ref tb, .ref rg, .ref bl, .ref pa, .ref fm, .ref te, .ref hi, .ref fr, .int fd, .int rf, .int lf, .int fp])), (tb, .inr (8, [.int 0, .int lk, .int ct, .int vr, .ref a1, .ref a2, .ref a3, .ref a4]))] := hD
  have hK : va_K (dC, dI) vwCl [] s := hK
  refine W.widen (k := 0) (n := 0) (by omega) (by omega) ?_
  have er_1 : r_1 = 1 := hw
  subst er_1
  refine lv_if_eq (tgt := 16) hx hb dX10_excess_4 (by decide) (fun c_2 => absurd c_2 (by decide)) (fun c_2 => ?_)
  refine lv_aload_n hx hb dX10_excess_7 rfl (lv_at hl 0 rfl) ?_
  refine lv_iconst (v := 1) hx hb dX10_excess_8 (by decide) ?_
  refine va_put (D := (dC, dI)) (ci := 10) (v := .int 1) (ty := .int) (C := RX10) (T := TX10) (N := 14) hx hb hts iw_X10_excess_X10_c_excess_0 tyX10 tyX10_ok nmX10 hown hK hP hD hS 0 rfl rfl 11 (by decide) (hts (.fieldLink RX10 128 "NotAtOnce" "refusal" "I") (by decide +kernel)) (fun _ h9 => h9) rfl (by decide +kernel) rfl rfl (Nat.le_of_ble_eq_true rfl) dX10_excess_9 (fun H locs hP hD hS => ?_)
  have hP : va_P (dC, dI) vwCl [(h0, .inr (10, [.ref tp, .ref rd, .ref tb, .ref rg, .ref bl, .ref pa, .ref fm, .ref te, .ref hi, .ref fr, .int fd, .int 1, .int lf, .int fp])), (tb, .inr (8, [.int 0, .int lk, .int ct, .int vr, .ref a1, .ref a2, .ref a3, .ref a4]))] H := hP
  have hD : va_D A [(h0, .inr (10, [.ref tp, .ref rd, .ref tb, .ref rg, .ref bl, .ref pa, .ref fm, .ref te, .ref hi, .ref fr, .int fd, .int 1, .int lf, .int fp])), (tb, .inr (8, [.int 0, .int lk, .int ct, .int vr, .ref a1, .ref a2, .ref a3, .ref a4]))] := hD
  refine lv_sipush (v := (-1000)) hx hb dX10_excess_12 (by decide) ?_
  have hP9 := hP.sub (ws' := [(h0, .inr (10, [.ref tp, .ref rd, .ref tb, .ref rg, .ref bl, .ref pa, .ref fm, .ref te, .ref hi, .ref fr, .int fd, .int 1, .int lf, .int fp])), (tb, .inr (8, [.int 0, .int lk, .int ct, .int vr, .ref a1, .ref a2, .ref a3, .ref a4]))]) [0, 1] rfl
  have hD9 := hD.sub (ws' := [(h0, .inr (10, [.ref tp, .ref rd, .ref tb, .ref rg, .ref bl, .ref pa, .ref fm, .ref te, .ref hi, .ref fr, .int fd, .int 1, .int lf, .int fp])), (tb, .inr (8, [.int 0, .int lk, .int ct, .int vr, .ref a1, .ref a2, .ref a3, .ref a4]))]) [0, 1] (by decide) rfl
  have hK9 := hK.sub (tys' := []) [] rfl
  refine W.widen (k := 0) (n := 0) (Nat.le_of_ble_eq_true rfl) (Nat.le_of_ble_eq_true rfl) ?_
  exact W.iret (v := (-1000)) hx hb hr (fun t ht hW => ⟨⟨(-1000), (), rfl, rfl, by rw [ht]; exact hP9, va_K.moved hW.alike hK9, hD9⟩, hS.F ht⟩) hS.2.2 dX10_excess_15

set_option maxRecDepth 20000 in
theorem iw_X10_fault_X10_c_fault : ∀ w ∈ wsX100, w ∈ wsX10_fault := by decide +kernel
set_option maxHeartbeats 4000000 in
set_option maxRecDepth 100000 in
/-- fault() -/
theorem c_fault (l : Launch) (dC : Nat → ClassId) (dI : Nat → Nat → Nat) (sz : Nat) (h0 : Nat) (tp : Nat) (rd : Nat) (tb : Nat) (rg : Nat) (bl : Nat) (pa : Nat) (fm : Nat) (te : Nat) (hi : Nat) (fr : Nat) (fd : Int32) (rf : Int32) (lf : Int32) (fp : Int32)  : Met l yX10_fault wsX10_fault ({ frames := 0, cells := 0, slots := 0, locals := 0 }) (va_Pc [.ref h0] (fun U => U.heap.size = sz ∧ va_P (dC, dI) vwCl [(h0, .inr (10, [.ref tp, .ref rd, .ref tb, .ref rg, .ref bl, .ref pa, .ref fm, .ref te, .ref hi, .ref fr, .int fd, .int rf, .int lf, .int fp]))] U.heap ∧ va_K (dC, dI) vwCl [] U ∧ va_D (fun _ => True) [(h0, .inr (10, [.ref tp, .ref rd, .ref tb, .ref rg, .ref bl, .ref pa, .ref fm, .ref te, .ref hi, .ref fr, .int fd, .int rf, .int lf, .int fp]))])) (va_Qi (fun (r : Int32) (_ : Unit) => r = lf) (fun _ t => va_P (dC, dI) vwCl [(h0, .inr (10, [.ref tp, .ref rd, .ref tb, .ref rg, .ref bl, .ref pa, .ref fm, .ref te, .ref hi, .ref fr, .int fd, .int rf, .int lf, .int fp]))] t.heap ∧ va_K (dC, dI) vwCl [] t ∧ va_D (va_A [(h0, .inr (10, [.ref tp, .ref rd, .ref tb, .ref rg, .ref bl, .ref pa, .ref fm, .ref te, .ref hi, .ref fr, .int fd, .int rf, .int lf, .int fp]))] sz) [(h0, .inr (10, [.ref tp, .ref rd, .ref tb, .ref rg, .ref bl, .ref pa, .ref fm, .ref te, .ref hi, .ref fr, .int fd, .int rf, .int lf, .int fp]))]) (va_A [(h0, .inr (10, [.ref tp, .ref rd, .ref tb, .ref rg, .ref bl, .ref pa, .ref fm, .ref te, .ref hi, .ref fr, .int fd, .int rf, .int lf, .int fp]))] sz)) 0 0 (va_A [(h0, .inr (10, [.ref tp, .ref rd, .ref tb, .ref rg, .ref bl, .ref pa, .ref fm, .ref te, .ref hi, .ref fr, .int fd, .int rf, .int lf, .int fp]))] sz) := by
  refine Met.ofW (cc := cX10_fault) (maxL := 1) (ret := (some .int)) (by decide) rfl ?_
  intro p e s m args below meth c s₁ B hml hv
  obtain ⟨rfl, hsz, hP, hK, hD0⟩ := hv
  have hx := B.exec
  have hb := B.bytes
  have hr := B.returns
  have hts := atoms_spec (ws := wsX10_fault) B.pre
  have hown : s.vm.findClass RX10 = some m.cls := findClass_of_methodNamed B.named
  have hlocks := B.notSynchronized
  subst hsz
  have hD := hD0.self (sz := s.heap.size)
  generalize hAe : va_A [(h0, .inr (10, [.ref tp, .ref rd, .ref tb, .ref rg, .ref bl, .ref pa, .ref fm, .ref te, .ref hi, .ref fr, .int fd, .int rf, .int lf, .int fp]))] s.heap.size = A at hD ⊢
  have hA : ∀ q : Nat, s.heap.size ≤ q → A q := fun q h => by rw [← hAe]; exact Or.inr h
  have hS : va_S A s.heap s.heap [] := va_S.rf
  have hP : va_P (dC, dI) vwCl [(h0, .inr (10, [.ref tp, .ref rd, .ref tb, .ref rg, .ref bl, .ref pa, .ref fm, .ref te, .ref hi, .ref fr, .int fd, .int rf, .int lf, .int fp]))] s.heap := hP
  have hl := lv_entry ([.ref h0]) (n := 1) (Nat.le_of_ble_eq_true rfl)
  rw [lg_entry_eq]
  generalize (lg_sl ([.ref h0]) ++ List.replicate (1 - (lg_sl ([.ref h0])).length) Slot.unset).toArray = ls at hl ⊢
  have hl : lv_has ls 1 [(0, .ref h0)] := hl
  refine lv_aload_n hx hb dX10_fault_0 rfl (lv_at hl 0 rfl) ?_
  refine va_get (D := (dC, dI)) (ci := 10) (v := .int lf) (C := RX10) (T := TX10) (N := 14) hx hb hts iw_X10_fault_X10_c_fault hown hK hP 0 rfl rfl 12 (by decide) (hts (.fieldLink RX10 100 "NotAtOnce" "lastFault" "I") (by decide +kernel)) (fun _ h9 => h9) rfl dX10_fault_1 ?_
  have hP9 := hP.sub (ws' := [(h0, .inr (10, [.ref tp, .ref rd, .ref tb, .ref rg, .ref bl, .ref pa, .ref fm, .ref te, .ref hi, .ref fr, .int fd, .int rf, .int lf, .int fp]))]) [0] rfl
  have hD9 := hD.sub (ws' := [(h0, .inr (10, [.ref tp, .ref rd, .ref tb, .ref rg, .ref bl, .ref pa, .ref fm, .ref te, .ref hi, .ref fr, .int fd, .int rf, .int lf, .int fp]))]) [0] (by decide) rfl
  have hK9 := hK.sub (tys' := []) [] rfl
  refine W.widen (k := 0) (n := 0) (Nat.le_of_ble_eq_true rfl) (Nat.le_of_ble_eq_true rfl) ?_
  exact W.iret (v := lf) hx hb hr (fun t ht hW => ⟨⟨lf, (), rfl, rfl, by rw [ht]; exact hP9, va_K.moved hW.alike hK9, hD9⟩, hS.F ht⟩) hS.2.2 dX10_fault_4

set_option maxRecDepth 20000 in
theorem iw_X10_trouble_X10_c_trouble : ∀ w ∈ wsX100, w ∈ wsX10_trouble := by decide +kernel
set_option maxHeartbeats 4000000 in
set_option maxRecDepth 100000 in
/-- trouble() -/
theorem c_trouble (l : Launch) (dC : Nat → ClassId) (dI : Nat → Nat → Nat) (sz : Nat) (h0 : Nat) (tp : Nat) (rd : Nat) (tb : Nat) (rg : Nat) (bl : Nat) (pa : Nat) (fm : Nat) (te : Nat) (hi : Nat) (fr : Nat) (fd : Int32) (rf : Int32) (lf : Int32) (fp : Int32)  : Met l yX10_trouble wsX10_trouble ({ frames := 0, cells := 0, slots := 0, locals := 0 }) (va_Pc [.ref h0] (fun U => U.heap.size = sz ∧ va_P (dC, dI) vwCl [(h0, .inr (10, [.ref tp, .ref rd, .ref tb, .ref rg, .ref bl, .ref pa, .ref fm, .ref te, .ref hi, .ref fr, .int fd, .int rf, .int lf, .int fp]))] U.heap ∧ va_K (dC, dI) vwCl [] U ∧ va_D (fun _ => True) [(h0, .inr (10, [.ref tp, .ref rd, .ref tb, .ref rg, .ref bl, .ref pa, .ref fm, .ref te, .ref hi, .ref fr, .int fd, .int rf, .int lf, .int fp]))])) (va_Qi (fun (r : Int32) (_ : Unit) => r = rf) (fun _ t => va_P (dC, dI) vwCl [(h0, .inr (10, [.ref tp, .ref rd, .ref tb, .ref rg, .ref bl, .ref pa, .ref fm, .ref te, .ref hi, .ref fr, .int fd, .int rf, .int lf, .int fp]))] t.heap ∧ va_K (dC, dI) vwCl [] t ∧ va_D (va_A [(h0, .inr (10, [.ref tp, .ref rd, .ref tb, .ref rg, .ref bl, .ref pa, .ref fm, .ref te, .ref hi, .ref fr, .int fd, .int rf, .int lf, .int fp]))] sz) [(h0, .inr (10, [.ref tp, .ref rd, .ref tb, .ref rg, .ref bl, .ref pa, .ref fm, .ref te, .ref hi, .ref fr, .int fd, .int rf, .int lf, .int fp]))]) (va_A [(h0, .inr (10, [.ref tp, .ref rd, .ref tb, .ref rg, .ref bl, .ref pa, .ref fm, .ref te, .ref hi, .ref fr, .int fd, .int rf, .int lf, .int fp]))] sz)) 0 0 (va_A [(h0, .inr (10, [.ref tp, .ref rd, .ref tb, .ref rg, .ref bl, .ref pa, .ref fm, .ref te, .ref hi, .ref fr, .int fd, .int rf, .int lf, .int fp]))] sz) := by
  refine Met.ofW (cc := cX10_trouble) (maxL := 1) (ret := (some .int)) (by decide) rfl ?_
  intro p e s m args below meth c s₁ B hml hv
  obtain ⟨rfl, hsz, hP, hK, hD0⟩ := hv
  have hx := B.exec
  have hb := B.bytes
  have hr := B.returns
  have hts := atoms_spec (ws := wsX10_trouble) B.pre
  have hown : s.vm.findClass RX10 = some m.cls := findClass_of_methodNamed B.named
  have hlocks := B.notSynchronized
  subst hsz
  have hD := hD0.self (sz := s.heap.size)
  generalize hAe : va_A [(h0, .inr (10, [.ref tp, .ref rd, .ref tb, .ref rg, .ref bl, .ref pa, .ref fm, .ref te, .ref hi, .ref fr, .int fd, .int rf, .int lf, .int fp]))] s.heap.size = A at hD ⊢
  have hA : ∀ q : Nat, s.heap.size ≤ q → A q := fun q h => by rw [← hAe]; exact Or.inr h
  have hS : va_S A s.heap s.heap [] := va_S.rf
  have hP : va_P (dC, dI) vwCl [(h0, .inr (10, [.ref tp, .ref rd, .ref tb, .ref rg, .ref bl, .ref pa, .ref fm, .ref te, .ref hi, .ref fr, .int fd, .int rf, .int lf, .int fp]))] s.heap := hP
  have hl := lv_entry ([.ref h0]) (n := 1) (Nat.le_of_ble_eq_true rfl)
  rw [lg_entry_eq]
  generalize (lg_sl ([.ref h0]) ++ List.replicate (1 - (lg_sl ([.ref h0])).length) Slot.unset).toArray = ls at hl ⊢
  have hl : lv_has ls 1 [(0, .ref h0)] := hl
  refine lv_aload_n hx hb dX10_trouble_0 rfl (lv_at hl 0 rfl) ?_
  refine va_get (D := (dC, dI)) (ci := 10) (v := .int rf) (C := RX10) (T := TX10) (N := 14) hx hb hts iw_X10_trouble_X10_c_trouble hown hK hP 0 rfl rfl 11 (by decide) (hts (.fieldLink RX10 128 "NotAtOnce" "refusal" "I") (by decide +kernel)) (fun _ h9 => h9) rfl dX10_trouble_1 ?_
  have hP9 := hP.sub (ws' := [(h0, .inr (10, [.ref tp, .ref rd, .ref tb, .ref rg, .ref bl, .ref pa, .ref fm, .ref te, .ref hi, .ref fr, .int fd, .int rf, .int lf, .int fp]))]) [0] rfl
  have hD9 := hD.sub (ws' := [(h0, .inr (10, [.ref tp, .ref rd, .ref tb, .ref rg, .ref bl, .ref pa, .ref fm, .ref te, .ref hi, .ref fr, .int fd, .int rf, .int lf, .int fp]))]) [0] (by decide) rfl
  have hK9 := hK.sub (tys' := []) [] rfl
  refine W.widen (k := 0) (n := 0) (Nat.le_of_ble_eq_true rfl) (Nat.le_of_ble_eq_true rfl) ?_
  exact W.iret (v := rf) hx hb hr (fun t ht hW => ⟨⟨rf, (), rfl, rfl, by rw [ht]; exact hP9, va_K.moved hW.alike hK9, hD9⟩, hS.F ht⟩) hS.2.2 dX10_trouble_4

set_option maxRecDepth 20000 in
theorem iw_X10_where_X10_c_where : ∀ w ∈ wsX100, w ∈ wsX10_where := by decide +kernel
set_option maxHeartbeats 4000000 in
set_option maxRecDepth 100000 in
/-- where() -/
theorem c_where (l : Launch) (dC : Nat → ClassId) (dI : Nat → Nat → Nat) (sz : Nat) (h0 : Nat) (tp : Nat) (rd : Nat) (tb : Nat) (rg : Nat) (bl : Nat) (pa : Nat) (fm : Nat) (te : Nat) (hi : Nat) (fr : Nat) (fd : Int32) (rf : Int32) (lf : Int32) (fp : Int32)  : Met l yX10_where wsX10_where ({ frames := 0, cells := 0, slots := 0, locals := 0 }) (va_Pc [.ref h0] (fun U => U.heap.size = sz ∧ va_P (dC, dI) vwCl [(h0, .inr (10, [.ref tp, .ref rd, .ref tb, .ref rg, .ref bl, .ref pa, .ref fm, .ref te, .ref hi, .ref fr, .int fd, .int rf, .int lf, .int fp]))] U.heap ∧ va_K (dC, dI) vwCl [] U ∧ va_D (fun _ => True) [(h0, .inr (10, [.ref tp, .ref rd, .ref tb, .ref rg, .ref bl, .ref pa, .ref fm, .ref te, .ref hi, .ref fr, .int fd, .int rf, .int lf, .int fp]))])) (va_Qi (fun (r : Int32) (_ : Unit) => r = if rf = 4 then fp else (-1)) (fun _ t => va_P (dC, dI) vwCl [(h0, .inr (10, [.ref tp, .ref rd, .ref tb, .ref rg, .ref bl, .ref pa, .ref fm, .ref te, .ref hi, .ref fr, .int fd, .int rf, .int lf, .int fp]))] t.heap ∧ va_K (dC, dI) vwCl [] t ∧ va_D (va_A [(h0, .inr (10, [.ref tp, .ref rd, .ref tb, .ref rg, .ref bl, .ref pa, .ref fm, .ref te, .ref hi, .ref fr, .int fd, .int rf, .int lf, .int fp]))] sz) [(h0, .inr (10, [.ref tp, .ref rd, .ref tb, .ref rg, .ref bl, .ref pa, .ref fm, .ref te, .ref hi, .ref fr, .int fd, .int rf, .int lf, .int fp]))]) (va_A [(h0, .inr (10, [.ref tp, .ref rd, .ref tb, .ref rg, .ref bl, .ref pa, .ref fm, .ref te, .ref hi, .ref fr, .int fd, .int rf, .int lf, .int fp]))] sz)) 0 0 (va_A [(h0, .inr (10, [.ref tp, .ref rd, .ref tb, .ref rg, .ref bl, .ref pa, .ref fm, .ref te, .ref hi, .ref fr, .int fd, .int rf, .int lf, .int fp]))] sz) := by
  refine Met.ofW (cc := cX10_where) (maxL := 1) (ret := (some .int)) (by decide) rfl ?_
  intro p e s m args below meth c s₁ B hml hv
  obtain ⟨rfl, hsz, hP, hK, hD0⟩ := hv
  have hx := B.exec
  have hb := B.bytes
  have hr := B.returns
  have hts := atoms_spec (ws := wsX10_where) B.pre
  have hown : s.vm.findClass RX10 = some m.cls := findClass_of_methodNamed B.named
  have hlocks := B.notSynchronized
  subst hsz
  have hD := hD0.self (sz := s.heap.size)
  generalize hAe : va_A [(h0, .inr (10, [.ref tp, .ref rd, .ref tb, .ref rg, .ref bl, .ref pa, .ref fm, .ref te, .ref hi, .ref fr, .int fd, .int rf, .int lf, .int fp]))] s.heap.size = A at hD ⊢
  have hA : ∀ q : Nat, s.heap.size ≤ q → A q := fun q h => by rw [← hAe]; exact Or.inr h
  have hS : va_S A s.heap s.heap [] := va_S.rf
  have hP : va_P (dC, dI) vwCl [(h0, .inr (10, [.ref tp, .ref rd, .ref tb, .ref rg, .ref bl, .ref pa, .ref fm, .ref te, .ref hi, .ref fr, .int fd, .int rf, .int lf, .int fp]))] s.heap := hP
  have hl := lv_entry ([.ref h0]) (n := 1) (Nat.le_of_ble_eq_true rfl)
  rw [lg_entry_eq]
  generalize (lg_sl ([.ref h0]) ++ List.replicate (1 - (lg_sl ([.ref h0])).length) Slot.unset).toArray = ls at hl ⊢
  have hl : lv_has ls 1 [(0, .ref h0)] := hl
  refine lv_aload_n hx hb dX10_where_0 rfl (lv_at hl 0 rfl) ?_
  refine va_get (D := (dC, dI)) (ci := 10) (v := .int rf) (C := RX10) (T := TX10) (N := 14) hx hb hts iw_X10_where_X10_c_where hown hK hP 0 rfl rfl 11 (by decide) (hts (.fieldLink RX10 128 "NotAtOnce" "refusal" "I") (by decide +kernel)) (fun _ h9 => h9) rfl dX10_where_1 ?_
  refine lv_iconst (v := 4) hx hb dX10_where_4 (by decide) ?_
  refine lv_icmp_ne (tgt := 15) hx hb dX10_where_5 (by decide) (fun c_1 => ?_) (fun c_1 => ?_)
  · refine lv_iconst (v := (-1)) hx hb dX10_where_15 (by decide) ?_
    have hP9 := hP.sub (ws' := [(h0, .inr (10, [.ref tp, .ref rd, .ref tb, .ref rg, .ref bl, .ref pa, .ref fm, .ref te, .ref hi, .ref fr, .int fd, .int rf, .int lf, .int fp]))]) [0] rfl
    have hD9 := hD.sub (ws' := [(h0, .inr (10, [.ref tp, .ref rd, .ref tb, .ref rg, .ref bl, .ref pa, .ref fm, .ref te, .ref hi, .ref fr, .int fd, .int rf, .int lf, .int fp]))]) [0] (by decide) rfl
    have hK9 := hK.sub (tys' := []) [] rfl
    refine W.widen (k := 0) (n := 0) (Nat.le_of_ble_eq_true rfl) (Nat.le_of_ble_eq_true rfl) ?_
    exact W.iret (v := (-1)) hx hb hr (fun t ht hW => ⟨⟨(-1), (), rfl, (if_neg c_1).symm, by rw [ht]; exact hP9, va_K.moved hW.alike hK9, hD9⟩, hS.F ht⟩) hS.2.2 dX10_where_16
  · refine lv_aload_n hx hb dX10_where_8 rfl (lv_at hl 0 rfl) ?_
    refine va_get (D := (dC, dI)) (ci := 10) (v := .int fp) (C := RX10) (T := TX10) (N := 14) hx hb hts iw_X10_where_X10_c_where hown hK hP 0 rfl rfl 13 (by decide) (hts (.fieldLink RX10 106 "NotAtOnce" "faultPlace" "I") (by decide +kernel)) (fun _ h9 => h9) rfl dX10_where_9 ?_
    refine lv_goto (tgt := 16) hx hb dX10_where_12 (by decide) ?_
    have hP9 := hP.sub (ws' := [(h0, .inr (10, [.ref tp, .ref rd, .ref tb, .ref rg, .ref bl, .ref pa, .ref fm, .ref te, .ref hi, .ref fr, .int fd, .int rf, .int lf, .int fp]))]) [0] rfl
    have hD9 := hD.sub (ws' := [(h0, .inr (10, [.ref tp, .ref rd, .ref tb, .ref rg, .ref bl, .ref pa, .ref fm, .ref te, .ref hi, .ref fr, .int fd, .int rf, .int lf, .int fp]))]) [0] (by decide) rfl
    have hK9 := hK.sub (tys' := []) [] rfl
    refine W.widen (k := 0) (n := 0) (Nat.le_of_ble_eq_true rfl) (Nat.le_of_ble_eq_true rfl) ?_
    exact W.iret (v := fp) hx hb hr (fun t ht hW => ⟨⟨fp, (), rfl, (if_pos c_1).symm, by rw [ht]; exact hP9, va_K.moved hW.alike hK9, hD9⟩, hS.F ht⟩) hS.2.2 dX10_where_16

set_option maxRecDepth 20000 in
theorem iw_X8_hasLook_X8_c_hasLook_0 : ∀ w ∈ wsX80, w ∈ wsX8_hasLook := by decide +kernel
set_option maxHeartbeats 4000000 in
set_option maxRecDepth 100000 in
/-- hasLook where there is no look -/
theorem c_hasLook_0 (l : Launch) (dC : Nat → ClassId) (dI : Nat → Nat → Nat) (sz : Nat) (tb : Nat) (lw : Int32) (ct : Int32) (vr : Int32) (a1 : Nat) (a2 : Nat) (a3 : Nat) (a4 : Nat) (p0 : Int32)  : Met l yX8_hasLook wsX8_hasLook ({ frames := 0, cells := 0, slots := 0, locals := 0 }) (va_Pc [.ref tb, .int p0] (fun U => U.heap.size = sz ∧ va_P (dC, dI) vwCl [(tb, .inr (8, [.int lw, .int 0, .int ct, .int vr, .ref a1, .ref a2, .ref a3, .ref a4]))] U.heap ∧ va_K (dC, dI) vwCl [] U ∧ va_D (fun _ => True) [(tb, .inr (8, [.int lw, .int 0, .int ct, .int vr, .ref a1, .ref a2, .ref a3, .ref a4]))])) (va_Qi (fun (r : Int32) (_ : Unit) => r = 0) (fun _ t => va_P (dC, dI) vwCl [(tb, .inr (8, [.int lw, .int 0, .int ct, .int vr, .ref a1, .ref a2, .ref a3, .ref a4]))] t.heap ∧ va_K (dC, dI) vwCl [] t ∧ va_D (va_A [(tb, .inr (8, [.int lw, .int 0, .int ct, .int vr, .ref a1, .ref a2, .ref a3, .ref a4]))] sz) [(tb, .inr (8, [.int lw, .int 0, .int ct, .int vr, .ref a1, .ref a2, .ref a3, .ref a4]))]) (va_A [(tb, .inr (8, [.int lw, .int 0, .int ct, .int vr, .ref a1, .ref a2, .ref a3, .ref a4]))] sz)) 0 0 (va_A [(tb, .inr (8, [.int lw, .int 0, .int ct, .int vr, .ref a1, .ref a2, .ref a3, .ref a4]))] sz) := by
  refine Met.ofW (cc := cX8_hasLook) (maxL := 2) (ret := (some .boolean)) (by decide) rfl ?_
  intro p e s m args below meth c s₁ B hml hv
  obtain ⟨rfl, hsz, hP, hK, hD0⟩ := hv
  have hx := B.exec
  have hb := B.bytes
  have hr := B.returns
  have hts := atoms_spec (ws := wsX8_hasLook) B.pre
  have hown : s.vm.findClass RX8 = some m.cls := findClass_of_methodNamed B.named
  have hlocks := B.notSynchronized
  subst hsz
  have hD := hD0.self (sz := s.heap.size)
  generalize hAe : va_A [(tb, .inr (8, [.int lw, .int 0, .int ct, .int vr, .ref a1, .ref a2, .ref a3, .ref a4]))] s.heap.size = A at hD ⊢
  have hA : ∀ q : Nat, s.heap.size ≤ q → A q := fun q h => by rw [← hAe]; exact Or.inr h
  have hS : va_S A s.heap s.heap [] := va_S.rf
  have hP : va_P (dC, dI) vwCl [(tb, .inr (8, [.int lw, .int 0, .int ct, .int vr, .ref a1, .ref a2, .ref a3, .ref a4]))] s.heap := hP
  have hl := lv_entry ([.ref tb, .int p0]) (n := 2) (Nat.le_of_ble_eq_true rfl)
  rw [lg_entry_eq]
  generalize (lg_sl ([.ref tb, .int p0]) ++ List.replicate (2 - (lg_sl ([.ref tb, .int p0])).length) Slot.unset).toArray = ls at hl ⊢
  have hl : lv_has ls 2 [(0, .ref tb), (1, .int p0)] := hl
  refine lv_iload_n hx hb dX8_hasLook_0 rfl (lv_at hl 1 rfl) ?_
  refine lv_if_lt (tgt := 16) hx hb dX8_hasLook_1 (by decide) (fun c_1 => ?_) (fun c_1 => ?_)
  · refine lv_iconst (v := 0) hx hb dX8_hasLook_16 (by decide) ?_
    have hP9 := hP.sub (ws' := [(tb, .inr (8, [.int lw, .int 0, .int ct, .int vr, .ref a1, .ref a2, .ref a3, .ref a4]))]) [0] rfl
    have hD9 := hD.sub (ws' := [(tb, .inr (8, [.int lw, .int 0, .int ct, .int vr, .ref a1, .ref a2, .ref a3, .ref a4]))]) [0] (by decide) rfl
    have hK9 := hK.sub (tys' := []) [] rfl
    refine W.widen (k := 0) (n := 0) (Nat.le_of_ble_eq_true rfl) (Nat.le_of_ble_eq_true rfl) ?_
    exact W.zret (v := 0) (ty := .boolean) hx hb hr rfl (fun t ht hW => ⟨⟨0, (), rfl, rfl, by rw [ht]; exact hP9, va_K.moved hW.alike hK9, hD9⟩, hS.F ht⟩) hS.2.2 dX8_hasLook_17
  · refine lv_iload_n hx hb dX8_hasLook_4 rfl (lv_at hl 1 rfl) ?_
    refine lv_aload_n hx hb dX8_hasLook_5 rfl (lv_at hl 0 rfl) ?_
    refine va_get (D := (dC, dI)) (ci := 8) (v := .int 0) (C := RX8) (T := TX8) (N := 8) hx hb hts iw_X8_hasLook_X8_c_hasLook_0 hown hK hP 0 rfl rfl 1 (by decide) (hts (.fieldLink RX8 34 "NotAtOnce$Table" "looks" "I") (by decide +kernel)) (fun _ h9 => h9) rfl dX8_hasLook_6 ?_
    refine lv_icmp_ge (tgt := 16) hx hb dX8_hasLook_9 (by decide) (fun c_2 => ?_) (fun c_2 => absurd (Int32.not_lt.mp c_1) c_2)
    refine lv_iconst (v := 0) hx hb dX8_hasLook_16 (by decide) ?_
    have hP9 := hP.sub (ws' := [(tb, .inr (8, [.int lw, .int 0, .int ct, .int vr, .ref a1, .ref a2, .ref a3, .ref a4]))]) [0] rfl
    have hD9 := hD.sub (ws' := [(tb, .inr (8, [.int lw, .int 0, .int ct, .int vr, .ref a1, .ref a2, .ref a3, .ref a4]))]) [0] (by decide) rfl
    have hK9 := hK.sub (tys' := []) [] rfl
    refine W.widen (k := 0) (n := 0) (Nat.le_of_ble_eq_true rfl) (Nat.le_of_ble_eq_true rfl) ?_
    exact W.zret (v := 0) (ty := .boolean) hx hb hr rfl (fun t ht hW => ⟨⟨0, (), rfl, rfl, by rw [ht]; exact hP9, va_K.moved hW.alike hK9, hD9⟩, hS.F ht⟩) hS.2.2 dX8_hasLook_17

set_option maxRecDepth 20000 in
theorem iw_X8_hasSet_X8_c_hasSet_0 : ∀ w ∈ wsX80, w ∈ wsX8_hasSet := by decide +kernel
set_option maxHeartbeats 4000000 in
set_option maxRecDepth 100000 in
/-- hasSet where there is no set -/
theorem c_hasSet_0 (l : Launch) (dC : Nat → ClassId) (dI : Nat → Nat → Nat) (sz : Nat) (tb : Nat) (lw : Int32) (lk : Int32) (vr : Int32) (a1 : Nat) (a2 : Nat) (a3 : Nat) (a4 : Nat) (p0 : Int32)  : Met l yX8_hasSet wsX8_hasSet ({ frames := 0, cells := 0, slots := 0, locals := 0 }) (va_Pc [.ref tb, .int p0] (fun U => U.heap.size = sz ∧ va_P (dC, dI) vwCl [(tb, .inr (8, [.int lw, .int lk, .int 0, .int vr, .ref a1, .ref a2, .ref a3, .ref a4]))] U.heap ∧ va_K (dC, dI) vwCl [] U ∧ va_D (fun _ => True) [(tb, .inr (8, [.int lw, .int lk, .int 0, .int vr, .ref a1, .ref a2, .ref a3, .ref a4]))])) (va_Qi (fun (r : Int32) (_ : Unit) => r = 0) (fun _ t => va_P (dC, dI) vwCl [(tb, .inr (8, [.int lw, .int lk, .int 0, .int vr, .ref a1, .ref a2, .ref a3, .ref a4]))] t.heap ∧ va_K (dC, dI) vwCl [] t ∧ va_D (va_A [(tb, .inr (8, [.int lw, .int lk, .int 0, .int vr, .ref a1, .ref a2, .ref a3, .ref a4]))] sz) [(tb, .inr (8, [.int lw, .int lk, .int 0, .int vr, .ref a1, .ref a2, .ref a3, .ref a4]))]) (va_A [(tb, .inr (8, [.int lw, .int lk, .int 0, .int vr, .ref a1, .ref a2, .ref a3, .ref a4]))] sz)) 0 0 (va_A [(tb, .inr (8, [.int lw, .int lk, .int 0, .int vr, .ref a1, .ref a2, .ref a3, .ref a4]))] sz) := by
  refine Met.ofW (cc := cX8_hasSet) (maxL := 2) (ret := (some .boolean)) (by decide) rfl ?_
  intro p e s m args below meth c s₁ B hml hv
  obtain ⟨rfl, hsz, hP, hK, hD0⟩ := hv
  have hx := B.exec
  have hb := B.bytes
  have hr := B.returns
  have hts := atoms_spec (ws := wsX8_hasSet) B.pre
  have hown : s.vm.findClass RX8 = some m.cls := findClass_of_methodNamed B.named
  have hlocks := B.notSynchronized
  subst hsz
  have hD := hD0.self (sz := s.heap.size)
  generalize hAe : va_A [(tb, .inr (8, [.int lw, .int lk, .int 0, .int vr, .ref a1, .ref a2, .ref a3, .ref a4]))] s.heap.size = A at hD ⊢
  have hA : ∀ q : Nat, s.heap.size ≤ q → A q := fun q h => by rw [← hAe]; exact Or.inr h
  have hS : va_S A s.heap s.heap [] := va_S.rf
  have hP : va_P (dC, dI) vwCl [(tb, .inr (8, [.int lw, .int lk, .int 0, .int vr, .ref a1, .ref a2, .ref a3, .ref a4]))] s.heap := hP
  have hl := lv_entry ([.ref tb, .int p0]) (n := 2) (Nat.le_of_ble_eq_true rfl)
  rw [lg_entry_eq]
  generalize (lg_sl ([.ref tb, .int p0]) ++ List.replicate (2 - (lg_sl ([.ref tb, .int p0])).length) Slot.unset).toArray = ls at hl ⊢
  have hl : lv_has ls 2 [(0, .ref tb), (1, .int p0)] := hl
  refine lv_iload_n hx hb dX8_hasSet_0 rfl (lv_at hl 1 rfl) ?_
  refine lv_if_lt (tgt := 16) hx hb dX8_hasSet_1 (by decide) (fun c_1 => ?_) (fun c_1 => ?_)
  · refine lv_iconst (v := 0) hx hb dX8_hasSet_16 (by decide) ?_
    have hP9 := hP.sub (ws' := [(tb, .inr (8, [.int lw, .int lk, .int 0, .int vr, .ref a1, .ref a2, .ref a3, .ref a4]))]) [0] rfl
    have hD9 := hD.sub (ws' := [(tb, .inr (8, [.int lw, .int lk, .int 0, .int vr, .ref a1, .ref a2, .ref a3, .ref a4]))]) [0] (by decide) rfl
    have hK9 := hK.sub (tys' := []) [] rfl
    refine W.widen (k := 0) (n := 0) (Nat.le_of_ble_eq_true rfl) (Nat.le_of_ble_eq_true rfl) ?_
    exact W.zret (v := 0) (ty := .boolean) hx hb hr rfl (fun t ht hW => ⟨⟨0, (), rfl, rfl, by rw [ht]; exact hP9, va_K.moved hW.alike hK9, hD9⟩, hS.F ht⟩) hS.2.2 dX8_hasSet_17
  · refine lv_iload_n hx hb dX8_hasSet_4 rfl (lv_at hl 1 rfl) ?_
    refine lv_aload_n hx hb dX8_hasSet_5 rfl (lv_at hl 0 rfl) ?_
    refine va_get (D := (dC, dI)) (ci := 8) (v := .int 0) (C := RX8) (T := TX8) (N := 8) hx hb hts iw_X8_hasSet_X8_c_hasSet_0 hown hK hP 0 rfl rfl 2 (by decide) (hts (.fieldLink RX8 38 "NotAtOnce$Table" "count" "I") (by decide +kernel)) (fun _ h9 => h9) rfl dX8_hasSet_6 ?_
    refine lv_icmp_ge (tgt := 16) hx hb dX8_hasSet_9 (by decide) (fun c_2 => ?_) (fun c_2 => absurd (Int32.not_lt.mp c_1) c_2)
    refine lv_iconst (v := 0) hx hb dX8_hasSet_16 (by decide) ?_
    have hP9 := hP.sub (ws' := [(tb, .inr (8, [.int lw, .int lk, .int 0, .int vr, .ref a1, .ref a2, .ref a3, .ref a4]))]) [0] rfl
    have hD9 := hD.sub (ws' := [(tb, .inr (8, [.int lw, .int lk, .int 0, .int vr, .ref a1, .ref a2, .ref a3, .ref a4]))]) [0] (by decide) rfl
    have hK9 := hK.sub (tys' := []) [] rfl
    refine W.widen (k := 0) (n := 0) (Nat.le_of_ble_eq_true rfl) (Nat.le_of_ble_eq_true rfl) ?_
    exact W.zret (v := 0) (ty := .boolean) hx hb hr rfl (fun t ht hW => ⟨⟨0, (), rfl, rfl, by rw [ht]; exact hP9, va_K.moved hW.alike hK9, hD9⟩, hS.F ht⟩) hS.2.2 dX8_hasSet_17

set_option maxHeartbeats 4000000 in
set_option maxRecDepth 100000 in
/-- hasPair where there is no set -/
theorem c_hasPair_0 (l : Launch) (dC : Nat → ClassId) (dI : Nat → Nat → Nat) (sz : Nat) (tb : Nat) (lw : Int32) (lk : Int32) (vr : Int32) (a1 : Nat) (a2 : Nat) (a3 : Nat) (a4 : Nat) (p0 : Int32)  : Met l yX8_hasPair wsX8_hasPair ({ frames := 1, cells := 0, slots := 0, locals := 21 }) (va_Pc [.ref tb, .int p0] (fun U => U.heap.size = sz ∧ va_P (dC, dI) vwCl [(tb, .inr (8, [.int lw, .int lk, .int 0, .int vr, .ref a1, .ref a2, .ref a3, .ref a4]))] U.heap ∧ va_K (dC, dI) vwCl [] U ∧ va_D (fun _ => True) [(tb, .inr (8, [.int lw, .int lk, .int 0, .int vr, .ref a1, .ref a2, .ref a3, .ref a4]))])) (va_Qi (fun (r : Int32) (_ : Unit) => r = 0) (fun _ t => va_P (dC, dI) vwCl [(tb, .inr (8, [.int lw, .int lk, .int 0, .int vr, .ref a1, .ref a2, .ref a3, .ref a4]))] t.heap ∧ va_K (dC, dI) vwCl [] t ∧ va_D (va_A [(tb, .inr (8, [.int lw, .int lk, .int 0, .int vr, .ref a1, .ref a2, .ref a3, .ref a4]))] sz) [(tb, .inr (8, [.int lw, .int lk, .int 0, .int vr, .ref a1, .ref a2, .ref a3, .ref a4]))]) (va_A [(tb, .inr (8, [.int lw, .int lk, .int 0, .int vr, .ref a1, .ref a2, .ref a3, .ref a4]))] sz)) 0 0 (va_A [(tb, .inr (8, [.int lw, .int lk, .int 0, .int vr, .ref a1, .ref a2, .ref a3, .ref a4]))] sz) := by
  refine Met.ofW (cc := cX8_hasPair) (maxL := 2) (ret := (some .boolean)) (by decide) rfl ?_
  intro p e s m args below meth c s₁ B hml hv
  obtain ⟨rfl, hsz, hP, hK, hD0⟩ := hv
  have hx := B.exec
  have hb := B.bytes
  have hr := B.returns
  have hts := atoms_spec (ws := wsX8_hasPair) B.pre
  have hown : s.vm.findClass RX8 = some m.cls := findClass_of_methodNamed B.named
  have hlocks := B.notSynchronized
  subst hsz
  have hD := hD0.self (sz := s.heap.size)
  generalize hAe : va_A [(tb, .inr (8, [.int lw, .int lk, .int 0, .int vr, .ref a1, .ref a2, .ref a3, .ref a4]))] s.heap.size = A at hD ⊢
  have hA : ∀ q : Nat, s.heap.size ≤ q → A q := fun q h => by rw [← hAe]; exact Or.inr h
  have hS : va_S A s.heap s.heap [] := va_S.rf
  have hP : va_P (dC, dI) vwCl [(tb, .inr (8, [.int lw, .int lk, .int 0, .int vr, .ref a1, .ref a2, .ref a3, .ref a4]))] s.heap := hP
  have hl := lv_entry ([.ref tb, .int p0]) (n := 2) (Nat.le_of_ble_eq_true rfl)
  rw [lg_entry_eq]
  generalize (lg_sl ([.ref tb, .int p0]) ++ List.replicate (2 - (lg_sl ([.ref tb, .int p0])).length) Slot.unset).toArray = ls at hl ⊢
  have hl : lv_has ls 2 [(0, .ref tb), (1, .int p0)] := hl
  refine lv_aload_n hx hb dX8_hasPair_0 rfl (lv_at hl 0 rfl) ?_
  refine lv_iload_n hx hb dX8_hasPair_1 rfl (lv_at hl 1 rfl) ?_
  have hPc := hP.sub (ws' := [(tb, .inr (8, [.int lw, .int lk, .int 0, .int vr, .ref a1, .ref a2, .ref a3, .ref a4]))]) [0] rfl
  have hDc := hD.sub (ws' := [(tb, .inr (8, [.int lw, .int lk, .int 0, .int vr, .ref a1, .ref a2, .ref a3, .ref a4]))]) [0] (by decide) rfl
  have hKc := hK.sub (tys' := []) [] rfl
  have hFc := va_free (wc := [(tb, .inr (8, [.int lw, .int lk, .int 0, .int vr, .ref a1, .ref a2, .ref a3, .ref a4]))]) hD hS hA [0] rfl
  refine va_calli (va_runV (As := [.int p0]) (rest := []) ⟨hx, hb, hml, hown, hts⟩ (c_hasSet_0 l dC dI s.heap.size tb lw lk vr a1 a2 a3 a4 p0) (cwV 1 hts gX8_hasPair_X8_hasSet rfl rfl rfl (by decide +kernel) ⟨Nat.le_of_ble_eq_true rfl, Nat.le_of_ble_eq_true rfl⟩) ⟨fun a U g mk q => by obtain ⟨q0, q1, qP, qK, qD⟩ := q; exact ⟨q0, q1, qP, va_K.moved (u := U) (U := U.calling g mk a) (Vm.Alike.refl U.vm) qK, qD⟩, va_recv hKc hPc (ci := 8) (q0 := 0) rfl rfl, fun U hU hW => ⟨rfl, by rw [hU], by rw [hU]; exact hPc, va_K.moved hW.alike hKc, hDc.weaken (fun _ _ _ _ => trivial)⟩⟩ rfl rfl hl.1 rfl (lv_room (Nat.le_of_ble_eq_true rfl)) dX8_hasPair_2 ⟨Nat.le_of_ble_eq_true rfl, Nat.le_of_ble_eq_true rfl⟩) hS (fun q _ h => hFc q h) hFc (fun r_1 u t H1 locs ht hvm hw hB hz1 hk1 hS => ?_)
  obtain ⟨hP1, hK1, hD1⟩ := hB
  rw [ht] at hP1
  have hK1 := va_K.moved hvm.symm hK1
  try dsimp only at hw
  obtain ⟨hP, hD⟩ := va_join (wr := []) (w1 := [(tb, .inr (8, [.int lw, .int lk, .int 0, .int vr, .ref a1, .ref a2, .ref a3, .ref a4]))]) hP hD [0] [] rfl rfl (by decide) (by decide) hk1 hFc hP1 hD1
  have hK := (hK.sub (tys' := []) [] rfl).app hK1
  generalize H1 = H at hP hS ⊢
  have hP : va_P (dC, dI) vwCl [(tb, .inr (8, [.int lw, .int lk, .int 0, .int vr, .ref a1, .ref a2, .ref a3, .ref a4]))] H := hP
  have hD : va_D A [(tb, .inr (8, [.int lw, .int lk, .int 0, .int vr, .ref a1, .ref a2, .ref a3, .ref a4]))] := hD
  have hK : va_K (dC, dI) vwCl [] s := hK
  refine W.widen (k := 0) (n := 0) (by omega) (by omega) ?_
  have er_1 : r_1 = 0 := hw
  subst er_1
  refine lv_if_eq (tgt := 21) hx hb dX8_hasPair_5 (by decide) (fun c_2 => ?_) (fun c_2 => absurd c_2 (by decide))
  refine lv_iconst (v := 0) hx hb dX8_hasPair_21 (by decide) ?_
  have hP9 := hP.sub (ws' := [(tb, .inr (8, [.int lw, .int lk, .int 0, .int vr, .ref a1, .ref a2, .ref a3, .ref a4]))]) [0] rfl
  have hD9 := hD.sub (ws' := [(tb, .inr (8, [.int lw, .int lk, .int 0, .int vr, .ref a1, .ref a2, .ref a3, .ref a4]))]) [0] (by decide) rfl
  have hK9 := hK.sub (tys' := []) [] rfl
  refine W.widen (k := 0) (n := 0) (Nat.le_of_ble_eq_true rfl) (Nat.le_of_ble_eq_true rfl) ?_
  exact W.zret (v := 0) (ty := .boolean) hx hb hr rfl (fun t ht hW => ⟨⟨0, (), rfl, rfl, by rw [ht]; exact hP9, va_K.moved hW.alike hK9, hD9⟩, hS.F ht⟩) hS.2.2 dX8_hasPair_22

set_option maxHeartbeats 4000000 in
set_option maxRecDepth 100000 in
/-- hasOutcome where there is no set -/
theorem c_hasOutcome_0 (l : Launch) (dC : Nat → ClassId) (dI : Nat → Nat → Nat) (sz : Nat) (tb : Nat) (lw : Int32) (lk : Int32) (vr : Int32) (a1 : Nat) (a2 : Nat) (a3 : Nat) (a4 : Nat) (p0 : Int32) (p1 : Int32)  : Met l yX8_hasOutcome wsX8_hasOutcome ({ frames := 1, cells := 0, slots := 0, locals := 21 }) (va_Pc [.ref tb, .int p0, .int p1] (fun U => U.heap.size = sz ∧ va_P (dC, dI) vwCl [(tb, .inr (8, [.int lw, .int lk, .int 0, .int vr, .ref a1, .ref a2, .ref a3, .ref a4]))] U.heap ∧ va_K (dC, dI) vwCl [] U ∧ va_D (fun _ => True) [(tb, .inr (8, [.int lw, .int lk, .int 0, .int vr, .ref a1, .ref a2, .ref a3, .ref a4]))])) (va_Qi (fun (r : Int32) (_ : Unit) => r = 0) (fun _ t => va_P (dC, dI) vwCl [(tb, .inr (8, [.int lw, .int lk, .int 0, .int vr, .ref a1, .ref a2, .ref a3, .ref a4]))] t.heap ∧ va_K (dC, dI) vwCl [] t ∧ va_D (va_A [(tb, .inr (8, [.int lw, .int lk, .int 0, .int vr, .ref a1, .ref a2, .ref a3, .ref a4]))] sz) [(tb, .inr (8, [.int lw, .int lk, .int 0, .int vr, .ref a1, .ref a2, .ref a3, .ref a4]))]) (va_A [(tb, .inr (8, [.int lw, .int lk, .int 0, .int vr, .ref a1, .ref a2, .ref a3, .ref a4]))] sz)) 0 0 (va_A [(tb, .inr (8, [.int lw, .int lk, .int 0, .int vr, .ref a1, .ref a2, .ref a3, .ref a4]))] sz) := by
  refine Met.ofW (cc := cX8_hasOutcome) (maxL := 3) (ret := (some .boolean)) (by decide) rfl ?_
  intro p e s m args below meth c s₁ B hml hv
  obtain ⟨rfl, hsz, hP, hK, hD0⟩ := hv
  have hx := B.exec
  have hb := B.bytes
  have hr := B.returns
  have hts := atoms_spec (ws := wsX8_hasOutcome) B.pre
  have hown : s.vm.findClass RX8 = some m.cls := findClass_of_methodNamed B.named
  have hlocks := B.notSynchronized
  subst hsz
  have hD := hD0.self (sz := s.heap.size)
  generalize hAe : va_A [(tb, .inr (8, [.int lw, .int lk, .int 0, .int vr, .ref a1, .ref a2, .ref a3, .ref a4]))] s.heap.size = A at hD ⊢
  have hA : ∀ q : Nat, s.heap.size ≤ q → A q := fun q h => by rw [← hAe]; exact Or.inr h
  have hS : va_S A s.heap s.heap [] := va_S.rf
  have hP : va_P (dC, dI) vwCl [(tb, .inr (8, [.int lw, .int lk, .int 0, .int vr, .ref a1, .ref a2, .ref a3, .ref a4]))] s.heap := hP
  have hl := lv_entry ([.ref tb, .int p0, .int p1]) (n := 3) (Nat.le_of_ble_eq_true rfl)
  rw [lg_entry_eq]
  generalize (lg_sl ([.ref tb, .int p0, .int p1]) ++ List.replicate (3 - (lg_sl ([.ref tb, .int p0, .int p1])).length) Slot.unset).toArray = ls at hl ⊢
  have hl : lv_has ls 3 [(0, .ref tb), (1, .int p0), (2, .int p1)] := hl
  refine lv_aload_n hx hb dX8_hasOutcome_0 rfl (lv_at hl 0 rfl) ?_
  refine lv_iload_n hx hb dX8_hasOutcome_1 rfl (lv_at hl 1 rfl) ?_
  have hPc := hP.sub (ws' := [(tb, .inr (8, [.int lw, .int lk, .int 0, .int vr, .ref a1, .ref a2, .ref a3, .ref a4]))]) [0] rfl
  have hDc := hD.sub (ws' := [(tb, .inr (8, [.int lw, .int lk, .int 0, .int vr, .ref a1, .ref a2, .ref a3, .ref a4]))]) [0] (by decide) rfl
  have hKc := hK.sub (tys' := []) [] rfl
  have hFc := va_free (wc := [(tb, .inr (8, [.int lw, .int lk, .int 0, .int vr, .ref a1, .ref a2, .ref a3, .ref a4]))]) hD hS hA [0] rfl
  refine va_calli (va_runV (As := [.int p0]) (rest := []) ⟨hx, hb, hml, hown, hts⟩ (c_hasSet_0 l dC dI s.heap.size tb lw lk vr a1 a2 a3 a4 p0) (cwV 1 hts gX8_hasOutcome_X8_hasSet rfl rfl rfl (by decide +kernel) ⟨Nat.le_of_ble_eq_true rfl, Nat.le_of_ble_eq_true rfl⟩) ⟨fun a U g mk q => by obtain ⟨q0, q1, qP, qK, qD⟩ := q; exact ⟨q0, q1, qP, va_K.moved (u := U) (U := U.calling g mk a) (Vm.Alike.refl U.vm) qK, qD⟩, va_recv hKc hPc (ci := 8) (q0 := 0) rfl rfl, fun U hU hW => ⟨rfl, by rw [hU], by rw [hU]; exact hPc, va_K.moved hW.alike hKc, hDc.weaken (fun _ _ _ _ => trivial)⟩⟩ rfl rfl hl.1 rfl (lv_room (Nat.le_of_ble_eq_true rfl)) dX8_hasOutcome_2 ⟨Nat.le_of_ble_eq_true rfl, Nat.le_of_ble_eq_true rfl⟩) hS (fun q _ h => hFc q h) hFc (fun r_1 u t H1 locs ht hvm hw hB hz1 hk1 hS => ?_)
  obtain ⟨hP1, hK1, hD1⟩ := hB
  rw [ht] at hP1
  have hK1 := va_K.moved hvm.symm hK1
  try dsimp only at hw
  obtain ⟨hP, hD⟩ := va_join (wr := []) (w1 := [(tb, .inr (8, [.int lw, .int lk, .int 0, .int vr, .ref a1, .ref a2, .ref a3, .ref a4]))]) hP hD [0] [] rfl rfl (by decide) (by decide) hk1 hFc hP1 hD1
  have hK := (hK.sub (tys' := []) [] rfl).app hK1
  generalize H1 = H at hP hS ⊢
  have hP : va_P (dC, dI) vwCl [(tb, .inr (8, [.int lw, .int lk, .int 0, .int vr, .ref a1, .ref a2, .ref a3, .ref a4]))] H := hP
  have hD : va_D A [(tb, .inr (8, [.int lw, .int lk, .int 0, .int vr, .ref a1, .ref a2, .ref a3, .ref a4]))] := hD
  have hK : va_K (dC, dI) vwCl [] s := hK
  refine W.widen (k := 0) (n := 0) (by omega) (by omega) ?_
  have er_1 : r_1 = 0 := hw
  subst er_1
  refine lv_if_eq (tgt := 25) hx hb dX8_hasOutcome_5 (by decide) (fun c_2 => ?_) (fun c_2 => absurd c_2 (by decide))
  refine lv_iconst (v := 0) hx hb dX8_hasOutcome_25 (by decide) ?_
  have hP9 := hP.sub (ws' := [(tb, .inr (8, [.int lw, .int lk, .int 0, .int vr, .ref a1, .ref a2, .ref a3, .ref a4]))]) [0] rfl
  have hD9 := hD.sub (ws' := [(tb, .inr (8, [.int lw, .int lk, .int 0, .int vr, .ref a1, .ref a2, .ref a3, .ref a4]))]) [0] (by decide) rfl
  have hK9 := hK.sub (tys' := []) [] rfl
  refine W.widen (k := 0) (n := 0) (Nat.le_of_ble_eq_true rfl) (Nat.le_of_ble_eq_true rfl) ?_
  exact W.zret (v := 0) (ty := .boolean) hx hb hr rfl (fun t ht hW => ⟨⟨0, (), rfl, rfl, by rw [ht]; exact hP9, va_K.moved hW.alike hK9, hD9⟩, hS.F ht⟩) hS.2.2 dX8_hasOutcome_26

set_option maxRecDepth 20000 in
theorem iw_X10_together_X10_c_together_0 : ∀ w ∈ wsX100, w ∈ wsX10_together := by decide +kernel
set_option maxHeartbeats 4000000 in
set_option maxRecDepth 100000 in
/-- together where there is none such -/
theorem c_together_0 (l : Launch) (dC : Nat → ClassId) (dI : Nat → Nat → Nat) (sz : Nat) (h0 : Nat) (tp : Nat) (rd : Nat) (tb : Nat) (rg : Nat) (bl : Nat) (pa : Nat) (fm : Nat) (te : Nat) (hi : Nat) (fr : Nat) (fd : Int32) (rf : Int32) (lf : Int32) (fp : Int32) (lw : Int32) (ct : Int32) (vr : Int32) (a1 : Nat) (a2 : Nat) (a3 : Nat) (a4 : Nat) (p0 : Int32) (p1 : Int32) (p2 : Int32) (p3 : Int32) (p4 : Int32) (p5 : Int32)  : Met l yX10_together wsX10_together ({ frames := 1, cells := 0, slots := 0, locals := 21 }) (va_Pc [.ref h0, .int p0, .int p1, .int p2, .int p3, .int p4, .int p5] (fun U => U.heap.size = sz ∧ va_P (dC, dI) vwCl [(h0, .inr (10, [.ref tp, .ref rd, .ref tb, .ref rg, .ref bl, .ref pa, .ref fm, .ref te, .ref hi, .ref fr, .int fd, .int rf, .int lf, .int fp])), (tb, .inr (8, [.int lw, .int 0, .int ct, .int vr, .ref a1, .ref a2, .ref a3, .ref a4]))] U.heap ∧ va_K (dC, dI) vwCl [] U ∧ va_D (fun _ => True) [(h0, .inr (10, [.ref tp, .ref rd, .ref tb, .ref rg, .ref bl, .ref pa, .ref fm, .ref te, .ref hi, .ref fr, .int fd, .int rf, .int lf, .int fp])), (tb, .inr (8, [.int lw, .int 0, .int ct, .int vr, .ref a1, .ref a2, .ref a3, .ref a4]))])) (va_Qi (fun (r : Int32) (_ : Unit) => r = (-1)) (fun _ t => va_P (dC, dI) vwCl [(h0, .inr (10, [.ref tp, .ref rd, .ref tb, .ref rg, .ref bl, .ref pa, .ref fm, .ref te, .ref hi, .ref fr, .int fd, .int 1, .int lf, .int fp])), (tb, .inr (8, [.int lw, .int 0, .int ct, .int vr, .ref a1, .ref a2, .ref a3, .ref a4]))] t.heap ∧ va_K (dC, dI) vwCl [] t ∧ va_D (va_A [(h0, .inr (10, [.ref tp, .ref rd, .ref tb, .ref rg, .ref bl, .ref pa, .ref fm, .ref te, .ref hi, .ref fr, .int fd, .int rf, .int lf, .int fp])), (tb, .inr (8, [.int lw, .int 0, .int ct, .int vr, .ref a1, .ref a2, .ref a3, .ref a4]))] sz) [(h0, .inr (10, [.ref tp, .ref rd, .ref tb, .ref rg, .ref bl, .ref pa, .ref fm, .ref te, .ref hi, .ref fr, .int fd, .int 1, .int lf, .int fp])), (tb, .inr (8, [.int lw, .int 0, .int ct, .int vr, .ref a1, .ref a2, .ref a3, .ref a4]))]) (va_A [(h0, .inr (10, [.ref tp, .ref rd, .ref tb, .ref rg, .ref bl, .ref pa, .ref fm, .ref te, .ref hi, .ref fr, .int fd, .int rf, .int lf, .int fp])), (tb, .inr (8, [.int lw, .int 0, .int ct, .int vr, .ref a1, .ref a2, .ref a3, .ref a4]))] sz)) 0 0 (va_A [(h0, .inr (10, [.ref tp, .ref rd, .ref tb, .ref rg, .ref bl, .ref pa, .ref fm, .ref te, .ref hi, .ref fr, .int fd, .int rf, .int lf, .int fp])), (tb, .inr (8, [.int lw, .int 0, .int ct, .int vr, .ref a1, .ref a2, .ref a3, .ref a4]))] sz) := by
  refine Met.ofW (cc := cX10_together) (maxL := 7) (ret := (some .int)) (by decide) rfl ?_
  intro p e s m args below meth c s₁ B hml hv
  obtain ⟨rfl, hsz, hP, hK, hD0⟩ := hv
  have hx := B.exec
  have hb := B.bytes
  have hr := B.returns
  have hts := atoms_spec (ws := wsX10_together) B.pre
  have hown : s.vm.findClass RX10 = some m.cls := findClass_of_methodNamed B.named
  have hlocks := B.notSynchronized
  subst hsz
  have hD := hD0.self (sz := s.heap.size)
  generalize hAe : va_A [(h0, .inr (10, [.ref tp, .ref rd, .ref tb, .ref rg, .ref bl, .ref pa, .ref fm, .ref te, .ref hi, .ref fr, .int fd, .int rf, .int lf, .int fp])), (tb, .inr (8, [.int lw, .int 0, .int ct, .int vr, .ref a1, .ref a2, .ref a3, .ref a4]))] s.heap.size = A at hD ⊢
  have hA : ∀ q : Nat, s.heap.size ≤ q → A q := fun q h => by rw [← hAe]; exact Or.inr h
  have hS : va_S A s.heap s.heap [] := va_S.rf
  have hP : va_P (dC, dI) vwCl [(h0, .inr (10, [.ref tp, .ref rd, .ref tb, .ref rg, .ref bl, .ref pa, .ref fm, .ref te, .ref hi, .ref fr, .int fd, .int rf, .int lf, .int fp])), (tb, .inr (8, [.int lw, .int 0, .int ct, .int vr, .ref a1, .ref a2, .ref a3, .ref a4]))] s.heap := hP
  have hl := lv_entry ([.ref h0, .int p0, .int p1, .int p2, .int p3, .int p4, .int p5]) (n := 7) (Nat.le_of_ble_eq_true rfl)
  rw [lg_entry_eq]
  generalize (lg_sl ([.ref h0, .int p0, .int p1, .int p2, .int p3, .int p4, .int p5]) ++ List.replicate (7 - (lg_sl ([.ref h0, .int p0, .int p1, .int p2, .int p3, .int p4, .int p5])).length) Slot.unset).toArray = ls at hl ⊢
  have hl : lv_has ls 7 [(0, .ref h0), (1, .int p0), (2, .int p1), (3, .int p2), (4, .int p3), (5, .int p4), (6, .int p5)] := hl
  refine lv_aload_n hx hb dX10_together_0 rfl (lv_at hl 0 rfl) ?_
  refine va_get (D := (dC, dI)) (ci := 10) (v := .ref tb) (C := RX10) (T := TX10) (N := 14) hx hb hts iw_X10_together_X10_c_together_0 hown hK hP 0 rfl rfl 2 (by decide) (hts (.fieldLink RX10 25 "NotAtOnce" "table" "LNotAtOnce$Table;") (by decide +kernel)) (fun _ h9 => h9) rfl dX10_together_1 ?_
  refine lv_iload_n hx hb dX10_together_4 rfl (lv_at hl 1 rfl) ?_
  have hPc := hP.sub (ws' := [(tb, .inr (8, [.int lw, .int 0, .int ct, .int vr, .ref a1, .ref a2, .ref a3, .ref a4]))]) [1] rfl
  have hDc := hD.sub (ws' := [(tb, .inr (8, [.int lw, .int 0, .int ct, .int vr, .ref a1, .ref a2, .ref a3, .ref a4]))]) [1] (by decide) rfl
  have hKc := hK.sub (tys' := []) [] rfl
  have hFc := va_free (wc := [(tb, .inr (8, [.int lw, .int 0, .int ct, .int vr, .ref a1, .ref a2, .ref a3, .ref a4]))]) hD hS hA [1] rfl
  refine va_calli (va_runV (As := [.int p0]) (rest := []) ⟨hx, hb, hml, hown, hts⟩ (c_hasLook_0 l dC dI s.heap.size tb lw ct vr a1 a2 a3 a4 p0) (cwV 1 hts gX10_together_X8_hasLook rfl rfl rfl (by decide +kernel) ⟨Nat.le_of_ble_eq_true rfl, Nat.le_of_ble_eq_true rfl⟩) ⟨fun a U g mk q => by obtain ⟨q0, q1, qP, qK, qD⟩ := q; exact ⟨q0, q1, qP, va_K.moved (u := U) (U := U.calling g mk a) (Vm.Alike.refl U.vm) qK, qD⟩, va_recv hKc hPc (ci := 8) (q0 := 0) rfl rfl, fun U hU hW => ⟨rfl, by rw [hU], by rw [hU]; exact hPc, va_K.moved hW.alike hKc, hDc.weaken (fun _ _ _ _ => trivial)⟩⟩ rfl rfl hl.1 rfl (lv_room (Nat.le_of_ble_eq_true rfl)) dX10_together_5 ⟨Nat.le_of_ble_eq_true rfl, Nat.le_of_ble_eq_true rfl⟩) hS (fun q _ h => hFc q h) hFc (fun r_1 u t H1 locs ht hvm hw hB hz1 hk1 hS => ?_)
  obtain ⟨hP1, hK1, hD1⟩ := hB
  rw [ht] at hP1
  have hK1 := va_K.moved hvm.symm hK1
  try dsimp only at hw
  obtain ⟨hP, hD⟩ := va_join (wr := [(h0, .inr (10, [.ref tp, .ref rd, .ref tb, .ref rg, .ref bl, .ref pa, .ref fm, .ref te, .ref hi, .ref fr, .int fd, .int rf, .int lf, .int fp]))]) (w1 := [(tb, .inr (8, [.int lw, .int 0, .int ct, .int vr, .ref a1, .ref a2, .ref a3, .ref a4]))]) hP hD [1] [0] rfl rfl (by decide) (by decide) hk1 hFc hP1 hD1
  have hK := (hK.sub (tys' := []) [] rfl).app hK1
  generalize H1 = H at hP hS ⊢
  have hP : va_P (dC, dI) vwCl [(h0, .inr (10, [.ref tp, .ref rd, .ref tb, .ref rg, .ref bl, .ref pa, .ref fm, .ref te, .ref hi, .ref fr, .int fd, .int rf, .int lf, .int fp])), (tb, .inr (8, [.int lw, .int 0, .int ct, .int vr, .ref a1, .ref a2, .ref a3, .ref a4]))] H := hP
  have hD : va_D A [(h0, .inr (10, [.ref tp, .ref rd, .ref tb, .ref rg, .ref bl, .ref pa, .ref fm, .ref te, .ref hi, .ref fr, .int fd, .int rf, .int lf, .int fp])), (tb, .inr (8, [.int lw, .int 0, .int ct, .int vr, .ref a1, .ref a2, .ref a3, .ref a4]))] := hD
  have hK : va_K (dC, dI) vwCl [] s := hK
  refine W.widen (k := 0) (n := 0) (by omega) (by omega) ?_
  have er_1 : r_1 = 0 := hw
  subst er_1
  refine lv_if_eq (tgt := 42) hx hb dX10_together_8 (by decide) (fun c_2 => ?_) (fun c_2 => absurd c_2 (by decide))
  refine lv_aload_n hx hb dX10_together_42 rfl (lv_at hl 0 rfl) ?_
  refine lv_iconst (v := 1) hx hb dX10_together_43 (by decide) ?_
  have hPc := hP.sub (ws' := [(h0, .inr (10, [.ref tp, .ref rd, .ref tb, .ref rg, .ref bl, .ref pa, .ref fm, .ref te, .ref hi, .ref fr, .int fd, .int rf, .int lf, .int fp]))]) [0] rfl
  have hDc := hD.sub (ws' := [(h0, .inr (10, [.ref tp, .ref rd, .ref tb, .ref rg, .ref bl, .ref pa, .ref fm, .ref te, .ref hi, .ref fr, .int fd, .int rf, .int lf, .int fp]))]) [0] (by decide) rfl
  have hKc := hK.sub (tys' := []) [] rfl
  have hFc := va_free (wc := [(h0, .inr (10, [.ref tp, .ref rd, .ref tb, .ref rg, .ref bl, .ref pa, .ref fm, .ref te, .ref hi, .ref fr, .int fd, .int rf, .int lf, .int fp]))]) hD hS hA [0] rfl
  refine va_calli (va_runV (As := [.int 1]) (rest := []) ⟨hx, hb, hml, hown, hts⟩ (c_refused l dC dI H.size h0 tp rd tb rg bl pa fm te hi fr fd rf lf fp 1) (cwV 1 hts gX10_together_X10_refused rfl rfl rfl (by decide +kernel) ⟨Nat.le_of_ble_eq_true rfl, Nat.le_of_ble_eq_true rfl⟩) ⟨fun a U g mk q => by obtain ⟨q0, q1, qP, qK, qD⟩ := q; exact ⟨q0, q1, qP, va_K.moved (u := U) (U := U.calling g mk a) (Vm.Alike.refl U.vm) qK, qD⟩, va_recv hKc hPc (ci := 10) (q0 := 0) rfl rfl, fun U hU hW => ⟨rfl, by rw [hU], by rw [hU]; exact hPc, va_K.moved hW.alike hKc, hDc.weaken (fun _ _ _ _ => trivial)⟩⟩ rfl rfl hl.1 rfl (lv_room (Nat.le_of_ble_eq_true rfl)) dX10_together_44 ⟨Nat.le_of_ble_eq_true rfl, Nat.le_of_ble_eq_true rfl⟩) hS (fun q _ h => hFc q h) hFc (fun r_3 u t H1 locs ht hvm hw hB hz1 hk1 hS => ?_)
  obtain ⟨hP1, hK1, hD1⟩ := hB
  rw [ht] at hP1
  have hK1 := va_K.moved hvm.symm hK1
  try dsimp only at hw
  obtain ⟨hP, hD⟩ := va_join (wr := [(tb, .inr (8, [.int lw, .int 0, .int ct, .int vr, .ref a1, .ref a2, .ref a3, .ref a4]))]) (w1 := [(h0, .inr (10, [.ref tp, .ref rd, .ref tb, .ref rg, .ref bl, .ref pa, .ref fm, .ref te, .ref hi, .ref fr, .int fd, .int 1, .int lf, .int fp]))]) hP hD [0] [1] rfl rfl (by decide) (by decide) hk1 hFc hP1 hD1
  have hK := (hK.sub (tys' := []) [] rfl).app hK1
  generalize H1 = H at hP hS ⊢
  have hP : va_P (dC, dI) vwCl [(tb, .inr (8, [.int lw, .int 0, .int ct, .int vr, .ref a1, .ref a2, .ref a3, .ref a4])), (h0, .inr (10, [.ref tp, .ref rd, .ref tb, .ref rg, .ref bl, .ref pa, .ref fm, .ref te, .ref hi, .ref fr, .int fd, .int 1, .int lf, .int fp]))] H := hP
  have hD : va_D A [(tb, .inr (8, [.int lw, .int 0, .int ct, .int vr, .ref a1, .ref a2, .ref a3, .ref a4])), (h0, .inr (10, [.ref tp, .ref rd, .ref tb, .ref rg, .ref bl, .ref pa, .ref fm, .ref te, .ref hi, .ref fr, .int fd, .int 1, .int lf, .int fp]))] := hD
  have hK : va_K (dC, dI) vwCl [] s := hK
  refine W.widen (k := 0) (n := 0) (by omega) (by omega) ?_
  have er_3 : r_3 = (-1) := hw
  subst er_3
  have hP9 := hP.sub (ws' := [(h0, .inr (10, [.ref tp, .ref rd, .ref tb, .ref rg, .ref bl, .ref pa, .ref fm, .ref te, .ref hi, .ref fr, .int fd, .int 1, .int lf, .int fp])), (tb, .inr (8, [.int lw, .int 0, .int ct, .int vr, .ref a1, .ref a2, .ref a3, .ref a4]))]) [1, 0] rfl
  have hD9 := hD.sub (ws' := [(h0, .inr (10, [.ref tp, .ref rd, .ref tb, .ref rg, .ref bl, .ref pa, .ref fm, .ref te, .ref hi, .ref fr, .int fd, .int 1, .int lf, .int fp])), (tb, .inr (8, [.int lw, .int 0, .int ct, .int vr, .ref a1, .ref a2, .ref a3, .ref a4]))]) [1, 0] (by decide) rfl
  have hK9 := hK.sub (tys' := []) [] rfl
  refine W.widen (k := 0) (n := 0) (Nat.le_of_ble_eq_true rfl) (Nat.le_of_ble_eq_true rfl) ?_
  exact W.iret (v := (-1)) hx hb hr (fun t ht hW => ⟨⟨(-1), (), rfl, rfl, by rw [ht]; exact hP9, va_K.moved hW.alike hK9, hD9⟩, hS.F ht⟩) hS.2.2 dX10_together_47

set_option maxRecDepth 20000 in
theorem iw_X10_machine_X10_c_machine_0 : ∀ w ∈ wsX100, w ∈ wsX10_machine := by decide +kernel
set_option maxHeartbeats 4000000 in
set_option maxRecDepth 100000 in
/-- machine where there is none such -/
theorem c_machine_0 (l : Launch) (dC : Nat → ClassId) (dI : Nat → Nat → Nat) (sz : Nat) (h0 : Nat) (tp : Nat) (rd : Nat) (tb : Nat) (rg : Nat) (bl : Nat) (pa : Nat) (fm : Nat) (te : Nat) (hi : Nat) (fr : Nat) (fd : Int32) (rf : Int32) (lf : Int32) (fp : Int32) (lw : Int32) (ct : Int32) (vr : Int32) (a1 : Nat) (a2 : Nat) (a3 : Nat) (a4 : Nat) (p0 : Int32) (p1 : Int32) (p2 : Int32)  : Met l yX10_machine wsX10_machine ({ frames := 1, cells := 0, slots := 0, locals := 21 }) (va_Pc [.ref h0, .int p0, .int p1, .int p2] (fun U => U.heap.size = sz ∧ va_P (dC, dI) vwCl [(h0, .inr (10, [.ref tp, .ref rd, .ref tb, .ref rg, .ref bl, .ref pa, .ref fm, .ref te, .ref hi, .ref fr, .int fd, .int rf, .int lf, .int fp])), (tb, .inr (8, [.int lw, .int 0, .int ct, .int vr, .ref a1, .ref a2, .ref a3, .ref a4]))] U.heap ∧ va_K (dC, dI) vwCl [] U ∧ va_D (fun _ => True) [(h0, .inr (10, [.ref tp, .ref rd, .ref tb, .ref rg, .ref bl, .ref pa, .ref fm, .ref te, .ref hi, .ref fr, .int fd, .int rf, .int lf, .int fp])), (tb, .inr (8, [.int lw, .int 0, .int ct, .int vr, .ref a1, .ref a2, .ref a3, .ref a4]))])) (va_Qi (fun (r : Int32) (_ : Unit) => r = (-1)) (fun _ t => va_P (dC, dI) vwCl [(h0, .inr (10, [.ref tp, .ref rd, .ref tb, .ref rg, .ref bl, .ref pa, .ref fm, .ref te, .ref hi, .ref fr, .int fd, .int 1, .int lf, .int fp])), (tb, .inr (8, [.int lw, .int 0, .int ct, .int vr, .ref a1, .ref a2, .ref a3, .ref a4]))] t.heap ∧ va_K (dC, dI) vwCl [] t ∧ va_D (va_A [(h0, .inr (10, [.ref tp, .ref rd, .ref tb, .ref rg, .ref bl, .ref pa, .ref fm, .ref te, .ref hi, .ref fr, .int fd, .int rf, .int lf, .int fp])), (tb, .inr (8, [.int lw, .int 0, .int ct, .int vr, .ref a1, .ref a2, .ref a3, .ref a4]))] sz) [(h0, .inr (10, [.ref tp, .ref rd, .ref tb, .ref rg, .ref bl, .ref pa, .ref fm, .ref te, .ref hi, .ref fr, .int fd, .int 1, .int lf, .int fp])), (tb, .inr (8, [.int lw, .int 0, .int ct, .int vr, .ref a1, .ref a2, .ref a3, .ref a4]))]) (va_A [(h0, .inr (10, [.ref tp, .ref rd, .ref tb, .ref rg, .ref bl, .ref pa, .ref fm, .ref te, .ref hi, .ref fr, .int fd, .int rf, .int lf, .int fp])), (tb, .inr (8, [.int lw, .int 0, .int ct, .int vr, .ref a1, .ref a2, .ref a3, .ref a4]))] sz)) 0 0 (va_A [(h0, .inr (10, [.ref tp, .ref rd, .ref tb, .ref rg, .ref bl, .ref pa, .ref fm, .ref te, .ref hi, .ref fr, .int fd, .int rf, .int lf, .int fp])), (tb, .inr (8, [.int lw, .int 0, .int ct, .int vr, .ref a1, .ref a2, .ref a3, .ref a4]))] sz) := by
  refine Met.ofW (cc := cX10_machine) (maxL := 4) (ret := (some .int)) (by decide) rfl ?_
  intro p e s m args below meth c s₁ B hml hv
  obtain ⟨rfl, hsz, hP, hK, hD0⟩ := hv
  have hx := B.exec
  have hb := B.bytes
  have hr := B.returns
  have hts := atoms_spec (ws := wsX10_machine) B.pre
  have hown : s.vm.findClass RX10 = some m.cls := findClass_of_methodNamed B.named
  have hlocks := B.notSynchronized
  subst hsz
  have hD := hD0.self (sz := s.heap.size)
  generalize hAe : va_A [(h0, .inr (10, [.ref tp, .ref rd, .ref tb, .ref rg, .ref bl, .ref pa, .ref fm, .ref te, .ref hi, .ref fr, .int fd, .int rf, .int lf, .int fp])), (tb, .inr (8, [.int lw, .int 0, .int ct, .int vr, .ref a1, .ref a2, .ref a3, .ref a4]))] s.heap.size = A at hD ⊢
  have hA : ∀ q : Nat, s.heap.size ≤ q → A q := fun q h => by rw [← hAe]; exact Or.inr h
  have hS : va_S A s.heap s.heap [] := va_S.rf
  have hP : va_P (dC, dI) vwCl [(h0, .inr (10, [.ref tp, .ref rd, .ref tb, .ref rg, .ref bl, .ref pa, .ref fm, .ref te, .ref hi, .ref fr, .int fd, .int rf, .int lf, .int fp])), (tb, .inr (8, [.int lw, .int 0, .int ct, .int vr, .ref a1, .ref a2, .ref a3, .ref a4]))] s.heap := hP
  have hl := lv_entry ([.ref h0, .int p0, .int p1, .int p2]) (n := 4) (Nat.le_of_ble_eq_true rfl)
  rw [lg_entry_eq]
  generalize (lg_sl ([.ref h0, .int p0, .int p1, .int p2]) ++ List.replicate (4 - (lg_sl ([.ref h0, .int p0, .int p1, .int p2])).length) Slot.unset).toArray = ls at hl ⊢
  have hl : lv_has ls 4 [(0, .ref h0), (1, .int p0), (2, .int p1), (3, .int p2)] := hl
  refine lv_iload_n hx hb dX10_machine_0 rfl (lv_at hl 1 rfl) ?_
  refine lv_if_lt (tgt := 20) hx hb dX10_machine_1 (by decide) (fun c_1 => ?_) (fun c_1 => ?_)
  · refine lv_aload_n hx hb dX10_machine_20 rfl (lv_at hl 0 rfl) ?_
    refine lv_iconst (v := 1) hx hb dX10_machine_21 (by decide) ?_
    have hPc := hP.sub (ws' := [(h0, .inr (10, [.ref tp, .ref rd, .ref tb, .ref rg, .ref bl, .ref pa, .ref fm, .ref te, .ref hi, .ref fr, .int fd, .int rf, .int lf, .int fp]))]) [0] rfl
    have hDc := hD.sub (ws' := [(h0, .inr (10, [.ref tp, .ref rd, .ref tb, .ref rg, .ref bl, .ref pa, .ref fm, .ref te, .ref hi, .ref fr, .int fd, .int rf, .int lf, .int fp]))]) [0] (by decide) rfl
    have hKc := hK.sub (tys' := []) [] rfl
    have hFc := va_free (wc := [(h0, .inr (10, [.ref tp, .ref rd, .ref tb, .ref rg, .ref bl, .ref pa, .ref fm, .ref te, .ref hi, .ref fr, .int fd, .int rf, .int lf, .int fp]))]) hD hS hA [0] rfl
    refine va_calli (va_runV (As := [.int 1]) (rest := []) ⟨hx, hb, hml, hown, hts⟩ (c_refused l dC dI s.heap.size h0 tp rd tb rg bl pa fm te hi fr fd rf lf fp 1) (cwV 1 hts gX10_machine_X10_refused rfl rfl rfl (by decide +kernel) ⟨Nat.le_of_ble_eq_true rfl, Nat.le_of_ble_eq_true rfl⟩) ⟨fun a U g mk q => by obtain ⟨q0, q1, qP, qK, qD⟩ := q; exact ⟨q0, q1, qP, va_K.moved (u := U) (U := U.calling g mk a) (Vm.Alike.refl U.vm) qK, qD⟩, va_recv hKc hPc (ci := 10) (q0 := 0) rfl rfl, fun U hU hW => ⟨rfl, by rw [hU], by rw [hU]; exact hPc, va_K.moved hW.alike hKc, hDc.weaken (fun _ _ _ _ => trivial)⟩⟩ rfl rfl hl.1 rfl (lv_room (Nat.le_of_ble_eq_true rfl)) dX10_machine_22 ⟨Nat.le_of_ble_eq_true rfl, Nat.le_of_ble_eq_true rfl⟩) hS (fun q _ h => hFc q h) hFc (fun r_2 u t H1 locs ht hvm hw hB hz1 hk1 hS => ?_)
    obtain ⟨hP1, hK1, hD1⟩ := hB
    rw [ht] at hP1
    have hK1 := va_K.moved hvm.symm hK1
    try dsimp only at hw
    obtain ⟨hP, hD⟩ := va_join (wr := [(tb, .inr (8, [.int lw, .int 0, .int ct, .int vr, .ref a1, .ref a2, .ref a3, .ref a4]))]) (w1 := [(h0, .inr (10, [.ref tp, .ref rd, .ref tb, .ref rg, .ref bl, .ref pa, .ref fm, .ref te, .ref hi, .ref fr, .int fd, .int 1, .int lf, .int fp]))]) hP hD [0] [1] rfl rfl (by decide) (by decide) hk1 hFc hP1 hD1
    have hK := (hK.sub (tys' := []) [] rfl).app hK1
    generalize H1 = H at hP hS ⊢
    have hP : va_P (dC, dI) vwCl [(tb, .inr (8, [.int lw, .int 0, .int ct, .int vr, .ref a1, .ref a2, .ref a3, .ref a4])), (h0, .inr (10, [.ref tp, .ref rd, .ref tb, .ref rg, .ref bl, .ref pa, .ref fm, .ref te, .ref hi, .ref fr, .int fd, .int 1, .int lf, .int fp]))] H := hP
    have hD : va_D A [(tb, .inr (8, [.int lw, .int 0, .int ct, .int vr, .ref a1, .ref a2, .ref a3, .ref a4])), (h0, .inr (10, [.ref tp, .ref rd, .ref tb, .ref rg, .ref bl, .ref pa, .ref fm, .ref te, .ref hi, .ref fr, .int fd, .int 1, .int lf, .int fp]))] := hD
    have hK : va_K (dC, dI) vwCl [] s := hK
    refine W.widen (k := 0) (n := 0) (by omega) (by omega) ?_
    have er_2 : r_2 = (-1) := hw
    subst er_2
    have hP9 := hP.sub (ws' := [(h0, .inr (10, [.ref tp, .ref rd, .ref tb, .ref rg, .ref bl, .ref pa, .ref fm, .ref te, .ref hi, .ref fr, .int fd, .int 1, .int lf, .int fp])), (tb, .inr (8, [.int lw, .int 0, .int ct, .int vr, .ref a1, .ref a2, .ref a3, .ref a4]))]) [1, 0] rfl
    have hD9 := hD.sub (ws' := [(h0, .inr (10, [.ref tp, .ref rd, .ref tb, .ref rg, .ref bl, .ref pa, .ref fm, .ref te, .ref hi, .ref fr, .int fd, .int 1, .int lf, .int fp])), (tb, .inr (8, [.int lw, .int 0, .int ct, .int vr, .ref a1, .ref a2, .ref a3, .ref a4]))]) [1, 0] (by decide) rfl
    have hK9 := hK.sub (tys' := []) [] rfl
    refine W.widen (k := 0) (n := 0) (Nat.le_of_ble_eq_true rfl) (Nat.le_of_ble_eq_true rfl) ?_
    exact W.iret (v := (-1)) hx hb hr (fun t ht hW => ⟨⟨(-1), (), rfl, rfl, by rw [ht]; exact hP9, va_K.moved hW.alike hK9, hD9⟩, hS.F ht⟩) hS.2.2 dX10_machine_25
  · refine lv_iload_n hx hb dX10_machine_4 rfl (lv_at hl 1 rfl) ?_
    refine lv_iconst (v := 3) hx hb dX10_machine_5 (by decide) ?_
    refine lv_icmp_ge (tgt := 20) hx hb dX10_machine_6 (by decide) (fun c_3 => ?_) (fun c_3 => ?_)
    · refine lv_aload_n hx hb dX10_machine_20 rfl (lv_at hl 0 rfl) ?_
      refine lv_iconst (v := 1) hx hb dX10_machine_21 (by decide) ?_
      have hPc := hP.sub (ws' := [(h0, .inr (10, [.ref tp, .ref rd, .ref tb, .ref rg, .ref bl, .ref pa, .ref fm, .ref te, .ref hi, .ref fr, .int fd, .int rf, .int lf, .int fp]))]) [0] rfl
      have hDc := hD.sub (ws' := [(h0, .inr (10, [.ref tp, .ref rd, .ref tb, .ref rg, .ref bl, .ref pa, .ref fm, .ref te, .ref hi, .ref fr, .int fd, .int rf, .int lf, .int fp]))]) [0] (by decide) rfl
      have hKc := hK.sub (tys' := []) [] rfl
      have hFc := va_free (wc := [(h0, .inr (10, [.ref tp, .ref rd, .ref tb, .ref rg, .ref bl, .ref pa, .ref fm, .ref te, .ref hi, .ref fr, .int fd, .int rf, .int lf, .int fp]))]) hD hS hA [0] rfl
      refine va_calli (va_runV (As := [.int 1]) (rest := []) ⟨hx, hb, hml, hown, hts⟩ (c_refused l dC dI s.heap.size h0 tp rd tb rg bl pa fm te hi fr fd rf lf fp 1) (cwV 1 hts gX10_machine_X10_refused rfl rfl rfl (by decide +kernel) ⟨Nat.le_of_ble_eq_true rfl, Nat.le_of_ble_eq_true rfl⟩) ⟨fun a U g mk q => by obtain ⟨q0, q1, qP, qK, qD⟩ := q; exact ⟨q0, q1, qP, va_K.moved (u := U) (U := U.calling g mk a) (Vm.Alike.refl U.vm) qK, qD⟩, va_recv hKc hPc (ci := 10) (q0 := 0) rfl rfl, fun U hU hW => ⟨rfl, by rw [hU], by rw [hU]; exact hPc, va_K.moved hW.alike hKc, hDc.weaken (fun _ _ _ _ => trivial)⟩⟩ rfl rfl hl.1 rfl (lv_room (Nat.le_of_ble_eq_true rfl)) dX10_machine_22 ⟨Nat.le_of_ble_eq_true rfl, Nat.le_of_ble_eq_true rfl⟩) hS (fun q _ h => hFc q h) hFc (fun r_4 u t H1 locs ht hvm hw hB hz1 hk1 hS => ?_)
      obtain ⟨hP1, hK1, hD1⟩ := hB
      rw [ht] at hP1
      have hK1 := va_K.moved hvm.symm hK1
      try dsimp only at hw
      obtain ⟨hP, hD⟩ := va_join (wr := [(tb, .inr (8, [.int lw, .int 0, .int ct, .int vr, .ref a1, .ref a2, .ref a3, .ref a4]))]) (w1 := [(h0, .inr (10, [.ref tp, .ref rd, .ref tb, .ref rg, .ref bl, .ref pa, .ref fm, .ref te, .ref hi, .ref fr, .int fd, .int 1, .int lf, .int fp]))]) hP hD [0] [1] rfl rfl (by decide) (by decide) hk1 hFc hP1 hD1
      have hK := (hK.sub (tys' := []) [] rfl).app hK1
      generalize H1 = H at hP hS ⊢
      have hP : va_P (dC, dI) vwCl [(tb, .inr (8, [.int lw, .int 0, .int ct, .int vr, .ref a1, .ref a2, .ref a3, .ref a4])), (h0, .inr (10, [.ref tp, .ref rd, .ref tb, .ref rg, .ref bl, .ref pa, .ref fm, .ref te, .ref hi, .ref fr, .int fd, .int 1, .int lf, .int fp]))] H := hP
      have hD : va_D A [(tb, .inr (8, [.int lw, .int 0, .int ct, .int vr, .ref a1, .ref a2, .ref a3, .ref a4])), (h0, .inr (10, [.ref tp, .ref rd, .ref tb, .ref rg, .ref bl, .ref pa, .ref fm, .ref te, .ref hi, .ref fr, .int fd, .int 1, .int lf, .int fp]))] := hD
      have hK : va_K (dC, dI) vwCl [] s := hK
      refine W.widen (k := 0) (n := 0) (by omega) (by omega) ?_
      have er_4 : r_4 = (-1) := hw
      subst er_4
      have hP9 := hP.sub (ws' := [(h0, .inr (10, [.ref tp, .ref rd, .ref tb, .ref rg, .ref bl, .ref pa, .ref fm, .ref te, .ref hi, .ref fr, .int fd, .int 1, .int lf, .int fp])), (tb, .inr (8, [.int lw, .int 0, .int ct, .int vr, .ref a1, .ref a2, .ref a3, .ref a4]))]) [1, 0] rfl
      have hD9 := hD.sub (ws' := [(h0, .inr (10, [.ref tp, .ref rd, .ref tb, .ref rg, .ref bl, .ref pa, .ref fm, .ref te, .ref hi, .ref fr, .int fd, .int 1, .int lf, .int fp])), (tb, .inr (8, [.int lw, .int 0, .int ct, .int vr, .ref a1, .ref a2, .ref a3, .ref a4]))]) [1, 0] (by decide) rfl
      have hK9 := hK.sub (tys' := []) [] rfl
      refine W.widen (k := 0) (n := 0) (Nat.le_of_ble_eq_true rfl) (Nat.le_of_ble_eq_true rfl) ?_
      exact W.iret (v := (-1)) hx hb hr (fun t ht hW => ⟨⟨(-1), (), rfl, rfl, by rw [ht]; exact hP9, va_K.moved hW.alike hK9, hD9⟩, hS.F ht⟩) hS.2.2 dX10_machine_25
    · refine lv_aload_n hx hb dX10_machine_9 rfl (lv_at hl 0 rfl) ?_
      refine va_get (D := (dC, dI)) (ci := 10) (v := .ref tb) (C := RX10) (T := TX10) (N := 14) hx hb hts iw_X10_machine_X10_c_machine_0 hown hK hP 0 rfl rfl 2 (by decide) (hts (.fieldLink RX10 25 "NotAtOnce" "table" "LNotAtOnce$Table;") (by decide +kernel)) (fun _ h9 => h9) rfl dX10_machine_10 ?_
      refine lv_iload_n hx hb dX10_machine_13 rfl (lv_at hl 2 rfl) ?_
      have hPc := hP.sub (ws' := [(tb, .inr (8, [.int lw, .int 0, .int ct, .int vr, .ref a1, .ref a2, .ref a3, .ref a4]))]) [1] rfl
      have hDc := hD.sub (ws' := [(tb, .inr (8, [.int lw, .int 0, .int ct, .int vr, .ref a1, .ref a2, .ref a3, .ref a4]))]) [1] (by decide) rfl
      have hKc := hK.sub (tys' := []) [] rfl
      have hFc := va_free (wc := [(tb, .inr (8, [.int lw, .int 0, .int ct, .int vr, .ref a1, .ref a2, .ref a3, .ref a4]))]) hD hS hA [1] rfl
      refine va_calli (va_runV (As := [.int p1]) (rest := []) ⟨hx, hb, hml, hown, hts⟩ (c_hasLook_0 l dC dI s.heap.size tb lw ct vr a1 a2 a3 a4 p1) (cwV 1 hts gX10_machine_X8_hasLook rfl rfl rfl (by decide +kernel) ⟨Nat.le_of_ble_eq_true rfl, Nat.le_of_ble_eq_true rfl⟩) ⟨fun a U g mk q => by obtain ⟨q0, q1, qP, qK, qD⟩ := q; exact ⟨q0, q1, qP, va_K.moved (u := U) (U := U.calling g mk a) (Vm.Alike.refl U.vm) qK, qD⟩, va_recv hKc hPc (ci := 8) (q0 := 0) rfl rfl, fun U hU hW => ⟨rfl, by rw [hU], by rw [hU]; exact hPc, va_K.moved hW.alike hKc, hDc.weaken (fun _ _ _ _ => trivial)⟩⟩ rfl rfl hl.1 rfl (lv_room (Nat.le_of_ble_eq_true rfl)) dX10_machine_14 ⟨Nat.le_of_ble_eq_true rfl, Nat.le_of_ble_eq_true rfl⟩) hS (fun q _ h => hFc q h) hFc (fun r_5 u t H1 locs ht hvm hw hB hz1 hk1 hS => ?_)
      obtain ⟨hP1, hK1, hD1⟩ := hB
      rw [ht] at hP1
      have hK1 := va_K.moved hvm.symm hK1
      try dsimp only at hw
      obtain ⟨hP, hD⟩ := va_join (wr := [(h0, .inr (10, [.ref tp, .ref rd, .ref tb, .ref rg, .ref bl, .ref pa, .ref fm, .ref te, .ref hi, .ref fr, .int fd, .int rf, .int lf, .int fp]))]) (w1 := [(tb, .inr (8, [.int lw, .int 0, .int ct, .int vr, .ref a1, .ref a2, .ref a3, .ref a4]))]) hP hD [1] [0] rfl rfl (by decide) (by decide) hk1 hFc hP1 hD1
      have hK := (hK.sub (tys' := []) [] rfl).app hK1
      generalize H1 = H at hP hS ⊢
      have hP : va_P (dC, dI) vwCl [(h0, .inr (10, [.ref tp, .ref rd, .ref tb, .ref rg, .ref bl, .ref pa, .ref fm, .ref te, .ref hi, .ref fr, .int fd, .int rf, .int lf, .int fp])), (tb, .inr (8, [.int lw, .int 0, .int ct, .int vr, .ref a1, .ref a2, .ref a3, .ref a4]))] H := hP
      have hD : va_D A [(h0, .inr (10, [.ref tp, .ref rd, .ref tb, .ref rg, .ref bl, .ref pa, .ref fm, .ref te, .ref hi, .ref fr, .int fd, .int rf, .int lf, .int fp])), (tb, .inr (8, [.int lw, .int 0, .int ct, .int vr, .ref a1, .ref a2, .ref a3, .ref a4]))] := hD
      have hK : va_K (dC, dI) vwCl [] s := hK
      refine W.widen (k := 0) (n := 0) (by omega) (by omega) ?_
      have er_5 : r_5 = 0 := hw
      subst er_5
      refine lv_if_ne (tgt := 26) hx hb dX10_machine_17 (by decide) (fun c_6 => absurd c_6 (by decide)) (fun c_6 => ?_)
      refine lv_aload_n hx hb dX10_machine_20 rfl (lv_at hl 0 rfl) ?_
      refine lv_iconst (v := 1) hx hb dX10_machine_21 (by decide) ?_
      have hPc := hP.sub (ws' := [(h0, .inr (10, [.ref tp, .ref rd, .ref tb, .ref rg, .ref bl, .ref pa, .ref fm, .ref te, .ref hi, .ref fr, .int fd, .int rf, .int lf, .int fp]))]) [0] rfl
      have hDc := hD.sub (ws' := [(h0, .inr (10, [.ref tp, .ref rd, .ref tb, .ref rg, .ref bl, .ref pa, .ref fm, .ref te, .ref hi, .ref fr, .int fd, .int rf, .int lf, .int fp]))]) [0] (by decide) rfl
      have hKc := hK.sub (tys' := []) [] rfl
      have hFc := va_free (wc := [(h0, .inr (10, [.ref tp, .ref rd, .ref tb, .ref rg, .ref bl, .ref pa, .ref fm, .ref te, .ref hi, .ref fr, .int fd, .int rf, .int lf, .int fp]))]) hD hS hA [0] rfl
      refine va_calli (va_runV (As := [.int 1]) (rest := []) ⟨hx, hb, hml, hown, hts⟩ (c_refused l dC dI H.size h0 tp rd tb rg bl pa fm te hi fr fd rf lf fp 1) (cwV 1 hts gX10_machine_X10_refused rfl rfl rfl (by decide +kernel) ⟨Nat.le_of_ble_eq_true rfl, Nat.le_of_ble_eq_true rfl⟩) ⟨fun a U g mk q => by obtain ⟨q0, q1, qP, qK, qD⟩ := q; exact ⟨q0, q1, qP, va_K.moved (u := U) (U := U.calling g mk a) (Vm.Alike.refl U.vm) qK, qD⟩, va_recv hKc hPc (ci := 10) (q0 := 0) rfl rfl, fun U hU hW => ⟨rfl, by rw [hU], by rw [hU]; exact hPc, va_K.moved hW.alike hKc, hDc.weaken (fun _ _ _ _ => trivial)⟩⟩ rfl rfl hl.1 rfl (lv_room (Nat.le_of_ble_eq_true rfl)) dX10_machine_22 ⟨Nat.le_of_ble_eq_true rfl, Nat.le_of_ble_eq_true rfl⟩) hS (fun q _ h => hFc q h) hFc (fun r_7 u t H1 locs ht hvm hw hB hz1 hk1 hS => ?_)
      obtain ⟨hP1, hK1, hD1⟩ := hB
      rw [ht] at hP1
      have hK1 := va_K.moved hvm.symm hK1
      try dsimp only at hw
      obtain ⟨hP, hD⟩ := va_join (wr := [(tb, .inr (8, [.int lw, .int 0, .int ct, .int vr, .ref a1, .ref a2, .ref a3, .ref a4]))]) (w1 := [(h0, .inr (10, [.ref tp, .ref rd, .ref tb, .ref rg, .ref bl, .ref pa, .ref fm, .ref te, .ref hi, .ref fr, .int fd, .int 1, .int lf, .int fp]))]) hP hD [0] [1] rfl rfl (by decide) (by decide) hk1 hFc hP1 hD1
      have hK := (hK.sub (tys' := []) [] rfl).app hK1
      generalize H1 = H at hP hS ⊢
      have hP : va_P (dC, dI) vwCl [(tb, .inr (8, [.int lw, .int 0, .int ct, .int vr, .ref a1, .ref a2, .ref a3, .ref a4])), (h0, .inr (10, [.ref tp, .ref rd, .ref tb, .ref rg, .ref bl, .ref pa, .ref fm, .ref te, .ref hi, .ref fr, .int fd, .int 1, .int lf, .int fp]))] H := hP
      have hD : va_D A [(tb, .inr (8, [.int lw, .int 0, .int ct, .int vr, .ref a1, .ref a2, .ref a3, .ref a4])), (h0, .inr (10, [.ref tp, .ref rd, .ref tb, .ref rg, .ref bl, .ref pa, .ref fm, .ref te, .ref hi, .ref fr, .int fd, .int 1, .int lf, .int fp]))] := hD
      have hK : va_K (dC, dI) vwCl [] s := hK
      refine W.widen (k := 0) (n := 0) (by omega) (by omega) ?_
      have er_7 : r_7 = (-1) := hw
      subst er_7
      have hP9 := hP.sub (ws' := [(h0, .inr (10, [.ref tp, .ref rd, .ref tb, .ref rg, .ref bl, .ref pa, .ref fm, .ref te, .ref hi, .ref fr, .int fd, .int 1, .int lf, .int fp])), (tb, .inr (8, [.int lw, .int 0, .int ct, .int vr, .ref a1, .ref a2, .ref a3, .ref a4]))]) [1, 0] rfl
      have hD9 := hD.sub (ws' := [(h0, .inr (10, [.ref tp, .ref rd, .ref tb, .ref rg, .ref bl, .ref pa, .ref fm, .ref te, .ref hi, .ref fr, .int fd, .int 1, .int lf, .int fp])), (tb, .inr (8, [.int lw, .int 0, .int ct, .int vr, .ref a1, .ref a2, .ref a3, .ref a4]))]) [1, 0] (by decide) rfl
      have hK9 := hK.sub (tys' := []) [] rfl
      refine W.widen (k := 0) (n := 0) (Nat.le_of_ble_eq_true rfl) (Nat.le_of_ble_eq_true rfl) ?_
      exact W.iret (v := (-1)) hx hb hr (fun t ht hW => ⟨⟨(-1), (), rfl, rfl, by rw [ht]; exact hP9, va_K.moved hW.alike hK9, hD9⟩, hS.F ht⟩) hS.2.2 dX10_machine_25

set_option maxRecDepth 20000 in
theorem iw_X10_flip_X10_c_flip_0 : ∀ w ∈ wsX100, w ∈ wsX10_flip := by decide +kernel
set_option maxHeartbeats 4000000 in
set_option maxRecDepth 100000 in
/-- flip where there is none such -/
theorem c_flip_0 (l : Launch) (dC : Nat → ClassId) (dI : Nat → Nat → Nat) (sz : Nat) (h0 : Nat) (tp : Nat) (rd : Nat) (tb : Nat) (rg : Nat) (bl : Nat) (pa : Nat) (fm : Nat) (te : Nat) (hi : Nat) (fr : Nat) (fd : Int32) (rf : Int32) (lf : Int32) (fp : Int32) (lw : Int32) (ct : Int32) (vr : Int32) (a1 : Nat) (a2 : Nat) (a3 : Nat) (a4 : Nat) (p0 : Int32)  : Met l yX10_flip wsX10_flip ({ frames := 1, cells := 0, slots := 0, locals := 21 }) (va_Pc [.ref h0, .int p0] (fun U => U.heap.size = sz ∧ va_P (dC, dI) vwCl [(h0, .inr (10, [.ref tp, .ref rd, .ref tb, .ref rg, .ref bl, .ref pa, .ref fm, .ref te, .ref hi, .ref fr, .int fd, .int rf, .int lf, .int fp])), (tb, .inr (8, [.int lw, .int 0, .int ct, .int vr, .ref a1, .ref a2, .ref a3, .ref a4]))] U.heap ∧ va_K (dC, dI) vwCl [] U ∧ va_D (fun _ => True) [(h0, .inr (10, [.ref tp, .ref rd, .ref tb, .ref rg, .ref bl, .ref pa, .ref fm, .ref te, .ref hi, .ref fr, .int fd, .int rf, .int lf, .int fp])), (tb, .inr (8, [.int lw, .int 0, .int ct, .int vr, .ref a1, .ref a2, .ref a3, .ref a4]))])) (va_Qi (fun (r : Int32) (_ : Unit) => r = 0) (fun _ t => va_P (dC, dI) vwCl [(h0, .inr (10, [.ref tp, .ref rd, .ref tb, .ref rg, .ref bl, .ref pa, .ref fm, .ref te, .ref hi, .ref fr, .int fd, .int 1, .int lf, .int fp])), (tb, .inr (8, [.int lw, .int 0, .int ct, .int vr, .ref a1, .ref a2, .ref a3, .ref a4]))] t.heap ∧ va_K (dC, dI) vwCl [] t ∧ va_D (va_A [(h0, .inr (10, [.ref tp, .ref rd, .ref tb, .ref rg, .ref bl, .ref pa, .ref fm, .ref te, .ref hi, .ref fr, .int fd, .int rf, .int lf, .int fp])), (tb, .inr (8, [.int lw, .int 0, .int ct, .int vr, .ref a1, .ref a2, .ref a3, .ref a4]))] sz) [(h0, .inr (10, [.ref tp, .ref rd, .ref tb, .ref rg, .ref bl, .ref pa, .ref fm, .ref te, .ref hi, .ref fr, .int fd, .int 1, .int lf, .int fp])), (tb, .inr (8, [.int lw, .int 0, .int ct, .int vr, .ref a1, .ref a2, .ref a3, .ref a4]))]) (va_A [(h0, .inr (10, [.ref tp, .ref rd, .ref tb, .ref rg, .ref bl, .ref pa, .ref fm, .ref te, .ref hi, .ref fr, .int fd, .int rf, .int lf, .int fp])), (tb, .inr (8, [.int lw, .int 0, .int ct, .int vr, .ref a1, .ref a2, .ref a3, .ref a4]))] sz)) 0 0 (va_A [(h0, .inr (10, [.ref tp, .ref rd, .ref tb, .ref rg, .ref bl, .ref pa, .ref fm, .ref te, .ref hi, .ref fr, .int fd, .int rf, .int lf, .int fp])), (tb, .inr (8, [.int lw, .int 0, .int ct, .int vr, .ref a1, .ref a2, .ref a3, .ref a4]))] sz) := by
  refine Met.ofW (cc := cX10_flip) (maxL := 2) (ret := (some .boolean)) (by decide) rfl ?_
  intro p e s m args below meth c s₁ B hml hv
  obtain ⟨rfl, hsz, hP, hK, hD0⟩ := hv
  have hx := B.exec
  have hb := B.bytes
  have hr := B.returns
  have hts := atoms_spec (ws := wsX10_flip) B.pre
  have hown : s.vm.findClass RX10 = some m.cls := findClass_of_methodNamed B.named
  have hlocks := B.notSynchronized
  subst hsz
  have hD := hD0.self (sz := s.heap.size)
  generalize hAe : va_A [(h0, .inr (10, [.ref tp, .ref rd, .ref tb, .ref rg, .ref bl, .ref pa, .ref fm, .ref te, .ref hi, .ref fr, .int fd, .int rf, .int lf, .int fp])), (tb, .inr (8, [.int lw, .int 0, .int ct, .int vr, .ref a1, .ref a2, .ref a3, .ref a4]))] s.heap.size = A at hD ⊢
  have hA : ∀ q : Nat, s.heap.size ≤ q → A q := fun q h => by rw [← hAe]; exact Or.inr h
  have hS : va_S A s.heap s.heap [] := va_S.rf
  have hP : va_P (dC, dI) vwCl [(h0, .inr (10, [.ref tp, .ref rd, .ref tb, .ref rg, .ref bl, .ref pa, .ref fm, .ref te, .ref hi, .ref fr, .int fd, .int rf, .int lf, .int fp])), (tb, .inr (8, [.int lw, .int 0, .int ct, .int vr, .ref a1, .ref a2, .ref a3, .ref a4]))] s.heap := hP
  have hl := lv_entry ([.ref h0, .int p0]) (n := 2) (Nat.le_of_ble_eq_true rfl)
  rw [lg_entry_eq]
  generalize (lg_sl ([.ref h0, .int p0]) ++ List.replicate (2 - (lg_sl ([.ref h0, .int p0])).length) Slot.unset).toArray = ls at hl ⊢
  have hl : lv_has ls 2 [(0, .ref h0), (1, .int p0)] := hl
  refine lv_aload_n hx hb dX10_flip_0 rfl (lv_at hl 0 rfl) ?_
  refine va_get (D := (dC, dI)) (ci := 10) (v := .ref tb) (C := RX10) (T := TX10) (N := 14) hx hb hts iw_X10_flip_X10_c_flip_0 hown hK hP 0 rfl rfl 2 (by decide) (hts (.fieldLink RX10 25 "NotAtOnce" "table" "LNotAtOnce$Table;") (by decide +kernel)) (fun _ h9 => h9) rfl dX10_flip_1 ?_
  refine lv_iload_n hx hb dX10_flip_4 rfl (lv_at hl 1 rfl) ?_
  have hPc := hP.sub (ws' := [(tb, .inr (8, [.int lw, .int 0, .int ct, .int vr, .ref a1, .ref a2, .ref a3, .ref a4]))]) [1] rfl
  have hDc := hD.sub (ws' := [(tb, .inr (8, [.int lw, .int 0, .int ct, .int vr, .ref a1, .ref a2, .ref a3, .ref a4]))]) [1] (by decide) rfl
  have hKc := hK.sub (tys' := []) [] rfl
  have hFc := va_free (wc := [(tb, .inr (8, [.int lw, .int 0, .int ct, .int vr, .ref a1, .ref a2, .ref a3, .ref a4]))]) hD hS hA [1] rfl
  refine va_calli (va_runV (As := [.int p0]) (rest := []) ⟨hx, hb, hml, hown, hts⟩ (c_hasLook_0 l dC dI s.heap.size tb lw ct vr a1 a2 a3 a4 p0) (cwV 1 hts gX10_flip_X8_hasLook rfl rfl rfl (by decide +kernel) ⟨Nat.le_of_ble_eq_true rfl, Nat.le_of_ble_eq_true rfl⟩) ⟨fun a U g mk q => by obtain ⟨q0, q1, qP, qK, qD⟩ := q; exact ⟨q0, q1, qP, va_K.moved (u := U) (U := U.calling g mk a) (Vm.Alike.refl U.vm) qK, qD⟩, va_recv hKc hPc (ci := 8) (q0 := 0) rfl rfl, fun U hU hW => ⟨rfl, by rw [hU], by rw [hU]; exact hPc, va_K.moved hW.alike hKc, hDc.weaken (fun _ _ _ _ => trivial)⟩⟩ rfl rfl hl.1 rfl (lv_room (Nat.le_of_ble_eq_true rfl)) dX10_flip_5 ⟨Nat.le_of_ble_eq_true rfl, Nat.le_of_ble_eq_true rfl⟩) hS (fun q _ h => hFc q h) hFc (fun r_1 u t H1 locs ht hvm hw hB hz1 hk1 hS => ?_)
  obtain ⟨hP1, hK1, hD1⟩ := hB
  rw [ht] at hP1
  have hK1 := va_K.moved hvm.symm hK1
  try dsimp only at hw
  obtain ⟨hP, hD⟩ := va_join (wr := [(h0, .inr (10, [.ref tp, .ref rd, .ref tb, .ref rg, .ref bl, .ref pa, .ref fm, .ref te, .ref hi, .ref fr, .int fd, .int rf, .int lf, .int fp]))]) (w1 := [(tb, .inr (8, [.int lw, .int 0, .int ct, .int vr, .ref a1, .ref a2, .ref a3, .ref a4]))]) hP hD [1] [0] rfl rfl (by decide) (by decide) hk1 hFc hP1 hD1
  have hK := (hK.sub (tys' := []) [] rfl).app hK1
  generalize H1 = H at hP hS ⊢
  have hP : va_P (dC, dI) vwCl [(h0, .inr (10, [.ref tp, .ref rd, .ref tb, .ref rg, .ref bl, .ref pa, .ref fm, .ref te, .ref hi, .ref fr, .int fd, .int rf, .int lf, .int fp])), (tb, .inr (8, [.int lw, .int 0, .int ct, .int vr, .ref a1, .ref a2, .ref a3, .ref a4]))] H := hP
  have hD : va_D A [(h0, .inr (10, [.ref tp, .ref rd, .ref tb, .ref rg, .ref bl, .ref pa, .ref fm, .ref te, .ref hi, .ref fr, .int fd, .int rf, .int lf, .int fp])), (tb, .inr (8, [.int lw, .int 0, .int ct, .int vr, .ref a1, .ref a2, .ref a3, .ref a4]))] := hD
  have hK : va_K (dC, dI) vwCl [] s := hK
  refine W.widen (k := 0) (n := 0) (by omega) (by omega) ?_
  have er_1 : r_1 = 0 := hw
  subst er_1
  refine lv_if_ne (tgt := 17) hx hb dX10_flip_8 (by decide) (fun c_2 => absurd c_2 (by decide)) (fun c_2 => ?_)
  refine lv_aload_n hx hb dX10_flip_11 rfl (lv_at hl 0 rfl) ?_
  refine lv_iconst (v := 1) hx hb dX10_flip_12 (by decide) ?_
  have hPc := hP.sub (ws' := [(h0, .inr (10, [.ref tp, .ref rd, .ref tb, .ref rg, .ref bl, .ref pa, .ref fm, .ref te, .ref hi, .ref fr, .int fd, .int rf, .int lf, .int fp]))]) [0] rfl
  have hDc := hD.sub (ws' := [(h0, .inr (10, [.ref tp, .ref rd, .ref tb, .ref rg, .ref bl, .ref pa, .ref fm, .ref te, .ref hi, .ref fr, .int fd, .int rf, .int lf, .int fp]))]) [0] (by decide) rfl
  have hKc := hK.sub (tys' := []) [] rfl
  have hFc := va_free (wc := [(h0, .inr (10, [.ref tp, .ref rd, .ref tb, .ref rg, .ref bl, .ref pa, .ref fm, .ref te, .ref hi, .ref fr, .int fd, .int rf, .int lf, .int fp]))]) hD hS hA [0] rfl
  refine va_calli (va_runV (As := [.int 1]) (rest := []) ⟨hx, hb, hml, hown, hts⟩ (c_denied l dC dI H.size h0 tp rd tb rg bl pa fm te hi fr fd rf lf fp 1) (cwV 1 hts gX10_flip_X10_denied rfl rfl rfl (by decide +kernel) ⟨Nat.le_of_ble_eq_true rfl, Nat.le_of_ble_eq_true rfl⟩) ⟨fun a U g mk q => by obtain ⟨q0, q1, qP, qK, qD⟩ := q; exact ⟨q0, q1, qP, va_K.moved (u := U) (U := U.calling g mk a) (Vm.Alike.refl U.vm) qK, qD⟩, va_recv hKc hPc (ci := 10) (q0 := 0) rfl rfl, fun U hU hW => ⟨rfl, by rw [hU], by rw [hU]; exact hPc, va_K.moved hW.alike hKc, hDc.weaken (fun _ _ _ _ => trivial)⟩⟩ rfl rfl hl.1 rfl (lv_room (Nat.le_of_ble_eq_true rfl)) dX10_flip_13 ⟨Nat.le_of_ble_eq_true rfl, Nat.le_of_ble_eq_true rfl⟩) hS (fun q _ h => hFc q h) hFc (fun r_3 u t H1 locs ht hvm hw hB hz1 hk1 hS => ?_)
  obtain ⟨hP1, hK1, hD1⟩ := hB
  rw [ht] at hP1
  have hK1 := va_K.moved hvm.symm hK1
  try dsimp only at hw
  obtain ⟨hP, hD⟩ := va_join (wr := [(tb, .inr (8, [.int lw, .int 0, .int ct, .int vr, .ref a1, .ref a2, .ref a3, .ref a4]))]) (w1 := [(h0, .inr (10, [.ref tp, .ref rd, .ref tb, .ref rg, .ref bl, .ref pa, .ref fm, .ref te, .ref hi, .ref fr, .int fd, .int 1, .int lf, .int fp]))]) hP hD [0] [1] rfl rfl (by decide) (by decide) hk1 hFc hP1 hD1
  have hK := (hK.sub (tys' := []) [] rfl).app hK1
  generalize H1 = H at hP hS ⊢
  have hP : va_P (dC, dI) vwCl [(tb, .inr (8, [.int lw, .int 0, .int ct, .int vr, .ref a1, .ref a2, .ref a3, .ref a4])), (h0, .inr (10, [.ref tp, .ref rd, .ref tb, .ref rg, .ref bl, .ref pa, .ref fm, .ref te, .ref hi, .ref fr, .int fd, .int 1, .int lf, .int fp]))] H := hP
  have hD : va_D A [(tb, .inr (8, [.int lw, .int 0, .int ct, .int vr, .ref a1, .ref a2, .ref a3, .ref a4])), (h0, .inr (10, [.ref tp, .ref rd, .ref tb, .ref rg, .ref bl, .ref pa, .ref fm, .ref te, .ref hi, .ref fr, .int fd, .int 1, .int lf, .int fp]))] := hD
  have hK : va_K (dC, dI) vwCl [] s := hK
  refine W.widen (k := 0) (n := 0) (by omega) (by omega) ?_
  have er_3 : r_3 = 0 := hw
  subst er_3
  have hP9 := hP.sub (ws' := [(h0, .inr (10, [.ref tp, .ref rd, .ref tb, .ref rg, .ref bl, .ref pa, .ref fm, .ref te, .ref hi, .ref fr, .int fd, .int 1, .int lf, .int fp])), (tb, .inr (8, [.int lw, .int 0, .int ct, .int vr, .ref a1, .ref a2, .ref a3, .ref a4]))]) [1, 0] rfl
  have hD9 := hD.sub (ws' := [(h0, .inr (10, [.ref tp, .ref rd, .ref tb, .ref rg, .ref bl, .ref pa, .ref fm, .ref te, .ref hi, .ref fr, .int fd, .int 1, .int lf, .int fp])), (tb, .inr (8, [.int lw, .int 0, .int ct, .int vr, .ref a1, .ref a2, .ref a3, .ref a4]))]) [1, 0] (by decide) rfl
  have hK9 := hK.sub (tys' := []) [] rfl
  refine W.widen (k := 0) (n := 0) (Nat.le_of_ble_eq_true rfl) (Nat.le_of_ble_eq_true rfl) ?_
  exact W.zret (v := 0) (ty := .boolean) hx hb hr rfl (fun t ht hW => ⟨⟨0, (), rfl, rfl, by rw [ht]; exact hP9, va_K.moved hW.alike hK9, hD9⟩, hS.F ht⟩) hS.2.2 dX10_flip_16

set_option maxRecDepth 20000 in
theorem iw_X10_forget_X10_c_forget_0 : ∀ w ∈ wsX100, w ∈ wsX10_forget := by decide +kernel
set_option maxHeartbeats 4000000 in
set_option maxRecDepth 100000 in
/-- forget where there is none such -/
theorem c_forget_0 (l : Launch) (dC : Nat → ClassId) (dI : Nat → Nat → Nat) (sz : Nat) (h0 : Nat) (tp : Nat) (rd : Nat) (tb : Nat) (rg : Nat) (bl : Nat) (pa : Nat) (fm : Nat) (te : Nat) (hi : Nat) (fr : Nat) (fd : Int32) (rf : Int32) (lf : Int32) (fp : Int32) (lw : Int32) (ct : Int32) (vr : Int32) (a1 : Nat) (a2 : Nat) (a3 : Nat) (a4 : Nat) (p0 : Int32)  : Met l yX10_forget wsX10_forget ({ frames := 1, cells := 0, slots := 0, locals := 21 }) (va_Pc [.ref h0, .int p0] (fun U => U.heap.size = sz ∧ va_P (dC, dI) vwCl [(h0, .inr (10, [.ref tp, .ref rd, .ref tb, .ref rg, .ref bl, .ref pa, .ref fm, .ref te, .ref hi, .ref fr, .int fd, .int rf, .int lf, .int fp])), (tb, .inr (8, [.int lw, .int 0, .int ct, .int vr, .ref a1, .ref a2, .ref a3, .ref a4]))] U.heap ∧ va_K (dC, dI) vwCl [] U ∧ va_D (fun _ => True) [(h0, .inr (10, [.ref tp, .ref rd, .ref tb, .ref rg, .ref bl, .ref pa, .ref fm, .ref te, .ref hi, .ref fr, .int fd, .int rf, .int lf, .int fp])), (tb, .inr (8, [.int lw, .int 0, .int ct, .int vr, .ref a1, .ref a2, .ref a3, .ref a4]))])) (va_Qi (fun (r : Int32) (_ : Unit) => r = 0) (fun _ t => va_P (dC, dI) vwCl [(h0, .inr (10, [.ref tp, .ref rd, .ref tb, .ref rg, .ref bl, .ref pa, .ref fm, .ref te, .ref hi, .ref fr, .int fd, .int 1, .int lf, .int fp])), (tb, .inr (8, [.int lw, .int 0, .int ct, .int vr, .ref a1, .ref a2, .ref a3, .ref a4]))] t.heap ∧ va_K (dC, dI) vwCl [] t ∧ va_D (va_A [(h0, .inr (10, [.ref tp, .ref rd, .ref tb, .ref rg, .ref bl, .ref pa, .ref fm, .ref te, .ref hi, .ref fr, .int fd, .int rf, .int lf, .int fp])), (tb, .inr (8, [.int lw, .int 0, .int ct, .int vr, .ref a1, .ref a2, .ref a3, .ref a4]))] sz) [(h0, .inr (10, [.ref tp, .ref rd, .ref tb, .ref rg, .ref bl, .ref pa, .ref fm, .ref te, .ref hi, .ref fr, .int fd, .int 1, .int lf, .int fp])), (tb, .inr (8, [.int lw, .int 0, .int ct, .int vr, .ref a1, .ref a2, .ref a3, .ref a4]))]) (va_A [(h0, .inr (10, [.ref tp, .ref rd, .ref tb, .ref rg, .ref bl, .ref pa, .ref fm, .ref te, .ref hi, .ref fr, .int fd, .int rf, .int lf, .int fp])), (tb, .inr (8, [.int lw, .int 0, .int ct, .int vr, .ref a1, .ref a2, .ref a3, .ref a4]))] sz)) 0 0 (va_A [(h0, .inr (10, [.ref tp, .ref rd, .ref tb, .ref rg, .ref bl, .ref pa, .ref fm, .ref te, .ref hi, .ref fr, .int fd, .int rf, .int lf, .int fp])), (tb, .inr (8, [.int lw, .int 0, .int ct, .int vr, .ref a1, .ref a2, .ref a3, .ref a4]))] sz) := by
  refine Met.ofW (cc := cX10_forget) (maxL := 2) (ret := (some .boolean)) (by decide) rfl ?_
  intro p e s m args below meth c s₁ B hml hv
  obtain ⟨rfl, hsz, hP, hK, hD0⟩ := hv
  have hx := B.exec
  have hb := B.bytes
  have hr := B.returns
  have hts := atoms_spec (ws := wsX10_forget) B.pre
  have hown : s.vm.findClass RX10 = some m.cls := findClass_of_methodNamed B.named
  have hlocks := B.notSynchronized
  subst hsz
  have hD := hD0.self (sz := s.heap.size)
  generalize hAe : va_A [(h0, .inr (10, [.ref tp, .ref rd, .ref tb, .ref rg, .ref bl, .ref pa, .ref fm, .ref te, .ref hi, .ref fr, .int fd, .int rf, .int lf, .int fp])), (tb, .inr (8, [.int lw, .int 0, .int ct, .int vr, .ref a1, .ref a2, .ref a3, .ref a4]))] s.heap.size = A at hD ⊢
  have hA : ∀ q : Nat, s.heap.size ≤ q → A q := fun q h => by rw [← hAe]; exact Or.inr h
  have hS : va_S A s.heap s.heap [] := va_S.rf
  have hP : va_P (dC, dI) vwCl [(h0, .inr (10, [.ref tp, .ref rd, .ref tb, .ref rg, .ref bl, .ref pa, .ref fm, .ref te, .ref hi, .ref fr, .int fd, .int rf, .int lf, .int fp])), (tb, .inr (8, [.int lw, .int 0, .int ct, .int vr, .ref a1, .ref a2, .ref a3, .ref a4]))] s.heap := hP
  have hl := lv_entry ([.ref h0, .int p0]) (n := 2) (Nat.le_of_ble_eq_true rfl)
  rw [lg_entry_eq]
  generalize (lg_sl ([.ref h0, .int p0]) ++ List.replicate (2 - (lg_sl ([.ref h0, .int p0])).length) Slot.unset).toArray = ls at hl ⊢
  have hl : lv_has ls 2 [(0, .ref h0), (1, .int p0)] := hl
  refine lv_aload_n hx hb dX10_forget_0 rfl (lv_at hl 0 rfl) ?_
  refine va_get (D := (dC, dI)) (ci := 10) (v := .ref tb) (C := RX10) (T := TX10) (N := 14) hx hb hts iw_X10_forget_X10_c_forget_0 hown hK hP 0 rfl rfl 2 (by decide) (hts (.fieldLink RX10 25 "NotAtOnce" "table" "LNotAtOnce$Table;") (by decide +kernel)) (fun _ h9 => h9) rfl dX10_forget_1 ?_
  refine lv_iload_n hx hb dX10_forget_4 rfl (lv_at hl 1 rfl) ?_
  have hPc := hP.sub (ws' := [(tb, .inr (8, [.int lw, .int 0, .int ct, .int vr, .ref a1, .ref a2, .ref a3, .ref a4]))]) [1] rfl
  have hDc := hD.sub (ws' := [(tb, .inr (8, [.int lw, .int 0, .int ct, .int vr, .ref a1, .ref a2, .ref a3, .ref a4]))]) [1] (by decide) rfl
  have hKc := hK.sub (tys' := []) [] rfl
  have hFc := va_free (wc := [(tb, .inr (8, [.int lw, .int 0, .int ct, .int vr, .ref a1, .ref a2, .ref a3, .ref a4]))]) hD hS hA [1] rfl
  refine va_calli (va_runV (As := [.int p0]) (rest := []) ⟨hx, hb, hml, hown, hts⟩ (c_hasLook_0 l dC dI s.heap.size tb lw ct vr a1 a2 a3 a4 p0) (cwV 1 hts gX10_forget_X8_hasLook rfl rfl rfl (by decide +kernel) ⟨Nat.le_of_ble_eq_true rfl, Nat.le_of_ble_eq_true rfl⟩) ⟨fun a U g mk q => by obtain ⟨q0, q1, qP, qK, qD⟩ := q; exact ⟨q0, q1, qP, va_K.moved (u := U) (U := U.calling g mk a) (Vm.Alike.refl U.vm) qK, qD⟩, va_recv hKc hPc (ci := 8) (q0 := 0) rfl rfl, fun U hU hW => ⟨rfl, by rw [hU], by rw [hU]; exact hPc, va_K.moved hW.alike hKc, hDc.weaken (fun _ _ _ _ => trivial)⟩⟩ rfl rfl hl.1 rfl (lv_room (Nat.le_of_ble_eq_true rfl)) dX10_forget_5 ⟨Nat.le_of_ble_eq_true rfl, Nat.le_of_ble_eq_true rfl⟩) hS (fun q _ h => hFc q h) hFc (fun r_1 u t H1 locs ht hvm hw hB hz1 hk1 hS => ?_)
  obtain ⟨hP1, hK1, hD1⟩ := hB
  rw [ht] at hP1
  have hK1 := va_K.moved hvm.symm hK1
  try dsimp only at hw
  obtain ⟨hP, hD⟩ := va_join (wr := [(h0, .inr (10, [.ref tp, .ref rd, .ref tb, .ref rg, .ref bl, .ref pa, .ref fm, .ref te, .ref hi, .ref fr, .int fd, .int rf, .int lf, .int fp]))]) (w1 := [(tb, .inr (8, [.int lw, .int 0, .int ct, .int vr, .ref a1, .ref a2, .ref a3, .ref a4]))]) hP hD [1] [0] rfl rfl (by decide) (by decide) hk1 hFc hP1 hD1
  have hK := (hK.sub (tys' := []) [] rfl).app hK1
  generalize H1 = H at hP hS ⊢
  have hP : va_P (dC, dI) vwCl [(h0, .inr (10, [.ref tp, .ref rd, .ref tb, .ref rg, .ref bl, .ref pa, .ref fm, .ref te, .ref hi, .ref fr, .int fd, .int rf, .int lf, .int fp])), (tb, .inr (8, [.int lw, .int 0, .int ct, .int vr, .ref a1, .ref a2, .ref a3, .ref a4]))] H := hP
  have hD : va_D A [(h0, .inr (10, [.ref tp, .ref rd, .ref tb, .ref rg, .ref bl, .ref pa, .ref fm, .ref te, .ref hi, .ref fr, .int fd, .int rf, .int lf, .int fp])), (tb, .inr (8, [.int lw, .int 0, .int ct, .int vr, .ref a1, .ref a2, .ref a3, .ref a4]))] := hD
  have hK : va_K (dC, dI) vwCl [] s := hK
  refine W.widen (k := 0) (n := 0) (by omega) (by omega) ?_
  have er_1 : r_1 = 0 := hw
  subst er_1
  refine lv_if_ne (tgt := 17) hx hb dX10_forget_8 (by decide) (fun c_2 => absurd c_2 (by decide)) (fun c_2 => ?_)
  refine lv_aload_n hx hb dX10_forget_11 rfl (lv_at hl 0 rfl) ?_
  refine lv_iconst (v := 1) hx hb dX10_forget_12 (by decide) ?_
  have hPc := hP.sub (ws' := [(h0, .inr (10, [.ref tp, .ref rd, .ref tb, .ref rg, .ref bl, .ref pa, .ref fm, .ref te, .ref hi, .ref fr, .int fd, .int rf, .int lf, .int fp]))]) [0] rfl
  have hDc := hD.sub (ws' := [(h0, .inr (10, [.ref tp, .ref rd, .ref tb, .ref rg, .ref bl, .ref pa, .ref fm, .ref te, .ref hi, .ref fr, .int fd, .int rf, .int lf, .int fp]))]) [0] (by decide) rfl
  have hKc := hK.sub (tys' := []) [] rfl
  have hFc := va_free (wc := [(h0, .inr (10, [.ref tp, .ref rd, .ref tb, .ref rg, .ref bl, .ref pa, .ref fm, .ref te, .ref hi, .ref fr, .int fd, .int rf, .int lf, .int fp]))]) hD hS hA [0] rfl
  refine va_calli (va_runV (As := [.int 1]) (rest := []) ⟨hx, hb, hml, hown, hts⟩ (c_denied l dC dI H.size h0 tp rd tb rg bl pa fm te hi fr fd rf lf fp 1) (cwV 1 hts gX10_forget_X10_denied rfl rfl rfl (by decide +kernel) ⟨Nat.le_of_ble_eq_true rfl, Nat.le_of_ble_eq_true rfl⟩) ⟨fun a U g mk q => by obtain ⟨q0, q1, qP, qK, qD⟩ := q; exact ⟨q0, q1, qP, va_K.moved (u := U) (U := U.calling g mk a) (Vm.Alike.refl U.vm) qK, qD⟩, va_recv hKc hPc (ci := 10) (q0 := 0) rfl rfl, fun U hU hW => ⟨rfl, by rw [hU], by rw [hU]; exact hPc, va_K.moved hW.alike hKc, hDc.weaken (fun _ _ _ _ => trivial)⟩⟩ rfl rfl hl.1 rfl (lv_room (Nat.le_of_ble_eq_true rfl)) dX10_forget_13 ⟨Nat.le_of_ble_eq_true rfl, Nat.le_of_ble_eq_true rfl⟩) hS (fun q _ h => hFc q h) hFc (fun r_3 u t H1 locs ht hvm hw hB hz1 hk1 hS => ?_)
  obtain ⟨hP1, hK1, hD1⟩ := hB
  rw [ht] at hP1
  have hK1 := va_K.moved hvm.symm hK1
  try dsimp only at hw
  obtain ⟨hP, hD⟩ := va_join (wr := [(tb, .inr (8, [.int lw, .int 0, .int ct, .int vr, .ref a1, .ref a2, .ref a3, .ref a4]))]) (w1 := [(h0, .inr (10, [.ref tp, .ref rd, .ref tb, .ref rg, .ref bl, .ref pa, .ref fm, .ref te, .ref hi, .ref fr, .int fd, .int 1, .int lf, .int fp]))]) hP hD [0] [1] rfl rfl (by decide) (by decide) hk1 hFc hP1 hD1
  have hK := (hK.sub (tys' := []) [] rfl).app hK1
  generalize H1 = H at hP hS ⊢
  have hP : va_P (dC, dI) vwCl [(tb, .inr (8, [.int lw, .int 0, .int ct, .int vr, .ref a1, .ref a2, .ref a3, .ref a4])), (h0, .inr (10, [.ref tp, .ref rd, .ref tb, .ref rg, .ref bl, .ref pa, .ref fm, .ref te, .ref hi, .ref fr, .int fd, .int 1, .int lf, .int fp]))] H := hP
  have hD : va_D A [(tb, .inr (8, [.int lw, .int 0, .int ct, .int vr, .ref a1, .ref a2, .ref a3, .ref a4])), (h0, .inr (10, [.ref tp, .ref rd, .ref tb, .ref rg, .ref bl, .ref pa, .ref fm, .ref te, .ref hi, .ref fr, .int fd, .int 1, .int lf, .int fp]))] := hD
  have hK : va_K (dC, dI) vwCl [] s := hK
  refine W.widen (k := 0) (n := 0) (by omega) (by omega) ?_
  have er_3 : r_3 = 0 := hw
  subst er_3
  have hP9 := hP.sub (ws' := [(h0, .inr (10, [.ref tp, .ref rd, .ref tb, .ref rg, .ref bl, .ref pa, .ref fm, .ref te, .ref hi, .ref fr, .int fd, .int 1, .int lf, .int fp])), (tb, .inr (8, [.int lw, .int 0, .int ct, .int vr, .ref a1, .ref a2, .ref a3, .ref a4]))]) [1, 0] rfl
  have hD9 := hD.sub (ws' := [(h0, .inr (10, [.ref tp, .ref rd, .ref tb, .ref rg, .ref bl, .ref pa, .ref fm, .ref te, .ref hi, .ref fr, .int fd, .int 1, .int lf, .int fp])), (tb, .inr (8, [.int lw, .int 0, .int ct, .int vr, .ref a1, .ref a2, .ref a3, .ref a4]))]) [1, 0] (by decide) rfl
  have hK9 := hK.sub (tys' := []) [] rfl
  refine W.widen (k := 0) (n := 0) (Nat.le_of_ble_eq_true rfl) (Nat.le_of_ble_eq_true rfl) ?_
  exact W.zret (v := 0) (ty := .boolean) hx hb hr rfl (fun t ht hW => ⟨⟨0, (), rfl, rfl, by rw [ht]; exact hP9, va_K.moved hW.alike hK9, hD9⟩, hS.F ht⟩) hS.2.2 dX10_forget_16

set_option maxRecDepth 20000 in
theorem iw_X10_extend_X10_c_extend_0 : ∀ w ∈ wsX100, w ∈ wsX10_extend := by decide +kernel
set_option maxHeartbeats 4000000 in
set_option maxRecDepth 100000 in
/-- extend where there is none such -/
theorem c_extend_0 (l : Launch) (dC : Nat → ClassId) (dI : Nat → Nat → Nat) (sz : Nat) (h0 : Nat) (tp : Nat) (rd : Nat) (tb : Nat) (rg : Nat) (bl : Nat) (pa : Nat) (fm : Nat) (te : Nat) (hi : Nat) (fr : Nat) (fd : Int32) (rf : Int32) (lf : Int32) (fp : Int32) (lw : Int32) (lk : Int32) (vr : Int32) (a1 : Nat) (a2 : Nat) (a3 : Nat) (a4 : Nat) (p0 : Int32) (p1 : Int32)  : Met l yX10_extend wsX10_extend ({ frames := 2, cells := 0, slots := 0, locals := 43 }) (va_Pc [.ref h0, .int p0, .int p1] (fun U => U.heap.size = sz ∧ va_P (dC, dI) vwCl [(h0, .inr (10, [.ref tp, .ref rd, .ref tb, .ref rg, .ref bl, .ref pa, .ref fm, .ref te, .ref hi, .ref fr, .int fd, .int rf, .int lf, .int fp])), (tb, .inr (8, [.int lw, .int lk, .int 0, .int vr, .ref a1, .ref a2, .ref a3, .ref a4]))] U.heap ∧ va_K (dC, dI) vwCl [] U ∧ va_D (fun _ => True) [(h0, .inr (10, [.ref tp, .ref rd, .ref tb, .ref rg, .ref bl, .ref pa, .ref fm, .ref te, .ref hi, .ref fr, .int fd, .int rf, .int lf, .int fp])), (tb, .inr (8, [.int lw, .int lk, .int 0, .int vr, .ref a1, .ref a2, .ref a3, .ref a4]))])) (va_Qi (fun (r : Int32) (_ : Unit) => r = (-1)) (fun _ t => va_P (dC, dI) vwCl [(h0, .inr (10, [.ref tp, .ref rd, .ref tb, .ref rg, .ref bl, .ref pa, .ref fm, .ref te, .ref hi, .ref fr, .int fd, .int 1, .int lf, .int fp])), (tb, .inr (8, [.int lw, .int lk, .int 0, .int vr, .ref a1, .ref a2, .ref a3, .ref a4]))] t.heap ∧ va_K (dC, dI) vwCl [] t ∧ va_D (va_A [(h0, .inr (10, [.ref tp, .ref rd, .ref tb, .ref rg, .ref bl, .ref pa, .ref fm, .ref te, .ref hi, .ref fr, .int fd, .int rf, .int lf, .int fp])), (tb, .inr (8, [.int lw, .int lk, .int 0, .int vr, .ref a1, .ref a2, .ref a3, .ref a4]))] sz) [(h0, .inr (10, [.ref tp, .ref rd, .ref tb, .ref rg, .ref bl, .ref pa, .ref fm, .ref te, .ref hi, .ref fr, .int fd, .int 1, .int lf, .int fp])), (tb, .inr (8, [.int lw, .int lk, .int 0, .int vr, .ref a1, .ref a2, .ref a3, .ref a4]))]) (va_A [(h0, .inr (10, [.ref tp, .ref rd, .ref tb, .ref rg, .ref bl, .ref pa, .ref fm, .ref te, .ref hi, .ref fr, .int fd, .int rf, .int lf, .int fp])), (tb, .inr (8, [.int lw, .int lk, .int 0, .int vr, .ref a1, .ref a2, .ref a3, .ref a4]))] sz)) 0 0 (va_A [(h0, .inr (10, [.ref tp, .ref rd, .ref tb, .ref rg, .ref bl, .ref pa, .ref fm, .ref te, .ref hi, .ref fr, .int fd, .int rf, .int lf, .int fp])), (tb, .inr (8, [.int lw, .int lk, .int 0, .int vr, .ref a1, .ref a2, .ref a3, .ref a4]))] sz) := by
  refine Met.ofW (cc := cX10_extend) (maxL := 3) (ret := (some .int)) (by decide) rfl ?_
  intro p e s m args below meth c s₁ B hml hv
  obtain ⟨rfl, hsz, hP, hK, hD0⟩ := hv
  have hx := B.exec
  have hb := B.bytes
  have hr := B.returns
  have hts := atoms_spec (ws := wsX10_extend) B.pre
  have hown : s.vm.findClass RX10 = some m.cls := findClass_of_methodNamed B.named
  have hlocks := B.notSynchronized
  subst hsz
  have hD := hD0.self (sz := s.heap.size)
  generalize hAe : va_A [(h0, .inr (10, [.ref tp, .ref rd, .ref tb, .ref rg, .ref bl, .ref pa, .ref fm, .ref te, .ref hi, .ref fr, .int fd, .int rf, .int lf, .int fp])), (tb, .inr (8, [.int lw, .int lk, .int 0, .int vr, .ref a1, .ref a2, .ref a3, .ref a4]))] s.heap.size = A at hD ⊢
  have hA : ∀ q : Nat, s.heap.size ≤ q → A q := fun q h => by rw [← hAe]; exact Or.inr h
  have hS : va_S A s.heap s.heap [] := va_S.rf
  have hP : va_P (dC, dI) vwCl [(h0, .inr (10, [.ref tp, .ref rd, .ref tb, .ref rg, .ref bl, .ref pa, .ref fm, .ref te, .ref hi, .ref fr, .int fd, .int rf, .int lf, .int fp])), (tb, .inr (8, [.int lw, .int lk, .int 0, .int vr, .ref a1, .ref a2, .ref a3, .ref a4]))] s.heap := hP
  have hl := lv_entry ([.ref h0, .int p0, .int p1]) (n := 3) (Nat.le_of_ble_eq_true rfl)
  rw [lg_entry_eq]
  generalize (lg_sl ([.ref h0, .int p0, .int p1]) ++ List.replicate (3 - (lg_sl ([.ref h0, .int p0, .int p1])).length) Slot.unset).toArray = ls at hl ⊢
  have hl : lv_has ls 3 [(0, .ref h0), (1, .int p0), (2, .int p1)] := hl
  refine lv_aload_n hx hb dX10_extend_0 rfl (lv_at hl 0 rfl) ?_
  refine va_get (D := (dC, dI)) (ci := 10) (v := .ref tb) (C := RX10) (T := TX10) (N := 14) hx hb hts iw_X10_extend_X10_c_extend_0 hown hK hP 0 rfl rfl 2 (by decide) (hts (.fieldLink RX10 25 "NotAtOnce" "table" "LNotAtOnce$Table;") (by decide +kernel)) (fun _ h9 => h9) rfl dX10_extend_1 ?_
  refine lv_iload_n hx hb dX10_extend_4 rfl (lv_at hl 1 rfl) ?_
  refine lv_iload_n hx hb dX10_extend_5 rfl (lv_at hl 2 rfl) ?_
  have hPc := hP.sub (ws' := [(tb, .inr (8, [.int lw, .int lk, .int 0, .int vr, .ref a1, .ref a2, .ref a3, .ref a4]))]) [1] rfl
  have hDc := hD.sub (ws' := [(tb, .inr (8, [.int lw, .int lk, .int 0, .int vr, .ref a1, .ref a2, .ref a3, .ref a4]))]) [1] (by decide) rfl
  have hKc := hK.sub (tys' := []) [] rfl
  have hFc := va_free (wc := [(tb, .inr (8, [.int lw, .int lk, .int 0, .int vr, .ref a1, .ref a2, .ref a3, .ref a4]))]) hD hS hA [1] rfl
  refine va_calli (va_runV (As := [.int p0, .int p1]) (rest := []) ⟨hx, hb, hml, hown, hts⟩ (c_hasOutcome_0 l dC dI s.heap.size tb lw lk vr a1 a2 a3 a4 p0 p1) (cwV 2 hts gX10_extend_X8_hasOutcome rfl rfl rfl (by decide +kernel) ⟨Nat.le_of_ble_eq_true rfl, Nat.le_of_ble_eq_true rfl⟩) ⟨fun a U g mk q => by obtain ⟨q0, q1, qP, qK, qD⟩ := q; exact ⟨q0, q1, qP, va_K.moved (u := U) (U := U.calling g mk a) (Vm.Alike.refl U.vm) qK, qD⟩, va_recv hKc hPc (ci := 8) (q0 := 0) rfl rfl, fun U hU hW => ⟨rfl, by rw [hU], by rw [hU]; exact hPc, va_K.moved hW.alike hKc, hDc.weaken (fun _ _ _ _ => trivial)⟩⟩ rfl rfl hl.1 rfl (lv_room (Nat.le_of_ble_eq_true rfl)) dX10_extend_6 ⟨Nat.le_of_ble_eq_true rfl, Nat.le_of_ble_eq_true rfl⟩) hS (fun q _ h => hFc q h) hFc (fun r_1 u t H1 locs ht hvm hw hB hz1 hk1 hS => ?_)
  obtain ⟨hP1, hK1, hD1⟩ := hB
  rw [ht] at hP1
  have hK1 := va_K.moved hvm.symm hK1
  try dsimp only at hw
  obtain ⟨hP, hD⟩ := va_join (wr := [(h0, .inr (10, [.ref tp, .ref rd, .ref tb, .ref rg, .ref bl, .ref pa, .ref fm, .ref te, .ref hi, .ref fr, .int fd, .int rf, .int lf, .int fp]))]) (w1 := [(tb, .inr (8, [.int lw, .int lk, .int 0, .int vr, .ref a1, .ref a2, .ref a3, .ref a4]))]) hP hD [1] [0] rfl rfl (by decide) (by decide) hk1 hFc hP1 hD1
  have hK := (hK.sub (tys' := []) [] rfl).app hK1
  generalize H1 = H at hP hS ⊢
  have hP : va_P (dC, dI) vwCl [(h0, .inr (10, [.ref tp, .ref rd, .ref tb, .ref rg, .ref bl, .ref pa, .ref fm, .ref te, .ref hi, .ref fr, .int fd, .int rf, .int lf, .int fp])), (tb, .inr (8, [.int lw, .int lk, .int 0, .int vr, .ref a1, .ref a2, .ref a3, .ref a4]))] H := hP
  have hD : va_D A [(h0, .inr (10, [.ref tp, .ref rd, .ref tb, .ref rg, .ref bl, .ref pa, .ref fm, .ref te, .ref hi, .ref fr, .int fd, .int rf, .int lf, .int fp])), (tb, .inr (8, [.int lw, .int lk, .int 0, .int vr, .ref a1, .ref a2, .ref a3, .ref a4]))] := hD
  have hK : va_K (dC, dI) vwCl [] s := hK
  refine W.widen (k := 0) (n := 0) (by omega) (by omega) ?_
  have er_1 : r_1 = 0 := hw
  subst er_1
  refine lv_if_ne (tgt := 18) hx hb dX10_extend_9 (by decide) (fun c_2 => absurd c_2 (by decide)) (fun c_2 => ?_)
  refine lv_aload_n hx hb dX10_extend_12 rfl (lv_at hl 0 rfl) ?_
  refine lv_iconst (v := 1) hx hb dX10_extend_13 (by decide) ?_
  have hPc := hP.sub (ws' := [(h0, .inr (10, [.ref tp, .ref rd, .ref tb, .ref rg, .ref bl, .ref pa, .ref fm, .ref te, .ref hi, .ref fr, .int fd, .int rf, .int lf, .int fp]))]) [0] rfl
  have hDc := hD.sub (ws' := [(h0, .inr (10, [.ref tp, .ref rd, .ref tb, .ref rg, .ref bl, .ref pa, .ref fm, .ref te, .ref hi, .ref fr, .int fd, .int rf, .int lf, .int fp]))]) [0] (by decide) rfl
  have hKc := hK.sub (tys' := []) [] rfl
  have hFc := va_free (wc := [(h0, .inr (10, [.ref tp, .ref rd, .ref tb, .ref rg, .ref bl, .ref pa, .ref fm, .ref te, .ref hi, .ref fr, .int fd, .int rf, .int lf, .int fp]))]) hD hS hA [0] rfl
  refine va_calli (va_runV (As := [.int 1]) (rest := []) ⟨hx, hb, hml, hown, hts⟩ (c_refused l dC dI H.size h0 tp rd tb rg bl pa fm te hi fr fd rf lf fp 1) (cwV 1 hts gX10_extend_X10_refused rfl rfl rfl (by decide +kernel) ⟨Nat.le_of_ble_eq_true rfl, Nat.le_of_ble_eq_true rfl⟩) ⟨fun a U g mk q => by obtain ⟨q0, q1, qP, qK, qD⟩ := q; exact ⟨q0, q1, qP, va_K.moved (u := U) (U := U.calling g mk a) (Vm.Alike.refl U.vm) qK, qD⟩, va_recv hKc hPc (ci := 10) (q0 := 0) rfl rfl, fun U hU hW => ⟨rfl, by rw [hU], by rw [hU]; exact hPc, va_K.moved hW.alike hKc, hDc.weaken (fun _ _ _ _ => trivial)⟩⟩ rfl rfl hl.1 rfl (lv_room (Nat.le_of_ble_eq_true rfl)) dX10_extend_14 ⟨Nat.le_of_ble_eq_true rfl, Nat.le_of_ble_eq_true rfl⟩) hS (fun q _ h => hFc q h) hFc (fun r_3 u t H1 locs ht hvm hw hB hz1 hk1 hS => ?_)
  obtain ⟨hP1, hK1, hD1⟩ := hB
  rw [ht] at hP1
  have hK1 := va_K.moved hvm.symm hK1
  try dsimp only at hw
  obtain ⟨hP, hD⟩ := va_join (wr := [(tb, .inr (8, [.int lw, .int lk, .int 0, .int vr, .ref a1, .ref a2, .ref a3, .ref a4]))]) (w1 := [(h0, .inr (10, [.ref tp, .ref rd, .ref tb, .ref rg, .ref bl, .ref pa, .ref fm, .ref te, .ref hi, .ref fr, .int fd, .int 1, .int lf, .int fp]))]) hP hD [0] [1] rfl rfl (by decide) (by decide) hk1 hFc hP1 hD1
  have hK := (hK.sub (tys' := []) [] rfl).app hK1
  generalize H1 = H at hP hS ⊢
  have hP : va_P (dC, dI) vwCl [(tb, .inr (8, [.int lw, .int lk, .int 0, .int vr, .ref a1, .ref a2, .ref a3, .ref a4])), (h0, .inr (10, [.ref tp, .ref rd, .ref tb, .ref rg, .ref bl, .ref pa, .ref fm, .ref te, .ref hi, .ref fr, .int fd, .int 1, .int lf, .int fp]))] H := hP
  have hD : va_D A [(tb, .inr (8, [.int lw, .int lk, .int 0, .int vr, .ref a1, .ref a2, .ref a3, .ref a4])), (h0, .inr (10, [.ref tp, .ref rd, .ref tb, .ref rg, .ref bl, .ref pa, .ref fm, .ref te, .ref hi, .ref fr, .int fd, .int 1, .int lf, .int fp]))] := hD
  have hK : va_K (dC, dI) vwCl [] s := hK
  refine W.widen (k := 0) (n := 0) (by omega) (by omega) ?_
  have er_3 : r_3 = (-1) := hw
  subst er_3
  have hP9 := hP.sub (ws' := [(h0, .inr (10, [.ref tp, .ref rd, .ref tb, .ref rg, .ref bl, .ref pa, .ref fm, .ref te, .ref hi, .ref fr, .int fd, .int 1, .int lf, .int fp])), (tb, .inr (8, [.int lw, .int lk, .int 0, .int vr, .ref a1, .ref a2, .ref a3, .ref a4]))]) [1, 0] rfl
  have hD9 := hD.sub (ws' := [(h0, .inr (10, [.ref tp, .ref rd, .ref tb, .ref rg, .ref bl, .ref pa, .ref fm, .ref te, .ref hi, .ref fr, .int fd, .int 1, .int lf, .int fp])), (tb, .inr (8, [.int lw, .int lk, .int 0, .int vr, .ref a1, .ref a2, .ref a3, .ref a4]))]) [1, 0] (by decide) rfl
  have hK9 := hK.sub (tys' := []) [] rfl
  refine W.widen (k := 0) (n := 0) (Nat.le_of_ble_eq_true rfl) (Nat.le_of_ble_eq_true rfl) ?_
  exact W.iret (v := (-1)) hx hb hr (fun t ht hW => ⟨⟨(-1), (), rfl, rfl, by rw [ht]; exact hP9, va_K.moved hW.alike hK9, hD9⟩, hS.F ht⟩) hS.2.2 dX10_extend_17

set_option maxRecDepth 20000 in
theorem iw_X10_times_X10_c_times_0 : ∀ w ∈ wsX100, w ∈ wsX10_times := by decide +kernel
set_option maxHeartbeats 4000000 in
set_option maxRecDepth 100000 in
/-- times where there is none such -/
theorem c_times_0 (l : Launch) (dC : Nat → ClassId) (dI : Nat → Nat → Nat) (sz : Nat) (h0 : Nat) (tp : Nat) (rd : Nat) (tb : Nat) (rg : Nat) (bl : Nat) (pa : Nat) (fm : Nat) (te : Nat) (hi : Nat) (fr : Nat) (fd : Int32) (rf : Int32) (lf : Int32) (fp : Int32) (lw : Int32) (lk : Int32) (vr : Int32) (a1 : Nat) (a2 : Nat) (a3 : Nat) (a4 : Nat) (p0 : Int32) (p1 : Int32)  : Met l yX10_times wsX10_times ({ frames := 2, cells := 0, slots := 0, locals := 43 }) (va_Pc [.ref h0, .int p0, .int p1] (fun U => U.heap.size = sz ∧ va_P (dC, dI) vwCl [(h0, .inr (10, [.ref tp, .ref rd, .ref tb, .ref rg, .ref bl, .ref pa, .ref fm, .ref te, .ref hi, .ref fr, .int fd, .int rf, .int lf, .int fp])), (tb, .inr (8, [.int lw, .int lk, .int 0, .int vr, .ref a1, .ref a2, .ref a3, .ref a4]))] U.heap ∧ va_K (dC, dI) vwCl [] U ∧ va_D (fun _ => True) [(h0, .inr (10, [.ref tp, .ref rd, .ref tb, .ref rg, .ref bl, .ref pa, .ref fm, .ref te, .ref hi, .ref fr, .int fd, .int rf, .int lf, .int fp])), (tb, .inr (8, [.int lw, .int lk, .int 0, .int vr, .ref a1, .ref a2, .ref a3, .ref a4]))])) (va_Qi (fun (r : Int32) (_ : Unit) => r = (-1)) (fun _ t => va_P (dC, dI) vwCl [(h0, .inr (10, [.ref tp, .ref rd, .ref tb, .ref rg, .ref bl, .ref pa, .ref fm, .ref te, .ref hi, .ref fr, .int fd, .int 1, .int lf, .int fp])), (tb, .inr (8, [.int lw, .int lk, .int 0, .int vr, .ref a1, .ref a2, .ref a3, .ref a4]))] t.heap ∧ va_K (dC, dI) vwCl [] t ∧ va_D (va_A [(h0, .inr (10, [.ref tp, .ref rd, .ref tb, .ref rg, .ref bl, .ref pa, .ref fm, .ref te, .ref hi, .ref fr, .int fd, .int rf, .int lf, .int fp])), (tb, .inr (8, [.int lw, .int lk, .int 0, .int vr, .ref a1, .ref a2, .ref a3, .ref a4]))] sz) [(h0, .inr (10, [.ref tp, .ref rd, .ref tb, .ref rg, .ref bl, .ref pa, .ref fm, .ref te, .ref hi, .ref fr, .int fd, .int 1, .int lf, .int fp])), (tb, .inr (8, [.int lw, .int lk, .int 0, .int vr, .ref a1, .ref a2, .ref a3, .ref a4]))]) (va_A [(h0, .inr (10, [.ref tp, .ref rd, .ref tb, .ref rg, .ref bl, .ref pa, .ref fm, .ref te, .ref hi, .ref fr, .int fd, .int rf, .int lf, .int fp])), (tb, .inr (8, [.int lw, .int lk, .int 0, .int vr, .ref a1, .ref a2, .ref a3, .ref a4]))] sz)) 0 0 (va_A [(h0, .inr (10, [.ref tp, .ref rd, .ref tb, .ref rg, .ref bl, .ref pa, .ref fm, .ref te, .ref hi, .ref fr, .int fd, .int rf, .int lf, .int fp])), (tb, .inr (8, [.int lw, .int lk, .int 0, .int vr, .ref a1, .ref a2, .ref a3, .ref a4]))] sz) := by
  refine Met.ofW (cc := cX10_times) (maxL := 3) (ret := (some .int)) (by decide) rfl ?_
  intro p e s m args below meth c s₁ B hml hv
  obtain ⟨rfl, hsz, hP, hK, hD0⟩ := hv
  have hx := B.exec
  have hb := B.bytes
  have hr := B.returns
  have hts := atoms_spec (ws := wsX10_times) B.pre
  have hown : s.vm.findClass RX10 = some m.cls := findClass_of_methodNamed B.named
  have hlocks := B.notSynchronized
  subst hsz
  have hD := hD0.self (sz := s.heap.size)
  generalize hAe : va_A [(h0, .inr (10, [.ref tp, .ref rd, .ref tb, .ref rg, .ref bl, .ref pa, .ref fm, .ref te, .ref hi, .ref fr, .int fd, .int rf, .int lf, .int fp])), (tb, .inr (8, [.int lw, .int lk, .int 0, .int vr, .ref a1, .ref a2, .ref a3, .ref a4]))] s.heap.size = A at hD ⊢
  have hA : ∀ q : Nat, s.heap.size ≤ q → A q := fun q h => by rw [← hAe]; exact Or.inr h
  have hS : va_S A s.heap s.heap [] := va_S.rf
  have hP : va_P (dC, dI) vwCl [(h0, .inr (10, [.ref tp, .ref rd, .ref tb, .ref rg, .ref bl, .ref pa, .ref fm, .ref te, .ref hi, .ref fr, .int fd, .int rf, .int lf, .int fp])), (tb, .inr (8, [.int lw, .int lk, .int 0, .int vr, .ref a1, .ref a2, .ref a3, .ref a4]))] s.heap := hP
  have hl := lv_entry ([.ref h0, .int p0, .int p1]) (n := 3) (Nat.le_of_ble_eq_true rfl)
  rw [lg_entry_eq]
  generalize (lg_sl ([.ref h0, .int p0, .int p1]) ++ List.replicate (3 - (lg_sl ([.ref h0, .int p0, .int p1])).length) Slot.unset).toArray = ls at hl ⊢
  have hl : lv_has ls 3 [(0, .ref h0), (1, .int p0), (2, .int p1)] := hl
  refine lv_aload_n hx hb dX10_times_0 rfl (lv_at hl 0 rfl) ?_
  refine va_get (D := (dC, dI)) (ci := 10) (v := .ref tb) (C := RX10) (T := TX10) (N := 14) hx hb hts iw_X10_times_X10_c_times_0 hown hK hP 0 rfl rfl 2 (by decide) (hts (.fieldLink RX10 25 "NotAtOnce" "table" "LNotAtOnce$Table;") (by decide +kernel)) (fun _ h9 => h9) rfl dX10_times_1 ?_
  refine lv_iload_n hx hb dX10_times_4 rfl (lv_at hl 1 rfl) ?_
  refine lv_iload_n hx hb dX10_times_5 rfl (lv_at hl 2 rfl) ?_
  have hPc := hP.sub (ws' := [(tb, .inr (8, [.int lw, .int lk, .int 0, .int vr, .ref a1, .ref a2, .ref a3, .ref a4]))]) [1] rfl
  have hDc := hD.sub (ws' := [(tb, .inr (8, [.int lw, .int lk, .int 0, .int vr, .ref a1, .ref a2, .ref a3, .ref a4]))]) [1] (by decide) rfl
  have hKc := hK.sub (tys' := []) [] rfl
  have hFc := va_free (wc := [(tb, .inr (8, [.int lw, .int lk, .int 0, .int vr, .ref a1, .ref a2, .ref a3, .ref a4]))]) hD hS hA [1] rfl
  refine va_calli (va_runV (As := [.int p0, .int p1]) (rest := []) ⟨hx, hb, hml, hown, hts⟩ (c_hasOutcome_0 l dC dI s.heap.size tb lw lk vr a1 a2 a3 a4 p0 p1) (cwV 2 hts gX10_times_X8_hasOutcome rfl rfl rfl (by decide +kernel) ⟨Nat.le_of_ble_eq_true rfl, Nat.le_of_ble_eq_true rfl⟩) ⟨fun a U g mk q => by obtain ⟨q0, q1, qP, qK, qD⟩ := q; exact ⟨q0, q1, qP, va_K.moved (u := U) (U := U.calling g mk a) (Vm.Alike.refl U.vm) qK, qD⟩, va_recv hKc hPc (ci := 8) (q0 := 0) rfl rfl, fun U hU hW => ⟨rfl, by rw [hU], by rw [hU]; exact hPc, va_K.moved hW.alike hKc, hDc.weaken (fun _ _ _ _ => trivial)⟩⟩ rfl rfl hl.1 rfl (lv_room (Nat.le_of_ble_eq_true rfl)) dX10_times_6 ⟨Nat.le_of_ble_eq_true rfl, Nat.le_of_ble_eq_true rfl⟩) hS (fun q _ h => hFc q h) hFc (fun r_1 u t H1 locs ht hvm hw hB hz1 hk1 hS => ?_)
  obtain ⟨hP1, hK1, hD1⟩ := hB
  rw [ht] at hP1
  have hK1 := va_K.moved hvm.symm hK1
  try dsimp only at hw
  obtain ⟨hP, hD⟩ := va_join (wr := [(h0, .inr (10, [.ref tp, .ref rd, .ref tb, .ref rg, .ref bl, .ref pa, .ref fm, .ref te, .ref hi, .ref fr, .int fd, .int rf, .int lf, .int fp]))]) (w1 := [(tb, .inr (8, [.int lw, .int lk, .int 0, .int vr, .ref a1, .ref a2, .ref a3, .ref a4]))]) hP hD [1] [0] rfl rfl (by decide) (by decide) hk1 hFc hP1 hD1
  have hK := (hK.sub (tys' := []) [] rfl).app hK1
  generalize H1 = H at hP hS ⊢
  have hP : va_P (dC, dI) vwCl [(h0, .inr (10, [.ref tp, .ref rd, .ref tb, .ref rg, .ref bl, .ref pa, .ref fm, .ref te, .ref hi, .ref fr, .int fd, .int rf, .int lf, .int fp])), (tb, .inr (8, [.int lw, .int lk, .int 0, .int vr, .ref a1, .ref a2, .ref a3, .ref a4]))] H := hP
  have hD : va_D A [(h0, .inr (10, [.ref tp, .ref rd, .ref tb, .ref rg, .ref bl, .ref pa, .ref fm, .ref te, .ref hi, .ref fr, .int fd, .int rf, .int lf, .int fp])), (tb, .inr (8, [.int lw, .int lk, .int 0, .int vr, .ref a1, .ref a2, .ref a3, .ref a4]))] := hD
  have hK : va_K (dC, dI) vwCl [] s := hK
  refine W.widen (k := 0) (n := 0) (by omega) (by omega) ?_
  have er_1 : r_1 = 0 := hw
  subst er_1
  refine lv_if_ne (tgt := 18) hx hb dX10_times_9 (by decide) (fun c_2 => absurd c_2 (by decide)) (fun c_2 => ?_)
  refine lv_aload_n hx hb dX10_times_12 rfl (lv_at hl 0 rfl) ?_
  refine lv_iconst (v := 1) hx hb dX10_times_13 (by decide) ?_
  have hPc := hP.sub (ws' := [(h0, .inr (10, [.ref tp, .ref rd, .ref tb, .ref rg, .ref bl, .ref pa, .ref fm, .ref te, .ref hi, .ref fr, .int fd, .int rf, .int lf, .int fp]))]) [0] rfl
  have hDc := hD.sub (ws' := [(h0, .inr (10, [.ref tp, .ref rd, .ref tb, .ref rg, .ref bl, .ref pa, .ref fm, .ref te, .ref hi, .ref fr, .int fd, .int rf, .int lf, .int fp]))]) [0] (by decide) rfl
  have hKc := hK.sub (tys' := []) [] rfl
  have hFc := va_free (wc := [(h0, .inr (10, [.ref tp, .ref rd, .ref tb, .ref rg, .ref bl, .ref pa, .ref fm, .ref te, .ref hi, .ref fr, .int fd, .int rf, .int lf, .int fp]))]) hD hS hA [0] rfl
  refine va_calli (va_runV (As := [.int 1]) (rest := []) ⟨hx, hb, hml, hown, hts⟩ (c_refused l dC dI H.size h0 tp rd tb rg bl pa fm te hi fr fd rf lf fp 1) (cwV 1 hts gX10_times_X10_refused rfl rfl rfl (by decide +kernel) ⟨Nat.le_of_ble_eq_true rfl, Nat.le_of_ble_eq_true rfl⟩) ⟨fun a U g mk q => by obtain ⟨q0, q1, qP, qK, qD⟩ := q; exact ⟨q0, q1, qP, va_K.moved (u := U) (U := U.calling g mk a) (Vm.Alike.refl U.vm) qK, qD⟩, va_recv hKc hPc (ci := 10) (q0 := 0) rfl rfl, fun U hU hW => ⟨rfl, by rw [hU], by rw [hU]; exact hPc, va_K.moved hW.alike hKc, hDc.weaken (fun _ _ _ _ => trivial)⟩⟩ rfl rfl hl.1 rfl (lv_room (Nat.le_of_ble_eq_true rfl)) dX10_times_14 ⟨Nat.le_of_ble_eq_true rfl, Nat.le_of_ble_eq_true rfl⟩) hS (fun q _ h => hFc q h) hFc (fun r_3 u t H1 locs ht hvm hw hB hz1 hk1 hS => ?_)
  obtain ⟨hP1, hK1, hD1⟩ := hB
  rw [ht] at hP1
  have hK1 := va_K.moved hvm.symm hK1
  try dsimp only at hw
  obtain ⟨hP, hD⟩ := va_join (wr := [(tb, .inr (8, [.int lw, .int lk, .int 0, .int vr, .ref a1, .ref a2, .ref a3, .ref a4]))]) (w1 := [(h0, .inr (10, [.ref tp, .ref rd, .ref tb, .ref rg, .ref bl, .ref pa, .ref fm, .ref te, .ref hi, .ref fr, .int fd, .int 1, .int lf, .int fp]))]) hP hD [0] [1] rfl rfl (by decide) (by decide) hk1 hFc hP1 hD1
  have hK := (hK.sub (tys' := []) [] rfl).app hK1
  generalize H1 = H at hP hS ⊢
  have hP : va_P (dC, dI) vwCl [(tb, .inr (8, [.int lw, .int lk, .int 0, .int vr, .ref a1, .ref a2, .ref a3, .ref a4])), (h0, .inr (10, [.ref tp, .ref rd, .ref tb, .ref rg, .ref bl, .ref pa, .ref fm, .ref te, .ref hi, .ref fr, .int fd, .int 1, .int lf, .int fp]))] H := hP
  have hD : va_D A [(tb, .inr (8, [.int lw, .int lk, .int 0, .int vr, .ref a1, .ref a2, .ref a3, .ref a4])), (h0, .inr (10, [.ref tp, .ref rd, .ref tb, .ref rg, .ref bl, .ref pa, .ref fm, .ref te, .ref hi, .ref fr, .int fd, .int 1, .int lf, .int fp]))] := hD
  have hK : va_K (dC, dI) vwCl [] s := hK
  refine W.widen (k := 0) (n := 0) (by omega) (by omega) ?_
  have er_3 : r_3 = (-1) := hw
  subst er_3
  have hP9 := hP.sub (ws' := [(h0, .inr (10, [.ref tp, .ref rd, .ref tb, .ref rg, .ref bl, .ref pa, .ref fm, .ref te, .ref hi, .ref fr, .int fd, .int 1, .int lf, .int fp])), (tb, .inr (8, [.int lw, .int lk, .int 0, .int vr, .ref a1, .ref a2, .ref a3, .ref a4]))]) [1, 0] rfl
  have hD9 := hD.sub (ws' := [(h0, .inr (10, [.ref tp, .ref rd, .ref tb, .ref rg, .ref bl, .ref pa, .ref fm, .ref te, .ref hi, .ref fr, .int fd, .int 1, .int lf, .int fp])), (tb, .inr (8, [.int lw, .int lk, .int 0, .int vr, .ref a1, .ref a2, .ref a3, .ref a4]))]) [1, 0] (by decide) rfl
  have hK9 := hK.sub (tys' := []) [] rfl
  refine W.widen (k := 0) (n := 0) (Nat.le_of_ble_eq_true rfl) (Nat.le_of_ble_eq_true rfl) ?_
  exact W.iret (v := (-1)) hx hb hr (fun t ht hW => ⟨⟨(-1), (), rfl, rfl, by rw [ht]; exact hP9, va_K.moved hW.alike hK9, hD9⟩, hS.F ht⟩) hS.2.2 dX10_times_17

set_option maxRecDepth 20000 in
theorem iw_X10_coins_X10_c_coins_0 : ∀ w ∈ wsX100, w ∈ wsX10_coins := by decide +kernel
set_option maxHeartbeats 4000000 in
set_option maxRecDepth 100000 in
/-- coins where there is none such -/
theorem c_coins_0 (l : Launch) (dC : Nat → ClassId) (dI : Nat → Nat → Nat) (sz : Nat) (h0 : Nat) (tp : Nat) (rd : Nat) (tb : Nat) (rg : Nat) (bl : Nat) (pa : Nat) (fm : Nat) (te : Nat) (hi : Nat) (fr : Nat) (fd : Int32) (rf : Int32) (lf : Int32) (fp : Int32) (lw : Int32) (lk : Int32) (vr : Int32) (a1 : Nat) (a2 : Nat) (a3 : Nat) (a4 : Nat) (p0 : Int32) (p1 : Int32)  : Met l yX10_coins wsX10_coins ({ frames := 2, cells := 0, slots := 0, locals := 43 }) (va_Pc [.ref h0, .int p0, .int p1] (fun U => U.heap.size = sz ∧ va_P (dC, dI) vwCl [(h0, .inr (10, [.ref tp, .ref rd, .ref tb, .ref rg, .ref bl, .ref pa, .ref fm, .ref te, .ref hi, .ref fr, .int fd, .int rf, .int lf, .int fp])), (tb, .inr (8, [.int lw, .int lk, .int 0, .int vr, .ref a1, .ref a2, .ref a3, .ref a4]))] U.heap ∧ va_K (dC, dI) vwCl [] U ∧ va_D (fun _ => True) [(h0, .inr (10, [.ref tp, .ref rd, .ref tb, .ref rg, .ref bl, .ref pa, .ref fm, .ref te, .ref hi, .ref fr, .int fd, .int rf, .int lf, .int fp])), (tb, .inr (8, [.int lw, .int lk, .int 0, .int vr, .ref a1, .ref a2, .ref a3, .ref a4]))])) (va_Qi (fun (r : Int32) (_ : Unit) => r = (-1)) (fun _ t => va_P (dC, dI) vwCl [(h0, .inr (10, [.ref tp, .ref rd, .ref tb, .ref rg, .ref bl, .ref pa, .ref fm, .ref te, .ref hi, .ref fr, .int fd, .int 1, .int lf, .int fp])), (tb, .inr (8, [.int lw, .int lk, .int 0, .int vr, .ref a1, .ref a2, .ref a3, .ref a4]))] t.heap ∧ va_K (dC, dI) vwCl [] t ∧ va_D (va_A [(h0, .inr (10, [.ref tp, .ref rd, .ref tb, .ref rg, .ref bl, .ref pa, .ref fm, .ref te, .ref hi, .ref fr, .int fd, .int rf, .int lf, .int fp])), (tb, .inr (8, [.int lw, .int lk, .int 0, .int vr, .ref a1, .ref a2, .ref a3, .ref a4]))] sz) [(h0, .inr (10, [.ref tp, .ref rd, .ref tb, .ref rg, .ref bl, .ref pa, .ref fm, .ref te, .ref hi, .ref fr, .int fd, .int 1, .int lf, .int fp])), (tb, .inr (8, [.int lw, .int lk, .int 0, .int vr, .ref a1, .ref a2, .ref a3, .ref a4]))]) (va_A [(h0, .inr (10, [.ref tp, .ref rd, .ref tb, .ref rg, .ref bl, .ref pa, .ref fm, .ref te, .ref hi, .ref fr, .int fd, .int rf, .int lf, .int fp])), (tb, .inr (8, [.int lw, .int lk, .int 0, .int vr, .ref a1, .ref a2, .ref a3, .ref a4]))] sz)) 0 0 (va_A [(h0, .inr (10, [.ref tp, .ref rd, .ref tb, .ref rg, .ref bl, .ref pa, .ref fm, .ref te, .ref hi, .ref fr, .int fd, .int rf, .int lf, .int fp])), (tb, .inr (8, [.int lw, .int lk, .int 0, .int vr, .ref a1, .ref a2, .ref a3, .ref a4]))] sz) := by
  refine Met.ofW (cc := cX10_coins) (maxL := 3) (ret := (some .int)) (by decide) rfl ?_
  intro p e s m args below meth c s₁ B hml hv
  obtain ⟨rfl, hsz, hP, hK, hD0⟩ := hv
  have hx := B.exec
  have hb := B.bytes
  have hr := B.returns
  have hts := atoms_spec (ws := wsX10_coins) B.pre
  have hown : s.vm.findClass RX10 = some m.cls := findClass_of_methodNamed B.named
  have hlocks := B.notSynchronized
  subst hsz
  have hD := hD0.self (sz := s.heap.size)
  generalize hAe : va_A [(h0, .inr (10, [.ref tp, .ref rd, .ref tb, .ref rg, .ref bl, .ref pa, .ref fm, .ref te, .ref hi, .ref fr, .int fd, .int rf, .int lf, .int fp])), (tb, .inr (8, [.int lw, .int lk, .int 0, .int vr, .ref a1, .ref a2, .ref a3, .ref a4]))] s.heap.size = A at hD ⊢
  have hA : ∀ q : Nat, s.heap.size ≤ q → A q := fun q h => by rw [← hAe]; exact Or.inr h
  have hS : va_S A s.heap s.heap [] := va_S.rf
  have hP : va_P (dC, dI) vwCl [(h0, .inr (10, [.ref tp, .ref rd, .ref tb, .ref rg, .ref bl, .ref pa, .ref fm, .ref te, .ref hi, .ref fr, .int fd, .int rf, .int lf, .int fp])), (tb, .inr (8, [.int lw, .int lk, .int 0, .int vr, .ref a1, .ref a2, .ref a3, .ref a4]))] s.heap := hP
  have hl := lv_entry ([.ref h0, .int p0, .int p1]) (n := 3) (Nat.le_of_ble_eq_true rfl)
  rw [lg_entry_eq]
  generalize (lg_sl ([.ref h0, .int p0, .int p1]) ++ List.replicate (3 - (lg_sl ([.ref h0, .int p0, .int p1])).length) Slot.unset).toArray = ls at hl ⊢
  have hl : lv_has ls 3 [(0, .ref h0), (1, .int p0), (2, .int p1)] := hl
  refine lv_aload_n hx hb dX10_coins_0 rfl (lv_at hl 0 rfl) ?_
  refine va_get (D := (dC, dI)) (ci := 10) (v := .ref tb) (C := RX10) (T := TX10) (N := 14) hx hb hts iw_X10_coins_X10_c_coins_0 hown hK hP 0 rfl rfl 2 (by decide) (hts (.fieldLink RX10 25 "NotAtOnce" "table" "LNotAtOnce$Table;") (by decide +kernel)) (fun _ h9 => h9) rfl dX10_coins_1 ?_
  refine lv_iload_n hx hb dX10_coins_4 rfl (lv_at hl 1 rfl) ?_
  refine lv_iload_n hx hb dX10_coins_5 rfl (lv_at hl 2 rfl) ?_
  have hPc := hP.sub (ws' := [(tb, .inr (8, [.int lw, .int lk, .int 0, .int vr, .ref a1, .ref a2, .ref a3, .ref a4]))]) [1] rfl
  have hDc := hD.sub (ws' := [(tb, .inr (8, [.int lw, .int lk, .int 0, .int vr, .ref a1, .ref a2, .ref a3, .ref a4]))]) [1] (by decide) rfl
  have hKc := hK.sub (tys' := []) [] rfl
  have hFc := va_free (wc := [(tb, .inr (8, [.int lw, .int lk, .int 0, .int vr, .ref a1, .ref a2, .ref a3, .ref a4]))]) hD hS hA [1] rfl
  refine va_calli (va_runV (As := [.int p0, .int p1]) (rest := []) ⟨hx, hb, hml, hown, hts⟩ (c_hasOutcome_0 l dC dI s.heap.size tb lw lk vr a1 a2 a3 a4 p0 p1) (cwV 2 hts gX10_coins_X8_hasOutcome rfl rfl rfl (by decide +kernel) ⟨Nat.le_of_ble_eq_true rfl, Nat.le_of_ble_eq_true rfl⟩) ⟨fun a U g mk q => by obtain ⟨q0, q1, qP, qK, qD⟩ := q; exact ⟨q0, q1, qP, va_K.moved (u := U) (U := U.calling g mk a) (Vm.Alike.refl U.vm) qK, qD⟩, va_recv hKc hPc (ci := 8) (q0 := 0) rfl rfl, fun U hU hW => ⟨rfl, by rw [hU], by rw [hU]; exact hPc, va_K.moved hW.alike hKc, hDc.weaken (fun _ _ _ _ => trivial)⟩⟩ rfl rfl hl.1 rfl (lv_room (Nat.le_of_ble_eq_true rfl)) dX10_coins_6 ⟨Nat.le_of_ble_eq_true rfl, Nat.le_of_ble_eq_true rfl⟩) hS (fun q _ h => hFc q h) hFc (fun r_1 u t H1 locs ht hvm hw hB hz1 hk1 hS => ?_)
  obtain ⟨hP1, hK1, hD1⟩ := hB
  rw [ht] at hP1
  have hK1 := va_K.moved hvm.symm hK1
  try dsimp only at hw
  obtain ⟨hP, hD⟩ := va_join (wr := [(h0, .inr (10, [.ref tp, .ref rd, .ref tb, .ref rg, .ref bl, .ref pa, .ref fm, .ref te, .ref hi, .ref fr, .int fd, .int rf, .int lf, .int fp]))]) (w1 := [(tb, .inr (8, [.int lw, .int lk, .int 0, .int vr, .ref a1, .ref a2, .ref a3, .ref a4]))]) hP hD [1] [0] rfl rfl (by decide) (by decide) hk1 hFc hP1 hD1
  have hK := (hK.sub (tys' := []) [] rfl).app hK1
  generalize H1 = H at hP hS ⊢
  have hP : va_P (dC, dI) vwCl [(h0, .inr (10, [.ref tp, .ref rd, .ref tb, .ref rg, .ref bl, .ref pa, .ref fm, .ref te, .ref hi, .ref fr, .int fd, .int rf, .int lf, .int fp])), (tb, .inr (8, [.int lw, .int lk, .int 0, .int vr, .ref a1, .ref a2, .ref a3, .ref a4]))] H := hP
  have hD : va_D A [(h0, .inr (10, [.ref tp, .ref rd, .ref tb, .ref rg, .ref bl, .ref pa, .ref fm, .ref te, .ref hi, .ref fr, .int fd, .int rf, .int lf, .int fp])), (tb, .inr (8, [.int lw, .int lk, .int 0, .int vr, .ref a1, .ref a2, .ref a3, .ref a4]))] := hD
  have hK : va_K (dC, dI) vwCl [] s := hK
  refine W.widen (k := 0) (n := 0) (by omega) (by omega) ?_
  have er_1 : r_1 = 0 := hw
  subst er_1
  refine lv_if_ne (tgt := 18) hx hb dX10_coins_9 (by decide) (fun c_2 => absurd c_2 (by decide)) (fun c_2 => ?_)
  refine lv_aload_n hx hb dX10_coins_12 rfl (lv_at hl 0 rfl) ?_
  refine lv_iconst (v := 1) hx hb dX10_coins_13 (by decide) ?_
  have hPc := hP.sub (ws' := [(h0, .inr (10, [.ref tp, .ref rd, .ref tb, .ref rg, .ref bl, .ref pa, .ref fm, .ref te, .ref hi, .ref fr, .int fd, .int rf, .int lf, .int fp]))]) [0] rfl
  have hDc := hD.sub (ws' := [(h0, .inr (10, [.ref tp, .ref rd, .ref tb, .ref rg, .ref bl, .ref pa, .ref fm, .ref te, .ref hi, .ref fr, .int fd, .int rf, .int lf, .int fp]))]) [0] (by decide) rfl
  have hKc := hK.sub (tys' := []) [] rfl
  have hFc := va_free (wc := [(h0, .inr (10, [.ref tp, .ref rd, .ref tb, .ref rg, .ref bl, .ref pa, .ref fm, .ref te, .ref hi, .ref fr, .int fd, .int rf, .int lf, .int fp]))]) hD hS hA [0] rfl
  refine va_calli (va_runV (As := [.int 1]) (rest := []) ⟨hx, hb, hml, hown, hts⟩ (c_refused l dC dI H.size h0 tp rd tb rg bl pa fm te hi fr fd rf lf fp 1) (cwV 1 hts gX10_coins_X10_refused rfl rfl rfl (by decide +kernel) ⟨Nat.le_of_ble_eq_true rfl, Nat.le_of_ble_eq_true rfl⟩) ⟨fun a U g mk q => by obtain ⟨q0, q1, qP, qK, qD⟩ := q; exact ⟨q0, q1, qP, va_K.moved (u := U) (U := U.calling g mk a) (Vm.Alike.refl U.vm) qK, qD⟩, va_recv hKc hPc (ci := 10) (q0 := 0) rfl rfl, fun U hU hW => ⟨rfl, by rw [hU], by rw [hU]; exact hPc, va_K.moved hW.alike hKc, hDc.weaken (fun _ _ _ _ => trivial)⟩⟩ rfl rfl hl.1 rfl (lv_room (Nat.le_of_ble_eq_true rfl)) dX10_coins_14 ⟨Nat.le_of_ble_eq_true rfl, Nat.le_of_ble_eq_true rfl⟩) hS (fun q _ h => hFc q h) hFc (fun r_3 u t H1 locs ht hvm hw hB hz1 hk1 hS => ?_)
  obtain ⟨hP1, hK1, hD1⟩ := hB
  rw [ht] at hP1
  have hK1 := va_K.moved hvm.symm hK1
  try dsimp only at hw
  obtain ⟨hP, hD⟩ := va_join (wr := [(tb, .inr (8, [.int lw, .int lk, .int 0, .int vr, .ref a1, .ref a2, .ref a3, .ref a4]))]) (w1 := [(h0, .inr (10, [.ref tp, .ref rd, .ref tb, .ref rg, .ref bl, .ref pa, .ref fm, .ref te, .ref hi, .ref fr, .int fd, .int 1, .int lf, .int fp]))]) hP hD [0] [1] rfl rfl (by decide) (by decide) hk1 hFc hP1 hD1
  have hK := (hK.sub (tys' := []) [] rfl).app hK1
  generalize H1 = H at hP hS ⊢
  have hP : va_P (dC, dI) vwCl [(tb, .inr (8, [.int lw, .int lk, .int 0, .int vr, .ref a1, .ref a2, .ref a3, .ref a4])), (h0, .inr (10, [.ref tp, .ref rd, .ref tb, .ref rg, .ref bl, .ref pa, .ref fm, .ref te, .ref hi, .ref fr, .int fd, .int 1, .int lf, .int fp]))] H := hP
  have hD : va_D A [(tb, .inr (8, [.int lw, .int lk, .int 0, .int vr, .ref a1, .ref a2, .ref a3, .ref a4])), (h0, .inr (10, [.ref tp, .ref rd, .ref tb, .ref rg, .ref bl, .ref pa, .ref fm, .ref te, .ref hi, .ref fr, .int fd, .int 1, .int lf, .int fp]))] := hD
  have hK : va_K (dC, dI) vwCl [] s := hK
  refine W.widen (k := 0) (n := 0) (by omega) (by omega) ?_
  have er_3 : r_3 = (-1) := hw
  subst er_3
  have hP9 := hP.sub (ws' := [(h0, .inr (10, [.ref tp, .ref rd, .ref tb, .ref rg, .ref bl, .ref pa, .ref fm, .ref te, .ref hi, .ref fr, .int fd, .int 1, .int lf, .int fp])), (tb, .inr (8, [.int lw, .int lk, .int 0, .int vr, .ref a1, .ref a2, .ref a3, .ref a4]))]) [1, 0] rfl
  have hD9 := hD.sub (ws' := [(h0, .inr (10, [.ref tp, .ref rd, .ref tb, .ref rg, .ref bl, .ref pa, .ref fm, .ref te, .ref hi, .ref fr, .int fd, .int 1, .int lf, .int fp])), (tb, .inr (8, [.int lw, .int lk, .int 0, .int vr, .ref a1, .ref a2, .ref a3, .ref a4]))]) [1, 0] (by decide) rfl
  have hK9 := hK.sub (tys' := []) [] rfl
  refine W.widen (k := 0) (n := 0) (Nat.le_of_ble_eq_true rfl) (Nat.le_of_ble_eq_true rfl) ?_
  exact W.iret (v := (-1)) hx hb hr (fun t ht hW => ⟨⟨(-1), (), rfl, rfl, by rw [ht]; exact hP9, va_K.moved hW.alike hK9, hD9⟩, hS.F ht⟩) hS.2.2 dX10_coins_17

set_option maxRecDepth 20000 in
theorem iw_X10_look_X10_c_look_0 : ∀ w ∈ wsX100, w ∈ wsX10_look := by decide +kernel
set_option maxHeartbeats 4000000 in
set_option maxRecDepth 100000 in
/-- look where there is none such -/
theorem c_look_0 (l : Launch) (dC : Nat → ClassId) (dI : Nat → Nat → Nat) (sz : Nat) (h0 : Nat) (tp : Nat) (rd : Nat) (tb : Nat) (rg : Nat) (bl : Nat) (pa : Nat) (fm : Nat) (te : Nat) (hi : Nat) (fr : Nat) (fd : Int32) (rf : Int32) (lf : Int32) (fp : Int32) (lw : Int32) (lk : Int32) (vr : Int32) (a1 : Nat) (a2 : Nat) (a3 : Nat) (a4 : Nat) (p0 : Int32) (p1 : Int32)  : Met l yX10_look wsX10_look ({ frames := 1, cells := 0, slots := 0, locals := 21 }) (va_Pc [.ref h0, .int p0, .int p1] (fun U => U.heap.size = sz ∧ va_P (dC, dI) vwCl [(h0, .inr (10, [.ref tp, .ref rd, .ref tb, .ref rg, .ref bl, .ref pa, .ref fm, .ref te, .ref hi, .ref fr, .int fd, .int rf, .int lf, .int fp])), (tb, .inr (8, [.int lw, .int lk, .int 0, .int vr, .ref a1, .ref a2, .ref a3, .ref a4]))] U.heap ∧ va_K (dC, dI) vwCl [] U ∧ va_D (fun _ => True) [(h0, .inr (10, [.ref tp, .ref rd, .ref tb, .ref rg, .ref bl, .ref pa, .ref fm, .ref te, .ref hi, .ref fr, .int fd, .int rf, .int lf, .int fp])), (tb, .inr (8, [.int lw, .int lk, .int 0, .int vr, .ref a1, .ref a2, .ref a3, .ref a4]))])) (va_Qi (fun (r : Int32) (_ : Unit) => r = (-1)) (fun _ t => va_P (dC, dI) vwCl [(h0, .inr (10, [.ref tp, .ref rd, .ref tb, .ref rg, .ref bl, .ref pa, .ref fm, .ref te, .ref hi, .ref fr, .int fd, .int 1, .int lf, .int fp])), (tb, .inr (8, [.int lw, .int lk, .int 0, .int vr, .ref a1, .ref a2, .ref a3, .ref a4]))] t.heap ∧ va_K (dC, dI) vwCl [] t ∧ va_D (va_A [(h0, .inr (10, [.ref tp, .ref rd, .ref tb, .ref rg, .ref bl, .ref pa, .ref fm, .ref te, .ref hi, .ref fr, .int fd, .int rf, .int lf, .int fp])), (tb, .inr (8, [.int lw, .int lk, .int 0, .int vr, .ref a1, .ref a2, .ref a3, .ref a4]))] sz) [(h0, .inr (10, [.ref tp, .ref rd, .ref tb, .ref rg, .ref bl, .ref pa, .ref fm, .ref te, .ref hi, .ref fr, .int fd, .int 1, .int lf, .int fp])), (tb, .inr (8, [.int lw, .int lk, .int 0, .int vr, .ref a1, .ref a2, .ref a3, .ref a4]))]) (va_A [(h0, .inr (10, [.ref tp, .ref rd, .ref tb, .ref rg, .ref bl, .ref pa, .ref fm, .ref te, .ref hi, .ref fr, .int fd, .int rf, .int lf, .int fp])), (tb, .inr (8, [.int lw, .int lk, .int 0, .int vr, .ref a1, .ref a2, .ref a3, .ref a4]))] sz)) 0 0 (va_A [(h0, .inr (10, [.ref tp, .ref rd, .ref tb, .ref rg, .ref bl, .ref pa, .ref fm, .ref te, .ref hi, .ref fr, .int fd, .int rf, .int lf, .int fp])), (tb, .inr (8, [.int lw, .int lk, .int 0, .int vr, .ref a1, .ref a2, .ref a3, .ref a4]))] sz) := by
  refine Met.ofW (cc := cX10_look) (maxL := 3) (ret := (some .int)) (by decide) rfl ?_
  intro p e s m args below meth c s₁ B hml hv
  obtain ⟨rfl, hsz, hP, hK, hD0⟩ := hv
  have hx := B.exec
  have hb := B.bytes
  have hr := B.returns
  have hts := atoms_spec (ws := wsX10_look) B.pre
  have hown : s.vm.findClass RX10 = some m.cls := findClass_of_methodNamed B.named
  have hlocks := B.notSynchronized
  subst hsz
  have hD := hD0.self (sz := s.heap.size)
  generalize hAe : va_A [(h0, .inr (10, [.ref tp, .ref rd, .ref tb, .ref rg, .ref bl, .ref pa, .ref fm, .ref te, .ref hi, .ref fr, .int fd, .int rf, .int lf, .int fp])), (tb, .inr (8, [.int lw, .int lk, .int 0, .int vr, .ref a1, .ref a2, .ref a3, .ref a4]))] s.heap.size = A at hD ⊢
  have hA : ∀ q : Nat, s.heap.size ≤ q → A q := fun q h => by rw [← hAe]; exact Or.inr h
  have hS : va_S A s.heap s.heap [] := va_S.rf
  have hP : va_P (dC, dI) vwCl [(h0, .inr (10, [.ref tp, .ref rd, .ref tb, .ref rg, .ref bl, .ref pa, .ref fm, .ref te, .ref hi, .ref fr, .int fd, .int rf, .int lf, .int fp])), (tb, .inr (8, [.int lw, .int lk, .int 0, .int vr, .ref a1, .ref a2, .ref a3, .ref a4]))] s.heap := hP
  have hl := lv_entry ([.ref h0, .int p0, .int p1]) (n := 3) (Nat.le_of_ble_eq_true rfl)
  rw [lg_entry_eq]
  generalize (lg_sl ([.ref h0, .int p0, .int p1]) ++ List.replicate (3 - (lg_sl ([.ref h0, .int p0, .int p1])).length) Slot.unset).toArray = ls at hl ⊢
  have hl : lv_has ls 3 [(0, .ref h0), (1, .int p0), (2, .int p1)] := hl
  refine lv_aload_n hx hb dX10_look_0 rfl (lv_at hl 0 rfl) ?_
  refine va_get (D := (dC, dI)) (ci := 10) (v := .ref tb) (C := RX10) (T := TX10) (N := 14) hx hb hts iw_X10_look_X10_c_look_0 hown hK hP 0 rfl rfl 2 (by decide) (hts (.fieldLink RX10 25 "NotAtOnce" "table" "LNotAtOnce$Table;") (by decide +kernel)) (fun _ h9 => h9) rfl dX10_look_1 ?_
  refine lv_iload_n hx hb dX10_look_4 rfl (lv_at hl 1 rfl) ?_
  have hPc := hP.sub (ws' := [(tb, .inr (8, [.int lw, .int lk, .int 0, .int vr, .ref a1, .ref a2, .ref a3, .ref a4]))]) [1] rfl
  have hDc := hD.sub (ws' := [(tb, .inr (8, [.int lw, .int lk, .int 0, .int vr, .ref a1, .ref a2, .ref a3, .ref a4]))]) [1] (by decide) rfl
  have hKc := hK.sub (tys' := []) [] rfl
  have hFc := va_free (wc := [(tb, .inr (8, [.int lw, .int lk, .int 0, .int vr, .ref a1, .ref a2, .ref a3, .ref a4]))]) hD hS hA [1] rfl
  refine va_calli (va_runV (As := [.int p0]) (rest := []) ⟨hx, hb, hml, hown, hts⟩ (c_hasSet_0 l dC dI s.heap.size tb lw lk vr a1 a2 a3 a4 p0) (cwV 1 hts gX10_look_X8_hasSet rfl rfl rfl (by decide +kernel) ⟨Nat.le_of_ble_eq_true rfl, Nat.le_of_ble_eq_true rfl⟩) ⟨fun a U g mk q => by obtain ⟨q0, q1, qP, qK, qD⟩ := q; exact ⟨q0, q1, qP, va_K.moved (u := U) (U := U.calling g mk a) (Vm.Alike.refl U.vm) qK, qD⟩, va_recv hKc hPc (ci := 8) (q0 := 0) rfl rfl, fun U hU hW => ⟨rfl, by rw [hU], by rw [hU]; exact hPc, va_K.moved hW.alike hKc, hDc.weaken (fun _ _ _ _ => trivial)⟩⟩ rfl rfl hl.1 rfl (lv_room (Nat.le_of_ble_eq_true rfl)) dX10_look_5 ⟨Nat.le_of_ble_eq_true rfl, Nat.le_of_ble_eq_true rfl⟩) hS (fun q _ h => hFc q h) hFc (fun r_1 u t H1 locs ht hvm hw hB hz1 hk1 hS => ?_)
  obtain ⟨hP1, hK1, hD1⟩ := hB
  rw [ht] at hP1
  have hK1 := va_K.moved hvm.symm hK1
  try dsimp only at hw
  obtain ⟨hP, hD⟩ := va_join (wr := [(h0, .inr (10, [.ref tp, .ref rd, .ref tb, .ref rg, .ref bl, .ref pa, .ref fm, .ref te, .ref hi, .ref fr, .int fd, .int rf, .int lf, .int fp]))]) (w1 := [(tb, .inr (8, [.int lw, .int lk, .int 0, .int vr, .ref a1, .ref a2, .ref a3, .ref a4]))]) hP hD [1] [0] rfl rfl (by decide) (by decide) hk1 hFc hP1 hD1
  have hK := (hK.sub (tys' := []) [] rfl).app hK1
  generalize H1 = H at hP hS ⊢
  have hP : va_P (dC, dI) vwCl [(h0, .inr (10, [.ref tp, .ref rd, .ref tb, .ref rg, .ref bl, .ref pa, .ref fm, .ref te, .ref hi, .ref fr, .int fd, .int rf, .int lf, .int fp])), (tb, .inr (8, [.int lw, .int lk, .int 0, .int vr, .ref a1, .ref a2, .ref a3, .ref a4]))] H := hP
  have hD : va_D A [(h0, .inr (10, [.ref tp, .ref rd, .ref tb, .ref rg, .ref bl, .ref pa, .ref fm, .ref te, .ref hi, .ref fr, .int fd, .int rf, .int lf, .int fp])), (tb, .inr (8, [.int lw, .int lk, .int 0, .int vr, .ref a1, .ref a2, .ref a3, .ref a4]))] := hD
  have hK : va_K (dC, dI) vwCl [] s := hK
  refine W.widen (k := 0) (n := 0) (by omega) (by omega) ?_
  have er_1 : r_1 = 0 := hw
  subst er_1
  refine lv_if_ne (tgt := 17) hx hb dX10_look_8 (by decide) (fun c_2 => absurd c_2 (by decide)) (fun c_2 => ?_)
  refine lv_aload_n hx hb dX10_look_11 rfl (lv_at hl 0 rfl) ?_
  refine lv_iconst (v := 1) hx hb dX10_look_12 (by decide) ?_
  have hPc := hP.sub (ws' := [(h0, .inr (10, [.ref tp, .ref rd, .ref tb, .ref rg, .ref bl, .ref pa, .ref fm, .ref te, .ref hi, .ref fr, .int fd, .int rf, .int lf, .int fp]))]) [0] rfl
  have hDc := hD.sub (ws' := [(h0, .inr (10, [.ref tp, .ref rd, .ref tb, .ref rg, .ref bl, .ref pa, .ref fm, .ref te, .ref hi, .ref fr, .int fd, .int rf, .int lf, .int fp]))]) [0] (by decide) rfl
  have hKc := hK.sub (tys' := []) [] rfl
  have hFc := va_free (wc := [(h0, .inr (10, [.ref tp, .ref rd, .ref tb, .ref rg, .ref bl, .ref pa, .ref fm, .ref te, .ref hi, .ref fr, .int fd, .int rf, .int lf, .int fp]))]) hD hS hA [0] rfl
  refine va_calli (va_runV (As := [.int 1]) (rest := []) ⟨hx, hb, hml, hown, hts⟩ (c_refused l dC dI H.size h0 tp rd tb rg bl pa fm te hi fr fd rf lf fp 1) (cwV 1 hts gX10_look_X10_refused rfl rfl rfl (by decide +kernel) ⟨Nat.le_of_ble_eq_true rfl, Nat.le_of_ble_eq_true rfl⟩) ⟨fun a U g mk q => by obtain ⟨q0, q1, qP, qK, qD⟩ := q; exact ⟨q0, q1, qP, va_K.moved (u := U) (U := U.calling g mk a) (Vm.Alike.refl U.vm) qK, qD⟩, va_recv hKc hPc (ci := 10) (q0 := 0) rfl rfl, fun U hU hW => ⟨rfl, by rw [hU], by rw [hU]; exact hPc, va_K.moved hW.alike hKc, hDc.weaken (fun _ _ _ _ => trivial)⟩⟩ rfl rfl hl.1 rfl (lv_room (Nat.le_of_ble_eq_true rfl)) dX10_look_13 ⟨Nat.le_of_ble_eq_true rfl, Nat.le_of_ble_eq_true rfl⟩) hS (fun q _ h => hFc q h) hFc (fun r_3 u t H1 locs ht hvm hw hB hz1 hk1 hS => ?_)
  obtain ⟨hP1, hK1, hD1⟩ := hB
  rw [ht] at hP1
  have hK1 := va_K.moved hvm.symm hK1
  try dsimp only at hw
  obtain ⟨hP, hD⟩ := va_join (wr := [(tb, .inr (8, [.int lw, .int lk, .int 0, .int vr, .ref a1, .ref a2, .ref a3, .ref a4]))]) (w1 := [(h0, .inr (10, [.ref tp, .ref rd, .ref tb, .ref rg, .ref bl, .ref pa, .ref fm, .ref te, .ref hi, .ref fr, .int fd, .int 1, .int lf, .int fp]))]) hP hD [0] [1] rfl rfl (by decide) (by decide) hk1 hFc hP1 hD1
  have hK := (hK.sub (tys' := []) [] rfl).app hK1
  generalize H1 = H at hP hS ⊢
  have hP : va_P (dC, dI) vwCl [(tb, .inr (8, [.int lw, .int lk, .int 0, .int vr, .ref a1, .ref a2, .ref a3, .ref a4])), (h0, .inr (10, [.ref tp, .ref rd, .ref tb, .ref rg, .ref bl, .ref pa, .ref fm, .ref te, .ref hi, .ref fr, .int fd, .int 1, .int lf, .int fp]))] H := hP
  have hD : va_D A [(tb, .inr (8, [.int lw, .int lk, .int 0, .int vr, .ref a1, .ref a2, .ref a3, .ref a4])), (h0, .inr (10, [.ref tp, .ref rd, .ref tb, .ref rg, .ref bl, .ref pa, .ref fm, .ref te, .ref hi, .ref fr, .int fd, .int 1, .int lf, .int fp]))] := hD
  have hK : va_K (dC, dI) vwCl [] s := hK
  refine W.widen (k := 0) (n := 0) (by omega) (by omega) ?_
  have er_3 : r_3 = (-1) := hw
  subst er_3
  have hP9 := hP.sub (ws' := [(h0, .inr (10, [.ref tp, .ref rd, .ref tb, .ref rg, .ref bl, .ref pa, .ref fm, .ref te, .ref hi, .ref fr, .int fd, .int 1, .int lf, .int fp])), (tb, .inr (8, [.int lw, .int lk, .int 0, .int vr, .ref a1, .ref a2, .ref a3, .ref a4]))]) [1, 0] rfl
  have hD9 := hD.sub (ws' := [(h0, .inr (10, [.ref tp, .ref rd, .ref tb, .ref rg, .ref bl, .ref pa, .ref fm, .ref te, .ref hi, .ref fr, .int fd, .int 1, .int lf, .int fp])), (tb, .inr (8, [.int lw, .int lk, .int 0, .int vr, .ref a1, .ref a2, .ref a3, .ref a4]))]) [1, 0] (by decide) rfl
  have hK9 := hK.sub (tys' := []) [] rfl
  refine W.widen (k := 0) (n := 0) (Nat.le_of_ble_eq_true rfl) (Nat.le_of_ble_eq_true rfl) ?_
  exact W.iret (v := (-1)) hx hb hr (fun t ht hW => ⟨⟨(-1), (), rfl, rfl, by rw [ht]; exact hP9, va_K.moved hW.alike hK9, hD9⟩, hS.F ht⟩) hS.2.2 dX10_look_16

set_option maxRecDepth 20000 in
theorem iw_X10_same_X10_c_same_0 : ∀ w ∈ wsX100, w ∈ wsX10_same := by decide +kernel
set_option maxHeartbeats 4000000 in
set_option maxRecDepth 100000 in
/-- same where there is none such -/
theorem c_same_0 (l : Launch) (dC : Nat → ClassId) (dI : Nat → Nat → Nat) (sz : Nat) (h0 : Nat) (tp : Nat) (rd : Nat) (tb : Nat) (rg : Nat) (bl : Nat) (pa : Nat) (fm : Nat) (te : Nat) (hi : Nat) (fr : Nat) (fd : Int32) (rf : Int32) (lf : Int32) (fp : Int32) (lw : Int32) (lk : Int32) (vr : Int32) (a1 : Nat) (a2 : Nat) (a3 : Nat) (a4 : Nat) (p0 : Int32)  : Met l yX10_same wsX10_same ({ frames := 2, cells := 0, slots := 0, locals := 42 }) (va_Pc [.ref h0, .int p0] (fun U => U.heap.size = sz ∧ va_P (dC, dI) vwCl [(h0, .inr (10, [.ref tp, .ref rd, .ref tb, .ref rg, .ref bl, .ref pa, .ref fm, .ref te, .ref hi, .ref fr, .int fd, .int rf, .int lf, .int fp])), (tb, .inr (8, [.int lw, .int lk, .int 0, .int vr, .ref a1, .ref a2, .ref a3, .ref a4]))] U.heap ∧ va_K (dC, dI) vwCl [] U ∧ va_D (fun _ => True) [(h0, .inr (10, [.ref tp, .ref rd, .ref tb, .ref rg, .ref bl, .ref pa, .ref fm, .ref te, .ref hi, .ref fr, .int fd, .int rf, .int lf, .int fp])), (tb, .inr (8, [.int lw, .int lk, .int 0, .int vr, .ref a1, .ref a2, .ref a3, .ref a4]))])) (va_Qi (fun (r : Int32) (_ : Unit) => r = (-1000)) (fun _ t => va_P (dC, dI) vwCl [(h0, .inr (10, [.ref tp, .ref rd, .ref tb, .ref rg, .ref bl, .ref pa, .ref fm, .ref te, .ref hi, .ref fr, .int fd, .int 1, .int lf, .int fp])), (tb, .inr (8, [.int lw, .int lk, .int 0, .int vr, .ref a1, .ref a2, .ref a3, .ref a4]))] t.heap ∧ va_K (dC, dI) vwCl [] t ∧ va_D (va_A [(h0, .inr (10, [.ref tp, .ref rd, .ref tb, .ref rg, .ref bl, .ref pa, .ref fm, .ref te, .ref hi, .ref fr, .int fd, .int rf, .int lf, .int fp])), (tb, .inr (8, [.int lw, .int lk, .int 0, .int vr, .ref a1, .ref a2, .ref a3, .ref a4]))] sz) [(h0, .inr (10, [.ref tp, .ref rd, .ref tb, .ref rg, .ref bl, .ref pa, .ref fm, .ref te, .ref hi, .ref fr, .int fd, .int 1, .int lf, .int fp])), (tb, .inr (8, [.int lw, .int lk, .int 0, .int vr, .ref a1, .ref a2, .ref a3, .ref a4]))]) (va_A [(h0, .inr (10, [.ref tp, .ref rd, .ref tb, .ref rg, .ref bl, .ref pa, .ref fm, .ref te, .ref hi, .ref fr, .int fd, .int rf, .int lf, .int fp])), (tb, .inr (8, [.int lw, .int lk, .int 0, .int vr, .ref a1, .ref a2, .ref a3, .ref a4]))] sz)) 0 0 (va_A [(h0, .inr (10, [.ref tp, .ref rd, .ref tb, .ref rg, .ref bl, .ref pa, .ref fm, .ref te, .ref hi, .ref fr, .int fd, .int rf, .int lf, .int fp])), (tb, .inr (8, [.int lw, .int lk, .int 0, .int vr, .ref a1, .ref a2, .ref a3, .ref a4]))] sz) := by
  refine Met.ofW (cc := cX10_same) (maxL := 2) (ret := (some .int)) (by decide) rfl ?_
  intro p e s m args below meth c s₁ B hml hv
  obtain ⟨rfl, hsz, hP, hK, hD0⟩ := hv
  have hx := B.exec
  have hb := B.bytes
  have hr := B.returns
  have hts := atoms_spec (ws := wsX10_same) B.pre
  have hown : s.vm.findClass RX10 = some m.cls := findClass_of_methodNamed B.named
  have hlocks := B.notSynchronized
  subst hsz
  have hD := hD0.self (sz := s.heap.size)
  generalize hAe : va_A [(h0, .inr (10, [.ref tp, .ref rd, .ref tb, .ref rg, .ref bl, .ref pa, .ref fm, .ref te, .ref hi, .ref fr, .int fd, .int rf, .int lf, .int fp])), (tb, .inr (8, [.int lw, .int lk, .int 0, .int vr, .ref a1, .ref a2, .ref a3, .ref a4]))] s.heap.size = A at hD ⊢
  have hA : ∀ q : Nat, s.heap.size ≤ q → A q := fun q h => by rw [← hAe]; exact Or.inr h
  have hS : va_S A s.heap s.heap [] := va_S.rf
  have hP : va_P (dC, dI) vwCl [(h0, .inr (10, [.ref tp, .ref rd, .ref tb, .ref rg, .ref bl, .ref pa, .ref fm, .ref te, .ref hi, .ref fr, .int fd, .int rf, .int lf, .int fp])), (tb, .inr (8, [.int lw, .int lk, .int 0, .int vr, .ref a1, .ref a2, .ref a3, .ref a4]))] s.heap := hP
  have hl := lv_entry ([.ref h0, .int p0]) (n := 2) (Nat.le_of_ble_eq_true rfl)
  rw [lg_entry_eq]
  generalize (lg_sl ([.ref h0, .int p0]) ++ List.replicate (2 - (lg_sl ([.ref h0, .int p0])).length) Slot.unset).toArray = ls at hl ⊢
  have hl : lv_has ls 2 [(0, .ref h0), (1, .int p0)] := hl
  refine lv_aload_n hx hb dX10_same_0 rfl (lv_at hl 0 rfl) ?_
  refine va_get (D := (dC, dI)) (ci := 10) (v := .ref tb) (C := RX10) (T := TX10) (N := 14) hx hb hts iw_X10_same_X10_c_same_0 hown hK hP 0 rfl rfl 2 (by decide) (hts (.fieldLink RX10 25 "NotAtOnce" "table" "LNotAtOnce$Table;") (by decide +kernel)) (fun _ h9 => h9) rfl dX10_same_1 ?_
  refine lv_iload_n hx hb dX10_same_4 rfl (lv_at hl 1 rfl) ?_
  have hPc := hP.sub (ws' := [(tb, .inr (8, [.int lw, .int lk, .int 0, .int vr, .ref a1, .ref a2, .ref a3, .ref a4]))]) [1] rfl
  have hDc := hD.sub (ws' := [(tb, .inr (8, [.int lw, .int lk, .int 0, .int vr, .ref a1, .ref a2, .ref a3, .ref a4]))]) [1] (by decide) rfl
  have hKc := hK.sub (tys' := []) [] rfl
  have hFc := va_free (wc := [(tb, .inr (8, [.int lw, .int lk, .int 0, .int vr, .ref a1, .ref a2, .ref a3, .ref a4]))]) hD hS hA [1] rfl
  refine va_calli (va_runV (As := [.int p0]) (rest := []) ⟨hx, hb, hml, hown, hts⟩ (c_hasPair_0 l dC dI s.heap.size tb lw lk vr a1 a2 a3 a4 p0) (cwV 1 hts gX10_same_X8_hasPair rfl rfl rfl (by decide +kernel) ⟨Nat.le_of_ble_eq_true rfl, Nat.le_of_ble_eq_true rfl⟩) ⟨fun a U g mk q => by obtain ⟨q0, q1, qP, qK, qD⟩ := q; exact ⟨q0, q1, qP, va_K.moved (u := U) (U := U.calling g mk a) (Vm.Alike.refl U.vm) qK, qD⟩, va_recv hKc hPc (ci := 8) (q0 := 0) rfl rfl, fun U hU hW => ⟨rfl, by rw [hU], by rw [hU]; exact hPc, va_K.moved hW.alike hKc, hDc.weaken (fun _ _ _ _ => trivial)⟩⟩ rfl rfl hl.1 rfl (lv_room (Nat.le_of_ble_eq_true rfl)) dX10_same_5 ⟨Nat.le_of_ble_eq_true rfl, Nat.le_of_ble_eq_true rfl⟩) hS (fun q _ h => hFc q h) hFc (fun r_1 u t H1 locs ht hvm hw hB hz1 hk1 hS => ?_)
  obtain ⟨hP1, hK1, hD1⟩ := hB
  rw [ht] at hP1
  have hK1 := va_K.moved hvm.symm hK1
  try dsimp only at hw
  obtain ⟨hP, hD⟩ := va_join (wr := [(h0, .inr (10, [.ref tp, .ref rd, .ref tb, .ref rg, .ref bl, .ref pa, .ref fm, .ref te, .ref hi, .ref fr, .int fd, .int rf, .int lf, .int fp]))]) (w1 := [(tb, .inr (8, [.int lw, .int lk, .int 0, .int vr, .ref a1, .ref a2, .ref a3, .ref a4]))]) hP hD [1] [0] rfl rfl (by decide) (by decide) hk1 hFc hP1 hD1
  have hK := (hK.sub (tys' := []) [] rfl).app hK1
  generalize H1 = H at hP hS ⊢
  have hP : va_P (dC, dI) vwCl [(h0, .inr (10, [.ref tp, .ref rd, .ref tb, .ref rg, .ref bl, .ref pa, .ref fm, .ref te, .ref hi, .ref fr, .int fd, .int rf, .int lf, .int fp])), (tb, .inr (8, [.int lw, .int lk, .int 0, .int vr, .ref a1, .ref a2, .ref a3, .ref a4]))] H := hP
  have hD : va_D A [(h0, .inr (10, [.ref tp, .ref rd, .ref tb, .ref rg, .ref bl, .ref pa, .ref fm, .ref te, .ref hi, .ref fr, .int fd, .int rf, .int lf, .int fp])), (tb, .inr (8, [.int lw, .int lk, .int 0, .int vr, .ref a1, .ref a2, .ref a3, .ref a4]))] := hD
  have hK : va_K (dC, dI) vwCl [] s := hK
  refine W.widen (k := 0) (n := 0) (by omega) (by omega) ?_
  have er_1 : r_1 = 0 := hw
  subst er_1
  refine lv_if_ne (tgt := 20) hx hb dX10_same_8 (by decide) (fun c_2 => absurd c_2 (by decide)) (fun c_2 => ?_)
  refine lv_aload_n hx hb dX10_same_11 rfl (lv_at hl 0 rfl) ?_
  refine lv_iconst (v := 1) hx hb dX10_same_12 (by decide) ?_
  refine va_put (D := (dC, dI)) (ci := 10) (v := .int 1) (ty := .int) (C := RX10) (T := TX10) (N := 14) hx hb hts iw_X10_same_X10_c_same_0 tyX10 tyX10_ok nmX10 hown hK hP hD hS 0 rfl rfl 11 (by decide) (hts (.fieldLink RX10 128 "NotAtOnce" "refusal" "I") (by decide +kernel)) (fun _ h9 => h9) rfl (by decide +kernel) rfl rfl (Nat.le_of_ble_eq_true rfl) dX10_same_13 (fun H locs hP hD hS => ?_)
  have hP : va_P (dC, dI) vwCl [(h0, .inr (10, [.ref tp, .ref rd, .ref tb, .ref rg, .ref bl, .ref pa, .ref fm, .ref te, .ref hi, .ref fr, .int fd, .int 1, .int lf, .int fp])), (tb, .inr (8, [.int lw, .int lk, .int 0, .int vr, .ref a1, .ref a2, .ref a3, .ref a4]))] H := hP
  have hD : va_D A [(h0, .inr (10, [.ref tp, .ref rd, .ref tb, .ref rg, .ref bl, .ref pa, .ref fm, .ref te, .ref hi, .ref fr, .int fd, .int 1, .int lf, .int fp])), (tb, .inr (8, [.int lw, .int lk, .int 0, .int vr, .ref a1, .ref a2, .ref a3, .ref a4]))] := hD
  refine lv_sipush (v := (-1000)) hx hb dX10_same_16 (by decide) ?_
  have hP9 := hP.sub (ws' := [(h0, .inr (10, [.ref tp, .ref rd, .ref tb, .ref rg, .ref bl, .ref pa, .ref fm, .ref te, .ref hi, .ref fr, .int fd, .int 1, .int lf, .int fp])), (tb, .inr (8, [.int lw, .int lk, .int 0, .int vr, .ref a1, .ref a2, .ref a3, .ref a4]))]) [0, 1] rfl
  have hD9 := hD.sub (ws' := [(h0, .inr (10, [.ref tp, .ref rd, .ref tb, .ref rg, .ref bl, .ref pa, .ref fm, .ref te, .ref hi, .ref fr, .int fd, .int 1, .int lf, .int fp])), (tb, .inr (8, [.int lw, .int lk, .int 0, .int vr, .ref a1, .ref a2, .ref a3, .ref a4]))]) [0, 1] (by decide) rfl
  have hK9 := hK.sub (tys' := []) [] rfl
  refine W.widen (k := 0) (n := 0) (Nat.le_of_ble_eq_true rfl) (Nat.le_of_ble_eq_true rfl) ?_
  exact W.iret (v := (-1000)) hx hb hr (fun t ht hW => ⟨⟨(-1000), (), rfl, rfl, by rw [ht]; exact hP9, va_K.moved hW.alike hK9, hD9⟩, hS.F ht⟩) hS.2.2 dX10_same_19

set_option maxRecDepth 20000 in
theorem iw_X10_stake_X10_c_stake_0 : ∀ w ∈ wsX100, w ∈ wsX10_stake := by decide +kernel
set_option maxHeartbeats 4000000 in
set_option maxRecDepth 100000 in
/-- stake where there is none such -/
theorem c_stake_0 (l : Launch) (dC : Nat → ClassId) (dI : Nat → Nat → Nat) (sz : Nat) (h0 : Nat) (tp : Nat) (rd : Nat) (tb : Nat) (rg : Nat) (bl : Nat) (pa : Nat) (fm : Nat) (te : Nat) (hi : Nat) (fr : Nat) (fd : Int32) (rf : Int32) (lf : Int32) (fp : Int32) (lw : Int32) (lk : Int32) (vr : Int32) (a1 : Nat) (a2 : Nat) (a3 : Nat) (a4 : Nat) (p0 : Int32) (p1 : Int32) (p2 : Int32)  : Met l yX10_stake wsX10_stake ({ frames := 2, cells := 0, slots := 0, locals := 43 }) (va_Pc [.ref h0, .int p0, .int p1, .int p2] (fun U => U.heap.size = sz ∧ va_P (dC, dI) vwCl [(h0, .inr (10, [.ref tp, .ref rd, .ref tb, .ref rg, .ref bl, .ref pa, .ref fm, .ref te, .ref hi, .ref fr, .int fd, .int rf, .int lf, .int fp])), (tb, .inr (8, [.int lw, .int lk, .int 0, .int vr, .ref a1, .ref a2, .ref a3, .ref a4]))] U.heap ∧ va_K (dC, dI) vwCl [] U ∧ va_D (fun _ => True) [(h0, .inr (10, [.ref tp, .ref rd, .ref tb, .ref rg, .ref bl, .ref pa, .ref fm, .ref te, .ref hi, .ref fr, .int fd, .int rf, .int lf, .int fp])), (tb, .inr (8, [.int lw, .int lk, .int 0, .int vr, .ref a1, .ref a2, .ref a3, .ref a4]))])) (va_Qi (fun (r : Int32) (_ : Unit) => r = 0) (fun _ t => va_P (dC, dI) vwCl [(h0, .inr (10, [.ref tp, .ref rd, .ref tb, .ref rg, .ref bl, .ref pa, .ref fm, .ref te, .ref hi, .ref fr, .int fd, .int 1, .int lf, .int fp])), (tb, .inr (8, [.int lw, .int lk, .int 0, .int vr, .ref a1, .ref a2, .ref a3, .ref a4]))] t.heap ∧ va_K (dC, dI) vwCl [] t ∧ va_D (va_A [(h0, .inr (10, [.ref tp, .ref rd, .ref tb, .ref rg, .ref bl, .ref pa, .ref fm, .ref te, .ref hi, .ref fr, .int fd, .int rf, .int lf, .int fp])), (tb, .inr (8, [.int lw, .int lk, .int 0, .int vr, .ref a1, .ref a2, .ref a3, .ref a4]))] sz) [(h0, .inr (10, [.ref tp, .ref rd, .ref tb, .ref rg, .ref bl, .ref pa, .ref fm, .ref te, .ref hi, .ref fr, .int fd, .int 1, .int lf, .int fp])), (tb, .inr (8, [.int lw, .int lk, .int 0, .int vr, .ref a1, .ref a2, .ref a3, .ref a4]))]) (va_A [(h0, .inr (10, [.ref tp, .ref rd, .ref tb, .ref rg, .ref bl, .ref pa, .ref fm, .ref te, .ref hi, .ref fr, .int fd, .int rf, .int lf, .int fp])), (tb, .inr (8, [.int lw, .int lk, .int 0, .int vr, .ref a1, .ref a2, .ref a3, .ref a4]))] sz)) 0 0 (va_A [(h0, .inr (10, [.ref tp, .ref rd, .ref tb, .ref rg, .ref bl, .ref pa, .ref fm, .ref te, .ref hi, .ref fr, .int fd, .int rf, .int lf, .int fp])), (tb, .inr (8, [.int lw, .int lk, .int 0, .int vr, .ref a1, .ref a2, .ref a3, .ref a4]))] sz) := by
  refine Met.ofW (cc := cX10_stake) (maxL := 4) (ret := (some .boolean)) (by decide) rfl ?_
  intro p e s m args below meth c s₁ B hml hv
  obtain ⟨rfl, hsz, hP, hK, hD0⟩ := hv
  have hx := B.exec
  have hb := B.bytes
  have hr := B.returns
  have hts := atoms_spec (ws := wsX10_stake) B.pre
  have hown : s.vm.findClass RX10 = some m.cls := findClass_of_methodNamed B.named
  have hlocks := B.notSynchronized
  subst hsz
  have hD := hD0.self (sz := s.heap.size)
  generalize hAe : va_A [(h0, .inr (10, [.ref tp, .ref rd, .ref tb, .ref rg, .ref bl, .ref pa, .ref fm, .ref te, .ref hi, .ref fr, .int fd, .int rf, .int lf, .int fp])), (tb, .inr (8, [.int lw, .int lk, .int 0, .int vr, .ref a1, .ref a2, .ref a3, .ref a4]))] s.heap.size = A at hD ⊢
  have hA : ∀ q : Nat, s.heap.size ≤ q → A q := fun q h => by rw [← hAe]; exact Or.inr h
  have hS : va_S A s.heap s.heap [] := va_S.rf
  have hP : va_P (dC, dI) vwCl [(h0, .inr (10, [.ref tp, .ref rd, .ref tb, .ref rg, .ref bl, .ref pa, .ref fm, .ref te, .ref hi, .ref fr, .int fd, .int rf, .int lf, .int fp])), (tb, .inr (8, [.int lw, .int lk, .int 0, .int vr, .ref a1, .ref a2, .ref a3, .ref a4]))] s.heap := hP
  have hl := lv_entry ([.ref h0, .int p0, .int p1, .int p2]) (n := 4) (Nat.le_of_ble_eq_true rfl)
  rw [lg_entry_eq]
  generalize (lg_sl ([.ref h0, .int p0, .int p1, .int p2]) ++ List.replicate (4 - (lg_sl ([.ref h0, .int p0, .int p1, .int p2])).length) Slot.unset).toArray = ls at hl ⊢
  have hl : lv_has ls 4 [(0, .ref h0), (1, .int p0), (2, .int p1), (3, .int p2)] := hl
  refine lv_aload_n hx hb dX10_stake_0 rfl (lv_at hl 0 rfl) ?_
  refine va_get (D := (dC, dI)) (ci := 10) (v := .ref tb) (C := RX10) (T := TX10) (N := 14) hx hb hts iw_X10_stake_X10_c_stake_0 hown hK hP 0 rfl rfl 2 (by decide) (hts (.fieldLink RX10 25 "NotAtOnce" "table" "LNotAtOnce$Table;") (by decide +kernel)) (fun _ h9 => h9) rfl dX10_stake_1 ?_
  refine lv_iload_n hx hb dX10_stake_4 rfl (lv_at hl 1 rfl) ?_
  refine lv_iload_n hx hb dX10_stake_5 rfl (lv_at hl 2 rfl) ?_
  have hPc := hP.sub (ws' := [(tb, .inr (8, [.int lw, .int lk, .int 0, .int vr, .ref a1, .ref a2, .ref a3, .ref a4]))]) [1] rfl
  have hDc := hD.sub (ws' := [(tb, .inr (8, [.int lw, .int lk, .int 0, .int vr, .ref a1, .ref a2, .ref a3, .ref a4]))]) [1] (by decide) rfl
  have hKc := hK.sub (tys' := []) [] rfl
  have hFc := va_free (wc := [(tb, .inr (8, [.int lw, .int lk, .int 0, .int vr, .ref a1, .ref a2, .ref a3, .ref a4]))]) hD hS hA [1] rfl
  refine va_calli (va_runV (As := [.int p0, .int p1]) (rest := []) ⟨hx, hb, hml, hown, hts⟩ (c_hasOutcome_0 l dC dI s.heap.size tb lw lk vr a1 a2 a3 a4 p0 p1) (cwV 2 hts gX10_stake_X8_hasOutcome rfl rfl rfl (by decide +kernel) ⟨Nat.le_of_ble_eq_true rfl, Nat.le_of_ble_eq_true rfl⟩) ⟨fun a U g mk q => by obtain ⟨q0, q1, qP, qK, qD⟩ := q; exact ⟨q0, q1, qP, va_K.moved (u := U) (U := U.calling g mk a) (Vm.Alike.refl U.vm) qK, qD⟩, va_recv hKc hPc (ci := 8) (q0 := 0) rfl rfl, fun U hU hW => ⟨rfl, by rw [hU], by rw [hU]; exact hPc, va_K.moved hW.alike hKc, hDc.weaken (fun _ _ _ _ => trivial)⟩⟩ rfl rfl hl.1 rfl (lv_room (Nat.le_of_ble_eq_true rfl)) dX10_stake_6 ⟨Nat.le_of_ble_eq_true rfl, Nat.le_of_ble_eq_true rfl⟩) hS (fun q _ h => hFc q h) hFc (fun r_1 u t H1 locs ht hvm hw hB hz1 hk1 hS => ?_)
  obtain ⟨hP1, hK1, hD1⟩ := hB
  rw [ht] at hP1
  have hK1 := va_K.moved hvm.symm hK1
  try dsimp only at hw
  obtain ⟨hP, hD⟩ := va_join (wr := [(h0, .inr (10, [.ref tp, .ref rd, .ref tb, .ref rg, .ref bl, .ref pa, .ref fm, .ref te, .ref hi, .ref fr, .int fd, .int rf, .int lf, .int fp]))]) (w1 := [(tb, .inr (8, [.int lw, .int lk, .int 0, .int vr, .ref a1, .ref a2, .ref a3, .ref a4]))]) hP hD [1] [0] rfl rfl (by decide) (by decide) hk1 hFc hP1 hD1
  have hK := (hK.sub (tys' := []) [] rfl).app hK1
  generalize H1 = H at hP hS ⊢
  have hP : va_P (dC, dI) vwCl [(h0, .inr (10, [.ref tp, .ref rd, .ref tb, .ref rg, .ref bl, .ref pa, .ref fm, .ref te, .ref hi, .ref fr, .int fd, .int rf, .int lf, .int fp])), (tb, .inr (8, [.int lw, .int lk, .int 0, .int vr, .ref a1, .ref a2, .ref a3, .ref a4]))] H := hP
  have hD : va_D A [(h0, .inr (10, [.ref tp, .ref rd, .ref tb, .ref rg, .ref bl, .ref pa, .ref fm, .ref te, .ref hi, .ref fr, .int fd, .int rf, .int lf, .int fp])), (tb, .inr (8, [.int lw, .int lk, .int 0, .int vr, .ref a1, .ref a2, .ref a3, .ref a4]))] := hD
  have hK : va_K (dC, dI) vwCl [] s := hK
  refine W.widen (k := 0) (n := 0) (by omega) (by omega) ?_
  have er_1 : r_1 = 0 := hw
  subst er_1
  refine lv_if_ne (tgt := 18) hx hb dX10_stake_9 (by decide) (fun c_2 => absurd c_2 (by decide)) (fun c_2 => ?_)
  refine lv_aload_n hx hb dX10_stake_12 rfl (lv_at hl 0 rfl) ?_
  refine lv_iconst (v := 1) hx hb dX10_stake_13 (by decide) ?_
  have hPc := hP.sub (ws' := [(h0, .inr (10, [.ref tp, .ref rd, .ref tb, .ref rg, .ref bl, .ref pa, .ref fm, .ref te, .ref hi, .ref fr, .int fd, .int rf, .int lf, .int fp]))]) [0] rfl
  have hDc := hD.sub (ws' := [(h0, .inr (10, [.ref tp, .ref rd, .ref tb, .ref rg, .ref bl, .ref pa, .ref fm, .ref te, .ref hi, .ref fr, .int fd, .int rf, .int lf, .int fp]))]) [0] (by decide) rfl
  have hKc := hK.sub (tys' := []) [] rfl
  have hFc := va_free (wc := [(h0, .inr (10, [.ref tp, .ref rd, .ref tb, .ref rg, .ref bl, .ref pa, .ref fm, .ref te, .ref hi, .ref fr, .int fd, .int rf, .int lf, .int fp]))]) hD hS hA [0] rfl
  refine va_calli (va_runV (As := [.int 1]) (rest := []) ⟨hx, hb, hml, hown, hts⟩ (c_denied l dC dI H.size h0 tp rd tb rg bl pa fm te hi fr fd rf lf fp 1) (cwV 1 hts gX10_stake_X10_denied rfl rfl rfl (by decide +kernel) ⟨Nat.le_of_ble_eq_true rfl, Nat.le_of_ble_eq_true rfl⟩) ⟨fun a U g mk q => by obtain ⟨q0, q1, qP, qK, qD⟩ := q; exact ⟨q0, q1, qP, va_K.moved (u := U) (U := U.calling g mk a) (Vm.Alike.refl U.vm) qK, qD⟩, va_recv hKc hPc (ci := 10) (q0 := 0) rfl rfl, fun U hU hW => ⟨rfl, by rw [hU], by rw [hU]; exact hPc, va_K.moved hW.alike hKc, hDc.weaken (fun _ _ _ _ => trivial)⟩⟩ rfl rfl hl.1 rfl (lv_room (Nat.le_of_ble_eq_true rfl)) dX10_stake_14 ⟨Nat.le_of_ble_eq_true rfl, Nat.le_of_ble_eq_true rfl⟩) hS (fun q _ h => hFc q h) hFc (fun r_3 u t H1 locs ht hvm hw hB hz1 hk1 hS => ?_)
  obtain ⟨hP1, hK1, hD1⟩ := hB
  rw [ht] at hP1
  have hK1 := va_K.moved hvm.symm hK1
  try dsimp only at hw
  obtain ⟨hP, hD⟩ := va_join (wr := [(tb, .inr (8, [.int lw, .int lk, .int 0, .int vr, .ref a1, .ref a2, .ref a3, .ref a4]))]) (w1 := [(h0, .inr (10, [.ref tp, .ref rd, .ref tb, .ref rg, .ref bl, .ref pa, .ref fm, .ref te, .ref hi, .ref fr, .int fd, .int 1, .int lf, .int fp]))]) hP hD [0] [1] rfl rfl (by decide) (by decide) hk1 hFc hP1 hD1
  have hK := (hK.sub (tys' := []) [] rfl).app hK1
  generalize H1 = H at hP hS ⊢
  have hP : va_P (dC, dI) vwCl [(tb, .inr (8, [.int lw, .int lk, .int 0, .int vr, .ref a1, .ref a2, .ref a3, .ref a4])), (h0, .inr (10, [.ref tp, .ref rd, .ref tb, .ref rg, .ref bl, .ref pa, .ref fm, .ref te, .ref hi, .ref fr, .int fd, .int 1, .int lf, .int fp]))] H := hP
  have hD : va_D A [(tb, .inr (8, [.int lw, .int lk, .int 0, .int vr, .ref a1, .ref a2, .ref a3, .ref a4])), (h0, .inr (10, [.ref tp, .ref rd, .ref tb, .ref rg, .ref bl, .ref pa, .ref fm, .ref te, .ref hi, .ref fr, .int fd, .int 1, .int lf, .int fp]))] := hD
  have hK : va_K (dC, dI) vwCl [] s := hK
  refine W.widen (k := 0) (n := 0) (by omega) (by omega) ?_
  have er_3 : r_3 = 0 := hw
  subst er_3
  have hP9 := hP.sub (ws' := [(h0, .inr (10, [.ref tp, .ref rd, .ref tb, .ref rg, .ref bl, .ref pa, .ref fm, .ref te, .ref hi, .ref fr, .int fd, .int 1, .int lf, .int fp])), (tb, .inr (8, [.int lw, .int lk, .int 0, .int vr, .ref a1, .ref a2, .ref a3, .ref a4]))]) [1, 0] rfl
  have hD9 := hD.sub (ws' := [(h0, .inr (10, [.ref tp, .ref rd, .ref tb, .ref rg, .ref bl, .ref pa, .ref fm, .ref te, .ref hi, .ref fr, .int fd, .int 1, .int lf, .int fp])), (tb, .inr (8, [.int lw, .int lk, .int 0, .int vr, .ref a1, .ref a2, .ref a3, .ref a4]))]) [1, 0] (by decide) rfl
  have hK9 := hK.sub (tys' := []) [] rfl
  refine W.widen (k := 0) (n := 0) (Nat.le_of_ble_eq_true rfl) (Nat.le_of_ble_eq_true rfl) ?_
  exact W.zret (v := 0) (ty := .boolean) hx hb hr rfl (fun t ht hW => ⟨⟨0, (), rfl, rfl, by rw [ht]; exact hP9, va_K.moved hW.alike hK9, hD9⟩, hS.F ht⟩) hS.2.2 dX10_stake_17

set_option maxRecDepth 20000 in
theorem iw_X10_drop_X10_c_drop_0 : ∀ w ∈ wsX100, w ∈ wsX10_drop := by decide +kernel
set_option maxHeartbeats 4000000 in
set_option maxRecDepth 100000 in
/-- drop where there is none such -/
theorem c_drop_0 (l : Launch) (dC : Nat → ClassId) (dI : Nat → Nat → Nat) (sz : Nat) (h0 : Nat) (tp : Nat) (rd : Nat) (tb : Nat) (rg : Nat) (bl : Nat) (pa : Nat) (fm : Nat) (te : Nat) (hi : Nat) (fr : Nat) (fd : Int32) (rf : Int32) (lf : Int32) (fp : Int32) (lw : Int32) (lk : Int32) (vr : Int32) (a1 : Nat) (a2 : Nat) (a3 : Nat) (a4 : Nat) (p0 : Int32)  : Met l yX10_drop wsX10_drop ({ frames := 1, cells := 0, slots := 0, locals := 21 }) (va_Pc [.ref h0, .int p0] (fun U => U.heap.size = sz ∧ va_P (dC, dI) vwCl [(h0, .inr (10, [.ref tp, .ref rd, .ref tb, .ref rg, .ref bl, .ref pa, .ref fm, .ref te, .ref hi, .ref fr, .int fd, .int rf, .int lf, .int fp])), (tb, .inr (8, [.int lw, .int lk, .int 0, .int vr, .ref a1, .ref a2, .ref a3, .ref a4]))] U.heap ∧ va_K (dC, dI) vwCl [] U ∧ va_D (fun _ => True) [(h0, .inr (10, [.ref tp, .ref rd, .ref tb, .ref rg, .ref bl, .ref pa, .ref fm, .ref te, .ref hi, .ref fr, .int fd, .int rf, .int lf, .int fp])), (tb, .inr (8, [.int lw, .int lk, .int 0, .int vr, .ref a1, .ref a2, .ref a3, .ref a4]))])) (va_Qi (fun (r : Int32) (_ : Unit) => r = 0) (fun _ t => va_P (dC, dI) vwCl [(h0, .inr (10, [.ref tp, .ref rd, .ref tb, .ref rg, .ref bl, .ref pa, .ref fm, .ref te, .ref hi, .ref fr, .int fd, .int 1, .int lf, .int fp])), (tb, .inr (8, [.int lw, .int lk, .int 0, .int vr, .ref a1, .ref a2, .ref a3, .ref a4]))] t.heap ∧ va_K (dC, dI) vwCl [] t ∧ va_D (va_A [(h0, .inr (10, [.ref tp, .ref rd, .ref tb, .ref rg, .ref bl, .ref pa, .ref fm, .ref te, .ref hi, .ref fr, .int fd, .int rf, .int lf, .int fp])), (tb, .inr (8, [.int lw, .int lk, .int 0, .int vr, .ref a1, .ref a2, .ref a3, .ref a4]))] sz) [(h0, .inr (10, [.ref tp, .ref rd, .ref tb, .ref rg, .ref bl, .ref pa, .ref fm, .ref te, .ref hi, .ref fr, .int fd, .int 1, .int lf, .int fp])), (tb, .inr (8, [.int lw, .int lk, .int 0, .int vr, .ref a1, .ref a2, .ref a3, .ref a4]))]) (va_A [(h0, .inr (10, [.ref tp, .ref rd, .ref tb, .ref rg, .ref bl, .ref pa, .ref fm, .ref te, .ref hi, .ref fr, .int fd, .int rf, .int lf, .int fp])), (tb, .inr (8, [.int lw, .int lk, .int 0, .int vr, .ref a1, .ref a2, .ref a3, .ref a4]))] sz)) 0 0 (va_A [(h0, .inr (10, [.ref tp, .ref rd, .ref tb, .ref rg, .ref bl, .ref pa, .ref fm, .ref te, .ref hi, .ref fr, .int fd, .int rf, .int lf, .int fp])), (tb, .inr (8, [.int lw, .int lk, .int 0, .int vr, .ref a1, .ref a2, .ref a3, .ref a4]))] sz) := by
  refine Met.ofW (cc := cX10_drop) (maxL := 2) (ret := (some .boolean)) (by decide) rfl ?_
  intro p e s m args below meth c s₁ B hml hv
  obtain ⟨rfl, hsz, hP, hK, hD0⟩ := hv
  have hx := B.exec
  have hb := B.bytes
  have hr := B.returns
  have hts := atoms_spec (ws := wsX10_drop) B.pre
  have hown : s.vm.findClass RX10 = some m.cls := findClass_of_methodNamed B.named
  have hlocks := B.notSynchronized
  subst hsz
  have hD := hD0.self (sz := s.heap.size)
  generalize hAe : va_A [(h0, .inr (10, [.ref tp, .ref rd, .ref tb, .ref rg, .ref bl, .ref pa, .ref fm, .ref te, .ref hi, .ref fr, .int fd, .int rf, .int lf, .int fp])), (tb, .inr (8, [.int lw, .int lk, .int 0, .int vr, .ref a1, .ref a2, .ref a3, .ref a4]))] s.heap.size = A at hD ⊢
  have hA : ∀ q : Nat, s.heap.size ≤ q → A q := fun q h => by rw [← hAe]; exact Or.inr h
  have hS : va_S A s.heap s.heap [] := va_S.rf
  have hP : va_P (dC, dI) vwCl [(h0, .inr (10, [.ref tp, .ref rd, .ref tb, .ref rg, .ref bl, .ref pa, .ref fm, .ref te, .ref hi, .ref fr, .int fd, .int rf, .int lf, .int fp])), (tb, .inr (8, [.int lw, .int lk, .int 0, .int vr, .ref a1, .ref a2, .ref a3, .ref a4]))] s.heap := hP
  have hl := lv_entry ([.ref h0, .int p0]) (n := 2) (Nat.le_of_ble_eq_true rfl)
  rw [lg_entry_eq]
  generalize (lg_sl ([.ref h0, .int p0]) ++ List.replicate (2 - (lg_sl ([.ref h0, .int p0])).length) Slot.unset).toArray = ls at hl ⊢
  have hl : lv_has ls 2 [(0, .ref h0), (1, .int p0)] := hl
  refine lv_aload_n hx hb dX10_drop_0 rfl (lv_at hl 0 rfl) ?_
  refine va_get (D := (dC, dI)) (ci := 10) (v := .ref tb) (C := RX10) (T := TX10) (N := 14) hx hb hts iw_X10_drop_X10_c_drop_0 hown hK hP 0 rfl rfl 2 (by decide) (hts (.fieldLink RX10 25 "NotAtOnce" "table" "LNotAtOnce$Table;") (by decide +kernel)) (fun _ h9 => h9) rfl dX10_drop_1 ?_
  refine lv_iload_n hx hb dX10_drop_4 rfl (lv_at hl 1 rfl) ?_
  have hPc := hP.sub (ws' := [(tb, .inr (8, [.int lw, .int lk, .int 0, .int vr, .ref a1, .ref a2, .ref a3, .ref a4]))]) [1] rfl
  have hDc := hD.sub (ws' := [(tb, .inr (8, [.int lw, .int lk, .int 0, .int vr, .ref a1, .ref a2, .ref a3, .ref a4]))]) [1] (by decide) rfl
  have hKc := hK.sub (tys' := []) [] rfl
  have hFc := va_free (wc := [(tb, .inr (8, [.int lw, .int lk, .int 0, .int vr, .ref a1, .ref a2, .ref a3, .ref a4]))]) hD hS hA [1] rfl
  refine va_calli (va_runV (As := [.int p0]) (rest := []) ⟨hx, hb, hml, hown, hts⟩ (c_hasSet_0 l dC dI s.heap.size tb lw lk vr a1 a2 a3 a4 p0) (cwV 1 hts gX10_drop_X8_hasSet rfl rfl rfl (by decide +kernel) ⟨Nat.le_of_ble_eq_true rfl, Nat.le_of_ble_eq_true rfl⟩) ⟨fun a U g mk q => by obtain ⟨q0, q1, qP, qK, qD⟩ := q; exact ⟨q0, q1, qP, va_K.moved (u := U) (U := U.calling g mk a) (Vm.Alike.refl U.vm) qK, qD⟩, va_recv hKc hPc (ci := 8) (q0 := 0) rfl rfl, fun U hU hW => ⟨rfl, by rw [hU], by rw [hU]; exact hPc, va_K.moved hW.alike hKc, hDc.weaken (fun _ _ _ _ => trivial)⟩⟩ rfl rfl hl.1 rfl (lv_room (Nat.le_of_ble_eq_true rfl)) dX10_drop_5 ⟨Nat.le_of_ble_eq_true rfl, Nat.le_of_ble_eq_true rfl⟩) hS (fun q _ h => hFc q h) hFc (fun r_1 u t H1 locs ht hvm hw hB hz1 hk1 hS => ?_)
  obtain ⟨hP1, hK1, hD1⟩ := hB
  rw [ht] at hP1
  have hK1 := va_K.moved hvm.symm hK1
  try dsimp only at hw
  obtain ⟨hP, hD⟩ := va_join (wr := [(h0, .inr (10, [.ref tp, .ref rd, .ref tb, .ref rg, .ref bl, .ref pa, .ref fm, .ref te, .ref hi, .ref fr, .int fd, .int rf, .int lf, .int fp]))]) (w1 := [(tb, .inr (8, [.int lw, .int lk, .int 0, .int vr, .ref a1, .ref a2, .ref a3, .ref a4]))]) hP hD [1] [0] rfl rfl (by decide) (by decide) hk1 hFc hP1 hD1
  have hK := (hK.sub (tys' := []) [] rfl).app hK1
  generalize H1 = H at hP hS ⊢
  have hP : va_P (dC, dI) vwCl [(h0, .inr (10, [.ref tp, .ref rd, .ref tb, .ref rg, .ref bl, .ref pa, .ref fm, .ref te, .ref hi, .ref fr, .int fd, .int rf, .int lf, .int fp])), (tb, .inr (8, [.int lw, .int lk, .int 0, .int vr, .ref a1, .ref a2, .ref a3, .ref a4]))] H := hP
  have hD : va_D A [(h0, .inr (10, [.ref tp, .ref rd, .ref tb, .ref rg, .ref bl, .ref pa, .ref fm, .ref te, .ref hi, .ref fr, .int fd, .int rf, .int lf, .int fp])), (tb, .inr (8, [.int lw, .int lk, .int 0, .int vr, .ref a1, .ref a2, .ref a3, .ref a4]))] := hD
  have hK : va_K (dC, dI) vwCl [] s := hK
  refine W.widen (k := 0) (n := 0) (by omega) (by omega) ?_
  have er_1 : r_1 = 0 := hw
  subst er_1
  refine lv_if_ne (tgt := 17) hx hb dX10_drop_8 (by decide) (fun c_2 => absurd c_2 (by decide)) (fun c_2 => ?_)
  refine lv_aload_n hx hb dX10_drop_11 rfl (lv_at hl 0 rfl) ?_
  refine lv_iconst (v := 1) hx hb dX10_drop_12 (by decide) ?_
  have hPc := hP.sub (ws' := [(h0, .inr (10, [.ref tp, .ref rd, .ref tb, .ref rg, .ref bl, .ref pa, .ref fm, .ref te, .ref hi, .ref fr, .int fd, .int rf, .int lf, .int fp]))]) [0] rfl
  have hDc := hD.sub (ws' := [(h0, .inr (10, [.ref tp, .ref rd, .ref tb, .ref rg, .ref bl, .ref pa, .ref fm, .ref te, .ref hi, .ref fr, .int fd, .int rf, .int lf, .int fp]))]) [0] (by decide) rfl
  have hKc := hK.sub (tys' := []) [] rfl
  have hFc := va_free (wc := [(h0, .inr (10, [.ref tp, .ref rd, .ref tb, .ref rg, .ref bl, .ref pa, .ref fm, .ref te, .ref hi, .ref fr, .int fd, .int rf, .int lf, .int fp]))]) hD hS hA [0] rfl
  refine va_calli (va_runV (As := [.int 1]) (rest := []) ⟨hx, hb, hml, hown, hts⟩ (c_denied l dC dI H.size h0 tp rd tb rg bl pa fm te hi fr fd rf lf fp 1) (cwV 1 hts gX10_drop_X10_denied rfl rfl rfl (by decide +kernel) ⟨Nat.le_of_ble_eq_true rfl, Nat.le_of_ble_eq_true rfl⟩) ⟨fun a U g mk q => by obtain ⟨q0, q1, qP, qK, qD⟩ := q; exact ⟨q0, q1, qP, va_K.moved (u := U) (U := U.calling g mk a) (Vm.Alike.refl U.vm) qK, qD⟩, va_recv hKc hPc (ci := 10) (q0 := 0) rfl rfl, fun U hU hW => ⟨rfl, by rw [hU], by rw [hU]; exact hPc, va_K.moved hW.alike hKc, hDc.weaken (fun _ _ _ _ => trivial)⟩⟩ rfl rfl hl.1 rfl (lv_room (Nat.le_of_ble_eq_true rfl)) dX10_drop_13 ⟨Nat.le_of_ble_eq_true rfl, Nat.le_of_ble_eq_true rfl⟩) hS (fun q _ h => hFc q h) hFc (fun r_3 u t H1 locs ht hvm hw hB hz1 hk1 hS => ?_)
  obtain ⟨hP1, hK1, hD1⟩ := hB
  rw [ht] at hP1
  have hK1 := va_K.moved hvm.symm hK1
  try dsimp only at hw
  obtain ⟨hP, hD⟩ := va_join (wr := [(tb, .inr (8, [.int lw, .int lk, .int 0, .int vr, .ref a1, .ref a2, .ref a3, .ref a4]))]) (w1 := [(h0, .inr (10, [.ref tp, .ref rd, .ref tb, .ref rg, .ref bl, .ref pa, .ref fm, .ref te, .ref hi, .ref fr, .int fd, .int 1, .int lf, .int fp]))]) hP hD [0] [1] rfl rfl (by decide) (by decide) hk1 hFc hP1 hD1
  have hK := (hK.sub (tys' := []) [] rfl).app hK1
  generalize H1 = H at hP hS ⊢
  have hP : va_P (dC, dI) vwCl [(tb, .inr (8, [.int lw, .int lk, .int 0, .int vr, .ref a1, .ref a2, .ref a3, .ref a4])), (h0, .inr (10, [.ref tp, .ref rd, .ref tb, .ref rg, .ref bl, .ref pa, .ref fm, .ref te, .ref hi, .ref fr, .int fd, .int 1, .int lf, .int fp]))] H := hP
  have hD : va_D A [(tb, .inr (8, [.int lw, .int lk, .int 0, .int vr, .ref a1, .ref a2, .ref a3, .ref a4])), (h0, .inr (10, [.ref tp, .ref rd, .ref tb, .ref rg, .ref bl, .ref pa, .ref fm, .ref te, .ref hi, .ref fr, .int fd, .int 1, .int lf, .int fp]))] := hD
  have hK : va_K (dC, dI) vwCl [] s := hK
  refine W.widen (k := 0) (n := 0) (by omega) (by omega) ?_
  have er_3 : r_3 = 0 := hw
  subst er_3
  have hP9 := hP.sub (ws' := [(h0, .inr (10, [.ref tp, .ref rd, .ref tb, .ref rg, .ref bl, .ref pa, .ref fm, .ref te, .ref hi, .ref fr, .int fd, .int 1, .int lf, .int fp])), (tb, .inr (8, [.int lw, .int lk, .int 0, .int vr, .ref a1, .ref a2, .ref a3, .ref a4]))]) [1, 0] rfl
  have hD9 := hD.sub (ws' := [(h0, .inr (10, [.ref tp, .ref rd, .ref tb, .ref rg, .ref bl, .ref pa, .ref fm, .ref te, .ref hi, .ref fr, .int fd, .int 1, .int lf, .int fp])), (tb, .inr (8, [.int lw, .int lk, .int 0, .int vr, .ref a1, .ref a2, .ref a3, .ref a4]))]) [1, 0] (by decide) rfl
  have hK9 := hK.sub (tys' := []) [] rfl
  refine W.widen (k := 0) (n := 0) (Nat.le_of_ble_eq_true rfl) (Nat.le_of_ble_eq_true rfl) ?_
  exact W.zret (v := 0) (ty := .boolean) hx hb hr rfl (fun t ht hW => ⟨⟨0, (), rfl, rfl, by rw [ht]; exact hP9, va_K.moved hW.alike hK9, hD9⟩, hS.F ht⟩) hS.2.2 dX10_drop_16

set_option maxRecDepth 20000 in
theorem iw_X10_shift_X10_c_shift_0 : ∀ w ∈ wsX100, w ∈ wsX10_shift := by decide +kernel
set_option maxHeartbeats 4000000 in
set_option maxRecDepth 100000 in
/-- shift where there is none such -/
theorem c_shift_0 (l : Launch) (dC : Nat → ClassId) (dI : Nat → Nat → Nat) (sz : Nat) (h0 : Nat) (tp : Nat) (rd : Nat) (tb : Nat) (rg : Nat) (bl : Nat) (pa : Nat) (fm : Nat) (te : Nat) (hi : Nat) (fr : Nat) (fd : Int32) (rf : Int32) (lf : Int32) (fp : Int32) (lw : Int32) (lk : Int32) (vr : Int32) (a1 : Nat) (a2 : Nat) (a3 : Nat) (a4 : Nat) (p0 : Int32) (p1 : Int32) (p2 : Int32) (p3 : Int32)  : Met l yX10_shift wsX10_shift ({ frames := 2, cells := 0, slots := 0, locals := 43 }) (va_Pc [.ref h0, .int p0, .int p1, .int p2, .int p3] (fun U => U.heap.size = sz ∧ va_P (dC, dI) vwCl [(h0, .inr (10, [.ref tp, .ref rd, .ref tb, .ref rg, .ref bl, .ref pa, .ref fm, .ref te, .ref hi, .ref fr, .int fd, .int rf, .int lf, .int fp])), (tb, .inr (8, [.int lw, .int lk, .int 0, .int vr, .ref a1, .ref a2, .ref a3, .ref a4]))] U.heap ∧ va_K (dC, dI) vwCl [] U ∧ va_D (fun _ => True) [(h0, .inr (10, [.ref tp, .ref rd, .ref tb, .ref rg, .ref bl, .ref pa, .ref fm, .ref te, .ref hi, .ref fr, .int fd, .int rf, .int lf, .int fp])), (tb, .inr (8, [.int lw, .int lk, .int 0, .int vr, .ref a1, .ref a2, .ref a3, .ref a4]))])) (va_Qi (fun (r : Int32) (_ : Unit) => r = 0) (fun _ t => va_P (dC, dI) vwCl [(h0, .inr (10, [.ref tp, .ref rd, .ref tb, .ref rg, .ref bl, .ref pa, .ref fm, .ref te, .ref hi, .ref fr, .int fd, .int 1, .int lf, .int fp])), (tb, .inr (8, [.int lw, .int lk, .int 0, .int vr, .ref a1, .ref a2, .ref a3, .ref a4]))] t.heap ∧ va_K (dC, dI) vwCl [] t ∧ va_D (va_A [(h0, .inr (10, [.ref tp, .ref rd, .ref tb, .ref rg, .ref bl, .ref pa, .ref fm, .ref te, .ref hi, .ref fr, .int fd, .int rf, .int lf, .int fp])), (tb, .inr (8, [.int lw, .int lk, .int 0, .int vr, .ref a1, .ref a2, .ref a3, .ref a4]))] sz) [(h0, .inr (10, [.ref tp, .ref rd, .ref tb, .ref rg, .ref bl, .ref pa, .ref fm, .ref te, .ref hi, .ref fr, .int fd, .int 1, .int lf, .int fp])), (tb, .inr (8, [.int lw, .int lk, .int 0, .int vr, .ref a1, .ref a2, .ref a3, .ref a4]))]) (va_A [(h0, .inr (10, [.ref tp, .ref rd, .ref tb, .ref rg, .ref bl, .ref pa, .ref fm, .ref te, .ref hi, .ref fr, .int fd, .int rf, .int lf, .int fp])), (tb, .inr (8, [.int lw, .int lk, .int 0, .int vr, .ref a1, .ref a2, .ref a3, .ref a4]))] sz)) 0 0 (va_A [(h0, .inr (10, [.ref tp, .ref rd, .ref tb, .ref rg, .ref bl, .ref pa, .ref fm, .ref te, .ref hi, .ref fr, .int fd, .int rf, .int lf, .int fp])), (tb, .inr (8, [.int lw, .int lk, .int 0, .int vr, .ref a1, .ref a2, .ref a3, .ref a4]))] sz) := by
  refine Met.ofW (cc := cX10_shift) (maxL := 5) (ret := (some .boolean)) (by decide) rfl ?_
  intro p e s m args below meth c s₁ B hml hv
  obtain ⟨rfl, hsz, hP, hK, hD0⟩ := hv
  have hx := B.exec
  have hb := B.bytes
  have hr := B.returns
  have hts := atoms_spec (ws := wsX10_shift) B.pre
  have hown : s.vm.findClass RX10 = some m.cls := findClass_of_methodNamed B.named
  have hlocks := B.notSynchronized
  subst hsz
  have hD := hD0.self (sz := s.heap.size)
  generalize hAe : va_A [(h0, .inr (10, [.ref tp, .ref rd, .ref tb, .ref rg, .ref bl, .ref pa, .ref fm, .ref te, .ref hi, .ref fr, .int fd, .int rf, .int lf, .int fp])), (tb, .inr (8, [.int lw, .int lk, .int 0, .int vr, .ref a1, .ref a2, .ref a3, .ref a4]))] s.heap.size = A at hD ⊢
  have hA : ∀ q : Nat, s.heap.size ≤ q → A q := fun q h => by rw [← hAe]; exact Or.inr h
  have hS : va_S A s.heap s.heap [] := va_S.rf
  have hP : va_P (dC, dI) vwCl [(h0, .inr (10, [.ref tp, .ref rd, .ref tb, .ref rg, .ref bl, .ref pa, .ref fm, .ref te, .ref hi, .ref fr, .int fd, .int rf, .int lf, .int fp])), (tb, .inr (8, [.int lw, .int lk, .int 0, .int vr, .ref a1, .ref a2, .ref a3, .ref a4]))] s.heap := hP
  have hl := lv_entry ([.ref h0, .int p0, .int p1, .int p2, .int p3]) (n := 5) (Nat.le_of_ble_eq_true rfl)
  rw [lg_entry_eq]
  generalize (lg_sl ([.ref h0, .int p0, .int p1, .int p2, .int p3]) ++ List.replicate (5 - (lg_sl ([.ref h0, .int p0, .int p1, .int p2, .int p3])).length) Slot.unset).toArray = ls at hl ⊢
  have hl : lv_has ls 5 [(0, .ref h0), (1, .int p0), (2, .int p1), (3, .int p2), (4, .int p3)] := hl
  refine lv_aload_n hx hb dX10_shift_0 rfl (lv_at hl 0 rfl) ?_
  refine va_get (D := (dC, dI)) (ci := 10) (v := .ref tb) (C := RX10) (T := TX10) (N := 14) hx hb hts iw_X10_shift_X10_c_shift_0 hown hK hP 0 rfl rfl 2 (by decide) (hts (.fieldLink RX10 25 "NotAtOnce" "table" "LNotAtOnce$Table;") (by decide +kernel)) (fun _ h9 => h9) rfl dX10_shift_1 ?_
  refine lv_iload_n hx hb dX10_shift_4 rfl (lv_at hl 1 rfl) ?_
  refine lv_iload_n hx hb dX10_shift_5 rfl (lv_at hl 2 rfl) ?_
  have hPc := hP.sub (ws' := [(tb, .inr (8, [.int lw, .int lk, .int 0, .int vr, .ref a1, .ref a2, .ref a3, .ref a4]))]) [1] rfl
  have hDc := hD.sub (ws' := [(tb, .inr (8, [.int lw, .int lk, .int 0, .int vr, .ref a1, .ref a2, .ref a3, .ref a4]))]) [1] (by decide) rfl
  have hKc := hK.sub (tys' := []) [] rfl
  have hFc := va_free (wc := [(tb, .inr (8, [.int lw, .int lk, .int 0, .int vr, .ref a1, .ref a2, .ref a3, .ref a4]))]) hD hS hA [1] rfl
  refine va_calli (va_runV (As := [.int p0, .int p1]) (rest := []) ⟨hx, hb, hml, hown, hts⟩ (c_hasOutcome_0 l dC dI s.heap.size tb lw lk vr a1 a2 a3 a4 p0 p1) (cwV 2 hts gX10_shift_X8_hasOutcome rfl rfl rfl (by decide +kernel) ⟨Nat.le_of_ble_eq_true rfl, Nat.le_of_ble_eq_true rfl⟩) ⟨fun a U g mk q => by obtain ⟨q0, q1, qP, qK, qD⟩ := q; exact ⟨q0, q1, qP, va_K.moved (u := U) (U := U.calling g mk a) (Vm.Alike.refl U.vm) qK, qD⟩, va_recv hKc hPc (ci := 8) (q0 := 0) rfl rfl, fun U hU hW => ⟨rfl, by rw [hU], by rw [hU]; exact hPc, va_K.moved hW.alike hKc, hDc.weaken (fun _ _ _ _ => trivial)⟩⟩ rfl rfl hl.1 rfl (lv_room (Nat.le_of_ble_eq_true rfl)) dX10_shift_6 ⟨Nat.le_of_ble_eq_true rfl, Nat.le_of_ble_eq_true rfl⟩) hS (fun q _ h => hFc q h) hFc (fun r_1 u t H1 locs ht hvm hw hB hz1 hk1 hS => ?_)
  obtain ⟨hP1, hK1, hD1⟩ := hB
  rw [ht] at hP1
  have hK1 := va_K.moved hvm.symm hK1
  try dsimp only at hw
  obtain ⟨hP, hD⟩ := va_join (wr := [(h0, .inr (10, [.ref tp, .ref rd, .ref tb, .ref rg, .ref bl, .ref pa, .ref fm, .ref te, .ref hi, .ref fr, .int fd, .int rf, .int lf, .int fp]))]) (w1 := [(tb, .inr (8, [.int lw, .int lk, .int 0, .int vr, .ref a1, .ref a2, .ref a3, .ref a4]))]) hP hD [1] [0] rfl rfl (by decide) (by decide) hk1 hFc hP1 hD1
  have hK := (hK.sub (tys' := []) [] rfl).app hK1
  generalize H1 = H at hP hS ⊢
  have hP : va_P (dC, dI) vwCl [(h0, .inr (10, [.ref tp, .ref rd, .ref tb, .ref rg, .ref bl, .ref pa, .ref fm, .ref te, .ref hi, .ref fr, .int fd, .int rf, .int lf, .int fp])), (tb, .inr (8, [.int lw, .int lk, .int 0, .int vr, .ref a1, .ref a2, .ref a3, .ref a4]))] H := hP
  have hD : va_D A [(h0, .inr (10, [.ref tp, .ref rd, .ref tb, .ref rg, .ref bl, .ref pa, .ref fm, .ref te, .ref hi, .ref fr, .int fd, .int rf, .int lf, .int fp])), (tb, .inr (8, [.int lw, .int lk, .int 0, .int vr, .ref a1, .ref a2, .ref a3, .ref a4]))] := hD
  have hK : va_K (dC, dI) vwCl [] s := hK
  refine W.widen (k := 0) (n := 0) (by omega) (by omega) ?_
  have er_1 : r_1 = 0 := hw
  subst er_1
  refine lv_if_eq (tgt := 29) hx hb dX10_shift_9 (by decide) (fun c_2 => ?_) (fun c_2 => absurd c_2 (by decide))
  refine lv_aload_n hx hb dX10_shift_29 rfl (lv_at hl 0 rfl) ?_
  refine lv_iconst (v := 1) hx hb dX10_shift_30 (by decide) ?_
  have hPc := hP.sub (ws' := [(h0, .inr (10, [.ref tp, .ref rd, .ref tb, .ref rg, .ref bl, .ref pa, .ref fm, .ref te, .ref hi, .ref fr, .int fd, .int rf, .int lf, .int fp]))]) [0] rfl
  have hDc := hD.sub (ws' := [(h0, .inr (10, [.ref tp, .ref rd, .ref tb, .ref rg, .ref bl, .ref pa, .ref fm, .ref te, .ref hi, .ref fr, .int fd, .int rf, .int lf, .int fp]))]) [0] (by decide) rfl
  have hKc := hK.sub (tys' := []) [] rfl
  have hFc := va_free (wc := [(h0, .inr (10, [.ref tp, .ref rd, .ref tb, .ref rg, .ref bl, .ref pa, .ref fm, .ref te, .ref hi, .ref fr, .int fd, .int rf, .int lf, .int fp]))]) hD hS hA [0] rfl
  refine va_calli (va_runV (As := [.int 1]) (rest := []) ⟨hx, hb, hml, hown, hts⟩ (c_denied l dC dI H.size h0 tp rd tb rg bl pa fm te hi fr fd rf lf fp 1) (cwV 1 hts gX10_shift_X10_denied rfl rfl rfl (by decide +kernel) ⟨Nat.le_of_ble_eq_true rfl, Nat.le_of_ble_eq_true rfl⟩) ⟨fun a U g mk q => by obtain ⟨q0, q1, qP, qK, qD⟩ := q; exact ⟨q0, q1, qP, va_K.moved (u := U) (U := U.calling g mk a) (Vm.Alike.refl U.vm) qK, qD⟩, va_recv hKc hPc (ci := 10) (q0 := 0) rfl rfl, fun U hU hW => ⟨rfl, by rw [hU], by rw [hU]; exact hPc, va_K.moved hW.alike hKc, hDc.weaken (fun _ _ _ _ => trivial)⟩⟩ rfl rfl hl.1 rfl (lv_room (Nat.le_of_ble_eq_true rfl)) dX10_shift_31 ⟨Nat.le_of_ble_eq_true rfl, Nat.le_of_ble_eq_true rfl⟩) hS (fun q _ h => hFc q h) hFc (fun r_3 u t H1 locs ht hvm hw hB hz1 hk1 hS => ?_)
  obtain ⟨hP1, hK1, hD1⟩ := hB
  rw [ht] at hP1
  have hK1 := va_K.moved hvm.symm hK1
  try dsimp only at hw
  obtain ⟨hP, hD⟩ := va_join (wr := [(tb, .inr (8, [.int lw, .int lk, .int 0, .int vr, .ref a1, .ref a2, .ref a3, .ref a4]))]) (w1 := [(h0, .inr (10, [.ref tp, .ref rd, .ref tb, .ref rg, .ref bl, .ref pa, .ref fm, .ref te, .ref hi, .ref fr, .int fd, .int 1, .int lf, .int fp]))]) hP hD [0] [1] rfl rfl (by decide) (by decide) hk1 hFc hP1 hD1
  have hK := (hK.sub (tys' := []) [] rfl).app hK1
  generalize H1 = H at hP hS ⊢
  have hP : va_P (dC, dI) vwCl [(tb, .inr (8, [.int lw, .int lk, .int 0, .int vr, .ref a1, .ref a2, .ref a3, .ref a4])), (h0, .inr (10, [.ref tp, .ref rd, .ref tb, .ref rg, .ref bl, .ref pa, .ref fm, .ref te, .ref hi, .ref fr, .int fd, .int 1, .int lf, .int fp]))] H := hP
  have hD : va_D A [(tb, .inr (8, [.int lw, .int lk, .int 0, .int vr, .ref a1, .ref a2, .ref a3, .ref a4])), (h0, .inr (10, [.ref tp, .ref rd, .ref tb, .ref rg, .ref bl, .ref pa, .ref fm, .ref te, .ref hi, .ref fr, .int fd, .int 1, .int lf, .int fp]))] := hD
  have hK : va_K (dC, dI) vwCl [] s := hK
  refine W.widen (k := 0) (n := 0) (by omega) (by omega) ?_
  have er_3 : r_3 = 0 := hw
  subst er_3
  have hP9 := hP.sub (ws' := [(h0, .inr (10, [.ref tp, .ref rd, .ref tb, .ref rg, .ref bl, .ref pa, .ref fm, .ref te, .ref hi, .ref fr, .int fd, .int 1, .int lf, .int fp])), (tb, .inr (8, [.int lw, .int lk, .int 0, .int vr, .ref a1, .ref a2, .ref a3, .ref a4]))]) [1, 0] rfl
  have hD9 := hD.sub (ws' := [(h0, .inr (10, [.ref tp, .ref rd, .ref tb, .ref rg, .ref bl, .ref pa, .ref fm, .ref te, .ref hi, .ref fr, .int fd, .int 1, .int lf, .int fp])), (tb, .inr (8, [.int lw, .int lk, .int 0, .int vr, .ref a1, .ref a2, .ref a3, .ref a4]))]) [1, 0] (by decide) rfl
  have hK9 := hK.sub (tys' := []) [] rfl
  refine W.widen (k := 0) (n := 0) (Nat.le_of_ble_eq_true rfl) (Nat.le_of_ble_eq_true rfl) ?_
  exact W.zret (v := 0) (ty := .boolean) hx hb hr rfl (fun t ht hW => ⟨⟨0, (), rfl, rfl, by rw [ht]; exact hP9, va_K.moved hW.alike hK9, hD9⟩, hS.F ht⟩) hS.2.2 dX10_shift_34

set_option maxRecDepth 20000 in
theorem iw_X10_forced_X10_c_forced_0 : ∀ w ∈ wsX100, w ∈ wsX10_forced := by decide +kernel
set_option maxRecDepth 20000 in
theorem iw_X10_forced_X5_c_forced_0 : ∀ w ∈ wsX50, w ∈ wsX10_forced := by decide +kernel
set_option maxHeartbeats 4000000 in
set_option maxRecDepth 100000 in
/-- forced where there is none such -/
theorem c_forced_0 (l : Launch) (dC : Nat → ClassId) (dI : Nat → Nat → Nat) (sz : Nat) (h0 : Nat) (tp : Nat) (rd : Nat) (tb : Nat) (rg : Nat) (bl : Nat) (pa : Nat) (fm : Nat) (te : Nat) (hi : Nat) (fr : Nat) (fd : Int32) (rf : Int32) (lf : Int32) (fp : Int32) (pa_lines : Int32) (pa_ways : Int32) (pa_everOne : Int32) (pa_everNone : Int32) (pa_held : Nat) (p0 : Int32)  : Met l yX10_forced wsX10_forced ({ frames := 1, cells := 0, slots := 0, locals := 21 }) (va_Pc [.ref h0, .int p0] (fun U => U.heap.size = sz ∧ va_P (dC, dI) vwCl [(h0, .inr (10, [.ref tp, .ref rd, .ref tb, .ref rg, .ref bl, .ref pa, .ref fm, .ref te, .ref hi, .ref fr, .int fd, .int rf, .int lf, .int fp])), (pa, .inr (5, [.int 0, .int pa_lines, .int pa_ways, .int pa_everOne, .int pa_everNone, .ref pa_held]))] U.heap ∧ va_K (dC, dI) vwCl [] U ∧ va_D (fun _ => True) [(h0, .inr (10, [.ref tp, .ref rd, .ref tb, .ref rg, .ref bl, .ref pa, .ref fm, .ref te, .ref hi, .ref fr, .int fd, .int rf, .int lf, .int fp])), (pa, .inr (5, [.int 0, .int pa_lines, .int pa_ways, .int pa_everOne, .int pa_everNone, .ref pa_held]))])) (va_Qi (fun (r : Int32) (_ : Unit) => r = (-1)) (fun _ t => va_P (dC, dI) vwCl [(h0, .inr (10, [.ref tp, .ref rd, .ref tb, .ref rg, .ref bl, .ref pa, .ref fm, .ref te, .ref hi, .ref fr, .int fd, .int 1, .int lf, .int fp])), (pa, .inr (5, [.int 0, .int pa_lines, .int pa_ways, .int pa_everOne, .int pa_everNone, .ref pa_held]))] t.heap ∧ va_K (dC, dI) vwCl [] t ∧ va_D (va_A [(h0, .inr (10, [.ref tp, .ref rd, .ref tb, .ref rg, .ref bl, .ref pa, .ref fm, .ref te, .ref hi, .ref fr, .int fd, .int rf, .int lf, .int fp])), (pa, .inr (5, [.int 0, .int pa_lines, .int pa_ways, .int pa_everOne, .int pa_everNone, .ref pa_held]))] sz) [(h0, .inr (10, [.ref tp, .ref rd, .ref tb, .ref rg, .ref bl, .ref pa, .ref fm, .ref te, .ref hi, .ref fr, .int fd, .int 1, .int lf, .int fp])), (pa, .inr (5, [.int 0, .int pa_lines, .int pa_ways, .int pa_everOne, .int pa_everNone, .ref pa_held]))]) (va_A [(h0, .inr (10, [.ref tp, .ref rd, .ref tb, .ref rg, .ref bl, .ref pa, .ref fm, .ref te, .ref hi, .ref fr, .int fd, .int rf, .int lf, .int fp])), (pa, .inr (5, [.int 0, .int pa_lines, .int pa_ways, .int pa_everOne, .int pa_everNone, .ref pa_held]))] sz)) 0 0 (va_A [(h0, .inr (10, [.ref tp, .ref rd, .ref tb, .ref rg, .ref bl, .ref pa, .ref fm, .ref te, .ref hi, .ref fr, .int fd, .int rf, .int lf, .int fp])), (pa, .inr (5, [.int 0, .int pa_lines, .int pa_ways, .int pa_everOne, .int pa_everNone, .ref pa_held]))] sz) := by
  refine Met.ofW (cc := cX10_forced) (maxL := 2) (ret := (some .int)) (by decide) rfl ?_
  intro p e s m args below meth c s₁ B hml hv
  obtain ⟨rfl, hsz, hP, hK, hD0⟩ := hv
  have hx := B.exec
  have hb := B.bytes
  have hr := B.returns
  have hts := atoms_spec (ws := wsX10_forced) B.pre
  have hown : s.vm.findClass RX10 = some m.cls := findClass_of_methodNamed B.named
  have hlocks := B.notSynchronized
  subst hsz
  have hD := hD0.self (sz := s.heap.size)
  generalize hAe : va_A [(h0, .inr (10, [.ref tp, .ref rd, .ref tb, .ref rg, .ref bl, .ref pa, .ref fm, .ref te, .ref hi, .ref fr, .int fd, .int rf, .int lf, .int fp])), (pa, .inr (5, [.int 0, .int pa_lines, .int pa_ways, .int pa_everOne, .int pa_everNone, .ref pa_held]))] s.heap.size = A at hD ⊢
  have hA : ∀ q : Nat, s.heap.size ≤ q → A q := fun q h => by rw [← hAe]; exact Or.inr h
  have hS : va_S A s.heap s.heap [] := va_S.rf
  have hP : va_P (dC, dI) vwCl [(h0, .inr (10, [.ref tp, .ref rd, .ref tb, .ref rg, .ref bl, .ref pa, .ref fm, .ref te, .ref hi, .ref fr, .int fd, .int rf, .int lf, .int fp])), (pa, .inr (5, [.int 0, .int pa_lines, .int pa_ways, .int pa_everOne, .int pa_everNone, .ref pa_held]))] s.heap := hP
  have hl := lv_entry ([.ref h0, .int p0]) (n := 2) (Nat.le_of_ble_eq_true rfl)
  rw [lg_entry_eq]
  generalize (lg_sl ([.ref h0, .int p0]) ++ List.replicate (2 - (lg_sl ([.ref h0, .int p0])).length) Slot.unset).toArray = ls at hl ⊢
  have hl : lv_has ls 2 [(0, .ref h0), (1, .int p0)] := hl
  refine lv_iload_n hx hb dX10_forced_0 rfl (lv_at hl 1 rfl) ?_
  refine lv_if_lt (tgt := 15) hx hb dX10_forced_1 (by decide) (fun c_1 => ?_) (fun c_1 => ?_)
  · refine lv_aload_n hx hb dX10_forced_15 rfl (lv_at hl 0 rfl) ?_
    refine lv_iconst (v := 1) hx hb dX10_forced_16 (by decide) ?_
    have hPc := hP.sub (ws' := [(h0, .inr (10, [.ref tp, .ref rd, .ref tb, .ref rg, .ref bl, .ref pa, .ref fm, .ref te, .ref hi, .ref fr, .int fd, .int rf, .int lf, .int fp]))]) [0] rfl
    have hDc := hD.sub (ws' := [(h0, .inr (10, [.ref tp, .ref rd, .ref tb, .ref rg, .ref bl, .ref pa, .ref fm, .ref te, .ref hi, .ref fr, .int fd, .int rf, .int lf, .int fp]))]) [0] (by decide) rfl
    have hKc := hK.sub (tys' := []) [] rfl
    have hFc := va_free (wc := [(h0, .inr (10, [.ref tp, .ref rd, .ref tb, .ref rg, .ref bl, .ref pa, .ref fm, .ref te, .ref hi, .ref fr, .int fd, .int rf, .int lf, .int fp]))]) hD hS hA [0] rfl
    refine va_calli (va_runV (As := [.int 1]) (rest := []) ⟨hx, hb, hml, hown, hts⟩ (c_refused l dC dI s.heap.size h0 tp rd tb rg bl pa fm te hi fr fd rf lf fp 1) (cwV 1 hts gX10_forced_X10_refused rfl rfl rfl (by decide +kernel) ⟨Nat.le_of_ble_eq_true rfl, Nat.le_of_ble_eq_true rfl⟩) ⟨fun a U g mk q => by obtain ⟨q0, q1, qP, qK, qD⟩ := q; exact ⟨q0, q1, qP, va_K.moved (u := U) (U := U.calling g mk a) (Vm.Alike.refl U.vm) qK, qD⟩, va_recv hKc hPc (ci := 10) (q0 := 0) rfl rfl, fun U hU hW => ⟨rfl, by rw [hU], by rw [hU]; exact hPc, va_K.moved hW.alike hKc, hDc.weaken (fun _ _ _ _ => trivial)⟩⟩ rfl rfl hl.1 rfl (lv_room (Nat.le_of_ble_eq_true rfl)) dX10_forced_17 ⟨Nat.le_of_ble_eq_true rfl, Nat.le_of_ble_eq_true rfl⟩) hS (fun q _ h => hFc q h) hFc (fun r_2 u t H1 locs ht hvm hw hB hz1 hk1 hS => ?_)
    obtain ⟨hP1, hK1, hD1⟩ := hB
    rw [ht] at hP1
    have hK1 := va_K.moved hvm.symm hK1
    try dsimp only at hw
    obtain ⟨hP, hD⟩ := va_join (wr := [(pa, .inr (5, [.int 0, .int pa_lines, .int pa_ways, .int pa_everOne, .int pa_everNone, .ref pa_held]))]) (w1 := [(h0, .inr (10, [.ref tp, .ref rd, .ref tb, .ref rg, .ref bl, .ref pa, .ref fm, .ref te, .ref hi, .ref fr, .int fd, .int 1, .int lf, .int fp]))]) hP hD [0] [1] rfl rfl (by decide) (by decide) hk1 hFc hP1 hD1
    have hK := (hK.sub (tys' := []) [] rfl).app hK1
    generalize H1 = H at hP hS ⊢
    have hP : va_P (dC, dI) vwCl [(pa, .inr (5, [.int 0, .int pa_lines, .int pa_ways, .int pa_everOne, .int pa_everNone, .ref pa_held])), (h0, .inr (10, [.ref tp, .ref rd, .ref tb, .ref rg, .ref bl, .ref pa, .ref fm, .ref te, .ref hi, .ref fr, .int fd, .int 1, .int lf, .int fp]))] H := hP
    have hD : va_D A [(pa, .inr (5, [.int 0, .int pa_lines, .int pa_ways, .int pa_everOne, .int pa_everNone, .ref pa_held])), (h0, .inr (10, [.ref tp, .ref rd, .ref tb, .ref rg, .ref bl, .ref pa, .ref fm, .ref te, .ref hi, .ref fr, .int fd, .int 1, .int lf, .int fp]))] := hD
    have hK : va_K (dC, dI) vwCl [] s := hK
    refine W.widen (k := 0) (n := 0) (by omega) (by omega) ?_
    have er_2 : r_2 = (-1) := hw
    subst er_2
    have hP9 := hP.sub (ws' := [(h0, .inr (10, [.ref tp, .ref rd, .ref tb, .ref rg, .ref bl, .ref pa, .ref fm, .ref te, .ref hi, .ref fr, .int fd, .int 1, .int lf, .int fp])), (pa, .inr (5, [.int 0, .int pa_lines, .int pa_ways, .int pa_everOne, .int pa_everNone, .ref pa_held]))]) [1, 0] rfl
    have hD9 := hD.sub (ws' := [(h0, .inr (10, [.ref tp, .ref rd, .ref tb, .ref rg, .ref bl, .ref pa, .ref fm, .ref te, .ref hi, .ref fr, .int fd, .int 1, .int lf, .int fp])), (pa, .inr (5, [.int 0, .int pa_lines, .int pa_ways, .int pa_everOne, .int pa_everNone, .ref pa_held]))]) [1, 0] (by decide) rfl
    have hK9 := hK.sub (tys' := []) [] rfl
    refine W.widen (k := 0) (n := 0) (Nat.le_of_ble_eq_true rfl) (Nat.le_of_ble_eq_true rfl) ?_
    exact W.iret (v := (-1)) hx hb hr (fun t ht hW => ⟨⟨(-1), (), rfl, rfl, by rw [ht]; exact hP9, va_K.moved hW.alike hK9, hD9⟩, hS.F ht⟩) hS.2.2 dX10_forced_20
  · refine lv_iload_n hx hb dX10_forced_4 rfl (lv_at hl 1 rfl) ?_
    refine lv_aload_n hx hb dX10_forced_5 rfl (lv_at hl 0 rfl) ?_
    refine va_get (D := (dC, dI)) (ci := 10) (v := .ref pa) (C := RX10) (T := TX10) (N := 14) hx hb hts iw_X10_forced_X10_c_forced_0 hown hK hP 0 rfl rfl 5 (by decide) (hts (.fieldLink RX10 57 "NotAtOnce" "parities" "LNotAtOnce$Parities;") (by decide +kernel)) (fun _ h9 => h9) rfl dX10_forced_6 ?_
    refine va_get (D := (dC, dI)) (ci := 5) (v := .int 0) (C := RX5) (T := TX5) (N := 6) hx hb hts iw_X10_forced_X5_c_forced_0 hown hK hP 1 rfl rfl 0 (by decide) (hts (.fieldLink RX10 225 "NotAtOnce$Parities" "points" "I") (by decide +kernel)) (fun _ h9 => h9) rfl dX10_forced_9 ?_
    refine lv_icmp_lt (tgt := 21) hx hb dX10_forced_12 (by decide) (fun c_3 => absurd c_3 c_1) (fun c_3 => ?_)
    refine lv_aload_n hx hb dX10_forced_15 rfl (lv_at hl 0 rfl) ?_
    refine lv_iconst (v := 1) hx hb dX10_forced_16 (by decide) ?_
    have hPc := hP.sub (ws' := [(h0, .inr (10, [.ref tp, .ref rd, .ref tb, .ref rg, .ref bl, .ref pa, .ref fm, .ref te, .ref hi, .ref fr, .int fd, .int rf, .int lf, .int fp]))]) [0] rfl
    have hDc := hD.sub (ws' := [(h0, .inr (10, [.ref tp, .ref rd, .ref tb, .ref rg, .ref bl, .ref pa, .ref fm, .ref te, .ref hi, .ref fr, .int fd, .int rf, .int lf, .int fp]))]) [0] (by decide) rfl
    have hKc := hK.sub (tys' := []) [] rfl
    have hFc := va_free (wc := [(h0, .inr (10, [.ref tp, .ref rd, .ref tb, .ref rg, .ref bl, .ref pa, .ref fm, .ref te, .ref hi, .ref fr, .int fd, .int rf, .int lf, .int fp]))]) hD hS hA [0] rfl
    refine va_calli (va_runV (As := [.int 1]) (rest := []) ⟨hx, hb, hml, hown, hts⟩ (c_refused l dC dI s.heap.size h0 tp rd tb rg bl pa fm te hi fr fd rf lf fp 1) (cwV 1 hts gX10_forced_X10_refused rfl rfl rfl (by decide +kernel) ⟨Nat.le_of_ble_eq_true rfl, Nat.le_of_ble_eq_true rfl⟩) ⟨fun a U g mk q => by obtain ⟨q0, q1, qP, qK, qD⟩ := q; exact ⟨q0, q1, qP, va_K.moved (u := U) (U := U.calling g mk a) (Vm.Alike.refl U.vm) qK, qD⟩, va_recv hKc hPc (ci := 10) (q0 := 0) rfl rfl, fun U hU hW => ⟨rfl, by rw [hU], by rw [hU]; exact hPc, va_K.moved hW.alike hKc, hDc.weaken (fun _ _ _ _ => trivial)⟩⟩ rfl rfl hl.1 rfl (lv_room (Nat.le_of_ble_eq_true rfl)) dX10_forced_17 ⟨Nat.le_of_ble_eq_true rfl, Nat.le_of_ble_eq_true rfl⟩) hS (fun q _ h => hFc q h) hFc (fun r_4 u t H1 locs ht hvm hw hB hz1 hk1 hS => ?_)
    obtain ⟨hP1, hK1, hD1⟩ := hB
    rw [ht] at hP1
    have hK1 := va_K.moved hvm.symm hK1
    try dsimp only at hw
    obtain ⟨hP, hD⟩ := va_join (wr := [(pa, .inr (5, [.int 0, .int pa_lines, .int pa_ways, .int pa_everOne, .int pa_everNone, .ref pa_held]))]) (w1 := [(h0, .inr (10, [.ref tp, .ref rd, .ref tb, .ref rg, .ref bl, .ref pa, .ref fm, .ref te, .ref hi, .ref fr, .int fd, .int 1, .int lf, .int fp]))]) hP hD [0] [1] rfl rfl (by decide) (by decide) hk1 hFc hP1 hD1
    have hK := (hK.sub (tys' := []) [] rfl).app hK1
    generalize H1 = H at hP hS ⊢
    have hP : va_P (dC, dI) vwCl [(pa, .inr (5, [.int 0, .int pa_lines, .int pa_ways, .int pa_everOne, .int pa_everNone, .ref pa_held])), (h0, .inr (10, [.ref tp, .ref rd, .ref tb, .ref rg, .ref bl, .ref pa, .ref fm, .ref te, .ref hi, .ref fr, .int fd, .int 1, .int lf, .int fp]))] H := hP
    have hD : va_D A [(pa, .inr (5, [.int 0, .int pa_lines, .int pa_ways, .int pa_everOne, .int pa_everNone, .ref pa_held])), (h0, .inr (10, [.ref tp, .ref rd, .ref tb, .ref rg, .ref bl, .ref pa, .ref fm, .ref te, .ref hi, .ref fr, .int fd, .int 1, .int lf, .int fp]))] := hD
    have hK : va_K (dC, dI) vwCl [] s := hK
    refine W.widen (k := 0) (n := 0) (by omega) (by omega) ?_
    have er_4 : r_4 = (-1) := hw
    subst er_4
    have hP9 := hP.sub (ws' := [(h0, .inr (10, [.ref tp, .ref rd, .ref tb, .ref rg, .ref bl, .ref pa, .ref fm, .ref te, .ref hi, .ref fr, .int fd, .int 1, .int lf, .int fp])), (pa, .inr (5, [.int 0, .int pa_lines, .int pa_ways, .int pa_everOne, .int pa_everNone, .ref pa_held]))]) [1, 0] rfl
    have hD9 := hD.sub (ws' := [(h0, .inr (10, [.ref tp, .ref rd, .ref tb, .ref rg, .ref bl, .ref pa, .ref fm, .ref te, .ref hi, .ref fr, .int fd, .int 1, .int lf, .int fp])), (pa, .inr (5, [.int 0, .int pa_lines, .int pa_ways, .int pa_everOne, .int pa_everNone, .ref pa_held]))]) [1, 0] (by decide) rfl
    have hK9 := hK.sub (tys' := []) [] rfl
    refine W.widen (k := 0) (n := 0) (Nat.le_of_ble_eq_true rfl) (Nat.le_of_ble_eq_true rfl) ?_
    exact W.iret (v := (-1)) hx hb hr (fun t ht hW => ⟨⟨(-1), (), rfl, rfl, by rw [ht]; exact hP9, va_K.moved hW.alike hK9, hD9⟩, hS.F ht⟩) hS.2.2 dX10_forced_20

set_option maxRecDepth 20000 in
theorem iw_X3_hasRay_X3_c_hasRay_0 : ∀ w ∈ wsX30, w ∈ wsX3_hasRay := by decide +kernel
set_option maxHeartbeats 4000000 in
set_option maxRecDepth 100000 in
/-- hasRay where there is none -/
theorem c_hasRay_0 (l : Launch) (dC : Nat → ClassId) (dI : Nat → Nat → Nat) (sz : Nat) (fm : Nat) (fm_corners : Int32) (fm_colourings : Int32) (fm_mostOnes : Int32) (fm_spares : Int32) (fm_staying : Int32) (fm_meets : Nat) (fm_cornerBits : Nat) (fm_worked : Int32) (fm_present : Int32) (fm_found : Int32) (fm_most : Int32) (p0 : Int32)  : Met l yX3_hasRay wsX3_hasRay ({ frames := 0, cells := 0, slots := 0, locals := 0 }) (va_Pc [.ref fm, .int p0] (fun U => U.heap.size = sz ∧ va_P (dC, dI) vwCl [(fm, .inr (3, [.int 0, .int fm_corners, .int fm_colourings, .int fm_mostOnes, .int fm_spares, .int fm_staying, .ref fm_meets, .ref fm_cornerBits, .int fm_worked, .int fm_present, .int fm_found, .int fm_most]))] U.heap ∧ va_K (dC, dI) vwCl [] U ∧ va_D (fun _ => True) [(fm, .inr (3, [.int 0, .int fm_corners, .int fm_colourings, .int fm_mostOnes, .int fm_spares, .int fm_staying, .ref fm_meets, .ref fm_cornerBits, .int fm_worked, .int fm_present, .int fm_found, .int fm_most]))])) (va_Qi (fun (r : Int32) (_ : Unit) => r = 0) (fun _ t => va_P (dC, dI) vwCl [(fm, .inr (3, [.int 0, .int fm_corners, .int fm_colourings, .int fm_mostOnes, .int fm_spares, .int fm_staying, .ref fm_meets, .ref fm_cornerBits, .int fm_worked, .int fm_present, .int fm_found, .int fm_most]))] t.heap ∧ va_K (dC, dI) vwCl [] t ∧ va_D (va_A [(fm, .inr (3, [.int 0, .int fm_corners, .int fm_colourings, .int fm_mostOnes, .int fm_spares, .int fm_staying, .ref fm_meets, .ref fm_cornerBits, .int fm_worked, .int fm_present, .int fm_found, .int fm_most]))] sz) [(fm, .inr (3, [.int 0, .int fm_corners, .int fm_colourings, .int fm_mostOnes, .int fm_spares, .int fm_staying, .ref fm_meets, .ref fm_cornerBits, .int fm_worked, .int fm_present, .int fm_found, .int fm_most]))]) (va_A [(fm, .inr (3, [.int 0, .int fm_corners, .int fm_colourings, .int fm_mostOnes, .int fm_spares, .int fm_staying, .ref fm_meets, .ref fm_cornerBits, .int fm_worked, .int fm_present, .int fm_found, .int fm_most]))] sz)) 0 0 (va_A [(fm, .inr (3, [.int 0, .int fm_corners, .int fm_colourings, .int fm_mostOnes, .int fm_spares, .int fm_staying, .ref fm_meets, .ref fm_cornerBits, .int fm_worked, .int fm_present, .int fm_found, .int fm_most]))] sz) := by
  refine Met.ofW (cc := cX3_hasRay) (maxL := 2) (ret := (some .boolean)) (by decide) rfl ?_
  intro p e s m args below meth c s₁ B hml hv
  obtain ⟨rfl, hsz, hP, hK, hD0⟩ := hv
  have hx := B.exec
  have hb := B.bytes
  have hr := B.returns
  have hts := atoms_spec (ws := wsX3_hasRay) B.pre
  have hown : s.vm.findClass RX3 = some m.cls := findClass_of_methodNamed B.named
  have hlocks := B.notSynchronized
  subst hsz
  have hD := hD0.self (sz := s.heap.size)
  generalize hAe : va_A [(fm, .inr (3, [.int 0, .int fm_corners, .int fm_colourings, .int fm_mostOnes, .int fm_spares, .int fm_staying, .ref fm_meets, .ref fm_cornerBits, .int fm_worked, .int fm_present, .int fm_found, .int fm_most]))] s.heap.size = A at hD ⊢
  have hA : ∀ q : Nat, s.heap.size ≤ q → A q := fun q h => by rw [← hAe]; exact Or.inr h
  have hS : va_S A s.heap s.heap [] := va_S.rf
  have hP : va_P (dC, dI) vwCl [(fm, .inr (3, [.int 0, .int fm_corners, .int fm_colourings, .int fm_mostOnes, .int fm_spares, .int fm_staying, .ref fm_meets, .ref fm_cornerBits, .int fm_worked, .int fm_present, .int fm_found, .int fm_most]))] s.heap := hP
  have hl := lv_entry ([.ref fm, .int p0]) (n := 2) (Nat.le_of_ble_eq_true rfl)
  rw [lg_entry_eq]
  generalize (lg_sl ([.ref fm, .int p0]) ++ List.replicate (2 - (lg_sl ([.ref fm, .int p0])).length) Slot.unset).toArray = ls at hl ⊢
  have hl : lv_has ls 2 [(0, .ref fm), (1, .int p0)] := hl
  refine lv_iload_n hx hb dX3_hasRay_0 rfl (lv_at hl 1 rfl) ?_
  refine lv_if_lt (tgt := 16) hx hb dX3_hasRay_1 (by decide) (fun c_1 => ?_) (fun c_1 => ?_)
  · refine lv_iconst (v := 0) hx hb dX3_hasRay_16 (by decide) ?_
    have hP9 := hP.sub (ws' := [(fm, .inr (3, [.int 0, .int fm_corners, .int fm_colourings, .int fm_mostOnes, .int fm_spares, .int fm_staying, .ref fm_meets, .ref fm_cornerBits, .int fm_worked, .int fm_present, .int fm_found, .int fm_most]))]) [0] rfl
    have hD9 := hD.sub (ws' := [(fm, .inr (3, [.int 0, .int fm_corners, .int fm_colourings, .int fm_mostOnes, .int fm_spares, .int fm_staying, .ref fm_meets, .ref fm_cornerBits, .int fm_worked, .int fm_present, .int fm_found, .int fm_most]))]) [0] (by decide) rfl
    have hK9 := hK.sub (tys' := []) [] rfl
    refine W.widen (k := 0) (n := 0) (Nat.le_of_ble_eq_true rfl) (Nat.le_of_ble_eq_true rfl) ?_
    exact W.zret (v := 0) (ty := .boolean) hx hb hr rfl (fun t ht hW => ⟨⟨0, (), rfl, rfl, by rw [ht]; exact hP9, va_K.moved hW.alike hK9, hD9⟩, hS.F ht⟩) hS.2.2 dX3_hasRay_17
  · refine lv_iload_n hx hb dX3_hasRay_4 rfl (lv_at hl 1 rfl) ?_
    refine lv_aload_n hx hb dX3_hasRay_5 rfl (lv_at hl 0 rfl) ?_
    refine va_get (D := (dC, dI)) (ci := 3) (v := .int 0) (C := RX3) (T := TX3) (N := 12) hx hb hts iw_X3_hasRay_X3_c_hasRay_0 hown hK hP 0 rfl rfl 0 (by decide) (hts (.fieldLink RX3 24 "NotAtOnce$Frames" "rays" "I") (by decide +kernel)) (fun _ h9 => h9) rfl dX3_hasRay_6 ?_
    refine lv_icmp_ge (tgt := 16) hx hb dX3_hasRay_9 (by decide) (fun c_2 => ?_) (fun c_2 => absurd (Int32.not_lt.mp c_1) c_2)
    refine lv_iconst (v := 0) hx hb dX3_hasRay_16 (by decide) ?_
    have hP9 := hP.sub (ws' := [(fm, .inr (3, [.int 0, .int fm_corners, .int fm_colourings, .int fm_mostOnes, .int fm_spares, .int fm_staying, .ref fm_meets, .ref fm_cornerBits, .int fm_worked, .int fm_present, .int fm_found, .int fm_most]))]) [0] rfl
    have hD9 := hD.sub (ws' := [(fm, .inr (3, [.int 0, .int fm_corners, .int fm_colourings, .int fm_mostOnes, .int fm_spares, .int fm_staying, .ref fm_meets, .ref fm_cornerBits, .int fm_worked, .int fm_present, .int fm_found, .int fm_most]))]) [0] (by decide) rfl
    have hK9 := hK.sub (tys' := []) [] rfl
    refine W.widen (k := 0) (n := 0) (Nat.le_of_ble_eq_true rfl) (Nat.le_of_ble_eq_true rfl) ?_
    exact W.zret (v := 0) (ty := .boolean) hx hb hr rfl (fun t ht hW => ⟨⟨0, (), rfl, rfl, by rw [ht]; exact hP9, va_K.moved hW.alike hK9, hD9⟩, hS.F ht⟩) hS.2.2 dX3_hasRay_17

set_option maxRecDepth 20000 in
theorem iw_X10_square_X10_c_square_0 : ∀ w ∈ wsX100, w ∈ wsX10_square := by decide +kernel
set_option maxHeartbeats 4000000 in
set_option maxRecDepth 100000 in
/-- square where there is none such -/
theorem c_square_0 (l : Launch) (dC : Nat → ClassId) (dI : Nat → Nat → Nat) (sz : Nat) (h0 : Nat) (tp : Nat) (rd : Nat) (tb : Nat) (rg : Nat) (bl : Nat) (pa : Nat) (fm : Nat) (te : Nat) (hi : Nat) (fr : Nat) (fd : Int32) (rf : Int32) (lf : Int32) (fp : Int32) (fm_corners : Int32) (fm_colourings : Int32) (fm_mostOnes : Int32) (fm_spares : Int32) (fm_staying : Int32) (fm_meets : Nat) (fm_cornerBits : Nat) (fm_worked : Int32) (fm_present : Int32) (fm_found : Int32) (fm_most : Int32) (p0 : Int32) (p1 : Int32)  : Met l yX10_square wsX10_square ({ frames := 1, cells := 0, slots := 0, locals := 21 }) (va_Pc [.ref h0, .int p0, .int p1] (fun U => U.heap.size = sz ∧ va_P (dC, dI) vwCl [(h0, .inr (10, [.ref tp, .ref rd, .ref tb, .ref rg, .ref bl, .ref pa, .ref fm, .ref te, .ref hi, .ref fr, .int fd, .int rf, .int lf, .int fp])), (fm, .inr (3, [.int 0, .int fm_corners, .int fm_colourings, .int fm_mostOnes, .int fm_spares, .int fm_staying, .ref fm_meets, .ref fm_cornerBits, .int fm_worked, .int fm_present, .int fm_found, .int fm_most]))] U.heap ∧ va_K (dC, dI) vwCl [] U ∧ va_D (fun _ => True) [(h0, .inr (10, [.ref tp, .ref rd, .ref tb, .ref rg, .ref bl, .ref pa, .ref fm, .ref te, .ref hi, .ref fr, .int fd, .int rf, .int lf, .int fp])), (fm, .inr (3, [.int 0, .int fm_corners, .int fm_colourings, .int fm_mostOnes, .int fm_spares, .int fm_staying, .ref fm_meets, .ref fm_cornerBits, .int fm_worked, .int fm_present, .int fm_found, .int fm_most]))])) (va_Qi (fun (r : Int32) (_ : Unit) => r = (-1)) (fun _ t => va_P (dC, dI) vwCl [(h0, .inr (10, [.ref tp, .ref rd, .ref tb, .ref rg, .ref bl, .ref pa, .ref fm, .ref te, .ref hi, .ref fr, .int fd, .int 1, .int lf, .int fp])), (fm, .inr (3, [.int 0, .int fm_corners, .int fm_colourings, .int fm_mostOnes, .int fm_spares, .int fm_staying, .ref fm_meets, .ref fm_cornerBits, .int fm_worked, .int fm_present, .int fm_found, .int fm_most]))] t.heap ∧ va_K (dC, dI) vwCl [] t ∧ va_D (va_A [(h0, .inr (10, [.ref tp, .ref rd, .ref tb, .ref rg, .ref bl, .ref pa, .ref fm, .ref te, .ref hi, .ref fr, .int fd, .int rf, .int lf, .int fp])), (fm, .inr (3, [.int 0, .int fm_corners, .int fm_colourings, .int fm_mostOnes, .int fm_spares, .int fm_staying, .ref fm_meets, .ref fm_cornerBits, .int fm_worked, .int fm_present, .int fm_found, .int fm_most]))] sz) [(h0, .inr (10, [.ref tp, .ref rd, .ref tb, .ref rg, .ref bl, .ref pa, .ref fm, .ref te, .ref hi, .ref fr, .int fd, .int 1, .int lf, .int fp])), (fm, .inr (3, [.int 0, .int fm_corners, .int fm_colourings, .int fm_mostOnes, .int fm_spares, .int fm_staying, .ref fm_meets, .ref fm_cornerBits, .int fm_worked, .int fm_present, .int fm_found, .int fm_most]))]) (va_A [(h0, .inr (10, [.ref tp, .ref rd, .ref tb, .ref rg, .ref bl, .ref pa, .ref fm, .ref te, .ref hi, .ref fr, .int fd, .int rf, .int lf, .int fp])), (fm, .inr (3, [.int 0, .int fm_corners, .int fm_colourings, .int fm_mostOnes, .int fm_spares, .int fm_staying, .ref fm_meets, .ref fm_cornerBits, .int fm_worked, .int fm_present, .int fm_found, .int fm_most]))] sz)) 0 0 (va_A [(h0, .inr (10, [.ref tp, .ref rd, .ref tb, .ref rg, .ref bl, .ref pa, .ref fm, .ref te, .ref hi, .ref fr, .int fd, .int rf, .int lf, .int fp])), (fm, .inr (3, [.int 0, .int fm_corners, .int fm_colourings, .int fm_mostOnes, .int fm_spares, .int fm_staying, .ref fm_meets, .ref fm_cornerBits, .int fm_worked, .int fm_present, .int fm_found, .int fm_most]))] sz) := by
  refine Met.ofW (cc := cX10_square) (maxL := 3) (ret := (some .int)) (by decide) rfl ?_
  intro p e s m args below meth c s₁ B hml hv
  obtain ⟨rfl, hsz, hP, hK, hD0⟩ := hv
  have hx := B.exec
  have hb := B.bytes
  have hr := B.returns
  have hts := atoms_spec (ws := wsX10_square) B.pre
  have hown : s.vm.findClass RX10 = some m.cls := findClass_of_methodNamed B.named
  have hlocks := B.notSynchronized
  subst hsz
  have hD := hD0.self (sz := s.heap.size)
  generalize hAe : va_A [(h0, .inr (10, [.ref tp, .ref rd, .ref tb, .ref rg, .ref bl, .ref pa, .ref fm, .ref te, .ref hi, .ref fr, .int fd, .int rf, .int lf, .int fp])), (fm, .inr (3, [.int 0, .int fm_corners, .int fm_colourings, .int fm_mostOnes, .int fm_spares, .int fm_staying, .ref fm_meets, .ref fm_cornerBits, .int fm_worked, .int fm_present, .int fm_found, .int fm_most]))] s.heap.size = A at hD ⊢
  have hA : ∀ q : Nat, s.heap.size ≤ q → A q := fun q h => by rw [← hAe]; exact Or.inr h
  have hS : va_S A s.heap s.heap [] := va_S.rf
  have hP : va_P (dC, dI) vwCl [(h0, .inr (10, [.ref tp, .ref rd, .ref tb, .ref rg, .ref bl, .ref pa, .ref fm, .ref te, .ref hi, .ref fr, .int fd, .int rf, .int lf, .int fp])), (fm, .inr (3, [.int 0, .int fm_corners, .int fm_colourings, .int fm_mostOnes, .int fm_spares, .int fm_staying, .ref fm_meets, .ref fm_cornerBits, .int fm_worked, .int fm_present, .int fm_found, .int fm_most]))] s.heap := hP
  have hl := lv_entry ([.ref h0, .int p0, .int p1]) (n := 3) (Nat.le_of_ble_eq_true rfl)
  rw [lg_entry_eq]
  generalize (lg_sl ([.ref h0, .int p0, .int p1]) ++ List.replicate (3 - (lg_sl ([.ref h0, .int p0, .int p1])).length) Slot.unset).toArray = ls at hl ⊢
  have hl : lv_has ls 3 [(0, .ref h0), (1, .int p0), (2, .int p1)] := hl
  refine lv_aload_n hx hb dX10_square_0 rfl (lv_at hl 0 rfl) ?_
  refine va_get (D := (dC, dI)) (ci := 10) (v := .ref fm) (C := RX10) (T := TX10) (N := 14) hx hb hts iw_X10_square_X10_c_square_0 hown hK hP 0 rfl rfl 6 (by decide) (hts (.fieldLink RX10 64 "NotAtOnce" "frames" "LNotAtOnce$Frames;") (by decide +kernel)) (fun _ h9 => h9) rfl dX10_square_1 ?_
  refine lv_iload_n hx hb dX10_square_4 rfl (lv_at hl 1 rfl) ?_
  have hPc := hP.sub (ws' := [(fm, .inr (3, [.int 0, .int fm_corners, .int fm_colourings, .int fm_mostOnes, .int fm_spares, .int fm_staying, .ref fm_meets, .ref fm_cornerBits, .int fm_worked, .int fm_present, .int fm_found, .int fm_most]))]) [1] rfl
  have hDc := hD.sub (ws' := [(fm, .inr (3, [.int 0, .int fm_corners, .int fm_colourings, .int fm_mostOnes, .int fm_spares, .int fm_staying, .ref fm_meets, .ref fm_cornerBits, .int fm_worked, .int fm_present, .int fm_found, .int fm_most]))]) [1] (by decide) rfl
  have hKc := hK.sub (tys' := []) [] rfl
  have hFc := va_free (wc := [(fm, .inr (3, [.int 0, .int fm_corners, .int fm_colourings, .int fm_mostOnes, .int fm_spares, .int fm_staying, .ref fm_meets, .ref fm_cornerBits, .int fm_worked, .int fm_present, .int fm_found, .int fm_most]))]) hD hS hA [1] rfl
  refine va_calli (va_runV (As := [.int p0]) (rest := []) ⟨hx, hb, hml, hown, hts⟩ (c_hasRay_0 l dC dI s.heap.size fm fm_corners fm_colourings fm_mostOnes fm_spares fm_staying fm_meets fm_cornerBits fm_worked fm_present fm_found fm_most p0) (cwV 1 hts gX10_square_X3_hasRay rfl rfl rfl (by decide +kernel) ⟨Nat.le_of_ble_eq_true rfl, Nat.le_of_ble_eq_true rfl⟩) ⟨fun a U g mk q => by obtain ⟨q0, q1, qP, qK, qD⟩ := q; exact ⟨q0, q1, qP, va_K.moved (u := U) (U := U.calling g mk a) (Vm.Alike.refl U.vm) qK, qD⟩, va_recv hKc hPc (ci := 3) (q0 := 0) rfl rfl, fun U hU hW => ⟨rfl, by rw [hU], by rw [hU]; exact hPc, va_K.moved hW.alike hKc, hDc.weaken (fun _ _ _ _ => trivial)⟩⟩ rfl rfl hl.1 rfl (lv_room (Nat.le_of_ble_eq_true rfl)) dX10_square_5 ⟨Nat.le_of_ble_eq_true rfl, Nat.le_of_ble_eq_true rfl⟩) hS (fun q _ h => hFc q h) hFc (fun r_1 u t H1 locs ht hvm hw hB hz1 hk1 hS => ?_)
  obtain ⟨hP1, hK1, hD1⟩ := hB
  rw [ht] at hP1
  have hK1 := va_K.moved hvm.symm hK1
  try dsimp only at hw
  obtain ⟨hP, hD⟩ := va_join (wr := [(h0, .inr (10, [.ref tp, .ref rd, .ref tb, .ref rg, .ref bl, .ref pa, .ref fm, .ref te, .ref hi, .ref fr, .int fd, .int rf, .int lf, .int fp]))]) (w1 := [(fm, .inr (3, [.int 0, .int fm_corners, .int fm_colourings, .int fm_mostOnes, .int fm_spares, .int fm_staying, .ref fm_meets, .ref fm_cornerBits, .int fm_worked, .int fm_present, .int fm_found, .int fm_most]))]) hP hD [1] [0] rfl rfl (by decide) (by decide) hk1 hFc hP1 hD1
  have hK := (hK.sub (tys' := []) [] rfl).app hK1
  generalize H1 = H at hP hS ⊢
  have hP : va_P (dC, dI) vwCl [(h0, .inr (10, [.ref tp, .ref rd, .ref tb, .ref rg, .ref bl, .ref pa, .ref fm, .ref te, .ref hi, .ref fr, .int fd, .int rf, .int lf, .int fp])), (fm, .inr (3, [.int 0, .int fm_corners, .int fm_colourings, .int fm_mostOnes, .int fm_spares, .int fm_staying, .ref fm_meets, .ref fm_cornerBits, .int fm_worked, .int fm_present, .int fm_found, .int fm_most]))] H := hP
  have hD : va_D A [(h0, .inr (10, [.ref tp, .ref rd, .ref tb, .ref rg, .ref bl, .ref pa, .ref fm, .ref te, .ref hi, .ref fr, .int fd, .int rf, .int lf, .int fp])), (fm, .inr (3, [.int 0, .int fm_corners, .int fm_colourings, .int fm_mostOnes, .int fm_spares, .int fm_staying, .ref fm_meets, .ref fm_cornerBits, .int fm_worked, .int fm_present, .int fm_found, .int fm_most]))] := hD
  have hK : va_K (dC, dI) vwCl [] s := hK
  refine W.widen (k := 0) (n := 0) (by omega) (by omega) ?_
  have er_1 : r_1 = 0 := hw
  subst er_1
  refine lv_if_eq (tgt := 27) hx hb dX10_square_8 (by decide) (fun c_2 => ?_) (fun c_2 => absurd c_2 (by decide))
  refine lv_aload_n hx hb dX10_square_27 rfl (lv_at hl 0 rfl) ?_
  refine lv_iconst (v := 1) hx hb dX10_square_28 (by decide) ?_
  have hPc := hP.sub (ws' := [(h0, .inr (10, [.ref tp, .ref rd, .ref tb, .ref rg, .ref bl, .ref pa, .ref fm, .ref te, .ref hi, .ref fr, .int fd, .int rf, .int lf, .int fp]))]) [0] rfl
  have hDc := hD.sub (ws' := [(h0, .inr (10, [.ref tp, .ref rd, .ref tb, .ref rg, .ref bl, .ref pa, .ref fm, .ref te, .ref hi, .ref fr, .int fd, .int rf, .int lf, .int fp]))]) [0] (by decide) rfl
  have hKc := hK.sub (tys' := []) [] rfl
  have hFc := va_free (wc := [(h0, .inr (10, [.ref tp, .ref rd, .ref tb, .ref rg, .ref bl, .ref pa, .ref fm, .ref te, .ref hi, .ref fr, .int fd, .int rf, .int lf, .int fp]))]) hD hS hA [0] rfl
  refine va_calli (va_runV (As := [.int 1]) (rest := []) ⟨hx, hb, hml, hown, hts⟩ (c_refused l dC dI H.size h0 tp rd tb rg bl pa fm te hi fr fd rf lf fp 1) (cwV 1 hts gX10_square_X10_refused rfl rfl rfl (by decide +kernel) ⟨Nat.le_of_ble_eq_true rfl, Nat.le_of_ble_eq_true rfl⟩) ⟨fun a U g mk q => by obtain ⟨q0, q1, qP, qK, qD⟩ := q; exact ⟨q0, q1, qP, va_K.moved (u := U) (U := U.calling g mk a) (Vm.Alike.refl U.vm) qK, qD⟩, va_recv hKc hPc (ci := 10) (q0 := 0) rfl rfl, fun U hU hW => ⟨rfl, by rw [hU], by rw [hU]; exact hPc, va_K.moved hW.alike hKc, hDc.weaken (fun _ _ _ _ => trivial)⟩⟩ rfl rfl hl.1 rfl (lv_room (Nat.le_of_ble_eq_true rfl)) dX10_square_29 ⟨Nat.le_of_ble_eq_true rfl, Nat.le_of_ble_eq_true rfl⟩) hS (fun q _ h => hFc q h) hFc (fun r_3 u t H1 locs ht hvm hw hB hz1 hk1 hS => ?_)
  obtain ⟨hP1, hK1, hD1⟩ := hB
  rw [ht] at hP1
  have hK1 := va_K.moved hvm.symm hK1
  try dsimp only at hw
  obtain ⟨hP, hD⟩ := va_join (wr := [(fm, .inr (3, [.int 0, .int fm_corners, .int fm_colourings, .int fm_mostOnes, .int fm_spares, .int fm_staying, .ref fm_meets, .ref fm_cornerBits, .int fm_worked, .int fm_present, .int fm_found, .int fm_most]))]) (w1 := [(h0, .inr (10, [.ref tp, .ref rd, .ref tb, .ref rg, .ref bl, .ref pa, .ref fm, .ref te, .ref hi, .ref fr, .int fd, .int 1, .int lf, .int fp]))]) hP hD [0] [1] rfl rfl (by decide) (by decide) hk1 hFc hP1 hD1
  have hK := (hK.sub (tys' := []) [] rfl).app hK1
  generalize H1 = H at hP hS ⊢
  have hP : va_P (dC, dI) vwCl [(fm, .inr (3, [.int 0, .int fm_corners, .int fm_colourings, .int fm_mostOnes, .int fm_spares, .int fm_staying, .ref fm_meets, .ref fm_cornerBits, .int fm_worked, .int fm_present, .int fm_found, .int fm_most])), (h0, .inr (10, [.ref tp, .ref rd, .ref tb, .ref rg, .ref bl, .ref pa, .ref fm, .ref te, .ref hi, .ref fr, .int fd, .int 1, .int lf, .int fp]))] H := hP
  have hD : va_D A [(fm, .inr (3, [.int 0, .int fm_corners, .int fm_colourings, .int fm_mostOnes, .int fm_spares, .int fm_staying, .ref fm_meets, .ref fm_cornerBits, .int fm_worked, .int fm_present, .int fm_found, .int fm_most])), (h0, .inr (10, [.ref tp, .ref rd, .ref tb, .ref rg, .ref bl, .ref pa, .ref fm, .ref te, .ref hi, .ref fr, .int fd, .int 1, .int lf, .int fp]))] := hD
  have hK : va_K (dC, dI) vwCl [] s := hK
  refine W.widen (k := 0) (n := 0) (by omega) (by omega) ?_
  have er_3 : r_3 = (-1) := hw
  subst er_3
  have hP9 := hP.sub (ws' := [(h0, .inr (10, [.ref tp, .ref rd, .ref tb, .ref rg, .ref bl, .ref pa, .ref fm, .ref te, .ref hi, .ref fr, .int fd, .int 1, .int lf, .int fp])), (fm, .inr (3, [.int 0, .int fm_corners, .int fm_colourings, .int fm_mostOnes, .int fm_spares, .int fm_staying, .ref fm_meets, .ref fm_cornerBits, .int fm_worked, .int fm_present, .int fm_found, .int fm_most]))]) [1, 0] rfl
  have hD9 := hD.sub (ws' := [(h0, .inr (10, [.ref tp, .ref rd, .ref tb, .ref rg, .ref bl, .ref pa, .ref fm, .ref te, .ref hi, .ref fr, .int fd, .int 1, .int lf, .int fp])), (fm, .inr (3, [.int 0, .int fm_corners, .int fm_colourings, .int fm_mostOnes, .int fm_spares, .int fm_staying, .ref fm_meets, .ref fm_cornerBits, .int fm_worked, .int fm_present, .int fm_found, .int fm_most]))]) [1, 0] (by decide) rfl
  have hK9 := hK.sub (tys' := []) [] rfl
  refine W.widen (k := 0) (n := 0) (Nat.le_of_ble_eq_true rfl) (Nat.le_of_ble_eq_true rfl) ?_
  exact W.iret (v := (-1)) hx hb hr (fun t ht hW => ⟨⟨(-1), (), rfl, rfl, by rw [ht]; exact hP9, va_K.moved hW.alike hK9, hD9⟩, hS.F ht⟩) hS.2.2 dX10_square_32

set_option maxRecDepth 20000 in
theorem iw_X4_takeBack_X4_c_takeBack_0 : ∀ w ∈ wsX40, w ∈ wsX4_takeBack := by decide +kernel
set_option maxHeartbeats 4000000 in
set_option maxRecDepth 100000 in
/-- takeBack with no ACT -/
theorem c_takeBack_0 (l : Launch) (dC : Nat → ClassId) (dI : Nat → Nat → Nat) (sz : Nat) (hi : Nat) (hi_known : Int32) (hi_marks : Int32) (hi_acts : Nat) (hi_rows : Nat) (hi_marked : Nat) (hi_table : Nat)  : Met l yX4_takeBack wsX4_takeBack ({ frames := 0, cells := 0, slots := 0, locals := 0 }) (va_Pc [.ref hi] (fun U => U.heap.size = sz ∧ va_P (dC, dI) vwCl [(hi, .inr (4, [.int 0, .int hi_known, .int hi_marks, .ref hi_acts, .ref hi_rows, .ref hi_marked, .ref hi_table]))] U.heap ∧ va_K (dC, dI) vwCl [] U ∧ va_D (fun _ => True) [(hi, .inr (4, [.int 0, .int hi_known, .int hi_marks, .ref hi_acts, .ref hi_rows, .ref hi_marked, .ref hi_table]))])) (va_Qi (fun (r : Int32) (_ : Unit) => r = 0) (fun _ t => va_P (dC, dI) vwCl [(hi, .inr (4, [.int 0, .int hi_known, .int hi_marks, .ref hi_acts, .ref hi_rows, .ref hi_marked, .ref hi_table]))] t.heap ∧ va_K (dC, dI) vwCl [] t ∧ va_D (va_A [(hi, .inr (4, [.int 0, .int hi_known, .int hi_marks, .ref hi_acts, .ref hi_rows, .ref hi_marked, .ref hi_table]))] sz) [(hi, .inr (4, [.int 0, .int hi_known, .int hi_marks, .ref hi_acts, .ref hi_rows, .ref hi_marked, .ref hi_table]))]) (va_A [(hi, .inr (4, [.int 0, .int hi_known, .int hi_marks, .ref hi_acts, .ref hi_rows, .ref hi_marked, .ref hi_table]))] sz)) 0 0 (va_A [(hi, .inr (4, [.int 0, .int hi_known, .int hi_marks, .ref hi_acts, .ref hi_rows, .ref hi_marked, .ref hi_table]))] sz) := by
  refine Met.ofW (cc := cX4_takeBack) (maxL := 1) (ret := (some .boolean)) (by decide) rfl ?_
  intro p e s m args below meth c s₁ B hml hv
  obtain ⟨rfl, hsz, hP, hK, hD0⟩ := hv
  have hx := B.exec
  have hb := B.bytes
  have hr := B.returns
  have hts := atoms_spec (ws := wsX4_takeBack) B.pre
  have hown : s.vm.findClass RX4 = some m.cls := findClass_of_methodNamed B.named
  have hlocks := B.notSynchronized
  subst hsz
  have hD := hD0.self (sz := s.heap.size)
  generalize hAe : va_A [(hi, .inr (4, [.int 0, .int hi_known, .int hi_marks, .ref hi_acts, .ref hi_rows, .ref hi_marked, .ref hi_table]))] s.heap.size = A at hD ⊢
  have hA : ∀ q : Nat, s.heap.size ≤ q → A q := fun q h => by rw [← hAe]; exact Or.inr h
  have hS : va_S A s.heap s.heap [] := va_S.rf
  have hP : va_P (dC, dI) vwCl [(hi, .inr (4, [.int 0, .int hi_known, .int hi_marks, .ref hi_acts, .ref hi_rows, .ref hi_marked, .ref hi_table]))] s.heap := hP
  have hl := lv_entry ([.ref hi]) (n := 1) (Nat.le_of_ble_eq_true rfl)
  rw [lg_entry_eq]
  generalize (lg_sl ([.ref hi]) ++ List.replicate (1 - (lg_sl ([.ref hi])).length) Slot.unset).toArray = ls at hl ⊢
  have hl : lv_has ls 1 [(0, .ref hi)] := hl
  refine lv_aload_n hx hb dX4_takeBack_0 rfl (lv_at hl 0 rfl) ?_
  refine va_get (D := (dC, dI)) (ci := 4) (v := .int 0) (C := RX4) (T := TX4) (N := 7) hx hb hts iw_X4_takeBack_X4_c_takeBack_0 hown hK hP 0 rfl rfl 0 (by decide) (hts (.fieldLink RX4 28 "NotAtOnce$History" "made" "I") (by decide +kernel)) (fun _ h9 => h9) rfl dX4_takeBack_1 ?_
  refine lv_if_ne (tgt := 9) hx hb dX4_takeBack_4 (by decide) (fun c_1 => absurd c_1 (by decide)) (fun c_1 => ?_)
  refine lv_iconst (v := 0) hx hb dX4_takeBack_7 (by decide) ?_
  have hP9 := hP.sub (ws' := [(hi, .inr (4, [.int 0, .int hi_known, .int hi_marks, .ref hi_acts, .ref hi_rows, .ref hi_marked, .ref hi_table]))]) [0] rfl
  have hD9 := hD.sub (ws' := [(hi, .inr (4, [.int 0, .int hi_known, .int hi_marks, .ref hi_acts, .ref hi_rows, .ref hi_marked, .ref hi_table]))]) [0] (by decide) rfl
  have hK9 := hK.sub (tys' := []) [] rfl
  refine W.widen (k := 0) (n := 0) (Nat.le_of_ble_eq_true rfl) (Nat.le_of_ble_eq_true rfl) ?_
  exact W.zret (v := 0) (ty := .boolean) hx hb hr rfl (fun t ht hW => ⟨⟨0, (), rfl, rfl, by rw [ht]; exact hP9, va_K.moved hW.alike hK9, hD9⟩, hS.F ht⟩) hS.2.2 dX4_takeBack_8

set_option maxRecDepth 20000 in
theorem iw_X4_makeAgain_X4_c_makeAgain_0 : ∀ w ∈ wsX40, w ∈ wsX4_makeAgain := by decide +kernel
set_option maxHeartbeats 4000000 in
set_option maxRecDepth 100000 in
/-- makeAgain with no ACT -/
theorem c_makeAgain_0 (l : Launch) (dC : Nat → ClassId) (dI : Nat → Nat → Nat) (sz : Nat) (hi : Nat) (hi_marks : Int32) (hi_acts : Nat) (hi_rows : Nat) (hi_marked : Nat) (hi_table : Nat)  : Met l yX4_makeAgain wsX4_makeAgain ({ frames := 0, cells := 0, slots := 0, locals := 0 }) (va_Pc [.ref hi] (fun U => U.heap.size = sz ∧ va_P (dC, dI) vwCl [(hi, .inr (4, [.int 0, .int 0, .int hi_marks, .ref hi_acts, .ref hi_rows, .ref hi_marked, .ref hi_table]))] U.heap ∧ va_K (dC, dI) vwCl [] U ∧ va_D (fun _ => True) [(hi, .inr (4, [.int 0, .int 0, .int hi_marks, .ref hi_acts, .ref hi_rows, .ref hi_marked, .ref hi_table]))])) (va_Qi (fun (r : Int32) (_ : Unit) => r = 0) (fun _ t => va_P (dC, dI) vwCl [(hi, .inr (4, [.int 0, .int 0, .int hi_marks, .ref hi_acts, .ref hi_rows, .ref hi_marked, .ref hi_table]))] t.heap ∧ va_K (dC, dI) vwCl [] t ∧ va_D (va_A [(hi, .inr (4, [.int 0, .int 0, .int hi_marks, .ref hi_acts, .ref hi_rows, .ref hi_marked, .ref hi_table]))] sz) [(hi, .inr (4, [.int 0, .int 0, .int hi_marks, .ref hi_acts, .ref hi_rows, .ref hi_marked, .ref hi_table]))]) (va_A [(hi, .inr (4, [.int 0, .int 0, .int hi_marks, .ref hi_acts, .ref hi_rows, .ref hi_marked, .ref hi_table]))] sz)) 0 0 (va_A [(hi, .inr (4, [.int 0, .int 0, .int hi_marks, .ref hi_acts, .ref hi_rows, .ref hi_marked, .ref hi_table]))] sz) := by
  refine Met.ofW (cc := cX4_makeAgain) (maxL := 1) (ret := (some .boolean)) (by decide) rfl ?_
  intro p e s m args below meth c s₁ B hml hv
  obtain ⟨rfl, hsz, hP, hK, hD0⟩ := hv
  have hx := B.exec
  have hb := B.bytes
  have hr := B.returns
  have hts := atoms_spec (ws := wsX4_makeAgain) B.pre
  have hown : s.vm.findClass RX4 = some m.cls := findClass_of_methodNamed B.named
  have hlocks := B.notSynchronized
  subst hsz
  have hD := hD0.self (sz := s.heap.size)
  generalize hAe : va_A [(hi, .inr (4, [.int 0, .int 0, .int hi_marks, .ref hi_acts, .ref hi_rows, .ref hi_marked, .ref hi_table]))] s.heap.size = A at hD ⊢
  have hA : ∀ q : Nat, s.heap.size ≤ q → A q := fun q h => by rw [← hAe]; exact Or.inr h
  have hS : va_S A s.heap s.heap [] := va_S.rf
  have hP : va_P (dC, dI) vwCl [(hi, .inr (4, [.int 0, .int 0, .int hi_marks, .ref hi_acts, .ref hi_rows, .ref hi_marked, .ref hi_table]))] s.heap := hP
  have hl := lv_entry ([.ref hi]) (n := 1) (Nat.le_of_ble_eq_true rfl)
  rw [lg_entry_eq]
  generalize (lg_sl ([.ref hi]) ++ List.replicate (1 - (lg_sl ([.ref hi])).length) Slot.unset).toArray = ls at hl ⊢
  have hl : lv_has ls 1 [(0, .ref hi)] := hl
  refine lv_aload_n hx hb dX4_makeAgain_0 rfl (lv_at hl 0 rfl) ?_
  refine va_get (D := (dC, dI)) (ci := 4) (v := .int 0) (C := RX4) (T := TX4) (N := 7) hx hb hts iw_X4_makeAgain_X4_c_makeAgain_0 hown hK hP 0 rfl rfl 0 (by decide) (hts (.fieldLink RX4 28 "NotAtOnce$History" "made" "I") (by decide +kernel)) (fun _ h9 => h9) rfl dX4_makeAgain_1 ?_
  refine lv_aload_n hx hb dX4_makeAgain_4 rfl (lv_at hl 0 rfl) ?_
  refine va_get (D := (dC, dI)) (ci := 4) (v := .int 0) (C := RX4) (T := TX4) (N := 7) hx hb hts iw_X4_makeAgain_X4_c_makeAgain_0 hown hK hP 0 rfl rfl 1 (by decide) (hts (.fieldLink RX4 32 "NotAtOnce$History" "known" "I") (by decide +kernel)) (fun _ h9 => h9) rfl dX4_makeAgain_5 ?_
  refine lv_icmp_lt (tgt := 13) hx hb dX4_makeAgain_8 (by decide) (fun c_1 => absurd c_1 (by decide)) (fun c_1 => ?_)
  refine lv_iconst (v := 0) hx hb dX4_makeAgain_11 (by decide) ?_
  have hP9 := hP.sub (ws' := [(hi, .inr (4, [.int 0, .int 0, .int hi_marks, .ref hi_acts, .ref hi_rows, .ref hi_marked, .ref hi_table]))]) [0] rfl
  have hD9 := hD.sub (ws' := [(hi, .inr (4, [.int 0, .int 0, .int hi_marks, .ref hi_acts, .ref hi_rows, .ref hi_marked, .ref hi_table]))]) [0] (by decide) rfl
  have hK9 := hK.sub (tys' := []) [] rfl
  refine W.widen (k := 0) (n := 0) (Nat.le_of_ble_eq_true rfl) (Nat.le_of_ble_eq_true rfl) ?_
  exact W.zret (v := 0) (ty := .boolean) hx hb hr rfl (fun t ht hW => ⟨⟨0, (), rfl, rfl, by rw [ht]; exact hP9, va_K.moved hW.alike hK9, hD9⟩, hS.F ht⟩) hS.2.2 dX4_makeAgain_12

set_option maxRecDepth 20000 in
theorem iw_X4_goBack_X4_c_goBack_0 : ∀ w ∈ wsX40, w ∈ wsX4_goBack := by decide +kernel
set_option maxHeartbeats 4000000 in
set_option maxRecDepth 100000 in
/-- goBack with no MARK -/
theorem c_goBack_0 (l : Launch) (dC : Nat → ClassId) (dI : Nat → Nat → Nat) (sz : Nat) (hi : Nat) (hi_made : Int32) (hi_known : Int32) (hi_acts : Nat) (hi_rows : Nat) (hi_marked : Nat) (hi_table : Nat) (p0 : Int32)  : Met l yX4_goBack wsX4_goBack ({ frames := 0, cells := 0, slots := 0, locals := 0 }) (va_Pc [.ref hi, .int p0] (fun U => U.heap.size = sz ∧ va_P (dC, dI) vwCl [(hi, .inr (4, [.int hi_made, .int hi_known, .int 0, .ref hi_acts, .ref hi_rows, .ref hi_marked, .ref hi_table]))] U.heap ∧ va_K (dC, dI) vwCl [] U ∧ va_D (fun _ => True) [(hi, .inr (4, [.int hi_made, .int hi_known, .int 0, .ref hi_acts, .ref hi_rows, .ref hi_marked, .ref hi_table]))])) (va_Qi (fun (r : Int32) (_ : Unit) => r = 0) (fun _ t => va_P (dC, dI) vwCl [(hi, .inr (4, [.int hi_made, .int hi_known, .int 0, .ref hi_acts, .ref hi_rows, .ref hi_marked, .ref hi_table]))] t.heap ∧ va_K (dC, dI) vwCl [] t ∧ va_D (va_A [(hi, .inr (4, [.int hi_made, .int hi_known, .int 0, .ref hi_acts, .ref hi_rows, .ref hi_marked, .ref hi_table]))] sz) [(hi, .inr (4, [.int hi_made, .int hi_known, .int 0, .ref hi_acts, .ref hi_rows, .ref hi_marked, .ref hi_table]))]) (va_A [(hi, .inr (4, [.int hi_made, .int hi_known, .int 0, .ref hi_acts, .ref hi_rows, .ref hi_marked, .ref hi_table]))] sz)) 0 0 (va_A [(hi, .inr (4, [.int hi_made, .int hi_known, .int 0, .ref hi_acts, .ref hi_rows, .ref hi_marked, .ref hi_table]))] sz) := by
  refine Met.ofW (cc := cX4_goBack) (maxL := 2) (ret := (some .boolean)) (by decide) rfl ?_
  intro p e s m args below meth c s₁ B hml hv
  obtain ⟨rfl, hsz, hP, hK, hD0⟩ := hv
  have hx := B.exec
  have hb := B.bytes
  have hr := B.returns
  have hts := atoms_spec (ws := wsX4_goBack) B.pre
  have hown : s.vm.findClass RX4 = some m.cls := findClass_of_methodNamed B.named
  have hlocks := B.notSynchronized
  subst hsz
  have hD := hD0.self (sz := s.heap.size)
  generalize hAe : va_A [(hi, .inr (4, [.int hi_made, .int hi_known, .int 0, .ref hi_acts, .ref hi_rows, .ref hi_marked, .ref hi_table]))] s.heap.size = A at hD ⊢
  have hA : ∀ q : Nat, s.heap.size ≤ q → A q := fun q h => by rw [← hAe]; exact Or.inr h
  have hS : va_S A s.heap s.heap [] := va_S.rf
  have hP : va_P (dC, dI) vwCl [(hi, .inr (4, [.int hi_made, .int hi_known, .int 0, .ref hi_acts, .ref hi_rows, .ref hi_marked, .ref hi_table]))] s.heap := hP
  have hl := lv_entry ([.ref hi, .int p0]) (n := 2) (Nat.le_of_ble_eq_true rfl)
  rw [lg_entry_eq]
  generalize (lg_sl ([.ref hi, .int p0]) ++ List.replicate (2 - (lg_sl ([.ref hi, .int p0])).length) Slot.unset).toArray = ls at hl ⊢
  have hl : lv_has ls 2 [(0, .ref hi), (1, .int p0)] := hl
  refine lv_iload_n hx hb dX4_goBack_0 rfl (lv_at hl 1 rfl) ?_
  refine lv_if_lt (tgt := 12) hx hb dX4_goBack_1 (by decide) (fun c_1 => ?_) (fun c_1 => ?_)
  · refine lv_iconst (v := 0) hx hb dX4_goBack_12 (by decide) ?_
    have hP9 := hP.sub (ws' := [(hi, .inr (4, [.int hi_made, .int hi_known, .int 0, .ref hi_acts, .ref hi_rows, .ref hi_marked, .ref hi_table]))]) [0] rfl
    have hD9 := hD.sub (ws' := [(hi, .inr (4, [.int hi_made, .int hi_known, .int 0, .ref hi_acts, .ref hi_rows, .ref hi_marked, .ref hi_table]))]) [0] (by decide) rfl
    have hK9 := hK.sub (tys' := []) [] rfl
    refine W.widen (k := 0) (n := 0) (Nat.le_of_ble_eq_true rfl) (Nat.le_of_ble_eq_true rfl) ?_
    exact W.zret (v := 0) (ty := .boolean) hx hb hr rfl (fun t ht hW => ⟨⟨0, (), rfl, rfl, by rw [ht]; exact hP9, va_K.moved hW.alike hK9, hD9⟩, hS.F ht⟩) hS.2.2 dX4_goBack_13
  · refine lv_iload_n hx hb dX4_goBack_4 rfl (lv_at hl 1 rfl) ?_
    refine lv_aload_n hx hb dX4_goBack_5 rfl (lv_at hl 0 rfl) ?_
    refine va_get (D := (dC, dI)) (ci := 4) (v := .int 0) (C := RX4) (T := TX4) (N := 7) hx hb hts iw_X4_goBack_X4_c_goBack_0 hown hK hP 0 rfl rfl 2 (by decide) (hts (.fieldLink RX4 35 "NotAtOnce$History" "marks" "I") (by decide +kernel)) (fun _ h9 => h9) rfl dX4_goBack_6 ?_
    refine lv_icmp_lt (tgt := 14) hx hb dX4_goBack_9 (by decide) (fun c_2 => absurd c_2 c_1) (fun c_2 => ?_)
    refine lv_iconst (v := 0) hx hb dX4_goBack_12 (by decide) ?_
    have hP9 := hP.sub (ws' := [(hi, .inr (4, [.int hi_made, .int hi_known, .int 0, .ref hi_acts, .ref hi_rows, .ref hi_marked, .ref hi_table]))]) [0] rfl
    have hD9 := hD.sub (ws' := [(hi, .inr (4, [.int hi_made, .int hi_known, .int 0, .ref hi_acts, .ref hi_rows, .ref hi_marked, .ref hi_table]))]) [0] (by decide) rfl
    have hK9 := hK.sub (tys' := []) [] rfl
    refine W.widen (k := 0) (n := 0) (Nat.le_of_ble_eq_true rfl) (Nat.le_of_ble_eq_true rfl) ?_
    exact W.zret (v := 0) (ty := .boolean) hx hb hr rfl (fun t ht hW => ⟨⟨0, (), rfl, rfl, by rw [ht]; exact hP9, va_K.moved hW.alike hK9, hD9⟩, hS.F ht⟩) hS.2.2 dX4_goBack_13

set_option maxRecDepth 20000 in
theorem iw_X10_undo_X10_c_undo_0 : ∀ w ∈ wsX100, w ∈ wsX10_undo := by decide +kernel
set_option maxHeartbeats 4000000 in
set_option maxRecDepth 100000 in
/-- undo where there is none such -/
theorem c_undo_0 (l : Launch) (dC : Nat → ClassId) (dI : Nat → Nat → Nat) (sz : Nat) (h0 : Nat) (tp : Nat) (rd : Nat) (tb : Nat) (rg : Nat) (bl : Nat) (pa : Nat) (fm : Nat) (te : Nat) (hi : Nat) (fr : Nat) (fd : Int32) (rf : Int32) (lf : Int32) (fp : Int32) (hi_known : Int32) (hi_marks : Int32) (hi_acts : Nat) (hi_rows : Nat) (hi_marked : Nat) (hi_table : Nat)  : Met l yX10_undo wsX10_undo ({ frames := 1, cells := 0, slots := 0, locals := 21 }) (va_Pc [.ref h0] (fun U => U.heap.size = sz ∧ va_P (dC, dI) vwCl [(h0, .inr (10, [.ref tp, .ref rd, .ref tb, .ref rg, .ref bl, .ref pa, .ref fm, .ref te, .ref hi, .ref fr, .int fd, .int rf, .int lf, .int fp])), (hi, .inr (4, [.int 0, .int hi_known, .int hi_marks, .ref hi_acts, .ref hi_rows, .ref hi_marked, .ref hi_table]))] U.heap ∧ va_K (dC, dI) vwCl [] U ∧ va_D (fun _ => True) [(h0, .inr (10, [.ref tp, .ref rd, .ref tb, .ref rg, .ref bl, .ref pa, .ref fm, .ref te, .ref hi, .ref fr, .int fd, .int rf, .int lf, .int fp])), (hi, .inr (4, [.int 0, .int hi_known, .int hi_marks, .ref hi_acts, .ref hi_rows, .ref hi_marked, .ref hi_table]))])) (va_Qi (fun (r : Int32) (_ : Unit) => r = 0) (fun _ t => va_P (dC, dI) vwCl [(h0, .inr (10, [.ref tp, .ref rd, .ref tb, .ref rg, .ref bl, .ref pa, .ref fm, .ref te, .ref hi, .ref fr, .int fd, .int 6, .int lf, .int fp])), (hi, .inr (4, [.int 0, .int hi_known, .int hi_marks, .ref hi_acts, .ref hi_rows, .ref hi_marked, .ref hi_table]))] t.heap ∧ va_K (dC, dI) vwCl [] t ∧ va_D (va_A [(h0, .inr (10, [.ref tp, .ref rd, .ref tb, .ref rg, .ref bl, .ref pa, .ref fm, .ref te, .ref hi, .ref fr, .int fd, .int rf, .int lf, .int fp])), (hi, .inr (4, [.int 0, .int hi_known, .int hi_marks, .ref hi_acts, .ref hi_rows, .ref hi_marked, .ref hi_table]))] sz) [(h0, .inr (10, [.ref tp, .ref rd, .ref tb, .ref rg, .ref bl, .ref pa, .ref fm, .ref te, .ref hi, .ref fr, .int fd, .int 6, .int lf, .int fp])), (hi, .inr (4, [.int 0, .int hi_known, .int hi_marks, .ref hi_acts, .ref hi_rows, .ref hi_marked, .ref hi_table]))]) (va_A [(h0, .inr (10, [.ref tp, .ref rd, .ref tb, .ref rg, .ref bl, .ref pa, .ref fm, .ref te, .ref hi, .ref fr, .int fd, .int rf, .int lf, .int fp])), (hi, .inr (4, [.int 0, .int hi_known, .int hi_marks, .ref hi_acts, .ref hi_rows, .ref hi_marked, .ref hi_table]))] sz)) 0 0 (va_A [(h0, .inr (10, [.ref tp, .ref rd, .ref tb, .ref rg, .ref bl, .ref pa, .ref fm, .ref te, .ref hi, .ref fr, .int fd, .int rf, .int lf, .int fp])), (hi, .inr (4, [.int 0, .int hi_known, .int hi_marks, .ref hi_acts, .ref hi_rows, .ref hi_marked, .ref hi_table]))] sz) := by
  refine Met.ofW (cc := cX10_undo) (maxL := 1) (ret := (some .boolean)) (by decide) rfl ?_
  intro p e s m args below meth c s₁ B hml hv
  obtain ⟨rfl, hsz, hP, hK, hD0⟩ := hv
  have hx := B.exec
  have hb := B.bytes
  have hr := B.returns
  have hts := atoms_spec (ws := wsX10_undo) B.pre
  have hown : s.vm.findClass RX10 = some m.cls := findClass_of_methodNamed B.named
  have hlocks := B.notSynchronized
  subst hsz
  have hD := hD0.self (sz := s.heap.size)
  generalize hAe : va_A [(h0, .inr (10, [.ref tp, .ref rd, .ref tb, .ref rg, .ref bl, .ref pa, .ref fm, .ref te, .ref hi, .ref fr, .int fd, .int rf, .int lf, .int fp])), (hi, .inr (4, [.int 0, .int hi_known, .int hi_marks, .ref hi_acts, .ref hi_rows, .ref hi_marked, .ref hi_table]))] s.heap.size = A at hD ⊢
  have hA : ∀ q : Nat, s.heap.size ≤ q → A q := fun q h => by rw [← hAe]; exact Or.inr h
  have hS : va_S A s.heap s.heap [] := va_S.rf
  have hP : va_P (dC, dI) vwCl [(h0, .inr (10, [.ref tp, .ref rd, .ref tb, .ref rg, .ref bl, .ref pa, .ref fm, .ref te, .ref hi, .ref fr, .int fd, .int rf, .int lf, .int fp])), (hi, .inr (4, [.int 0, .int hi_known, .int hi_marks, .ref hi_acts, .ref hi_rows, .ref hi_marked, .ref hi_table]))] s.heap := hP
  have hl := lv_entry ([.ref h0]) (n := 1) (Nat.le_of_ble_eq_true rfl)
  rw [lg_entry_eq]
  generalize (lg_sl ([.ref h0]) ++ List.replicate (1 - (lg_sl ([.ref h0])).length) Slot.unset).toArray = ls at hl ⊢
  have hl : lv_has ls 1 [(0, .ref h0)] := hl
  refine lv_aload_n hx hb dX10_undo_0 rfl (lv_at hl 0 rfl) ?_
  refine va_get (D := (dC, dI)) (ci := 10) (v := .ref hi) (C := RX10) (T := TX10) (N := 14) hx hb hts iw_X10_undo_X10_c_undo_0 hown hK hP 0 rfl rfl 8 (by decide) (hts (.fieldLink RX10 78 "NotAtOnce" "history" "LNotAtOnce$History;") (by decide +kernel)) (fun _ h9 => h9) rfl dX10_undo_1 ?_
  have hPc := hP.sub (ws' := [(hi, .inr (4, [.int 0, .int hi_known, .int hi_marks, .ref hi_acts, .ref hi_rows, .ref hi_marked, .ref hi_table]))]) [1] rfl
  have hDc := hD.sub (ws' := [(hi, .inr (4, [.int 0, .int hi_known, .int hi_marks, .ref hi_acts, .ref hi_rows, .ref hi_marked, .ref hi_table]))]) [1] (by decide) rfl
  have hKc := hK.sub (tys' := []) [] rfl
  have hFc := va_free (wc := [(hi, .inr (4, [.int 0, .int hi_known, .int hi_marks, .ref hi_acts, .ref hi_rows, .ref hi_marked, .ref hi_table]))]) hD hS hA [1] rfl
  refine va_calli (va_runV (As := []) (rest := []) ⟨hx, hb, hml, hown, hts⟩ (c_takeBack_0 l dC dI s.heap.size hi hi_known hi_marks hi_acts hi_rows hi_marked hi_table) (cwV 0 hts gX10_undo_X4_takeBack rfl rfl rfl (by decide +kernel) ⟨Nat.le_of_ble_eq_true rfl, Nat.le_of_ble_eq_true rfl⟩) ⟨fun a U g mk q => by obtain ⟨q0, q1, qP, qK, qD⟩ := q; exact ⟨q0, q1, qP, va_K.moved (u := U) (U := U.calling g mk a) (Vm.Alike.refl U.vm) qK, qD⟩, va_recv hKc hPc (ci := 4) (q0 := 0) rfl rfl, fun U hU hW => ⟨rfl, by rw [hU], by rw [hU]; exact hPc, va_K.moved hW.alike hKc, hDc.weaken (fun _ _ _ _ => trivial)⟩⟩ rfl rfl hl.1 rfl (lv_room (Nat.le_of_ble_eq_true rfl)) dX10_undo_4 ⟨Nat.le_of_ble_eq_true rfl, Nat.le_of_ble_eq_true rfl⟩) hS (fun q _ h => hFc q h) hFc (fun r_1 u t H1 locs ht hvm hw hB hz1 hk1 hS => ?_)
  obtain ⟨hP1, hK1, hD1⟩ := hB
  rw [ht] at hP1
  have hK1 := va_K.moved hvm.symm hK1
  try dsimp only at hw
  obtain ⟨hP, hD⟩ := va_join (wr := [(h0, .inr (10, [.ref tp, .ref rd, .ref tb, .ref rg, .ref bl, .ref pa, .ref fm, .ref te, .ref hi, .ref fr, .int fd, .int rf, .int lf, .int fp]))]) (w1 := [(hi, .inr (4, [.int 0, .int hi_known, .int hi_marks, .ref hi_acts, .ref hi_rows, .ref hi_marked, .ref hi_table]))]) hP hD [1] [0] rfl rfl (by decide) (by decide) hk1 hFc hP1 hD1
  have hK := (hK.sub (tys' := []) [] rfl).app hK1
  generalize H1 = H at hP hS ⊢
  have hP : va_P (dC, dI) vwCl [(h0, .inr (10, [.ref tp, .ref rd, .ref tb, .ref rg, .ref bl, .ref pa, .ref fm, .ref te, .ref hi, .ref fr, .int fd, .int rf, .int lf, .int fp])), (hi, .inr (4, [.int 0, .int hi_known, .int hi_marks, .ref hi_acts, .ref hi_rows, .ref hi_marked, .ref hi_table]))] H := hP
  have hD : va_D A [(h0, .inr (10, [.ref tp, .ref rd, .ref tb, .ref rg, .ref bl, .ref pa, .ref fm, .ref te, .ref hi, .ref fr, .int fd, .int rf, .int lf, .int fp])), (hi, .inr (4, [.int 0, .int hi_known, .int hi_marks, .ref hi_acts, .ref hi_rows, .ref hi_marked, .ref hi_table]))] := hD
  have hK : va_K (dC, dI) vwCl [] s := hK
  refine W.widen (k := 0) (n := 0) (by omega) (by omega) ?_
  have er_1 : r_1 = 0 := hw
  subst er_1
  refine lv_if_eq (tgt := 17) hx hb dX10_undo_7 (by decide) (fun c_2 => ?_) (fun c_2 => absurd c_2 (by decide))
  refine lv_aload_n hx hb dX10_undo_17 rfl (lv_at hl 0 rfl) ?_
  refine lv_bipush (v := 6) hx hb dX10_undo_18 (by decide) ?_
  have hPc := hP.sub (ws' := [(h0, .inr (10, [.ref tp, .ref rd, .ref tb, .ref rg, .ref bl, .ref pa, .ref fm, .ref te, .ref hi, .ref fr, .int fd, .int rf, .int lf, .int fp]))]) [0] rfl
  have hDc := hD.sub (ws' := [(h0, .inr (10, [.ref tp, .ref rd, .ref tb, .ref rg, .ref bl, .ref pa, .ref fm, .ref te, .ref hi, .ref fr, .int fd, .int rf, .int lf, .int fp]))]) [0] (by decide) rfl
  have hKc := hK.sub (tys' := []) [] rfl
  have hFc := va_free (wc := [(h0, .inr (10, [.ref tp, .ref rd, .ref tb, .ref rg, .ref bl, .ref pa, .ref fm, .ref te, .ref hi, .ref fr, .int fd, .int rf, .int lf, .int fp]))]) hD hS hA [0] rfl
  refine va_calli (va_runV (As := [.int 6]) (rest := []) ⟨hx, hb, hml, hown, hts⟩ (c_denied l dC dI H.size h0 tp rd tb rg bl pa fm te hi fr fd rf lf fp 6) (cwV 1 hts gX10_undo_X10_denied rfl rfl rfl (by decide +kernel) ⟨Nat.le_of_ble_eq_true rfl, Nat.le_of_ble_eq_true rfl⟩) ⟨fun a U g mk q => by obtain ⟨q0, q1, qP, qK, qD⟩ := q; exact ⟨q0, q1, qP, va_K.moved (u := U) (U := U.calling g mk a) (Vm.Alike.refl U.vm) qK, qD⟩, va_recv hKc hPc (ci := 10) (q0 := 0) rfl rfl, fun U hU hW => ⟨rfl, by rw [hU], by rw [hU]; exact hPc, va_K.moved hW.alike hKc, hDc.weaken (fun _ _ _ _ => trivial)⟩⟩ rfl rfl hl.1 rfl (lv_room (Nat.le_of_ble_eq_true rfl)) dX10_undo_20 ⟨Nat.le_of_ble_eq_true rfl, Nat.le_of_ble_eq_true rfl⟩) hS (fun q _ h => hFc q h) hFc (fun r_3 u t H1 locs ht hvm hw hB hz1 hk1 hS => ?_)
  obtain ⟨hP1, hK1, hD1⟩ := hB
  rw [ht] at hP1
  have hK1 := va_K.moved hvm.symm hK1
  try dsimp only at hw
  obtain ⟨hP, hD⟩ := va_join (wr := [(hi, .inr (4, [.int 0, .int hi_known, .int hi_marks, .ref hi_acts, .ref hi_rows, .ref hi_marked, .ref hi_table]))]) (w1 := [(h0, .inr (10, [.ref tp, .ref rd, .ref tb, .ref rg, .ref bl, .ref pa, .ref fm, .ref te, .ref hi, .ref fr, .int fd, .int 6, .int lf, .int fp]))]) hP hD [0] [1] rfl rfl (by decide) (by decide) hk1 hFc hP1 hD1
  have hK := (hK.sub (tys' := []) [] rfl).app hK1
  generalize H1 = H at hP hS ⊢
  have hP : va_P (dC, dI) vwCl [(hi, .inr (4, [.int 0, .int hi_known, .int hi_marks, .ref hi_acts, .ref hi_rows, .ref hi_marked, .ref hi_table])), (h0, .inr (10, [.ref tp, .ref rd, .ref tb, .ref rg, .ref bl, .ref pa, .ref fm, .ref te, .ref hi, .ref fr, .int fd, .int 6, .int lf, .int fp]))] H := hP
  have hD : va_D A [(hi, .inr (4, [.int 0, .int hi_known, .int hi_marks, .ref hi_acts, .ref hi_rows, .ref hi_marked, .ref hi_table])), (h0, .inr (10, [.ref tp, .ref rd, .ref tb, .ref rg, .ref bl, .ref pa, .ref fm, .ref te, .ref hi, .ref fr, .int fd, .int 6, .int lf, .int fp]))] := hD
  have hK : va_K (dC, dI) vwCl [] s := hK
  refine W.widen (k := 0) (n := 0) (by omega) (by omega) ?_
  have er_3 : r_3 = 0 := hw
  subst er_3
  have hP9 := hP.sub (ws' := [(h0, .inr (10, [.ref tp, .ref rd, .ref tb, .ref rg, .ref bl, .ref pa, .ref fm, .ref te, .ref hi, .ref fr, .int fd, .int 6, .int lf, .int fp])), (hi, .inr (4, [.int 0, .int hi_known, .int hi_marks, .ref hi_acts, .ref hi_rows, .ref hi_marked, .ref hi_table]))]) [1, 0] rfl
  have hD9 := hD.sub (ws' := [(h0, .inr (10, [.ref tp, .ref rd, .ref tb, .ref rg, .ref bl, .ref pa, .ref fm, .ref te, .ref hi, .ref fr, .int fd, .int 6, .int lf, .int fp])), (hi, .inr (4, [.int 0, .int hi_known, .int hi_marks, .ref hi_acts, .ref hi_rows, .ref hi_marked, .ref hi_table]))]) [1, 0] (by decide) rfl
  have hK9 := hK.sub (tys' := []) [] rfl
  refine W.widen (k := 0) (n := 0) (Nat.le_of_ble_eq_true rfl) (Nat.le_of_ble_eq_true rfl) ?_
  exact W.zret (v := 0) (ty := .boolean) hx hb hr rfl (fun t ht hW => ⟨⟨0, (), rfl, rfl, by rw [ht]; exact hP9, va_K.moved hW.alike hK9, hD9⟩, hS.F ht⟩) hS.2.2 dX10_undo_23

set_option maxRecDepth 20000 in
theorem iw_X10_redo_X10_c_redo_0 : ∀ w ∈ wsX100, w ∈ wsX10_redo := by decide +kernel
set_option maxHeartbeats 4000000 in
set_option maxRecDepth 100000 in
/-- redo where there is none such -/
theorem c_redo_0 (l : Launch) (dC : Nat → ClassId) (dI : Nat → Nat → Nat) (sz : Nat) (h0 : Nat) (tp : Nat) (rd : Nat) (tb : Nat) (rg : Nat) (bl : Nat) (pa : Nat) (fm : Nat) (te : Nat) (hi : Nat) (fr : Nat) (fd : Int32) (rf : Int32) (lf : Int32) (fp : Int32) (hi_marks : Int32) (hi_acts : Nat) (hi_rows : Nat) (hi_marked : Nat) (hi_table : Nat)  : Met l yX10_redo wsX10_redo ({ frames := 1, cells := 0, slots := 0, locals := 21 }) (va_Pc [.ref h0] (fun U => U.heap.size = sz ∧ va_P (dC, dI) vwCl [(h0, .inr (10, [.ref tp, .ref rd, .ref tb, .ref rg, .ref bl, .ref pa, .ref fm, .ref te, .ref hi, .ref fr, .int fd, .int rf, .int lf, .int fp])), (hi, .inr (4, [.int 0, .int 0, .int hi_marks, .ref hi_acts, .ref hi_rows, .ref hi_marked, .ref hi_table]))] U.heap ∧ va_K (dC, dI) vwCl [] U ∧ va_D (fun _ => True) [(h0, .inr (10, [.ref tp, .ref rd, .ref tb, .ref rg, .ref bl, .ref pa, .ref fm, .ref te, .ref hi, .ref fr, .int fd, .int rf, .int lf, .int fp])), (hi, .inr (4, [.int 0, .int 0, .int hi_marks, .ref hi_acts, .ref hi_rows, .ref hi_marked, .ref hi_table]))])) (va_Qi (fun (r : Int32) (_ : Unit) => r = 0) (fun _ t => va_P (dC, dI) vwCl [(h0, .inr (10, [.ref tp, .ref rd, .ref tb, .ref rg, .ref bl, .ref pa, .ref fm, .ref te, .ref hi, .ref fr, .int fd, .int 6, .int lf, .int fp])), (hi, .inr (4, [.int 0, .int 0, .int hi_marks, .ref hi_acts, .ref hi_rows, .ref hi_marked, .ref hi_table]))] t.heap ∧ va_K (dC, dI) vwCl [] t ∧ va_D (va_A [(h0, .inr (10, [.ref tp, .ref rd, .ref tb, .ref rg, .ref bl, .ref pa, .ref fm, .ref te, .ref hi, .ref fr, .int fd, .int rf, .int lf, .int fp])), (hi, .inr (4, [.int 0, .int 0, .int hi_marks, .ref hi_acts, .ref hi_rows, .ref hi_marked, .ref hi_table]))] sz) [(h0, .inr (10, [.ref tp, .ref rd, .ref tb, .ref rg, .ref bl, .ref pa, .ref fm, .ref te, .ref hi, .ref fr, .int fd, .int 6, .int lf, .int fp])), (hi, .inr (4, [.int 0, .int 0, .int hi_marks, .ref hi_acts, .ref hi_rows, .ref hi_marked, .ref hi_table]))]) (va_A [(h0, .inr (10, [.ref tp, .ref rd, .ref tb, .ref rg, .ref bl, .ref pa, .ref fm, .ref te, .ref hi, .ref fr, .int fd, .int rf, .int lf, .int fp])), (hi, .inr (4, [.int 0, .int 0, .int hi_marks, .ref hi_acts, .ref hi_rows, .ref hi_marked, .ref hi_table]))] sz)) 0 0 (va_A [(h0, .inr (10, [.ref tp, .ref rd, .ref tb, .ref rg, .ref bl, .ref pa, .ref fm, .ref te, .ref hi, .ref fr, .int fd, .int rf, .int lf, .int fp])), (hi, .inr (4, [.int 0, .int 0, .int hi_marks, .ref hi_acts, .ref hi_rows, .ref hi_marked, .ref hi_table]))] sz) := by
  refine Met.ofW (cc := cX10_redo) (maxL := 1) (ret := (some .boolean)) (by decide) rfl ?_
  intro p e s m args below meth c s₁ B hml hv
  obtain ⟨rfl, hsz, hP, hK, hD0⟩ := hv
  have hx := B.exec
  have hb := B.bytes
  have hr := B.returns
  have hts := atoms_spec (ws := wsX10_redo) B.pre
  have hown : s.vm.findClass RX10 = some m.cls := findClass_of_methodNamed B.named
  have hlocks := B.notSynchronized
  subst hsz
  have hD := hD0.self (sz := s.heap.size)
  generalize hAe : va_A [(h0, .inr (10, [.ref tp, .ref rd, .ref tb, .ref rg, .ref bl, .ref pa, .ref fm, .ref te, .ref hi, .ref fr, .int fd, .int rf, .int lf, .int fp])), (hi, .inr (4, [.int 0, .int 0, .int hi_marks, .ref hi_acts, .ref hi_rows, .ref hi_marked, .ref hi_table]))] s.heap.size = A at hD ⊢
  have hA : ∀ q : Nat, s.heap.size ≤ q → A q := fun q h => by rw [← hAe]; exact Or.inr h
  have hS : va_S A s.heap s.heap [] := va_S.rf
  have hP : va_P (dC, dI) vwCl [(h0, .inr (10, [.ref tp, .ref rd, .ref tb, .ref rg, .ref bl, .ref pa, .ref fm, .ref te, .ref hi, .ref fr, .int fd, .int rf, .int lf, .int fp])), (hi, .inr (4, [.int 0, .int 0, .int hi_marks, .ref hi_acts, .ref hi_rows, .ref hi_marked, .ref hi_table]))] s.heap := hP
  have hl := lv_entry ([.ref h0]) (n := 1) (Nat.le_of_ble_eq_true rfl)
  rw [lg_entry_eq]
  generalize (lg_sl ([.ref h0]) ++ List.replicate (1 - (lg_sl ([.ref h0])).length) Slot.unset).toArray = ls at hl ⊢
  have hl : lv_has ls 1 [(0, .ref h0)] := hl
  refine lv_aload_n hx hb dX10_redo_0 rfl (lv_at hl 0 rfl) ?_
  refine va_get (D := (dC, dI)) (ci := 10) (v := .ref hi) (C := RX10) (T := TX10) (N := 14) hx hb hts iw_X10_redo_X10_c_redo_0 hown hK hP 0 rfl rfl 8 (by decide) (hts (.fieldLink RX10 78 "NotAtOnce" "history" "LNotAtOnce$History;") (by decide +kernel)) (fun _ h9 => h9) rfl dX10_redo_1 ?_
  have hPc := hP.sub (ws' := [(hi, .inr (4, [.int 0, .int 0, .int hi_marks, .ref hi_acts, .ref hi_rows, .ref hi_marked, .ref hi_table]))]) [1] rfl
  have hDc := hD.sub (ws' := [(hi, .inr (4, [.int 0, .int 0, .int hi_marks, .ref hi_acts, .ref hi_rows, .ref hi_marked, .ref hi_table]))]) [1] (by decide) rfl
  have hKc := hK.sub (tys' := []) [] rfl
  have hFc := va_free (wc := [(hi, .inr (4, [.int 0, .int 0, .int hi_marks, .ref hi_acts, .ref hi_rows, .ref hi_marked, .ref hi_table]))]) hD hS hA [1] rfl
  refine va_calli (va_runV (As := []) (rest := []) ⟨hx, hb, hml, hown, hts⟩ (c_makeAgain_0 l dC dI s.heap.size hi hi_marks hi_acts hi_rows hi_marked hi_table) (cwV 0 hts gX10_redo_X4_makeAgain rfl rfl rfl (by decide +kernel) ⟨Nat.le_of_ble_eq_true rfl, Nat.le_of_ble_eq_true rfl⟩) ⟨fun a U g mk q => by obtain ⟨q0, q1, qP, qK, qD⟩ := q; exact ⟨q0, q1, qP, va_K.moved (u := U) (U := U.calling g mk a) (Vm.Alike.refl U.vm) qK, qD⟩, va_recv hKc hPc (ci := 4) (q0 := 0) rfl rfl, fun U hU hW => ⟨rfl, by rw [hU], by rw [hU]; exact hPc, va_K.moved hW.alike hKc, hDc.weaken (fun _ _ _ _ => trivial)⟩⟩ rfl rfl hl.1 rfl (lv_room (Nat.le_of_ble_eq_true rfl)) dX10_redo_4 ⟨Nat.le_of_ble_eq_true rfl, Nat.le_of_ble_eq_true rfl⟩) hS (fun q _ h => hFc q h) hFc (fun r_1 u t H1 locs ht hvm hw hB hz1 hk1 hS => ?_)
  obtain ⟨hP1, hK1, hD1⟩ := hB
  rw [ht] at hP1
  have hK1 := va_K.moved hvm.symm hK1
  try dsimp only at hw
  obtain ⟨hP, hD⟩ := va_join (wr := [(h0, .inr (10, [.ref tp, .ref rd, .ref tb, .ref rg, .ref bl, .ref pa, .ref fm, .ref te, .ref hi, .ref fr, .int fd, .int rf, .int lf, .int fp]))]) (w1 := [(hi, .inr (4, [.int 0, .int 0, .int hi_marks, .ref hi_acts, .ref hi_rows, .ref hi_marked, .ref hi_table]))]) hP hD [1] [0] rfl rfl (by decide) (by decide) hk1 hFc hP1 hD1
  have hK := (hK.sub (tys' := []) [] rfl).app hK1
  generalize H1 = H at hP hS ⊢
  have hP : va_P (dC, dI) vwCl [(h0, .inr (10, [.ref tp, .ref rd, .ref tb, .ref rg, .ref bl, .ref pa, .ref fm, .ref te, .ref hi, .ref fr, .int fd, .int rf, .int lf, .int fp])), (hi, .inr (4, [.int 0, .int 0, .int hi_marks, .ref hi_acts, .ref hi_rows, .ref hi_marked, .ref hi_table]))] H := hP
  have hD : va_D A [(h0, .inr (10, [.ref tp, .ref rd, .ref tb, .ref rg, .ref bl, .ref pa, .ref fm, .ref te, .ref hi, .ref fr, .int fd, .int rf, .int lf, .int fp])), (hi, .inr (4, [.int 0, .int 0, .int hi_marks, .ref hi_acts, .ref hi_rows, .ref hi_marked, .ref hi_table]))] := hD
  have hK : va_K (dC, dI) vwCl [] s := hK
  refine W.widen (k := 0) (n := 0) (by omega) (by omega) ?_
  have er_1 : r_1 = 0 := hw
  subst er_1
  refine lv_if_eq (tgt := 17) hx hb dX10_redo_7 (by decide) (fun c_2 => ?_) (fun c_2 => absurd c_2 (by decide))
  refine lv_aload_n hx hb dX10_redo_17 rfl (lv_at hl 0 rfl) ?_
  refine lv_bipush (v := 6) hx hb dX10_redo_18 (by decide) ?_
  have hPc := hP.sub (ws' := [(h0, .inr (10, [.ref tp, .ref rd, .ref tb, .ref rg, .ref bl, .ref pa, .ref fm, .ref te, .ref hi, .ref fr, .int fd, .int rf, .int lf, .int fp]))]) [0] rfl
  have hDc := hD.sub (ws' := [(h0, .inr (10, [.ref tp, .ref rd, .ref tb, .ref rg, .ref bl, .ref pa, .ref fm, .ref te, .ref hi, .ref fr, .int fd, .int rf, .int lf, .int fp]))]) [0] (by decide) rfl
  have hKc := hK.sub (tys' := []) [] rfl
  have hFc := va_free (wc := [(h0, .inr (10, [.ref tp, .ref rd, .ref tb, .ref rg, .ref bl, .ref pa, .ref fm, .ref te, .ref hi, .ref fr, .int fd, .int rf, .int lf, .int fp]))]) hD hS hA [0] rfl
  refine va_calli (va_runV (As := [.int 6]) (rest := []) ⟨hx, hb, hml, hown, hts⟩ (c_denied l dC dI H.size h0 tp rd tb rg bl pa fm te hi fr fd rf lf fp 6) (cwV 1 hts gX10_redo_X10_denied rfl rfl rfl (by decide +kernel) ⟨Nat.le_of_ble_eq_true rfl, Nat.le_of_ble_eq_true rfl⟩) ⟨fun a U g mk q => by obtain ⟨q0, q1, qP, qK, qD⟩ := q; exact ⟨q0, q1, qP, va_K.moved (u := U) (U := U.calling g mk a) (Vm.Alike.refl U.vm) qK, qD⟩, va_recv hKc hPc (ci := 10) (q0 := 0) rfl rfl, fun U hU hW => ⟨rfl, by rw [hU], by rw [hU]; exact hPc, va_K.moved hW.alike hKc, hDc.weaken (fun _ _ _ _ => trivial)⟩⟩ rfl rfl hl.1 rfl (lv_room (Nat.le_of_ble_eq_true rfl)) dX10_redo_20 ⟨Nat.le_of_ble_eq_true rfl, Nat.le_of_ble_eq_true rfl⟩) hS (fun q _ h => hFc q h) hFc (fun r_3 u t H1 locs ht hvm hw hB hz1 hk1 hS => ?_)
  obtain ⟨hP1, hK1, hD1⟩ := hB
  rw [ht] at hP1
  have hK1 := va_K.moved hvm.symm hK1
  try dsimp only at hw
  obtain ⟨hP, hD⟩ := va_join (wr := [(hi, .inr (4, [.int 0, .int 0, .int hi_marks, .ref hi_acts, .ref hi_rows, .ref hi_marked, .ref hi_table]))]) (w1 := [(h0, .inr (10, [.ref tp, .ref rd, .ref tb, .ref rg, .ref bl, .ref pa, .ref fm, .ref te, .ref hi, .ref fr, .int fd, .int 6, .int lf, .int fp]))]) hP hD [0] [1] rfl rfl (by decide) (by decide) hk1 hFc hP1 hD1
  have hK := (hK.sub (tys' := []) [] rfl).app hK1
  generalize H1 = H at hP hS ⊢
  have hP : va_P (dC, dI) vwCl [(hi, .inr (4, [.int 0, .int 0, .int hi_marks, .ref hi_acts, .ref hi_rows, .ref hi_marked, .ref hi_table])), (h0, .inr (10, [.ref tp, .ref rd, .ref tb, .ref rg, .ref bl, .ref pa, .ref fm, .ref te, .ref hi, .ref fr, .int fd, .int 6, .int lf, .int fp]))] H := hP
  have hD : va_D A [(hi, .inr (4, [.int 0, .int 0, .int hi_marks, .ref hi_acts, .ref hi_rows, .ref hi_marked, .ref hi_table])), (h0, .inr (10, [.ref tp, .ref rd, .ref tb, .ref rg, .ref bl, .ref pa, .ref fm, .ref te, .ref hi, .ref fr, .int fd, .int 6, .int lf, .int fp]))] := hD
  have hK : va_K (dC, dI) vwCl [] s := hK
  refine W.widen (k := 0) (n := 0) (by omega) (by omega) ?_
  have er_3 : r_3 = 0 := hw
  subst er_3
  have hP9 := hP.sub (ws' := [(h0, .inr (10, [.ref tp, .ref rd, .ref tb, .ref rg, .ref bl, .ref pa, .ref fm, .ref te, .ref hi, .ref fr, .int fd, .int 6, .int lf, .int fp])), (hi, .inr (4, [.int 0, .int 0, .int hi_marks, .ref hi_acts, .ref hi_rows, .ref hi_marked, .ref hi_table]))]) [1, 0] rfl
  have hD9 := hD.sub (ws' := [(h0, .inr (10, [.ref tp, .ref rd, .ref tb, .ref rg, .ref bl, .ref pa, .ref fm, .ref te, .ref hi, .ref fr, .int fd, .int 6, .int lf, .int fp])), (hi, .inr (4, [.int 0, .int 0, .int hi_marks, .ref hi_acts, .ref hi_rows, .ref hi_marked, .ref hi_table]))]) [1, 0] (by decide) rfl
  have hK9 := hK.sub (tys' := []) [] rfl
  refine W.widen (k := 0) (n := 0) (Nat.le_of_ble_eq_true rfl) (Nat.le_of_ble_eq_true rfl) ?_
  exact W.zret (v := 0) (ty := .boolean) hx hb hr rfl (fun t ht hW => ⟨⟨0, (), rfl, rfl, by rw [ht]; exact hP9, va_K.moved hW.alike hK9, hD9⟩, hS.F ht⟩) hS.2.2 dX10_redo_23

set_option maxRecDepth 20000 in
theorem iw_X10_back_X10_c_back_0 : ∀ w ∈ wsX100, w ∈ wsX10_back := by decide +kernel
set_option maxHeartbeats 4000000 in
set_option maxRecDepth 100000 in
/-- back where there is none such -/
theorem c_back_0 (l : Launch) (dC : Nat → ClassId) (dI : Nat → Nat → Nat) (sz : Nat) (h0 : Nat) (tp : Nat) (rd : Nat) (tb : Nat) (rg : Nat) (bl : Nat) (pa : Nat) (fm : Nat) (te : Nat) (hi : Nat) (fr : Nat) (fd : Int32) (rf : Int32) (lf : Int32) (fp : Int32) (hi_made : Int32) (hi_known : Int32) (hi_acts : Nat) (hi_rows : Nat) (hi_marked : Nat) (hi_table : Nat) (p0 : Int32)  : Met l yX10_back wsX10_back ({ frames := 1, cells := 0, slots := 0, locals := 21 }) (va_Pc [.ref h0, .int p0] (fun U => U.heap.size = sz ∧ va_P (dC, dI) vwCl [(h0, .inr (10, [.ref tp, .ref rd, .ref tb, .ref rg, .ref bl, .ref pa, .ref fm, .ref te, .ref hi, .ref fr, .int fd, .int rf, .int lf, .int fp])), (hi, .inr (4, [.int hi_made, .int hi_known, .int 0, .ref hi_acts, .ref hi_rows, .ref hi_marked, .ref hi_table]))] U.heap ∧ va_K (dC, dI) vwCl [] U ∧ va_D (fun _ => True) [(h0, .inr (10, [.ref tp, .ref rd, .ref tb, .ref rg, .ref bl, .ref pa, .ref fm, .ref te, .ref hi, .ref fr, .int fd, .int rf, .int lf, .int fp])), (hi, .inr (4, [.int hi_made, .int hi_known, .int 0, .ref hi_acts, .ref hi_rows, .ref hi_marked, .ref hi_table]))])) (va_Qi (fun (r : Int32) (_ : Unit) => r = 0) (fun _ t => va_P (dC, dI) vwCl [(h0, .inr (10, [.ref tp, .ref rd, .ref tb, .ref rg, .ref bl, .ref pa, .ref fm, .ref te, .ref hi, .ref fr, .int fd, .int 1, .int lf, .int fp])), (hi, .inr (4, [.int hi_made, .int hi_known, .int 0, .ref hi_acts, .ref hi_rows, .ref hi_marked, .ref hi_table]))] t.heap ∧ va_K (dC, dI) vwCl [] t ∧ va_D (va_A [(h0, .inr (10, [.ref tp, .ref rd, .ref tb, .ref rg, .ref bl, .ref pa, .ref fm, .ref te, .ref hi, .ref fr, .int fd, .int rf, .int lf, .int fp])), (hi, .inr (4, [.int hi_made, .int hi_known, .int 0, .ref hi_acts, .ref hi_rows, .ref hi_marked, .ref hi_table]))] sz) [(h0, .inr (10, [.ref tp, .ref rd, .ref tb, .ref rg, .ref bl, .ref pa, .ref fm, .ref te, .ref hi, .ref fr, .int fd, .int 1, .int lf, .int fp])), (hi, .inr (4, [.int hi_made, .int hi_known, .int 0, .ref hi_acts, .ref hi_rows, .ref hi_marked, .ref hi_table]))]) (va_A [(h0, .inr (10, [.ref tp, .ref rd, .ref tb, .ref rg, .ref bl, .ref pa, .ref fm, .ref te, .ref hi, .ref fr, .int fd, .int rf, .int lf, .int fp])), (hi, .inr (4, [.int hi_made, .int hi_known, .int 0, .ref hi_acts, .ref hi_rows, .ref hi_marked, .ref hi_table]))] sz)) 0 0 (va_A [(h0, .inr (10, [.ref tp, .ref rd, .ref tb, .ref rg, .ref bl, .ref pa, .ref fm, .ref te, .ref hi, .ref fr, .int fd, .int rf, .int lf, .int fp])), (hi, .inr (4, [.int hi_made, .int hi_known, .int 0, .ref hi_acts, .ref hi_rows, .ref hi_marked, .ref hi_table]))] sz) := by
  refine Met.ofW (cc := cX10_back) (maxL := 2) (ret := (some .boolean)) (by decide) rfl ?_
  intro p e s m args below meth c s₁ B hml hv
  obtain ⟨rfl, hsz, hP, hK, hD0⟩ := hv
  have hx := B.exec
  have hb := B.bytes
  have hr := B.returns
  have hts := atoms_spec (ws := wsX10_back) B.pre
  have hown : s.vm.findClass RX10 = some m.cls := findClass_of_methodNamed B.named
  have hlocks := B.notSynchronized
  subst hsz
  have hD := hD0.self (sz := s.heap.size)
  generalize hAe : va_A [(h0, .inr (10, [.ref tp, .ref rd, .ref tb, .ref rg, .ref bl, .ref pa, .ref fm, .ref te, .ref hi, .ref fr, .int fd, .int rf, .int lf, .int fp])), (hi, .inr (4, [.int hi_made, .int hi_known, .int 0, .ref hi_acts, .ref hi_rows, .ref hi_marked, .ref hi_table]))] s.heap.size = A at hD ⊢
  have hA : ∀ q : Nat, s.heap.size ≤ q → A q := fun q h => by rw [← hAe]; exact Or.inr h
  have hS : va_S A s.heap s.heap [] := va_S.rf
  have hP : va_P (dC, dI) vwCl [(h0, .inr (10, [.ref tp, .ref rd, .ref tb, .ref rg, .ref bl, .ref pa, .ref fm, .ref te, .ref hi, .ref fr, .int fd, .int rf, .int lf, .int fp])), (hi, .inr (4, [.int hi_made, .int hi_known, .int 0, .ref hi_acts, .ref hi_rows, .ref hi_marked, .ref hi_table]))] s.heap := hP
  have hl := lv_entry ([.ref h0, .int p0]) (n := 2) (Nat.le_of_ble_eq_true rfl)
  rw [lg_entry_eq]
  generalize (lg_sl ([.ref h0, .int p0]) ++ List.replicate (2 - (lg_sl ([.ref h0, .int p0])).length) Slot.unset).toArray = ls at hl ⊢
  have hl : lv_has ls 2 [(0, .ref h0), (1, .int p0)] := hl
  refine lv_aload_n hx hb dX10_back_0 rfl (lv_at hl 0 rfl) ?_
  refine va_get (D := (dC, dI)) (ci := 10) (v := .ref hi) (C := RX10) (T := TX10) (N := 14) hx hb hts iw_X10_back_X10_c_back_0 hown hK hP 0 rfl rfl 8 (by decide) (hts (.fieldLink RX10 78 "NotAtOnce" "history" "LNotAtOnce$History;") (by decide +kernel)) (fun _ h9 => h9) rfl dX10_back_1 ?_
  refine lv_iload_n hx hb dX10_back_4 rfl (lv_at hl 1 rfl) ?_
  have hPc := hP.sub (ws' := [(hi, .inr (4, [.int hi_made, .int hi_known, .int 0, .ref hi_acts, .ref hi_rows, .ref hi_marked, .ref hi_table]))]) [1] rfl
  have hDc := hD.sub (ws' := [(hi, .inr (4, [.int hi_made, .int hi_known, .int 0, .ref hi_acts, .ref hi_rows, .ref hi_marked, .ref hi_table]))]) [1] (by decide) rfl
  have hKc := hK.sub (tys' := []) [] rfl
  have hFc := va_free (wc := [(hi, .inr (4, [.int hi_made, .int hi_known, .int 0, .ref hi_acts, .ref hi_rows, .ref hi_marked, .ref hi_table]))]) hD hS hA [1] rfl
  refine va_calli (va_runV (As := [.int p0]) (rest := []) ⟨hx, hb, hml, hown, hts⟩ (c_goBack_0 l dC dI s.heap.size hi hi_made hi_known hi_acts hi_rows hi_marked hi_table p0) (cwV 1 hts gX10_back_X4_goBack rfl rfl rfl (by decide +kernel) ⟨Nat.le_of_ble_eq_true rfl, Nat.le_of_ble_eq_true rfl⟩) ⟨fun a U g mk q => by obtain ⟨q0, q1, qP, qK, qD⟩ := q; exact ⟨q0, q1, qP, va_K.moved (u := U) (U := U.calling g mk a) (Vm.Alike.refl U.vm) qK, qD⟩, va_recv hKc hPc (ci := 4) (q0 := 0) rfl rfl, fun U hU hW => ⟨rfl, by rw [hU], by rw [hU]; exact hPc, va_K.moved hW.alike hKc, hDc.weaken (fun _ _ _ _ => trivial)⟩⟩ rfl rfl hl.1 rfl (lv_room (Nat.le_of_ble_eq_true rfl)) dX10_back_5 ⟨Nat.le_of_ble_eq_true rfl, Nat.le_of_ble_eq_true rfl⟩) hS (fun q _ h => hFc q h) hFc (fun r_1 u t H1 locs ht hvm hw hB hz1 hk1 hS => ?_)
  obtain ⟨hP1, hK1, hD1⟩ := hB
  rw [ht] at hP1
  have hK1 := va_K.moved hvm.symm hK1
  try dsimp only at hw
  obtain ⟨hP, hD⟩ := va_join (wr := [(h0, .inr (10, [.ref tp, .ref rd, .ref tb, .ref rg, .ref bl, .ref pa, .ref fm, .ref te, .ref hi, .ref fr, .int fd, .int rf, .int lf, .int fp]))]) (w1 := [(hi, .inr (4, [.int hi_made, .int hi_known, .int 0, .ref hi_acts, .ref hi_rows, .ref hi_marked, .ref hi_table]))]) hP hD [1] [0] rfl rfl (by decide) (by decide) hk1 hFc hP1 hD1
  have hK := (hK.sub (tys' := []) [] rfl).app hK1
  generalize H1 = H at hP hS ⊢
  have hP : va_P (dC, dI) vwCl [(h0, .inr (10, [.ref tp, .ref rd, .ref tb, .ref rg, .ref bl, .ref pa, .ref fm, .ref te, .ref hi, .ref fr, .int fd, .int rf, .int lf, .int fp])), (hi, .inr (4, [.int hi_made, .int hi_known, .int 0, .ref hi_acts, .ref hi_rows, .ref hi_marked, .ref hi_table]))] H := hP
  have hD : va_D A [(h0, .inr (10, [.ref tp, .ref rd, .ref tb, .ref rg, .ref bl, .ref pa, .ref fm, .ref te, .ref hi, .ref fr, .int fd, .int rf, .int lf, .int fp])), (hi, .inr (4, [.int hi_made, .int hi_known, .int 0, .ref hi_acts, .ref hi_rows, .ref hi_marked, .ref hi_table]))] := hD
  have hK : va_K (dC, dI) vwCl [] s := hK
  refine W.widen (k := 0) (n := 0) (by omega) (by omega) ?_
  have er_1 : r_1 = 0 := hw
  subst er_1
  refine lv_if_eq (tgt := 18) hx hb dX10_back_8 (by decide) (fun c_2 => ?_) (fun c_2 => absurd c_2 (by decide))
  refine lv_aload_n hx hb dX10_back_18 rfl (lv_at hl 0 rfl) ?_
  refine lv_iconst (v := 1) hx hb dX10_back_19 (by decide) ?_
  have hPc := hP.sub (ws' := [(h0, .inr (10, [.ref tp, .ref rd, .ref tb, .ref rg, .ref bl, .ref pa, .ref fm, .ref te, .ref hi, .ref fr, .int fd, .int rf, .int lf, .int fp]))]) [0] rfl
  have hDc := hD.sub (ws' := [(h0, .inr (10, [.ref tp, .ref rd, .ref tb, .ref rg, .ref bl, .ref pa, .ref fm, .ref te, .ref hi, .ref fr, .int fd, .int rf, .int lf, .int fp]))]) [0] (by decide) rfl
  have hKc := hK.sub (tys' := []) [] rfl
  have hFc := va_free (wc := [(h0, .inr (10, [.ref tp, .ref rd, .ref tb, .ref rg, .ref bl, .ref pa, .ref fm, .ref te, .ref hi, .ref fr, .int fd, .int rf, .int lf, .int fp]))]) hD hS hA [0] rfl
  refine va_calli (va_runV (As := [.int 1]) (rest := []) ⟨hx, hb, hml, hown, hts⟩ (c_denied l dC dI H.size h0 tp rd tb rg bl pa fm te hi fr fd rf lf fp 1) (cwV 1 hts gX10_back_X10_denied rfl rfl rfl (by decide +kernel) ⟨Nat.le_of_ble_eq_true rfl, Nat.le_of_ble_eq_true rfl⟩) ⟨fun a U g mk q => by obtain ⟨q0, q1, qP, qK, qD⟩ := q; exact ⟨q0, q1, qP, va_K.moved (u := U) (U := U.calling g mk a) (Vm.Alike.refl U.vm) qK, qD⟩, va_recv hKc hPc (ci := 10) (q0 := 0) rfl rfl, fun U hU hW => ⟨rfl, by rw [hU], by rw [hU]; exact hPc, va_K.moved hW.alike hKc, hDc.weaken (fun _ _ _ _ => trivial)⟩⟩ rfl rfl hl.1 rfl (lv_room (Nat.le_of_ble_eq_true rfl)) dX10_back_20 ⟨Nat.le_of_ble_eq_true rfl, Nat.le_of_ble_eq_true rfl⟩) hS (fun q _ h => hFc q h) hFc (fun r_3 u t H1 locs ht hvm hw hB hz1 hk1 hS => ?_)
  obtain ⟨hP1, hK1, hD1⟩ := hB
  rw [ht] at hP1
  have hK1 := va_K.moved hvm.symm hK1
  try dsimp only at hw
  obtain ⟨hP, hD⟩ := va_join (wr := [(hi, .inr (4, [.int hi_made, .int hi_known, .int 0, .ref hi_acts, .ref hi_rows, .ref hi_marked, .ref hi_table]))]) (w1 := [(h0, .inr (10, [.ref tp, .ref rd, .ref tb, .ref rg, .ref bl, .ref pa, .ref fm, .ref te, .ref hi, .ref fr, .int fd, .int 1, .int lf, .int fp]))]) hP hD [0] [1] rfl rfl (by decide) (by decide) hk1 hFc hP1 hD1
  have hK := (hK.sub (tys' := []) [] rfl).app hK1
  generalize H1 = H at hP hS ⊢
  have hP : va_P (dC, dI) vwCl [(hi, .inr (4, [.int hi_made, .int hi_known, .int 0, .ref hi_acts, .ref hi_rows, .ref hi_marked, .ref hi_table])), (h0, .inr (10, [.ref tp, .ref rd, .ref tb, .ref rg, .ref bl, .ref pa, .ref fm, .ref te, .ref hi, .ref fr, .int fd, .int 1, .int lf, .int fp]))] H := hP
  have hD : va_D A [(hi, .inr (4, [.int hi_made, .int hi_known, .int 0, .ref hi_acts, .ref hi_rows, .ref hi_marked, .ref hi_table])), (h0, .inr (10, [.ref tp, .ref rd, .ref tb, .ref rg, .ref bl, .ref pa, .ref fm, .ref te, .ref hi, .ref fr, .int fd, .int 1, .int lf, .int fp]))] := hD
  have hK : va_K (dC, dI) vwCl [] s := hK
  refine W.widen (k := 0) (n := 0) (by omega) (by omega) ?_
  have er_3 : r_3 = 0 := hw
  subst er_3
  have hP9 := hP.sub (ws' := [(h0, .inr (10, [.ref tp, .ref rd, .ref tb, .ref rg, .ref bl, .ref pa, .ref fm, .ref te, .ref hi, .ref fr, .int fd, .int 1, .int lf, .int fp])), (hi, .inr (4, [.int hi_made, .int hi_known, .int 0, .ref hi_acts, .ref hi_rows, .ref hi_marked, .ref hi_table]))]) [1, 0] rfl
  have hD9 := hD.sub (ws' := [(h0, .inr (10, [.ref tp, .ref rd, .ref tb, .ref rg, .ref bl, .ref pa, .ref fm, .ref te, .ref hi, .ref fr, .int fd, .int 1, .int lf, .int fp])), (hi, .inr (4, [.int hi_made, .int hi_known, .int 0, .ref hi_acts, .ref hi_rows, .ref hi_marked, .ref hi_table]))]) [1, 0] (by decide) rfl
  have hK9 := hK.sub (tys' := []) [] rfl
  refine W.widen (k := 0) (n := 0) (Nat.le_of_ble_eq_true rfl) (Nat.le_of_ble_eq_true rfl) ?_
  exact W.zret (v := 0) (ty := .boolean) hx hb hr rfl (fun t ht hW => ⟨⟨0, (), rfl, rfl, by rw [ht]; exact hP9, va_K.moved hW.alike hK9, hD9⟩, hS.F ht⟩) hS.2.2 dX10_back_23

set_option maxRecDepth 20000 in
theorem iw_X10_act_X10_c_act_0 : ∀ w ∈ wsX100, w ∈ wsX10_act := by decide +kernel
set_option maxRecDepth 20000 in
theorem iw_X10_act_X4_c_act_0 : ∀ w ∈ wsX40, w ∈ wsX10_act := by decide +kernel
set_option maxHeartbeats 4000000 in
set_option maxRecDepth 100000 in
/-- act where there is none such -/
theorem c_act_0 (l : Launch) (dC : Nat → ClassId) (dI : Nat → Nat → Nat) (sz : Nat) (h0 : Nat) (tp : Nat) (rd : Nat) (tb : Nat) (rg : Nat) (bl : Nat) (pa : Nat) (fm : Nat) (te : Nat) (hi : Nat) (fr : Nat) (fd : Int32) (rf : Int32) (lf : Int32) (fp : Int32) (hi_known : Int32) (hi_marks : Int32) (hi_acts : Nat) (hi_rows : Nat) (hi_marked : Nat) (hi_table : Nat) (p0 : Int32) (p1 : Int32)  : Met l yX10_act wsX10_act ({ frames := 1, cells := 0, slots := 0, locals := 21 }) (va_Pc [.ref h0, .int p0, .int p1] (fun U => U.heap.size = sz ∧ va_P (dC, dI) vwCl [(h0, .inr (10, [.ref tp, .ref rd, .ref tb, .ref rg, .ref bl, .ref pa, .ref fm, .ref te, .ref hi, .ref fr, .int fd, .int rf, .int lf, .int fp])), (hi, .inr (4, [.int 0, .int hi_known, .int hi_marks, .ref hi_acts, .ref hi_rows, .ref hi_marked, .ref hi_table]))] U.heap ∧ va_K (dC, dI) vwCl [] U ∧ va_D (fun _ => True) [(h0, .inr (10, [.ref tp, .ref rd, .ref tb, .ref rg, .ref bl, .ref pa, .ref fm, .ref te, .ref hi, .ref fr, .int fd, .int rf, .int lf, .int fp])), (hi, .inr (4, [.int 0, .int hi_known, .int hi_marks, .ref hi_acts, .ref hi_rows, .ref hi_marked, .ref hi_table]))])) (va_Qi (fun (r : Int32) (_ : Unit) => r = (-1)) (fun _ t => va_P (dC, dI) vwCl [(h0, .inr (10, [.ref tp, .ref rd, .ref tb, .ref rg, .ref bl, .ref pa, .ref fm, .ref te, .ref hi, .ref fr, .int fd, .int 1, .int lf, .int fp])), (hi, .inr (4, [.int 0, .int hi_known, .int hi_marks, .ref hi_acts, .ref hi_rows, .ref hi_marked, .ref hi_table]))] t.heap ∧ va_K (dC, dI) vwCl [] t ∧ va_D (va_A [(h0, .inr (10, [.ref tp, .ref rd, .ref tb, .ref rg, .ref bl, .ref pa, .ref fm, .ref te, .ref hi, .ref fr, .int fd, .int rf, .int lf, .int fp])), (hi, .inr (4, [.int 0, .int hi_known, .int hi_marks, .ref hi_acts, .ref hi_rows, .ref hi_marked, .ref hi_table]))] sz) [(h0, .inr (10, [.ref tp, .ref rd, .ref tb, .ref rg, .ref bl, .ref pa, .ref fm, .ref te, .ref hi, .ref fr, .int fd, .int 1, .int lf, .int fp])), (hi, .inr (4, [.int 0, .int hi_known, .int hi_marks, .ref hi_acts, .ref hi_rows, .ref hi_marked, .ref hi_table]))]) (va_A [(h0, .inr (10, [.ref tp, .ref rd, .ref tb, .ref rg, .ref bl, .ref pa, .ref fm, .ref te, .ref hi, .ref fr, .int fd, .int rf, .int lf, .int fp])), (hi, .inr (4, [.int 0, .int hi_known, .int hi_marks, .ref hi_acts, .ref hi_rows, .ref hi_marked, .ref hi_table]))] sz)) 0 0 (va_A [(h0, .inr (10, [.ref tp, .ref rd, .ref tb, .ref rg, .ref bl, .ref pa, .ref fm, .ref te, .ref hi, .ref fr, .int fd, .int rf, .int lf, .int fp])), (hi, .inr (4, [.int 0, .int hi_known, .int hi_marks, .ref hi_acts, .ref hi_rows, .ref hi_marked, .ref hi_table]))] sz) := by
  refine Met.ofW (cc := cX10_act) (maxL := 3) (ret := (some .int)) (by decide) rfl ?_
  intro p e s m args below meth c s₁ B hml hv
  obtain ⟨rfl, hsz, hP, hK, hD0⟩ := hv
  have hx := B.exec
  have hb := B.bytes
  have hr := B.returns
  have hts := atoms_spec (ws := wsX10_act) B.pre
  have hown : s.vm.findClass RX10 = some m.cls := findClass_of_methodNamed B.named
  have hlocks := B.notSynchronized
  subst hsz
  have hD := hD0.self (sz := s.heap.size)
  generalize hAe : va_A [(h0, .inr (10, [.ref tp, .ref rd, .ref tb, .ref rg, .ref bl, .ref pa, .ref fm, .ref te, .ref hi, .ref fr, .int fd, .int rf, .int lf, .int fp])), (hi, .inr (4, [.int 0, .int hi_known, .int hi_marks, .ref hi_acts, .ref hi_rows, .ref hi_marked, .ref hi_table]))] s.heap.size = A at hD ⊢
  have hA : ∀ q : Nat, s.heap.size ≤ q → A q := fun q h => by rw [← hAe]; exact Or.inr h
  have hS : va_S A s.heap s.heap [] := va_S.rf
  have hP : va_P (dC, dI) vwCl [(h0, .inr (10, [.ref tp, .ref rd, .ref tb, .ref rg, .ref bl, .ref pa, .ref fm, .ref te, .ref hi, .ref fr, .int fd, .int rf, .int lf, .int fp])), (hi, .inr (4, [.int 0, .int hi_known, .int hi_marks, .ref hi_acts, .ref hi_rows, .ref hi_marked, .ref hi_table]))] s.heap := hP
  have hl := lv_entry ([.ref h0, .int p0, .int p1]) (n := 3) (Nat.le_of_ble_eq_true rfl)
  rw [lg_entry_eq]
  generalize (lg_sl ([.ref h0, .int p0, .int p1]) ++ List.replicate (3 - (lg_sl ([.ref h0, .int p0, .int p1])).length) Slot.unset).toArray = ls at hl ⊢
  have hl : lv_has ls 3 [(0, .ref h0), (1, .int p0), (2, .int p1)] := hl
  refine lv_iload_n hx hb dX10_act_0 rfl (lv_at hl 1 rfl) ?_
  refine lv_if_lt (tgt := 24) hx hb dX10_act_1 (by decide) (fun c_1 => ?_) (fun c_1 => ?_)
  · refine lv_aload_n hx hb dX10_act_24 rfl (lv_at hl 0 rfl) ?_
    refine lv_iconst (v := 1) hx hb dX10_act_25 (by decide) ?_
    have hPc := hP.sub (ws' := [(h0, .inr (10, [.ref tp, .ref rd, .ref tb, .ref rg, .ref bl, .ref pa, .ref fm, .ref te, .ref hi, .ref fr, .int fd, .int rf, .int lf, .int fp]))]) [0] rfl
    have hDc := hD.sub (ws' := [(h0, .inr (10, [.ref tp, .ref rd, .ref tb, .ref rg, .ref bl, .ref pa, .ref fm, .ref te, .ref hi, .ref fr, .int fd, .int rf, .int lf, .int fp]))]) [0] (by decide) rfl
    have hKc := hK.sub (tys' := []) [] rfl
    have hFc := va_free (wc := [(h0, .inr (10, [.ref tp, .ref rd, .ref tb, .ref rg, .ref bl, .ref pa, .ref fm, .ref te, .ref hi, .ref fr, .int fd, .int rf, .int lf, .int fp]))]) hD hS hA [0] rfl
    refine va_calli (va_runV (As := [.int 1]) (rest := []) ⟨hx, hb, hml, hown, hts⟩ (c_refused l dC dI s.heap.size h0 tp rd tb rg bl pa fm te hi fr fd rf lf fp 1) (cwV 1 hts gX10_act_X10_refused rfl rfl rfl (by decide +kernel) ⟨Nat.le_of_ble_eq_true rfl, Nat.le_of_ble_eq_true rfl⟩) ⟨fun a U g mk q => by obtain ⟨q0, q1, qP, qK, qD⟩ := q; exact ⟨q0, q1, qP, va_K.moved (u := U) (U := U.calling g mk a) (Vm.Alike.refl U.vm) qK, qD⟩, va_recv hKc hPc (ci := 10) (q0 := 0) rfl rfl, fun U hU hW => ⟨rfl, by rw [hU], by rw [hU]; exact hPc, va_K.moved hW.alike hKc, hDc.weaken (fun _ _ _ _ => trivial)⟩⟩ rfl rfl hl.1 rfl (lv_room (Nat.le_of_ble_eq_true rfl)) dX10_act_26 ⟨Nat.le_of_ble_eq_true rfl, Nat.le_of_ble_eq_true rfl⟩) hS (fun q _ h => hFc q h) hFc (fun r_2 u t H1 locs ht hvm hw hB hz1 hk1 hS => ?_)
    obtain ⟨hP1, hK1, hD1⟩ := hB
    rw [ht] at hP1
    have hK1 := va_K.moved hvm.symm hK1
    try dsimp only at hw
    obtain ⟨hP, hD⟩ := va_join (wr := [(hi, .inr (4, [.int 0, .int hi_known, .int hi_marks, .ref hi_acts, .ref hi_rows, .ref hi_marked, .ref hi_table]))]) (w1 := [(h0, .inr (10, [.ref tp, .ref rd, .ref tb, .ref rg, .ref bl, .ref pa, .ref fm, .ref te, .ref hi, .ref fr, .int fd, .int 1, .int lf, .int fp]))]) hP hD [0] [1] rfl rfl (by decide) (by decide) hk1 hFc hP1 hD1
    have hK := (hK.sub (tys' := []) [] rfl).app hK1
    generalize H1 = H at hP hS ⊢
    have hP : va_P (dC, dI) vwCl [(hi, .inr (4, [.int 0, .int hi_known, .int hi_marks, .ref hi_acts, .ref hi_rows, .ref hi_marked, .ref hi_table])), (h0, .inr (10, [.ref tp, .ref rd, .ref tb, .ref rg, .ref bl, .ref pa, .ref fm, .ref te, .ref hi, .ref fr, .int fd, .int 1, .int lf, .int fp]))] H := hP
    have hD : va_D A [(hi, .inr (4, [.int 0, .int hi_known, .int hi_marks, .ref hi_acts, .ref hi_rows, .ref hi_marked, .ref hi_table])), (h0, .inr (10, [.ref tp, .ref rd, .ref tb, .ref rg, .ref bl, .ref pa, .ref fm, .ref te, .ref hi, .ref fr, .int fd, .int 1, .int lf, .int fp]))] := hD
    have hK : va_K (dC, dI) vwCl [] s := hK
    refine W.widen (k := 0) (n := 0) (by omega) (by omega) ?_
    have er_2 : r_2 = (-1) := hw
    subst er_2
    have hP9 := hP.sub (ws' := [(h0, .inr (10, [.ref tp, .ref rd, .ref tb, .ref rg, .ref bl, .ref pa, .ref fm, .ref te, .ref hi, .ref fr, .int fd, .int 1, .int lf, .int fp])), (hi, .inr (4, [.int 0, .int hi_known, .int hi_marks, .ref hi_acts, .ref hi_rows, .ref hi_marked, .ref hi_table]))]) [1, 0] rfl
    have hD9 := hD.sub (ws' := [(h0, .inr (10, [.ref tp, .ref rd, .ref tb, .ref rg, .ref bl, .ref pa, .ref fm, .ref te, .ref hi, .ref fr, .int fd, .int 1, .int lf, .int fp])), (hi, .inr (4, [.int 0, .int hi_known, .int hi_marks, .ref hi_acts, .ref hi_rows, .ref hi_marked, .ref hi_table]))]) [1, 0] (by decide) rfl
    have hK9 := hK.sub (tys' := []) [] rfl
    refine W.widen (k := 0) (n := 0) (Nat.le_of_ble_eq_true rfl) (Nat.le_of_ble_eq_true rfl) ?_
    exact W.iret (v := (-1)) hx hb hr (fun t ht hW => ⟨⟨(-1), (), rfl, rfl, by rw [ht]; exact hP9, va_K.moved hW.alike hK9, hD9⟩, hS.F ht⟩) hS.2.2 dX10_act_29
  · refine lv_iload_n hx hb dX10_act_4 rfl (lv_at hl 1 rfl) ?_
    refine lv_aload_n hx hb dX10_act_5 rfl (lv_at hl 0 rfl) ?_
    refine va_get (D := (dC, dI)) (ci := 10) (v := .ref hi) (C := RX10) (T := TX10) (N := 14) hx hb hts iw_X10_act_X10_c_act_0 hown hK hP 0 rfl rfl 8 (by decide) (hts (.fieldLink RX10 78 "NotAtOnce" "history" "LNotAtOnce$History;") (by decide +kernel)) (fun _ h9 => h9) rfl dX10_act_6 ?_
    refine va_get (D := (dC, dI)) (ci := 4) (v := .int 0) (C := RX4) (T := TX4) (N := 7) hx hb hts iw_X10_act_X4_c_act_0 hown hK hP 1 rfl rfl 0 (by decide) (hts (.fieldLink RX10 319 "NotAtOnce$History" "made" "I") (by decide +kernel)) (fun _ h9 => h9) rfl dX10_act_9 ?_
    refine lv_icmp_ge (tgt := 24) hx hb dX10_act_12 (by decide) (fun c_3 => ?_) (fun c_3 => absurd (Int32.not_lt.mp c_1) c_3)
    refine lv_aload_n hx hb dX10_act_24 rfl (lv_at hl 0 rfl) ?_
    refine lv_iconst (v := 1) hx hb dX10_act_25 (by decide) ?_
    have hPc := hP.sub (ws' := [(h0, .inr (10, [.ref tp, .ref rd, .ref tb, .ref rg, .ref bl, .ref pa, .ref fm, .ref te, .ref hi, .ref fr, .int fd, .int rf, .int lf, .int fp]))]) [0] rfl
    have hDc := hD.sub (ws' := [(h0, .inr (10, [.ref tp, .ref rd, .ref tb, .ref rg, .ref bl, .ref pa, .ref fm, .ref te, .ref hi, .ref fr, .int fd, .int rf, .int lf, .int fp]))]) [0] (by decide) rfl
    have hKc := hK.sub (tys' := []) [] rfl
    have hFc := va_free (wc := [(h0, .inr (10, [.ref tp, .ref rd, .ref tb, .ref rg, .ref bl, .ref pa, .ref fm, .ref te, .ref hi, .ref fr, .int fd, .int rf, .int lf, .int fp]))]) hD hS hA [0] rfl
    refine va_calli (va_runV (As := [.int 1]) (rest := []) ⟨hx, hb, hml, hown, hts⟩ (c_refused l dC dI s.heap.size h0 tp rd tb rg bl pa fm te hi fr fd rf lf fp 1) (cwV 1 hts gX10_act_X10_refused rfl rfl rfl (by decide +kernel) ⟨Nat.le_of_ble_eq_true rfl, Nat.le_of_ble_eq_true rfl⟩) ⟨fun a U g mk q => by obtain ⟨q0, q1, qP, qK, qD⟩ := q; exact ⟨q0, q1, qP, va_K.moved (u := U) (U := U.calling g mk a) (Vm.Alike.refl U.vm) qK, qD⟩, va_recv hKc hPc (ci := 10) (q0 := 0) rfl rfl, fun U hU hW => ⟨rfl, by rw [hU], by rw [hU]; exact hPc, va_K.moved hW.alike hKc, hDc.weaken (fun _ _ _ _ => trivial)⟩⟩ rfl rfl hl.1 rfl (lv_room (Nat.le_of_ble_eq_true rfl)) dX10_act_26 ⟨Nat.le_of_ble_eq_true rfl, Nat.le_of_ble_eq_true rfl⟩) hS (fun q _ h => hFc q h) hFc (fun r_4 u t H1 locs ht hvm hw hB hz1 hk1 hS => ?_)
    obtain ⟨hP1, hK1, hD1⟩ := hB
    rw [ht] at hP1
    have hK1 := va_K.moved hvm.symm hK1
    try dsimp only at hw
    obtain ⟨hP, hD⟩ := va_join (wr := [(hi, .inr (4, [.int 0, .int hi_known, .int hi_marks, .ref hi_acts, .ref hi_rows, .ref hi_marked, .ref hi_table]))]) (w1 := [(h0, .inr (10, [.ref tp, .ref rd, .ref tb, .ref rg, .ref bl, .ref pa, .ref fm, .ref te, .ref hi, .ref fr, .int fd, .int 1, .int lf, .int fp]))]) hP hD [0] [1] rfl rfl (by decide) (by decide) hk1 hFc hP1 hD1
    have hK := (hK.sub (tys' := []) [] rfl).app hK1
    generalize H1 = H at hP hS ⊢
    have hP : va_P (dC, dI) vwCl [(hi, .inr (4, [.int 0, .int hi_known, .int hi_marks, .ref hi_acts, .ref hi_rows, .ref hi_marked, .ref hi_table])), (h0, .inr (10, [.ref tp, .ref rd, .ref tb, .ref rg, .ref bl, .ref pa, .ref fm, .ref te, .ref hi, .ref fr, .int fd, .int 1, .int lf, .int fp]))] H := hP
    have hD : va_D A [(hi, .inr (4, [.int 0, .int hi_known, .int hi_marks, .ref hi_acts, .ref hi_rows, .ref hi_marked, .ref hi_table])), (h0, .inr (10, [.ref tp, .ref rd, .ref tb, .ref rg, .ref bl, .ref pa, .ref fm, .ref te, .ref hi, .ref fr, .int fd, .int 1, .int lf, .int fp]))] := hD
    have hK : va_K (dC, dI) vwCl [] s := hK
    refine W.widen (k := 0) (n := 0) (by omega) (by omega) ?_
    have er_4 : r_4 = (-1) := hw
    subst er_4
    have hP9 := hP.sub (ws' := [(h0, .inr (10, [.ref tp, .ref rd, .ref tb, .ref rg, .ref bl, .ref pa, .ref fm, .ref te, .ref hi, .ref fr, .int fd, .int 1, .int lf, .int fp])), (hi, .inr (4, [.int 0, .int hi_known, .int hi_marks, .ref hi_acts, .ref hi_rows, .ref hi_marked, .ref hi_table]))]) [1, 0] rfl
    have hD9 := hD.sub (ws' := [(h0, .inr (10, [.ref tp, .ref rd, .ref tb, .ref rg, .ref bl, .ref pa, .ref fm, .ref te, .ref hi, .ref fr, .int fd, .int 1, .int lf, .int fp])), (hi, .inr (4, [.int 0, .int hi_known, .int hi_marks, .ref hi_acts, .ref hi_rows, .ref hi_marked, .ref hi_table]))]) [1, 0] (by decide) rfl
    have hK9 := hK.sub (tys' := []) [] rfl
    refine W.widen (k := 0) (n := 0) (Nat.le_of_ble_eq_true rfl) (Nat.le_of_ble_eq_true rfl) ?_
    exact W.iret (v := (-1)) hx hb hr (fun t ht hW => ⟨⟨(-1), (), rfl, rfl, by rw [ht]; exact hP9, va_K.moved hW.alike hK9, hD9⟩, hS.F ht⟩) hS.2.2 dX10_act_29
