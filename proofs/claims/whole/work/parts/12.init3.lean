set_option maxRecDepth 20000 in
theorem iw_X0_init_X0_c_Blend_init : ∀ w ∈ wsX00, w ∈ wsX0_init := by decide +kernel
set_option maxRecDepth 20000 in
theorem iw_X0_init_X8_c_Blend_init : ∀ w ∈ wsX80, w ∈ wsX0_init := by decide +kernel
set_option maxRecDepth 20000 in
theorem oi_X0_init_c_Blend_init : Cond.code objectInit ⟨#[0xb1]⟩ 1 none ∈ wsX0_init := by decide +kernel
set_option maxHeartbeats 4000000 in
set_option maxRecDepth 100000 in
/-- the constructor of X0 -/
theorem c_Blend_init (l : Launch) (dC : Nat → ClassId) (dI : Nat → Nat → Nat) (sz : Nat) (o0 : Nat) (tb : Nat) (fr : Nat) (lw : Int32) (lk : Int32) (ct : Int32) (vr : Int32) (a1 : Nat) (a2 : Nat) (a3 : Nat) (a4 : Nat)  : Met l yX0_init wsX0_init ({ frames := 1, cells := 37, slots := 2340, locals := 12 }) (va_Pc [.ref o0, .ref tb, .ref fr] (fun U => U.heap.size = sz ∧ va_P (dC, dI) vwCl [(o0, .inr (0, [.null, .null, .null, .null, .null, .int 0, .int 0, .long 0, .int 0])), (tb, .inr (8, [.int lw, .int lk, .int ct, .int vr, .ref a1, .ref a2, .ref a3, .ref a4]))] U.heap ∧ va_K (dC, dI) vwCl [] U ∧ va_D (fun _ => True) [(o0, .inr (0, [.null, .null, .null, .null, .null, .int 0, .int 0, .long 0, .int 0])), (tb, .inr (8, [.int lw, .int lk, .int ct, .int vr, .ref a1, .ref a2, .ref a3, .ref a4]))] ∧ va_AOA .long U)) (va_Qv (fun (_ : Unit) => True) (fun _ t => ∃ (q_1 : Nat) (q_5 : Nat) (q_7 : Nat) (v_9 : Int32) (cA_6 : ClassId) (cA_8 : ClassId), va_P (dC, dI) vwCl [(o0, .inr (0, [.ref tb, .ref fr, .ref q_1, .ref q_5, .ref q_7, .int 0, .int 0, .long 1, .int v_9])), (tb, .inr (8, [.int lw, .int lk, .int ct, .int vr, .ref a1, .ref a2, .ref a3, .ref a4])), (q_5, .inl (cA_6, 32, .inl (fun _ => 0))), (q_7, .inl (cA_8, 64, .inl (fun _ => 0)))] t.heap ∧ va_K (dC, dI) vwCl [(cA_6, .int), (cA_8, .int)] t ∧ va_D (va_A [(o0, .inr (0, [.null, .null, .null, .null, .null, .int 0, .int 0, .long 0, .int 0])), (tb, .inr (8, [.int lw, .int lk, .int ct, .int vr, .ref a1, .ref a2, .ref a3, .ref a4]))] sz) [(o0, .inr (0, [.ref tb, .ref fr, .ref q_1, .ref q_5, .ref q_7, .int 0, .int 0, .long 1, .int v_9])), (tb, .inr (8, [.int lw, .int lk, .int ct, .int vr, .ref a1, .ref a2, .ref a3, .ref a4])), (q_5, .inl (cA_6, 32, .inl (fun _ => 0))), (q_7, .inl (cA_8, 64, .inl (fun _ => 0)))]) (va_A [(o0, .inr (0, [.null, .null, .null, .null, .null, .int 0, .int 0, .long 0, .int 0])), (tb, .inr (8, [.int lw, .int lk, .int ct, .int vr, .ref a1, .ref a2, .ref a3, .ref a4]))] sz)) 37 2340 (va_A [(o0, .inr (0, [.null, .null, .null, .null, .null, .int 0, .int 0, .long 0, .int 0])), (tb, .inr (8, [.int lw, .int lk, .int ct, .int vr, .ref a1, .ref a2, .ref a3, .ref a4]))] sz) := by
  refine Met.ofW (cc := cX0_init) (maxL := 3) (ret := none) (by decide) rfl ?_
  intro p e s m args below meth c s₁ B hml hv
  obtain ⟨rfl, hsz, hP, hK, hD0, hx0⟩ := hv
  have hx := B.exec
  have hb := B.bytes
  have hr := B.returns
  have hts := atoms_spec (ws := wsX0_init) B.pre
  have hown : s.vm.findClass RX0 = some m.cls := findClass_of_methodNamed B.named
  have hlocks := B.notSynchronized
  have hin : meth.name = "<init>" := (name_of_methodNamed B.named B.method).1
  subst hsz
  have hD := hD0.self (sz := s.heap.size)
  generalize hAe : va_A [(o0, .inr (0, [.null, .null, .null, .null, .null, .int 0, .int 0, .long 0, .int 0])), (tb, .inr (8, [.int lw, .int lk, .int ct, .int vr, .ref a1, .ref a2, .ref a3, .ref a4]))] s.heap.size = A at hD ⊢
  have hA : ∀ q : Nat, s.heap.size ≤ q → A q := fun q h => by rw [← hAe]; exact Or.inr h
  have hS : va_S A s.heap s.heap [] := va_S.rf
  have hP : va_P (dC, dI) vwCl [(o0, .inr (0, [.null, .null, .null, .null, .null, .int 0, .int 0, .long 0, .int 0])), (tb, .inr (8, [.int lw, .int lk, .int ct, .int vr, .ref a1, .ref a2, .ref a3, .ref a4]))] s.heap := hP
  have hl := lv_entry ([.ref o0, .ref tb, .ref fr]) (n := 3) (Nat.le_of_ble_eq_true rfl)
  rw [lg_entry_eq]
  generalize (lg_sl ([.ref o0, .ref tb, .ref fr]) ++ List.replicate (3 - (lg_sl ([.ref o0, .ref tb, .ref fr])).length) Slot.unset).toArray = ls at hl ⊢
  have hl : lv_has ls 3 [(0, .ref o0), (1, .ref tb), (2, .ref fr)] := hl
  have hxaoa_J := hx0
  refine lv_aload_n hx hb dX0_init_0 rfl (lv_at hl 0 rfl) ?_
  refine W.objInit hx hb hown (hts (.methodLink RX0 5 objectInit) (by decide +kernel)) (hts (.instanceMethod objectInit) (by decide +kernel)) (hts _ oi_X0_init_c_Blend_init) rfl (by rw [hml]; exact hl.1) rfl dX0_init_1 (Nat.le_of_ble_eq_true rfl) (Nat.le_of_ble_eq_true rfl) ?_
  refine W.eq (g2 := F0 m 4 ls []) rfl ?_
  refine lv_aload_n hx hb dX0_init_4 rfl (lv_at hl 0 rfl) ?_
  refine lv_bipush (v := 34) hx hb dX0_init_5 (by decide) ?_
  refine lv_bipush (v := 65) hx hb dX0_init_7 (by decide) ?_
  obtain ⟨cy_3, hcy_3⟩ : ∃ c9 : ClassId, s.vm.findClass (FieldType.array .long).toString = some c9 := by
    obtain ⟨c9, k9, comp9, h9, -, -⟩ := Cond.arrayClass_spec (hts (.arrayClass .long) (by decide +kernel))
    exact ⟨c9, h9⟩
  refine va_mna (X := [(o0, .inr (0, [.null, .null, .null, .null, .null, .int 0, .int 0, .long 0, .int 0])), (tb, .inr (8, [.int lw, .int lk, .int ct, .int vr, .ref a1, .ref a2, .ref a3, .ref a4]))]) (L := []) (f := fun _ => .inr (0, [])) (ty := .long) (N' := 34) (K' := 65) (z := (65, .inr (.inl (fun _ => 0)))) hx hb hown (hts (.classLink RX0 11 "[[J") (by decide +kernel)) hxaoa_J (hts (.arrayClass .long) (by decide +kernel)) hcy_3 hK hP hD hS hA (by decide) (by decide) (by decide) (by decide) (by decide) (by decide) (by decide) (by decide) (by decide) (Nat.le_of_ble_eq_true rfl) (Nat.le_of_ble_eq_true rfl) (fun c9 => by show ({ cls := c9, slots := Array.replicate 65 (.long 0), vm := .none } : Cell) = _; rw [arrV_new]; rfl) dX0_init_9 (fun q_1 rr_4 cA_2 H hr1 hr2 hK hP hD hS => ?_)
  have hP : va_P (dC, dI) vwCl [(o0, .inr (0, [.null, .null, .null, .null, .null, .int 0, .int 0, .long 0, .int 0])), (tb, .inr (8, [.int lw, .int lk, .int ct, .int vr, .ref a1, .ref a2, .ref a3, .ref a4])), (q_1, .inl (cA_2, 34, .inr (.inr (.inr (.inr (fun i => if i < 34 then some (rr_4 i) else none))))))] H := va_P.sub (ws' := [(o0, .inr (0, [.null, .null, .null, .null, .null, .int 0, .int 0, .long 0, .int 0])), (tb, .inr (8, [.int lw, .int lk, .int ct, .int vr, .ref a1, .ref a2, .ref a3, .ref a4])), (q_1, .inl (cA_2, 34, .inr (.inr (.inr (.inr (fun i => if i < 34 then some (rr_4 i) else none))))))]) hP [0, 1, 2] rfl
  have hD : va_D A [(o0, .inr (0, [.null, .null, .null, .null, .null, .int 0, .int 0, .long 0, .int 0])), (tb, .inr (8, [.int lw, .int lk, .int ct, .int vr, .ref a1, .ref a2, .ref a3, .ref a4])), (q_1, .inl (cA_2, 34, .inr (.inr (.inr (.inr (fun i => if i < 34 then some (rr_4 i) else none))))))] := va_D.sub (ws' := [(o0, .inr (0, [.null, .null, .null, .null, .null, .int 0, .int 0, .long 0, .int 0])), (tb, .inr (8, [.int lw, .int lk, .int ct, .int vr, .ref a1, .ref a2, .ref a3, .ref a4])), (q_1, .inl (cA_2, 34, .inr (.inr (.inr (.inr (fun i => if i < 34 then some (rr_4 i) else none))))))]) hD [0, 1, 2] (by decide) rfl
  have hK : va_K (dC, dI) vwCl [(cA_2, .array .long)] s := hK
  refine W.widen (k := 35) (n := 2244) (by omega) (by omega) ?_
  refine va_putF (D := (dC, dI)) (ci := 0) (v := .ref q_1) (ty := .array (.array .long)) (C := RX0) (T := TX0) (N := 9) hx hb hts iw_X0_init_X0_c_Blend_init tyX0 tyX0_ok nmX0 hown hK hP hD hS 0 rfl rfl 2 (by decide) (hts (.fieldLink RX0 13 "NotAtOnce$Blend" "cells" "[[J") (by decide +kernel)) (fun _ h9 => h9) rfl hin rfl (by decide +kernel) rfl rfl (Nat.le_of_ble_eq_true rfl) dX0_init_13 (fun H locs hP hD hS => ?_)
  have hP : va_P (dC, dI) vwCl [(o0, .inr (0, [.null, .null, .ref q_1, .null, .null, .int 0, .int 0, .long 0, .int 0])), (tb, .inr (8, [.int lw, .int lk, .int ct, .int vr, .ref a1, .ref a2, .ref a3, .ref a4])), (q_1, .inl (cA_2, 34, .inr (.inr (.inr (.inr (fun i => if i < 34 then some (rr_4 i) else none))))))] H := hP
  have hD : va_D A [(o0, .inr (0, [.null, .null, .ref q_1, .null, .null, .int 0, .int 0, .long 0, .int 0])), (tb, .inr (8, [.int lw, .int lk, .int ct, .int vr, .ref a1, .ref a2, .ref a3, .ref a4])), (q_1, .inl (cA_2, 34, .inr (.inr (.inr (.inr (fun i => if i < 34 then some (rr_4 i) else none))))))] := hD
  refine lv_aload_n hx hb dX0_init_16 rfl (lv_at hl 0 rfl) ?_
  refine lv_bipush (v := 32) hx hb dX0_init_17 (by decide) ?_
  refine va_newa (atype := .int) (N' := 32) (a0 := (32, .inl (fun _ => 0))) (ty := .int) (n := 32) hx hb (hts (.arrayClass .int) (by decide +kernel)) rfl hK hP hD hS hA (fun _ => rfl) (by decide) (by decide) (by decide) (Nat.le_of_ble_eq_true rfl) (Nat.le_of_ble_eq_true rfl) dX0_init_19 (fun q_5 cA_6 H hK hP hD hS => ?_)
  have hP : va_P (dC, dI) vwCl [(o0, .inr (0, [.null, .null, .ref q_1, .null, .null, .int 0, .int 0, .long 0, .int 0])), (tb, .inr (8, [.int lw, .int lk, .int ct, .int vr, .ref a1, .ref a2, .ref a3, .ref a4])), (q_1, .inl (cA_2, 34, .inr (.inr (.inr (.inr (fun i => if i < 34 then some (rr_4 i) else none)))))), (q_5, .inl (cA_6, 32, .inl (fun _ => 0)))] H := hP
  have hD : va_D A [(o0, .inr (0, [.null, .null, .ref q_1, .null, .null, .int 0, .int 0, .long 0, .int 0])), (tb, .inr (8, [.int lw, .int lk, .int ct, .int vr, .ref a1, .ref a2, .ref a3, .ref a4])), (q_1, .inl (cA_2, 34, .inr (.inr (.inr (.inr (fun i => if i < 34 then some (rr_4 i) else none)))))), (q_5, .inl (cA_6, 32, .inl (fun _ => 0)))] := hD
  have hK : va_K (dC, dI) vwCl [(cA_2, .array .long), (cA_6, .int)] s := hK
  refine W.widen (k := 36) (n := 2276) (by omega) (by omega) ?_
  refine va_putF (D := (dC, dI)) (ci := 0) (v := .ref q_5) (ty := .array .int) (C := RX0) (T := TX0) (N := 9) hx hb hts iw_X0_init_X0_c_Blend_init tyX0 tyX0_ok nmX0 hown hK hP hD hS 0 rfl rfl 3 (by decide) (hts (.fieldLink RX0 16 "NotAtOnce$Blend" "rowNames" "[I") (by decide +kernel)) (fun _ h9 => h9) rfl hin rfl (by decide +kernel) rfl rfl (Nat.le_of_ble_eq_true rfl) dX0_init_21 (fun H locs hP hD hS => ?_)
  have hP : va_P (dC, dI) vwCl [(o0, .inr (0, [.null, .null, .ref q_1, .ref q_5, .null, .int 0, .int 0, .long 0, .int 0])), (tb, .inr (8, [.int lw, .int lk, .int ct, .int vr, .ref a1, .ref a2, .ref a3, .ref a4])), (q_1, .inl (cA_2, 34, .inr (.inr (.inr (.inr (fun i => if i < 34 then some (rr_4 i) else none)))))), (q_5, .inl (cA_6, 32, .inl (fun _ => 0)))] H := hP
  have hD : va_D A [(o0, .inr (0, [.null, .null, .ref q_1, .ref q_5, .null, .int 0, .int 0, .long 0, .int 0])), (tb, .inr (8, [.int lw, .int lk, .int ct, .int vr, .ref a1, .ref a2, .ref a3, .ref a4])), (q_1, .inl (cA_2, 34, .inr (.inr (.inr (.inr (fun i => if i < 34 then some (rr_4 i) else none)))))), (q_5, .inl (cA_6, 32, .inl (fun _ => 0)))] := hD
  refine lv_aload_n hx hb dX0_init_24 rfl (lv_at hl 0 rfl) ?_
  refine lv_bipush (v := 64) hx hb dX0_init_25 (by decide) ?_
  refine va_newa (atype := .int) (N' := 64) (a0 := (64, .inl (fun _ => 0))) (ty := .int) (n := 64) hx hb (hts (.arrayClass .int) (by decide +kernel)) rfl hK hP hD hS hA (fun _ => rfl) (by decide) (by decide) (by decide) (Nat.le_of_ble_eq_true rfl) (Nat.le_of_ble_eq_true rfl) dX0_init_27 (fun q_7 cA_8 H hK hP hD hS => ?_)
  have hP : va_P (dC, dI) vwCl [(o0, .inr (0, [.null, .null, .ref q_1, .ref q_5, .null, .int 0, .int 0, .long 0, .int 0])), (tb, .inr (8, [.int lw, .int lk, .int ct, .int vr, .ref a1, .ref a2, .ref a3, .ref a4])), (q_1, .inl (cA_2, 34, .inr (.inr (.inr (.inr (fun i => if i < 34 then some (rr_4 i) else none)))))), (q_5, .inl (cA_6, 32, .inl (fun _ => 0))), (q_7, .inl (cA_8, 64, .inl (fun _ => 0)))] H := hP
  have hD : va_D A [(o0, .inr (0, [.null, .null, .ref q_1, .ref q_5, .null, .int 0, .int 0, .long 0, .int 0])), (tb, .inr (8, [.int lw, .int lk, .int ct, .int vr, .ref a1, .ref a2, .ref a3, .ref a4])), (q_1, .inl (cA_2, 34, .inr (.inr (.inr (.inr (fun i => if i < 34 then some (rr_4 i) else none)))))), (q_5, .inl (cA_6, 32, .inl (fun _ => 0))), (q_7, .inl (cA_8, 64, .inl (fun _ => 0)))] := hD
  have hK : va_K (dC, dI) vwCl [(cA_2, .array .long), (cA_6, .int), (cA_8, .int)] s := hK
  refine W.widen (k := 37) (n := 2340) (by omega) (by omega) ?_
  refine va_putF (D := (dC, dI)) (ci := 0) (v := .ref q_7) (ty := .array .int) (C := RX0) (T := TX0) (N := 9) hx hb hts iw_X0_init_X0_c_Blend_init tyX0 tyX0_ok nmX0 hown hK hP hD hS 0 rfl rfl 4 (by decide) (hts (.fieldLink RX0 20 "NotAtOnce$Blend" "columnNames" "[I") (by decide +kernel)) (fun _ h9 => h9) rfl hin rfl (by decide +kernel) rfl rfl (Nat.le_of_ble_eq_true rfl) dX0_init_29 (fun H locs hP hD hS => ?_)
  have hP : va_P (dC, dI) vwCl [(o0, .inr (0, [.null, .null, .ref q_1, .ref q_5, .ref q_7, .int 0, .int 0, .long 0, .int 0])), (tb, .inr (8, [.int lw, .int lk, .int ct, .int vr, .ref a1, .ref a2, .ref a3, .ref a4])), (q_1, .inl (cA_2, 34, .inr (.inr (.inr (.inr (fun i => if i < 34 then some (rr_4 i) else none)))))), (q_5, .inl (cA_6, 32, .inl (fun _ => 0))), (q_7, .inl (cA_8, 64, .inl (fun _ => 0)))] H := hP
  have hD : va_D A [(o0, .inr (0, [.null, .null, .ref q_1, .ref q_5, .ref q_7, .int 0, .int 0, .long 0, .int 0])), (tb, .inr (8, [.int lw, .int lk, .int ct, .int vr, .ref a1, .ref a2, .ref a3, .ref a4])), (q_1, .inl (cA_2, 34, .inr (.inr (.inr (.inr (fun i => if i < 34 then some (rr_4 i) else none)))))), (q_5, .inl (cA_6, 32, .inl (fun _ => 0))), (q_7, .inl (cA_8, 64, .inl (fun _ => 0)))] := hD
  refine lv_aload_n hx hb dX0_init_32 rfl (lv_at hl 0 rfl) ?_
  refine lv_lconst (v := 1) hx hb dX0_init_33 (by decide) ?_
  refine va_put (D := (dC, dI)) (ci := 0) (v := .long 1) (ty := .long) (C := RX0) (T := TX0) (N := 9) hx hb hts iw_X0_init_X0_c_Blend_init tyX0 tyX0_ok nmX0 hown hK hP hD hS 0 rfl rfl 7 (by decide) (hts (.fieldLink RX0 23 "NotAtOnce$Blend" "scale" "J") (by decide +kernel)) (fun _ h9 => h9) rfl (by decide +kernel) rfl rfl (Nat.le_of_ble_eq_true rfl) dX0_init_34 (fun H locs hP hD hS => ?_)
  have hP : va_P (dC, dI) vwCl [(o0, .inr (0, [.null, .null, .ref q_1, .ref q_5, .ref q_7, .int 0, .int 0, .long 1, .int 0])), (tb, .inr (8, [.int lw, .int lk, .int ct, .int vr, .ref a1, .ref a2, .ref a3, .ref a4])), (q_1, .inl (cA_2, 34, .inr (.inr (.inr (.inr (fun i => if i < 34 then some (rr_4 i) else none)))))), (q_5, .inl (cA_6, 32, .inl (fun _ => 0))), (q_7, .inl (cA_8, 64, .inl (fun _ => 0)))] H := hP
  have hD : va_D A [(o0, .inr (0, [.null, .null, .ref q_1, .ref q_5, .ref q_7, .int 0, .int 0, .long 1, .int 0])), (tb, .inr (8, [.int lw, .int lk, .int ct, .int vr, .ref a1, .ref a2, .ref a3, .ref a4])), (q_1, .inl (cA_2, 34, .inr (.inr (.inr (.inr (fun i => if i < 34 then some (rr_4 i) else none)))))), (q_5, .inl (cA_6, 32, .inl (fun _ => 0))), (q_7, .inl (cA_8, 64, .inl (fun _ => 0)))] := hD
  refine lv_aload_n hx hb dX0_init_37 rfl (lv_at hl 0 rfl) ?_
  refine lv_aload_n hx hb dX0_init_38 rfl (lv_at hl 1 rfl) ?_
  refine va_putF (D := (dC, dI)) (ci := 0) (v := .ref tb) (ty := .object "NotAtOnce$Table") (C := RX0) (T := TX0) (N := 9) hx hb hts iw_X0_init_X0_c_Blend_init tyX0 tyX0_ok nmX0 hown hK hP hD hS 0 rfl rfl 0 (by decide) (hts (.fieldLink RX0 27 "NotAtOnce$Blend" "table" "LNotAtOnce$Table;") (by decide +kernel)) (fun _ h9 => h9) rfl hin rfl (by decide +kernel) rfl rfl (Nat.le_of_ble_eq_true rfl) dX0_init_39 (fun H locs hP hD hS => ?_)
  have hP : va_P (dC, dI) vwCl [(o0, .inr (0, [.ref tb, .null, .ref q_1, .ref q_5, .ref q_7, .int 0, .int 0, .long 1, .int 0])), (tb, .inr (8, [.int lw, .int lk, .int ct, .int vr, .ref a1, .ref a2, .ref a3, .ref a4])), (q_1, .inl (cA_2, 34, .inr (.inr (.inr (.inr (fun i => if i < 34 then some (rr_4 i) else none)))))), (q_5, .inl (cA_6, 32, .inl (fun _ => 0))), (q_7, .inl (cA_8, 64, .inl (fun _ => 0)))] H := hP
  have hD : va_D A [(o0, .inr (0, [.ref tb, .null, .ref q_1, .ref q_5, .ref q_7, .int 0, .int 0, .long 1, .int 0])), (tb, .inr (8, [.int lw, .int lk, .int ct, .int vr, .ref a1, .ref a2, .ref a3, .ref a4])), (q_1, .inl (cA_2, 34, .inr (.inr (.inr (.inr (fun i => if i < 34 then some (rr_4 i) else none)))))), (q_5, .inl (cA_6, 32, .inl (fun _ => 0))), (q_7, .inl (cA_8, 64, .inl (fun _ => 0)))] := hD
  refine lv_aload_n hx hb dX0_init_42 rfl (lv_at hl 0 rfl) ?_
  refine lv_aload_n hx hb dX0_init_43 rfl (lv_at hl 2 rfl) ?_
  refine va_putF (D := (dC, dI)) (ci := 0) (v := .ref fr) (ty := .object "NotAtOnce$Fraction") (C := RX0) (T := TX0) (N := 9) hx hb hts iw_X0_init_X0_c_Blend_init tyX0 tyX0_ok nmX0 hown hK hP hD hS 0 rfl rfl 1 (by decide) (hts (.fieldLink RX0 31 "NotAtOnce$Blend" "fraction" "LNotAtOnce$Fraction;") (by decide +kernel)) (fun _ h9 => h9) rfl hin rfl (by decide +kernel) rfl rfl (Nat.le_of_ble_eq_true rfl) dX0_init_44 (fun H locs hP hD hS => ?_)
  have hP : va_P (dC, dI) vwCl [(o0, .inr (0, [.ref tb, .ref fr, .ref q_1, .ref q_5, .ref q_7, .int 0, .int 0, .long 1, .int 0])), (tb, .inr (8, [.int lw, .int lk, .int ct, .int vr, .ref a1, .ref a2, .ref a3, .ref a4])), (q_1, .inl (cA_2, 34, .inr (.inr (.inr (.inr (fun i => if i < 34 then some (rr_4 i) else none)))))), (q_5, .inl (cA_6, 32, .inl (fun _ => 0))), (q_7, .inl (cA_8, 64, .inl (fun _ => 0)))] H := hP
  have hD : va_D A [(o0, .inr (0, [.ref tb, .ref fr, .ref q_1, .ref q_5, .ref q_7, .int 0, .int 0, .long 1, .int 0])), (tb, .inr (8, [.int lw, .int lk, .int ct, .int vr, .ref a1, .ref a2, .ref a3, .ref a4])), (q_1, .inl (cA_2, 34, .inr (.inr (.inr (.inr (fun i => if i < 34 then some (rr_4 i) else none)))))), (q_5, .inl (cA_6, 32, .inl (fun _ => 0))), (q_7, .inl (cA_8, 64, .inl (fun _ => 0)))] := hD
  refine lv_aload_n hx hb dX0_init_47 rfl (lv_at hl 0 rfl) ?_
  refine lv_aload_n hx hb dX0_init_48 rfl (lv_at hl 1 rfl) ?_
  refine va_get (D := (dC, dI)) (ci := 8) (v := .int vr) (C := RX8) (T := TX8) (N := 8) hx hb hts iw_X0_init_X8_c_Blend_init hown hK hP 1 rfl rfl 3 (by decide) (hts (.fieldLink RX0 35 "NotAtOnce$Table" "version" "I") (by decide +kernel)) (fun _ h9 => h9) rfl dX0_init_49 ?_
  refine lv_iconst (v := 1) hx hb dX0_init_52 (by decide) ?_
  refine lv_isub hx hb dX0_init_53 ?_
  refine lv_topi (fun v_9 ev_9 => ?_)
  refine va_put (D := (dC, dI)) (ci := 0) (v := .int v_9) (ty := .int) (C := RX0) (T := TX0) (N := 9) hx hb hts iw_X0_init_X0_c_Blend_init tyX0 tyX0_ok nmX0 hown hK hP hD hS 0 rfl rfl 8 (by decide) (hts (.fieldLink RX0 41 "NotAtOnce$Blend" "solved" "I") (by decide +kernel)) (fun _ h9 => h9) rfl (by decide +kernel) rfl rfl (Nat.le_of_ble_eq_true rfl) dX0_init_54 (fun H locs hP hD hS => ?_)
  have hP : va_P (dC, dI) vwCl [(o0, .inr (0, [.ref tb, .ref fr, .ref q_1, .ref q_5, .ref q_7, .int 0, .int 0, .long 1, .int v_9])), (tb, .inr (8, [.int lw, .int lk, .int ct, .int vr, .ref a1, .ref a2, .ref a3, .ref a4])), (q_1, .inl (cA_2, 34, .inr (.inr (.inr (.inr (fun i => if i < 34 then some (rr_4 i) else none)))))), (q_5, .inl (cA_6, 32, .inl (fun _ => 0))), (q_7, .inl (cA_8, 64, .inl (fun _ => 0)))] H := hP
  have hD : va_D A [(o0, .inr (0, [.ref tb, .ref fr, .ref q_1, .ref q_5, .ref q_7, .int 0, .int 0, .long 1, .int v_9])), (tb, .inr (8, [.int lw, .int lk, .int ct, .int vr, .ref a1, .ref a2, .ref a3, .ref a4])), (q_1, .inl (cA_2, 34, .inr (.inr (.inr (.inr (fun i => if i < 34 then some (rr_4 i) else none)))))), (q_5, .inl (cA_6, 32, .inl (fun _ => 0))), (q_7, .inl (cA_8, 64, .inl (fun _ => 0)))] := hD
  have hP9 := hP.sub (ws' := [(o0, .inr (0, [.ref tb, .ref fr, .ref q_1, .ref q_5, .ref q_7, .int 0, .int 0, .long 1, .int v_9])), (tb, .inr (8, [.int lw, .int lk, .int ct, .int vr, .ref a1, .ref a2, .ref a3, .ref a4])), (q_5, .inl (cA_6, 32, .inl (fun _ => 0))), (q_7, .inl (cA_8, 64, .inl (fun _ => 0)))]) [0, 1, 3, 4] rfl
  have hD9 := hD.sub (ws' := [(o0, .inr (0, [.ref tb, .ref fr, .ref q_1, .ref q_5, .ref q_7, .int 0, .int 0, .long 1, .int v_9])), (tb, .inr (8, [.int lw, .int lk, .int ct, .int vr, .ref a1, .ref a2, .ref a3, .ref a4])), (q_5, .inl (cA_6, 32, .inl (fun _ => 0))), (q_7, .inl (cA_8, 64, .inl (fun _ => 0)))]) [0, 1, 3, 4] (by decide) rfl
  have hK9 := hK.sub (tys' := [(cA_6, .int), (cA_8, .int)]) [1, 2] rfl
  refine W.widen (k := 37) (n := 2340) (Nat.le_of_ble_eq_true rfl) (Nat.le_of_ble_eq_true rfl) ?_
  exact W.vret hx hb hr (fun t ht hW => ⟨⟨(), rfl, trivial, q_1, q_5, q_7, v_9, cA_6, cA_8, by rw [ht]; exact hP9, va_K.moved hW.alike hK9, hD9⟩, hS.F ht⟩) hS.2.2 dX0_init_57

set_option maxRecDepth 20000 in
theorem iw_X4_init_X4_c_History_init : ∀ w ∈ wsX40, w ∈ wsX4_init := by decide +kernel
set_option maxRecDepth 20000 in
theorem oi_X4_init_c_History_init : Cond.code objectInit ⟨#[0xb1]⟩ 1 none ∈ wsX4_init := by decide +kernel
set_option maxHeartbeats 4000000 in
set_option maxRecDepth 100000 in
/-- the constructor of X4 -/
theorem c_History_init (l : Launch) (dC : Nat → ClassId) (dI : Nat → Nat → Nat) (sz : Nat) (o0 : Nat) (tb : Nat)  : Met l yX4_init wsX4_init ({ frames := 1, cells := 48, slots := 1370, locals := 12 }) (va_Pc [.ref o0, .ref tb] (fun U => U.heap.size = sz ∧ va_P (dC, dI) vwCl [(o0, .inr (4, [.int 0, .int 0, .int 0, .null, .null, .null, .null]))] U.heap ∧ va_K (dC, dI) vwCl [] U ∧ va_D (fun _ => True) [(o0, .inr (4, [.int 0, .int 0, .int 0, .null, .null, .null, .null]))] ∧ va_AOA .int U)) (va_Qv (fun (_ : Unit) => True) (fun _ t => ∃ (q_1 : Nat) (q_5 : Nat) (q_9 : Nat), va_P (dC, dI) vwCl [(o0, .inr (4, [.int 0, .int 0, .int 0, .ref q_1, .ref q_5, .ref q_9, .ref tb]))] t.heap ∧ va_K (dC, dI) vwCl [] t ∧ va_D (va_A [(o0, .inr (4, [.int 0, .int 0, .int 0, .null, .null, .null, .null]))] sz) [(o0, .inr (4, [.int 0, .int 0, .int 0, .ref q_1, .ref q_5, .ref q_9, .ref tb]))]) (va_A [(o0, .inr (4, [.int 0, .int 0, .int 0, .null, .null, .null, .null]))] sz)) 48 1370 (va_A [(o0, .inr (4, [.int 0, .int 0, .int 0, .null, .null, .null, .null]))] sz) := by
  refine Met.ofW (cc := cX4_init) (maxL := 2) (ret := none) (by decide) rfl ?_
  intro p e s m args below meth c s₁ B hml hv
  obtain ⟨rfl, hsz, hP, hK, hD0, hx0⟩ := hv
  have hx := B.exec
  have hb := B.bytes
  have hr := B.returns
  have hts := atoms_spec (ws := wsX4_init) B.pre
  have hown : s.vm.findClass RX4 = some m.cls := findClass_of_methodNamed B.named
  have hlocks := B.notSynchronized
  have hin : meth.name = "<init>" := (name_of_methodNamed B.named B.method).1
  subst hsz
  have hD := hD0.self (sz := s.heap.size)
  generalize hAe : va_A [(o0, .inr (4, [.int 0, .int 0, .int 0, .null, .null, .null, .null]))] s.heap.size = A at hD ⊢
  have hA : ∀ q : Nat, s.heap.size ≤ q → A q := fun q h => by rw [← hAe]; exact Or.inr h
  have hS : va_S A s.heap s.heap [] := va_S.rf
  have hP : va_P (dC, dI) vwCl [(o0, .inr (4, [.int 0, .int 0, .int 0, .null, .null, .null, .null]))] s.heap := hP
  have hl := lv_entry ([.ref o0, .ref tb]) (n := 2) (Nat.le_of_ble_eq_true rfl)
  rw [lg_entry_eq]
  generalize (lg_sl ([.ref o0, .ref tb]) ++ List.replicate (2 - (lg_sl ([.ref o0, .ref tb])).length) Slot.unset).toArray = ls at hl ⊢
  have hl : lv_has ls 2 [(0, .ref o0), (1, .ref tb)] := hl
  have hxaoa_I := hx0
  refine lv_aload_n hx hb dX4_init_0 rfl (lv_at hl 0 rfl) ?_
  refine W.objInit hx hb hown (hts (.methodLink RX4 3 objectInit) (by decide +kernel)) (hts (.instanceMethod objectInit) (by decide +kernel)) (hts _ oi_X4_init_c_History_init) rfl (by rw [hml]; exact hl.1) rfl dX4_init_1 (Nat.le_of_ble_eq_true rfl) (Nat.le_of_ble_eq_true rfl) ?_
  refine W.eq (g2 := F0 m 4 ls []) rfl ?_
  refine lv_aload_n hx hb dX4_init_4 rfl (lv_at hl 0 rfl) ?_
  refine lv_bipush (v := 20) hx hb dX4_init_5 (by decide) ?_
  refine lv_iconst (v := 5) hx hb dX4_init_7 (by decide) ?_
  obtain ⟨cy_3, hcy_3⟩ : ∃ c9 : ClassId, s.vm.findClass (FieldType.array .int).toString = some c9 := by
    obtain ⟨c9, k9, comp9, h9, -, -⟩ := Cond.arrayClass_spec (hts (.arrayClass .int) (by decide +kernel))
    exact ⟨c9, h9⟩
  refine va_mna (X := [(o0, .inr (4, [.int 0, .int 0, .int 0, .null, .null, .null, .null]))]) (L := []) (f := fun _ => .inr (0, [])) (ty := .int) (N' := 20) (K' := 5) (z := (5, .inl (fun _ => 0))) hx hb hown (hts (.classLink RX4 11 "[[I") (by decide +kernel)) hxaoa_I (hts (.arrayClass .int) (by decide +kernel)) hcy_3 hK hP hD hS hA (by decide) (by decide) (by decide) (by decide) (by decide) (by decide) (by decide) (by decide) (by decide) (Nat.le_of_ble_eq_true rfl) (Nat.le_of_ble_eq_true rfl) (fun c9 => by show ({ cls := c9, slots := Array.replicate 5 (.int 0), vm := .none } : Cell) = _; rw [arrV_new]; rfl) dX4_init_8 (fun q_1 rr_4 cA_2 H hr1 hr2 hK hP hD hS => ?_)
  have hP : va_P (dC, dI) vwCl [(o0, .inr (4, [.int 0, .int 0, .int 0, .null, .null, .null, .null])), (q_1, .inl (cA_2, 20, .inr (.inr (.inr (.inr (fun i => if i < 20 then some (rr_4 i) else none))))))] H := va_P.sub (ws' := [(o0, .inr (4, [.int 0, .int 0, .int 0, .null, .null, .null, .null])), (q_1, .inl (cA_2, 20, .inr (.inr (.inr (.inr (fun i => if i < 20 then some (rr_4 i) else none))))))]) hP [0, 1] rfl
  have hD : va_D A [(o0, .inr (4, [.int 0, .int 0, .int 0, .null, .null, .null, .null])), (q_1, .inl (cA_2, 20, .inr (.inr (.inr (.inr (fun i => if i < 20 then some (rr_4 i) else none))))))] := va_D.sub (ws' := [(o0, .inr (4, [.int 0, .int 0, .int 0, .null, .null, .null, .null])), (q_1, .inl (cA_2, 20, .inr (.inr (.inr (.inr (fun i => if i < 20 then some (rr_4 i) else none))))))]) hD [0, 1] (by decide) rfl
  have hK : va_K (dC, dI) vwCl [(cA_2, .array .int)] s := hK
  refine W.widen (k := 21) (n := 120) (by omega) (by omega) ?_
  refine va_putF (D := (dC, dI)) (ci := 4) (v := .ref q_1) (ty := .array (.array .int)) (C := RX4) (T := TX4) (N := 7) hx hb hts iw_X4_init_X4_c_History_init tyX4 tyX4_ok nmX4 hown hK hP hD hS 0 rfl rfl 3 (by decide) (hts (.fieldLink RX4 13 "NotAtOnce$History" "acts" "[[I") (by decide +kernel)) (fun _ h9 => h9) rfl hin rfl (by decide +kernel) rfl rfl (Nat.le_of_ble_eq_true rfl) dX4_init_12 (fun H locs hP hD hS => ?_)
  have hP : va_P (dC, dI) vwCl [(o0, .inr (4, [.int 0, .int 0, .int 0, .ref q_1, .null, .null, .null])), (q_1, .inl (cA_2, 20, .inr (.inr (.inr (.inr (fun i => if i < 20 then some (rr_4 i) else none))))))] H := hP
  have hD : va_D A [(o0, .inr (4, [.int 0, .int 0, .int 0, .ref q_1, .null, .null, .null])), (q_1, .inl (cA_2, 20, .inr (.inr (.inr (.inr (fun i => if i < 20 then some (rr_4 i) else none))))))] := hD
  refine lv_aload_n hx hb dX4_init_15 rfl (lv_at hl 0 rfl) ?_
  refine lv_bipush (v := 21) hx hb dX4_init_16 (by decide) ?_
  refine lv_bipush (v := 49) hx hb dX4_init_18 (by decide) ?_
  obtain ⟨cy_7, hcy_7⟩ : ∃ c9 : ClassId, s.vm.findClass (FieldType.array .int).toString = some c9 := by
    obtain ⟨c9, k9, comp9, h9, -, -⟩ := Cond.arrayClass_spec (hts (.arrayClass .int) (by decide +kernel))
    exact ⟨c9, h9⟩
  refine va_mna (X := [(o0, .inr (4, [.int 0, .int 0, .int 0, .ref q_1, .null, .null, .null])), (q_1, .inl (cA_2, 20, .inr (.inr (.inr (.inr (fun i => if i < 20 then some (rr_4 i) else none))))))]) (L := []) (f := fun _ => .inr (0, [])) (ty := .int) (N' := 21) (K' := 49) (z := (49, .inl (fun _ => 0))) hx hb hown (hts (.classLink RX4 11 "[[I") (by decide +kernel)) hxaoa_I (hts (.arrayClass .int) (by decide +kernel)) hcy_7 hK hP hD hS hA (by decide) (by decide) (by decide) (by decide) (by decide) (by decide) (by decide) (by decide) (by decide) (Nat.le_of_ble_eq_true rfl) (Nat.le_of_ble_eq_true rfl) (fun c9 => by show ({ cls := c9, slots := Array.replicate 49 (.int 0), vm := .none } : Cell) = _; rw [arrV_new]; rfl) dX4_init_20 (fun q_5 rr_8 cA_6 H hr1 hr2 hK hP hD hS => ?_)
  have hP : va_P (dC, dI) vwCl [(o0, .inr (4, [.int 0, .int 0, .int 0, .ref q_1, .null, .null, .null])), (q_1, .inl (cA_2, 20, .inr (.inr (.inr (.inr (fun i => if i < 20 then some (rr_4 i) else none)))))), (q_5, .inl (cA_6, 21, .inr (.inr (.inr (.inr (fun i => if i < 21 then some (rr_8 i) else none))))))] H := va_P.sub (ws' := [(o0, .inr (4, [.int 0, .int 0, .int 0, .ref q_1, .null, .null, .null])), (q_1, .inl (cA_2, 20, .inr (.inr (.inr (.inr (fun i => if i < 20 then some (rr_4 i) else none)))))), (q_5, .inl (cA_6, 21, .inr (.inr (.inr (.inr (fun i => if i < 21 then some (rr_8 i) else none))))))]) hP [0, 1, 2] rfl
  have hD : va_D A [(o0, .inr (4, [.int 0, .int 0, .int 0, .ref q_1, .null, .null, .null])), (q_1, .inl (cA_2, 20, .inr (.inr (.inr (.inr (fun i => if i < 20 then some (rr_4 i) else none)))))), (q_5, .inl (cA_6, 21, .inr (.inr (.inr (.inr (fun i => if i < 21 then some (rr_8 i) else none))))))] := va_D.sub (ws' := [(o0, .inr (4, [.int 0, .int 0, .int 0, .ref q_1, .null, .null, .null])), (q_1, .inl (cA_2, 20, .inr (.inr (.inr (.inr (fun i => if i < 20 then some (rr_4 i) else none)))))), (q_5, .inl (cA_6, 21, .inr (.inr (.inr (.inr (fun i => if i < 21 then some (rr_8 i) else none))))))]) hD [0, 1, 2] (by decide) rfl
  have hK : va_K (dC, dI) vwCl [(cA_2, .array .int), (cA_6, .array .int)] s := hK
  refine W.widen (k := 43) (n := 1170) (by omega) (by omega) ?_
  refine va_putF (D := (dC, dI)) (ci := 4) (v := .ref q_5) (ty := .array (.array .int)) (C := RX4) (T := TX4) (N := 7) hx hb hts iw_X4_init_X4_c_History_init tyX4 tyX4_ok nmX4 hown hK hP hD hS 0 rfl rfl 4 (by decide) (hts (.fieldLink RX4 18 "NotAtOnce$History" "rows" "[[I") (by decide +kernel)) (fun _ h9 => h9) rfl hin rfl (by decide +kernel) rfl rfl (Nat.le_of_ble_eq_true rfl) dX4_init_24 (fun H locs hP hD hS => ?_)
  have hP : va_P (dC, dI) vwCl [(o0, .inr (4, [.int 0, .int 0, .int 0, .ref q_1, .ref q_5, .null, .null])), (q_1, .inl (cA_2, 20, .inr (.inr (.inr (.inr (fun i => if i < 20 then some (rr_4 i) else none)))))), (q_5, .inl (cA_6, 21, .inr (.inr (.inr (.inr (fun i => if i < 21 then some (rr_8 i) else none))))))] H := hP
  have hD : va_D A [(o0, .inr (4, [.int 0, .int 0, .int 0, .ref q_1, .ref q_5, .null, .null])), (q_1, .inl (cA_2, 20, .inr (.inr (.inr (.inr (fun i => if i < 20 then some (rr_4 i) else none)))))), (q_5, .inl (cA_6, 21, .inr (.inr (.inr (.inr (fun i => if i < 21 then some (rr_8 i) else none))))))] := hD
  refine lv_aload_n hx hb dX4_init_27 rfl (lv_at hl 0 rfl) ?_
  refine lv_iconst (v := 4) hx hb dX4_init_28 (by decide) ?_
  refine lv_bipush (v := 49) hx hb dX4_init_29 (by decide) ?_
  obtain ⟨cy_11, hcy_11⟩ : ∃ c9 : ClassId, s.vm.findClass (FieldType.array .int).toString = some c9 := by
    obtain ⟨c9, k9, comp9, h9, -, -⟩ := Cond.arrayClass_spec (hts (.arrayClass .int) (by decide +kernel))
    exact ⟨c9, h9⟩
  refine va_mna (X := [(o0, .inr (4, [.int 0, .int 0, .int 0, .ref q_1, .ref q_5, .null, .null])), (q_1, .inl (cA_2, 20, .inr (.inr (.inr (.inr (fun i => if i < 20 then some (rr_4 i) else none)))))), (q_5, .inl (cA_6, 21, .inr (.inr (.inr (.inr (fun i => if i < 21 then some (rr_8 i) else none))))))]) (L := []) (f := fun _ => .inr (0, [])) (ty := .int) (N' := 4) (K' := 49) (z := (49, .inl (fun _ => 0))) hx hb hown (hts (.classLink RX4 11 "[[I") (by decide +kernel)) hxaoa_I (hts (.arrayClass .int) (by decide +kernel)) hcy_11 hK hP hD hS hA (by decide) (by decide) (by decide) (by decide) (by decide) (by decide) (by decide) (by decide) (by decide) (Nat.le_of_ble_eq_true rfl) (Nat.le_of_ble_eq_true rfl) (fun c9 => by show ({ cls := c9, slots := Array.replicate 49 (.int 0), vm := .none } : Cell) = _; rw [arrV_new]; rfl) dX4_init_31 (fun q_9 rr_12 cA_10 H hr1 hr2 hK hP hD hS => ?_)
  have hP : va_P (dC, dI) vwCl [(o0, .inr (4, [.int 0, .int 0, .int 0, .ref q_1, .ref q_5, .null, .null])), (q_1, .inl (cA_2, 20, .inr (.inr (.inr (.inr (fun i => if i < 20 then some (rr_4 i) else none)))))), (q_5, .inl (cA_6, 21, .inr (.inr (.inr (.inr (fun i => if i < 21 then some (rr_8 i) else none)))))), (q_9, .inl (cA_10, 4, .inr (.inr (.inr (.inr (fun i => if i < 4 then some (rr_12 i) else none))))))] H := va_P.sub (ws' := [(o0, .inr (4, [.int 0, .int 0, .int 0, .ref q_1, .ref q_5, .null, .null])), (q_1, .inl (cA_2, 20, .inr (.inr (.inr (.inr (fun i => if i < 20 then some (rr_4 i) else none)))))), (q_5, .inl (cA_6, 21, .inr (.inr (.inr (.inr (fun i => if i < 21 then some (rr_8 i) else none)))))), (q_9, .inl (cA_10, 4, .inr (.inr (.inr (.inr (fun i => if i < 4 then some (rr_12 i) else none))))))]) hP [0, 1, 2, 3] rfl
  have hD : va_D A [(o0, .inr (4, [.int 0, .int 0, .int 0, .ref q_1, .ref q_5, .null, .null])), (q_1, .inl (cA_2, 20, .inr (.inr (.inr (.inr (fun i => if i < 20 then some (rr_4 i) else none)))))), (q_5, .inl (cA_6, 21, .inr (.inr (.inr (.inr (fun i => if i < 21 then some (rr_8 i) else none)))))), (q_9, .inl (cA_10, 4, .inr (.inr (.inr (.inr (fun i => if i < 4 then some (rr_12 i) else none))))))] := va_D.sub (ws' := [(o0, .inr (4, [.int 0, .int 0, .int 0, .ref q_1, .ref q_5, .null, .null])), (q_1, .inl (cA_2, 20, .inr (.inr (.inr (.inr (fun i => if i < 20 then some (rr_4 i) else none)))))), (q_5, .inl (cA_6, 21, .inr (.inr (.inr (.inr (fun i => if i < 21 then some (rr_8 i) else none)))))), (q_9, .inl (cA_10, 4, .inr (.inr (.inr (.inr (fun i => if i < 4 then some (rr_12 i) else none))))))]) hD [0, 1, 2, 3] (by decide) rfl
  have hK : va_K (dC, dI) vwCl [(cA_2, .array .int), (cA_6, .array .int), (cA_10, .array .int)] s := hK
  refine W.widen (k := 48) (n := 1370) (by omega) (by omega) ?_
  refine va_putF (D := (dC, dI)) (ci := 4) (v := .ref q_9) (ty := .array (.array .int)) (C := RX4) (T := TX4) (N := 7) hx hb hts iw_X4_init_X4_c_History_init tyX4 tyX4_ok nmX4 hown hK hP hD hS 0 rfl rfl 5 (by decide) (hts (.fieldLink RX4 21 "NotAtOnce$History" "marked" "[[I") (by decide +kernel)) (fun _ h9 => h9) rfl hin rfl (by decide +kernel) rfl rfl (Nat.le_of_ble_eq_true rfl) dX4_init_35 (fun H locs hP hD hS => ?_)
  have hP : va_P (dC, dI) vwCl [(o0, .inr (4, [.int 0, .int 0, .int 0, .ref q_1, .ref q_5, .ref q_9, .null])), (q_1, .inl (cA_2, 20, .inr (.inr (.inr (.inr (fun i => if i < 20 then some (rr_4 i) else none)))))), (q_5, .inl (cA_6, 21, .inr (.inr (.inr (.inr (fun i => if i < 21 then some (rr_8 i) else none)))))), (q_9, .inl (cA_10, 4, .inr (.inr (.inr (.inr (fun i => if i < 4 then some (rr_12 i) else none))))))] H := hP
  have hD : va_D A [(o0, .inr (4, [.int 0, .int 0, .int 0, .ref q_1, .ref q_5, .ref q_9, .null])), (q_1, .inl (cA_2, 20, .inr (.inr (.inr (.inr (fun i => if i < 20 then some (rr_4 i) else none)))))), (q_5, .inl (cA_6, 21, .inr (.inr (.inr (.inr (fun i => if i < 21 then some (rr_8 i) else none)))))), (q_9, .inl (cA_10, 4, .inr (.inr (.inr (.inr (fun i => if i < 4 then some (rr_12 i) else none))))))] := hD
  refine lv_aload_n hx hb dX4_init_38 rfl (lv_at hl 0 rfl) ?_
  refine lv_aload_n hx hb dX4_init_39 rfl (lv_at hl 1 rfl) ?_
  refine va_putF (D := (dC, dI)) (ci := 4) (v := .ref tb) (ty := .object "NotAtOnce$Table") (C := RX4) (T := TX4) (N := 7) hx hb hts iw_X4_init_X4_c_History_init tyX4 tyX4_ok nmX4 hown hK hP hD hS 0 rfl rfl 6 (by decide) (hts (.fieldLink RX4 24 "NotAtOnce$History" "table" "LNotAtOnce$Table;") (by decide +kernel)) (fun _ h9 => h9) rfl hin rfl (by decide +kernel) rfl rfl (Nat.le_of_ble_eq_true rfl) dX4_init_40 (fun H locs hP hD hS => ?_)
  have hP : va_P (dC, dI) vwCl [(o0, .inr (4, [.int 0, .int 0, .int 0, .ref q_1, .ref q_5, .ref q_9, .ref tb])), (q_1, .inl (cA_2, 20, .inr (.inr (.inr (.inr (fun i => if i < 20 then some (rr_4 i) else none)))))), (q_5, .inl (cA_6, 21, .inr (.inr (.inr (.inr (fun i => if i < 21 then some (rr_8 i) else none)))))), (q_9, .inl (cA_10, 4, .inr (.inr (.inr (.inr (fun i => if i < 4 then some (rr_12 i) else none))))))] H := hP
  have hD : va_D A [(o0, .inr (4, [.int 0, .int 0, .int 0, .ref q_1, .ref q_5, .ref q_9, .ref tb])), (q_1, .inl (cA_2, 20, .inr (.inr (.inr (.inr (fun i => if i < 20 then some (rr_4 i) else none)))))), (q_5, .inl (cA_6, 21, .inr (.inr (.inr (.inr (fun i => if i < 21 then some (rr_8 i) else none)))))), (q_9, .inl (cA_10, 4, .inr (.inr (.inr (.inr (fun i => if i < 4 then some (rr_12 i) else none))))))] := hD
  have hP9 := hP.sub (ws' := [(o0, .inr (4, [.int 0, .int 0, .int 0, .ref q_1, .ref q_5, .ref q_9, .ref tb]))]) [0] rfl
  have hD9 := hD.sub (ws' := [(o0, .inr (4, [.int 0, .int 0, .int 0, .ref q_1, .ref q_5, .ref q_9, .ref tb]))]) [0] (by decide) rfl
  have hK9 := hK.sub (tys' := []) [] rfl
  refine W.widen (k := 48) (n := 1370) (Nat.le_of_ble_eq_true rfl) (Nat.le_of_ble_eq_true rfl) ?_
  exact W.vret hx hb hr (fun t ht hW => ⟨⟨(), rfl, trivial, q_1, q_5, q_9, by rw [ht]; exact hP9, va_K.moved hW.alike hK9, hD9⟩, hS.F ht⟩) hS.2.2 dX4_init_43
