theorem va_RA_1 {U : State} {c d : ClassId} {t : FieldType} (ht : ∀ C, t ≠ .object C) (h1 : va_RA U c t) (h2 : va_RA U d t) : c = d := by
  unfold va_RA at h1 h2
  cases t with
  | object C => exact absurd rfl (ht C)
  | _ => exact Option.some.inj (h1.symm.trans h2)
def lw_At (p : Program) (s : State) (m : MethodId) (meth : Method) (c : Code) (b L : Nat) (xs : Nat → Int32) : Prop :=
  p.tables.exec = Jvm.exec ∧ c.code = code ∧ meth.sig.returnType = ret ∧ c.maxLocals = 7 ∧ s.vm.findClass R_law = some m.cls ∧ (∀ w ∈ lw_tbl, w.before #[Value.ref b] s = true) ∧ va_X b L xs s s.heap ∧ b < s.heap.size ∧ meth.locks = false ∧ (Jvm.Cond.and given_1 narrow_1).before #[Value.ref b] s = true
