/-! the small machine: ends by kinds, calls by kinds -/
def qI (P : Int32 → mh_T → Prop) : Option Value → mh_T → Prop := fun v h => ∃ r, v = some (.int r) ∧ P r h
def qL (P : Int64 → mh_T → Prop) : Option Value → mh_T → Prop := fun v h => ∃ r, v = some (.long r) ∧ P r h
def qV (P : mh_T → Prop) : Option Value → mh_T → Prop := fun v h => v = none ∧ P h
def MCi (g : gT) (y : MethodName) (u : uT) (As : List Value) (h : mh_T) (P : Int32 → mh_T → Prop) : Prop := MC g y u As h (qI P)
def MCl (g : gT) (y : MethodName) (u : uT) (As : List Value) (h : mh_T) (P : Int64 → mh_T → Prop) : Prop := MC g y u As h (qL P)
def MCv (g : gT) (y : MethodName) (u : uT) (As : List Value) (h : mh_T) (P : mh_T → Prop) : Prop := MC g y u As h (qV P)
theorem MC_mono {g : gT} {y : MethodName} {u : uT} {As : List Value} {h : mh_T} {Q1 Q2 : Option Value → mh_T → Prop} (hM : MC g y u As h Q1) (hq : ∀ v h', Q1 v h' → Q2 v h') : MC g y u As h Q2 := by
  intro p e a1 a2 a3 s m args below b1 b2 b3 b4
  obtain ⟨n, o, c1, c2, c3, ⟨⟨v, h', d1, d2, d3⟩, d4⟩⟩ := hM p e a1 a2 a3 s m args below b1 b2 b3 b4
  exact ⟨n, o, c1, c2, c3, ⟨⟨v, h', d1, hq v h' d2, d3⟩, d4⟩⟩
theorem MCi_go {g : gT} {y : MethodName} {u u2 : uT} {As lv st : List Value} {h : mh_T} {pc : Nat} {P : Int32 → mh_T → Prop} {Q : Option Value → mh_T → Prop} (hM : MCi g y u As h P) (hk : ∀ r h', P r h' → ME g u2 pc lv (.int r :: st) h' Q) : MC g y u As h (fun v h' => ME g u2 pc lv (v.toList ++ st) h' Q) :=
  MC_mono hM (fun v h' q => by obtain ⟨r, q1, q2⟩ := q; subst q1; exact hk r h' q2)
theorem MCl_go {g : gT} {y : MethodName} {u u2 : uT} {As lv st : List Value} {h : mh_T} {pc : Nat} {P : Int64 → mh_T → Prop} {Q : Option Value → mh_T → Prop} (hM : MCl g y u As h P) (hk : ∀ r h', P r h' → ME g u2 pc lv (.long r :: st) h' Q) : MC g y u As h (fun v h' => ME g u2 pc lv (v.toList ++ st) h' Q) :=
  MC_mono hM (fun v h' q => by obtain ⟨r, q1, q2⟩ := q; subst q1; exact hk r h' q2)
theorem MCv_go {g : gT} {y : MethodName} {u u2 : uT} {As lv st : List Value} {h : mh_T} {pc : Nat} {P : mh_T → Prop} {Q : Option Value → mh_T → Prop} (hM : MCv g y u As h P) (hk : ∀ h', P h' → ME g u2 pc lv st h' Q) : MC g y u As h (fun v h' => ME g u2 pc lv (v.toList ++ st) h' Q) :=
  MC_mono hM (fun v h' q => by obtain ⟨q1, q2⟩ := q; subst q1; exact hk h' q2)
theorem m_iret {g : gT} {u : uT} {pc : Nat} {lv : List Value} {h : mh_T} {P : Int32 → mh_T → Prop} {v : Int32} (hd : decode u.2.1 pc = .ok (.ireturn, 1)) (hr : u.2.2.2.1 = some .int) (hq : P v h) : ME g u pc lv [.int v] h (qI P) := m_ireturn hd hr rfl ⟨v, rfl, hq⟩
theorem m_zret {g : gT} {u : uT} {pc : Nat} {lv : List Value} {h : mh_T} {P : Int32 → mh_T → Prop} {v : Int32} (hd : decode u.2.1 pc = .ok (.ireturn, 1)) (hr : u.2.2.2.1 = some .boolean) (hz : v = 0 ∨ v = 1) (hq : P v h) : ME g u pc lv [.int v] h (qI P) := m_ireturn hd hr (by rcases hz with e | e <;> subst e <;> decide) ⟨v, rfl, hq⟩
theorem m_cret {g : gT} {u : uT} {pc : Nat} {lv : List Value} {h : mh_T} {P : Int32 → mh_T → Prop} {v : Int32} {ty : FieldType} (hd : decode u.2.1 pc = .ok (.ireturn, 1)) (hr : u.2.2.2.1 = some ty) (hz : narrow ty (.int v) = .int v) (hq : P v h) : ME g u pc lv [.int v] h (qI P) := m_ireturn hd hr hz ⟨v, rfl, hq⟩
theorem m_lret {g : gT} {u : uT} {pc : Nat} {lv : List Value} {h : mh_T} {P : Int64 → mh_T → Prop} {v : Int64} (hd : decode u.2.1 pc = .ok (.lreturn, 1)) (hr : u.2.2.2.1 = some .long) (hq : P v h) : ME g u pc lv [.long v] h (qL P) := m_lreturn hd hr ⟨v, rfl, hq⟩
theorem m_vret {g : gT} {u : uT} {pc : Nat} {lv : List Value} {h : mh_T} {P : mh_T → Prop} (hd : decode u.2.1 pc = .ok (.return_, 1)) (hr : u.2.2.2.1 = none) (hq : P h) : ME g u pc lv [] h (qV P) := m_return hd hr ⟨rfl, hq⟩
theorem shp_lt {k kd n : Nat} {ts : List Nat} (h : shp k = (kd, n, ts)) (hk : kd ≠ 99) : k < 141 := by
  rcases Nat.lt_or_ge k 141 with q | q
  · exact q
  · exfalso
    have : shp k = (99, 0, []) := by
      unfold shp
      rw [List.getD_eq_getElem?_getD, List.getElem?_eq_none (by show 141 ≤ k; exact q)]
      rfl
    rw [this] at h
    cases h
    exact hk rfl
theorem shp_62 : ∀ i, i < 34 → shp (62 + i) = (22, 65, []) := by decide
theorem ts_28 : ∀ i, i < 34 → ((shp 28).2.2).getD i 0 = 62 + i := by decide
theorem ts_42 : ∀ i, i < 4 → ((shp 42).2.2).getD i 0 = 137 + i := by decide
theorem vp_lt {i : Int32} {n : Nat} (h : vp_in i n) : i.toNatClampNeg < n := Nat.not_le.mp fun q => h (Or.inr q)
theorem m_aald28 {g : gT} {u : uT} {pc : Nat} {lv st : List Value} {h : mh_T} {Q : Option Value → mh_T → Prop} {i : Int32} (hd : decode u.2.1 pc = .ok (.aaload, 1)) (hi : vp_in i 34) (kk : ME g u (pc + 1) lv (.ref (62 + i.toNatClampNeg) :: st) h Q) : ME g u pc lv (.int i :: .ref 28 :: st) h Q :=
  m_aaloadS hd (Or.inl (show shp 28 = (23, 34, (shp 28).2.2) from rfl)) (by decide) hi (ts_28 _ (vp_lt hi)) (by have := vp_lt hi; omega) kk
theorem m_aald42 {g : gT} {u : uT} {pc : Nat} {lv st : List Value} {h : mh_T} {Q : Option Value → mh_T → Prop} {i : Int32} (hd : decode u.2.1 pc = .ok (.aaload, 1)) (hi : vp_in i 4) (kk : ME g u (pc + 1) lv (.ref (137 + i.toNatClampNeg) :: st) h Q) : ME g u pc lv (.int i :: .ref 42 :: st) h Q :=
  m_aaloadS hd (Or.inr (show shp 42 = (24, 4, (shp 42).2.2) from rfl)) (by decide) hi (ts_42 _ (vp_lt hi)) (by have := vp_lt hi; omega) kk
theorem m_aaldD {g : gT} {u : uT} {pc : Nat} {lv st : List Value} {h : mh_T} {Q : Option Value → mh_T → Prop} {k n kd n' : Nat} {ts ts' : List Nat} {i : Int32} (hd : decode u.2.1 pc = .ok (.aaload, 1)) (hs : shp k = (25, n, ts)) (hi : vp_in i n) (hk' : shp (mR h k i.toNatClampNeg) = (kd, n', ts')) (h99 : kd ≠ 99) (kk : ME g u (pc + 1) lv (.ref (mR h k i.toNatClampNeg) :: st) h Q) : ME g u pc lv (.int i :: .ref k :: st) h Q :=
  m_aaloadD hd hs (shp_lt hs (by decide)) hi (shp_lt hk' h99) kk
theorem drop_get : ∀ (ks : List Nat) (lv : List Value) (i : Nat) (v : Value), (ks.foldl (fun l k => l.set k (.retAddr 0)) lv)[i]? = some v → v ≠ .retAddr 0 → lv[i]? = some v := by
  intro ks
  induction ks with
  | nil => intro lv i v h _; exact h
  | cons k ks ih =>
    intro lv i v h hv
    have h1 := ih (lv.set k (.retAddr 0)) i v h hv
    by_cases hik : i = k
    · subst hik
      exact absurd (set_self_eq h1) hv
    · rwa [List.getElem?_set_ne (Ne.symm hik)] at h1
theorem m_dropK {g : gT} {u : uT} {pc : Nat} {lv lv' st : List Value} {h : mh_T} {Q : Option Value → mh_T → Prop} (ks : List Nat) (hl : ks.foldl (fun l k => l.set k (.retAddr 0)) lv = lv') (k : ME g u pc lv' st h Q) : ME g u pc lv st h Q := by
  intro p e R s m args below meth c H locs ls X
  obtain ⟨x1, x2, x3, x4, x5, x6, x7, x8, x9, x10, x11, x12, ⟨l, h1, h2⟩, x14⟩ := X
  refine k p e R s m args below meth c H locs ls ⟨x1, x2, x3, x4, x5, x6, x7, x8, x9, x10, x11, x12, ⟨l, h1, fun i v hi hv => ?_⟩, x14⟩
  subst hl
  exact h2 i v (drop_get ks lv i v hi hv) hv
theorem m_mmax {g : gT} {u : uT} {pc : Nat} {lv st : List Value} {h : mh_T} {Q : Option Value → mh_T → Prop} {index : Nat} {x y : Int32} (hd : decode u.2.1 pc = .ok (.invokestatic index, 3)) (hl : Cond.methodLink u.1 index Lib.Math.max.name ∈ lw_tbl) (hsta : Cond.static Lib.Math.max.name ∈ lw_tbl) (hini : Cond.initialized "java/lang/Math" ∈ lw_tbl) (hco : Cond.code Lib.Math.max.name Lib.Math.max.code 2 (some .int) ∈ lw_tbl) (hK : 0 < u.2.2.2.2) (hst : (st.map fun v => v.category).sum ≤ 8) (k : ME g u (pc + 3) lv (.int (if x < y then y else x) :: st) h Q) : ME g u pc lv (.int y :: .int x :: st) h Q := by
  intro p e R s m args below meth c H locs ls X
  obtain ⟨x1, x2, x3, x4, x5, x6, x7, x8, x9, x10, x11, x12, x13, x14⟩ := id X
  exact va_mmax x1 x2 (x3.trans (m_lsz x13).symm) x6 (x7 _ hl rfl) (x7 _ hsta rfl) (x7 _ hini rfl) (x7 _ hco (by first | rfl | simp [goodWord, Cond.onTables, Cond.keeps, Cond.steady])) (by omega) (by rw [tv_cats]; omega) (Nat.zero_le _) (Nat.zero_le _) hd (k p e R s m args below meth c H locs ls X)
theorem m_mmin {g : gT} {u : uT} {pc : Nat} {lv st : List Value} {h : mh_T} {Q : Option Value → mh_T → Prop} {index : Nat} {x y : Int32} (hd : decode u.2.1 pc = .ok (.invokestatic index, 3)) (hl : Cond.methodLink u.1 index Lib.Math.min.name ∈ lw_tbl) (hsta : Cond.static Lib.Math.min.name ∈ lw_tbl) (hini : Cond.initialized "java/lang/Math" ∈ lw_tbl) (hco : Cond.code Lib.Math.min.name Lib.Math.min.code 2 (some .int) ∈ lw_tbl) (hK : 0 < u.2.2.2.2) (hst : (st.map fun v => v.category).sum ≤ 8) (k : ME g u (pc + 3) lv (.int (if y < x then y else x) :: st) h Q) : ME g u pc lv (.int y :: .int x :: st) h Q := by
  intro p e R s m args below meth c H locs ls X
  obtain ⟨x1, x2, x3, x4, x5, x6, x7, x8, x9, x10, x11, x12, x13, x14⟩ := id X
  exact va_mmin x1 x2 (x3.trans (m_lsz x13).symm) x6 (x7 _ hl rfl) (x7 _ hsta rfl) (x7 _ hini rfl) (x7 _ hco (by first | rfl | simp [goodWord, Cond.onTables, Cond.keeps, Cond.steady])) (by omega) (by rw [tv_cats]; omega) (Nat.zero_le _) (Nat.zero_le _) hd (k p e R s m args below meth c H locs ls X)
theorem m_mabs {g : gT} {u : uT} {pc : Nat} {lv st : List Value} {h : mh_T} {Q : Option Value → mh_T → Prop} {index : Nat} {x : Int32} (hd : decode u.2.1 pc = .ok (.invokestatic index, 3)) (hl : Cond.methodLink u.1 index Lib.Math.abs.name ∈ lw_tbl) (hsta : Cond.static Lib.Math.abs.name ∈ lw_tbl) (hini : Cond.initialized "java/lang/Math" ∈ lw_tbl) (hco : Cond.code Lib.Math.abs.name Lib.Math.abs.code 1 (some .int) ∈ lw_tbl) (hK : 0 < u.2.2.2.2) (hst : (st.map fun v => v.category).sum ≤ 8) (k : ME g u (pc + 3) lv (.int (if 0 ≤ x then x else 0 - x) :: st) h Q) : ME g u pc lv (.int x :: st) h Q := by
  intro p e R s m args below meth c H locs ls X
  obtain ⟨x1, x2, x3, x4, x5, x6, x7, x8, x9, x10, x11, x12, x13, x14⟩ := id X
  exact va_mabs x1 x2 (x3.trans (m_lsz x13).symm) x6 (x7 _ hl rfl) (x7 _ hsta rfl) (x7 _ hini rfl) (x7 _ hco (by first | rfl | simp [goodWord, Cond.onTables, Cond.keeps, Cond.steady])) (by omega) (by rw [tv_cats]; omega) (Nat.zero_le _) (Nat.zero_le _) hd (k p e R s m args below meth c H locs ls X)
