/-! frames that may throw, over the small machine -/
abbrev tQ : Type := (Nat × Nat) × (Room → State → Code → Prop) × (List Frame → Array Value → State → State → Prop)
def TE (g : gT) (u : uT) (pc : Nat) (lv st : List Value) (h : mh_T) (Q : tQ) : Prop :=
  ∀ (p : Program) (e : Env) (R : Room) (s : State) (m : MethodId) (args : Array Value) (below : List Frame) (meth : Method) (c : Code) (H : Heap) (locs : List Loc) (ls : Array Slot),
    Q.2.1 R s c → MX g u p R s m args meth c H locs ls lv h → W p (gl g) e R s m args below meth c H locs Q.1.1 Q.1.2 (Q.2.2 below args s) (F0 m pc ls (st.map (tv g)))

theorem te_iconst {g : gT} {u : uT} {pc : Nat} {lv st : List Value} {h : mh_T} {Q : tQ} {n : Int} {v : Int32} (hd : decode u.2.1 pc = .ok (.iconst n, 1)) (hv : Int32.ofInt n = v) (k : TE g u (pc + 1) lv (.int v :: st) h Q) : TE g u pc lv st h Q := by
  intro p e R s m args below meth c H locs ls hR X
  exact lv_iconst X.1 X.2.1 hd hv (k p e R s m args below meth c H locs ls hR X)
theorem te_iload_n {g : gT} {u : uT} {pc : Nat} {lv st : List Value} {h : mh_T} {Q : tQ} {k : Fin 4} {x : Int32} (hd : decode u.2.1 pc = .ok (.iload_n k, 1)) (hl : lv[(k : Nat)]? = some (.int x)) (kk : TE g u (pc + 1) lv (.int x :: st) h Q) : TE g u pc lv st h Q := by
  intro p e R s m args below meth c H locs ls hR X
  obtain ⟨l, h1, h2⟩ := X.2.2.2.2.2.2.2.2.2.2.2.2.1
  exact lv_iload_n X.1 X.2.1 hd rfl (h1.2.2 _ (h2 _ _ hl (by intro e; cases e))) (kk p e R s m args below meth c H locs ls hR X)
theorem te_aload_n {g : gT} {u : uT} {pc : Nat} {lv st : List Value} {h : mh_T} {Q : tQ} {k : Fin 4} {x : Nat} (hd : decode u.2.1 pc = .ok (.aload_n k, 1)) (hl : lv[(k : Nat)]? = some (.ref x)) (kk : TE g u (pc + 1) lv (.ref x :: st) h Q) : TE g u pc lv st h Q := by
  intro p e R s m args below meth c H locs ls hR X
  obtain ⟨l, h1, h2⟩ := X.2.2.2.2.2.2.2.2.2.2.2.2.1
  exact lv_aload_n X.1 X.2.1 hd rfl (h1.2.2 _ (h2 _ _ hl (by intro e; cases e))) (kk p e R s m args below meth c H locs ls hR X)
theorem te_ixor {g : gT} {u : uT} {pc : Nat} {lv st : List Value} {h : mh_T} {Q : tQ} {x y : Int32} (hd : decode u.2.1 pc = .ok (.ixor, 1))  (k : TE g u (pc + 1) lv (.int (x ^^^ y) :: st) h Q) : TE g u pc lv (.int y :: .int x :: st) h Q := by
  intro p e R s m args below meth c H locs ls hR X
  exact lv_ixor X.1 X.2.1 hd  (k p e R s m args below meth c H locs ls hR X)
theorem te_iand {g : gT} {u : uT} {pc : Nat} {lv st : List Value} {h : mh_T} {Q : tQ} {x y : Int32} (hd : decode u.2.1 pc = .ok (.iand, 1))  (k : TE g u (pc + 1) lv (.int (x &&& y) :: st) h Q) : TE g u pc lv (.int y :: .int x :: st) h Q := by
  intro p e R s m args below meth c H locs ls hR X
  exact lv_iand X.1 X.2.1 hd  (k p e R s m args below meth c H locs ls hR X)
theorem te_istore_n {g : gT} {u : uT} {pc : Nat} {lv st : List Value} {h : mh_T} {Q : tQ} {k : Fin 4} {x : Int32} {lv' : List Value} (hd : decode u.2.1 pc = .ok (.istore_n k, 1)) (hn : (k : Nat) < u.2.2.1) (hl : setL lv (k : Nat) (.int x) = lv') (hf : lvF lv = true) (kk : TE g u (pc + 1) lv' st h Q) : TE g u pc lv (.int x :: st) h Q := by
  intro p e R s m args below meth c H locs ls hR X
  obtain ⟨x1, x2, x3, x4, x5, x6, x7, x8, x9, x10, x11, x12, ⟨l, h1, h2⟩, x14⟩ := X
  refine lv_istore_n (lv' := _) x1 x2 hd rfl h1 hn rfl (fun ls' hl' => kk p e R s m args below meth c H locs ls' hR ⟨x1, x2, x3, x4, x5, x6, x7, x8, x9, x10, x11, x12, ⟨_, hl', ?_⟩, x14⟩)
  intro j w hj hw
  subst hl
  rcases setL_get hj hw with ⟨q1, q2⟩ | ⟨q1, q2, q3⟩
  · subst q1; subst q2; exact List.mem_cons_self
  · refine List.mem_cons_of_mem _ (List.mem_filter.mpr ⟨h2 j w q2 hw, ?_⟩)
    simp only [Bool.and_eq_true, Bool.not_eq_true', beq_eq_false_iff_ne, ne_eq, Bool.and_eq_false_iff]
    refine ⟨q1, ?_⟩
    by_cases hji : j + 1 = (k : Nat)
    · right
      intro hc
      exact q3 ⟨hji, tv_cat2 hc (lvF_nd hf q2)⟩
    · left; exact hji
theorem te_if_lt {g : gT} {u : uT} {pc : Nat} {lv st : List Value} {h : mh_T} {Q : tQ} {x : Int32} {off : Int} (tgt : Nat) (hd : decode u.2.1 pc = .ok (.ifCond .lt off, 3)) (ht : (pc : Int) + off = (tgt : Int)) (kt : x < 0 → TE g u tgt lv st h Q) (kf : ¬ x < 0 → TE g u (pc + 3) lv st h Q) : TE g u pc lv (.int x :: st) h Q := by
  intro p e R s m args below meth c H locs ls hR X
  exact lv_if_lt X.1 X.2.1 hd ht (fun q => kt q p e R s m args below meth c H locs ls hR X) (fun q => kf q p e R s m args below meth c H locs ls hR X)
theorem te_icmp_lt {g : gT} {u : uT} {pc : Nat} {lv st : List Value} {h : mh_T} {Q : tQ} {x y : Int32} {off : Int} (tgt : Nat) (hd : decode u.2.1 pc = .ok (.if_icmp .lt off, 3)) (ht : (pc : Int) + off = (tgt : Int)) (kt : x < y → TE g u tgt lv st h Q) (kf : ¬ x < y → TE g u (pc + 3) lv st h Q) : TE g u pc lv (.int y :: .int x :: st) h Q := by
  intro p e R s m args below meth c H locs ls hR X
  exact lv_icmp_lt X.1 X.2.1 hd ht (fun q => kt q p e R s m args below meth c H locs ls hR X) (fun q => kf q p e R s m args below meth c H locs ls hR X)
theorem te_goto {g : gT} {u : uT} {pc : Nat} {lv st : List Value} {h : mh_T} {Q : tQ} {off : Int} (tgt : Nat) (hd : decode u.2.1 pc = .ok (.goto off, 3)) (ht : (pc : Int) + off = (tgt : Int)) (k : TE g u tgt lv st h Q) : TE g u pc lv st h Q := by
  intro p e R s m args below meth c H locs ls hR X
  exact lv_goto X.1 X.2.1 hd ht (k p e R s m args below meth c H locs ls hR X)
theorem te_i2l {g : gT} {u : uT} {pc : Nat} {lv st : List Value} {h : mh_T} {Q : tQ} {x : Int32} (hd : decode u.2.1 pc = .ok (.i2l, 1))  (k : TE g u (pc + 1) lv (.long (x.toInt64) :: st) h Q) : TE g u pc lv (.int x :: st) h Q := by
  intro p e R s m args below meth c H locs ls hR X
  exact lv_i2l X.1 X.2.1 hd rfl (k p e R s m args below meth c H locs ls hR X)
theorem te_getR {g : gT} {u : uT} {pc : Nat} {lv st : List Value} {h : mh_T} {Q : tQ} {index : Nat} {ref : String} {k ci n j : Nat} {ts : List Nat} {q : vw_C} {k' : Nat} (hd : decode u.2.1 pc = .ok (.getfield index, 3)) (hs : shp k = (ci, n, ts)) (h12 : ci < 12) (hk : k < 141) (hc : vwCl[ci]? = some q) (hq : q.2.2 = (fty ci).length) (hin : ∀ w ∈ u_ws q.1 q.2.1 q.2.2, w ∈ lw_tbl) (hgw : (u_ws q.1 q.2.1 q.2.2).all goodWord = true) (hlink : Cond.fieldLink u.1 index ref (q.2.1 j).2.1 (q.2.1 j).2.2.1 ∈ lw_tbl) (hre : (q.2.1 j).1 = ref) (hj : (fty ci)[j]? = some 2) (ht : ts.getD j 0 = k') (hk' : k' < 141) (kk : TE g u (pc + 3) lv (.ref k' :: st) h Q) : TE g u pc lv (.ref k :: st) h Q := by
  intro p e R s m args below meth c H locs ls hR X
  have hlt : j < (fty ci).length := (List.getElem?_eq_some_iff.mp hj).1
  obtain ⟨C, T, N⟩ := q
  have hP := X.2.2.2.2.2.2.2.2.1
  show W p (gl g) e R s m args below meth c H locs Q.1.1 Q.1.2 _ (F0 m pc ls (.ref (gad g k) :: st.map (tv g)))
  rw [gad_lt g hk]
  refine va_get (ci := ci) (v := .ref (gad g k')) (Ts := lw_tbl.filter goodWord) (ref := ref) X.1 X.2.1 (m_ws X) (fun w hw => List.mem_filter.mpr ⟨hin w hw, List.all_eq_true.mp hgw w hw⟩) X.2.2.2.2.2.1 X.2.2.2.2.2.2.2.1 hP k (fs := fldL g h k ci ts) (by rw [mw_at g h hk, ent_o hs h12]) hc j (by rw [show N = _ from hq]; exact hlt) (X.2.2.2.2.2.2.1 _ hlink rfl) (fun x hx => by rw [← hre]; exact hx) (by rw [fldL_at hj, gad_lt g hk', ← ht]; rfl) hd (kk p e R s m args below meth c H locs ls hR X)
theorem te_lastore {g : gT} {u : uT} {pc : Nat} {lv st : List Value} {h : mh_T} {Q : tQ} {k n : Nat} {ts : List Nat} {i : Int32} {v : Int64} (hd : decode u.2.1 pc = .ok (.lastore, 1)) (hs : shp k = (22, n, ts)) (hk : k < 141) (hi : vp_in i n) (kk : TE g u (pc + 1) lv st (wL h k i.toNatClampNeg v) Q) : TE g u pc lv (.long v :: .int i :: .ref k :: st) h Q := by
  intro p e R s m args below meth c H locs ls hR X
  obtain ⟨x1, x2, x3, x4, x5, x6, x7, x8, x9, x10, x11, x12, x13, x14⟩ := id X
  show W p (gl g) e R s m args below meth c H locs Q.1.1 Q.1.2 _ (F0 m pc ls (.long v :: .int i :: .ref (gad g k) :: st.map (tv g)))
  rw [gad_lt g hk]
  refine va_last x1 x2 x8 x9 (mw_D x10 h) x11 k 2 (by rw [mw_at g h hk, ent_l hs]) rfl hi hd (fun H1 locs1 hP1 _ hS1 => ?_)
  refine kk p e R s m args below meth c H1 locs1 ls hR ⟨x1, x2, x3, x4, x5, x6, x7, x8, ?_, x10, hS1, x12, x13, x14⟩
  rw [← mw_set (h := h) (h' := wL h k i.toNatClampNeg v) hk (ent_ne wL_off.1 wL_off.2.1 wL_off.2.2), ent_l hs]
  refine cast (congrArg (fun z => va_P (gD g) vwCl ((mw g h).set k (gr g k, z)) H1) ?_) hP1
  congr 5
  funext b
  show vp_updL (h.2.1 k) i.toNatClampNeg v b = if k = k ∧ b = i.toNatClampNeg then v else h.2.1 k b
  simp [vp_updL]
theorem te_after {g : gT} {u : uT} {p : Program} {e : Env} {R : Room} {s : State} {m : MethodId} {args : Array Value} {below : List Frame} {meth : Method} {c : Code} {H : Heap} {locs : List Loc} {ls : Array Slot} {pc : Nat} {lv st : List Value} {st0 : List Value} {h : mh_T} {Q : tQ} {a : Array Value}
    (hR : Q.2.1 R s c) (X : MX g u p R s m args meth c H locs ls lv h)
    (hr : va_Run p (gl g) e R s m args below meth c H locs Q.1.1 Q.1.2 0 0 (F0 m pc ls st0) (st.map (tv g)) (mQ g (fun v h' => TE g u (pc + 3) lv (v.toList ++ st) h' Q) a) (gA g)) :
    W p (gl g) e R s m args below meth c H locs Q.1.1 Q.1.2 (Q.2.2 below args s) (F0 m pc ls st0) := by
  intro T hT XT
  obtain ⟨v, s0, t, T', L, h0, X', hL, e1, e2, ⟨v', h', ev, hq, hP, hF⟩, go⟩ := hr T hT XT
  cases ev
  obtain ⟨x1, x2, x3, x4, x5, x6, x7, x8, x9, x10, x11, x12, x13, x14⟩ := X
  obtain ⟨tt, b1, b2⟩ := hq p e R s m args below meth c T'.heap (locs ++ L) ls hR ⟨x1, x2, x3, x4, x5, x6, x7, x8, by rw [e1]; exact hP, x10, by rw [e1]; exact va_S_call x11 h0 hF hL, x12, x13, x14⟩ T' rfl X'
  refine ⟨tt, go tt ?_, b2⟩
  have e : (v'.toList ++ st).map (tv g) = (v'.map (tv g)).toList ++ st.map (tv g) := by cases v' <;> simp
  rw [e] at b1
  exact b1
theorem te_callV {g : gT} {u : uT} {pc index n : Nat} {lv st As : List Value} {h : mh_T} {Q : tQ} {y : MethodName} {u' : uT} {k ci nn : Nat} {ts : List Nat} {q : vw_C}
    (hd : decode u.2.1 pc = .ok (.invokevirtual index, 3)) (hL : mLk u.1 index y u' n) (hi : Cond.instanceMethod y ∈ lw_tbl) (hse : Cond.selects q.1 y y ∈ lw_tbl) (hs : shp k = (ci, nn, ts)) (hc : vwCl[ci]? = some q) (h12 : ci < 12) (hk : k < 141) (hn : As.length = n) (hK : u'.2.2.2.2 < u.2.2.2.2) (hq : ∀ R s c, Q.2.1 R s c → Q.1.1 ≤ R.cells ∧ Q.1.2 ≤ R.slots) (hst : (st.map fun v => v.category).sum ≤ 8)
    (hM : MC g y u' (.ref k :: As) h (fun v h' => TE g u (pc + 3) lv (v.toList ++ st) h' Q)) : TE g u pc lv (As.reverse ++ .ref k :: st) h Q := by
  intro p e R s m args below meth c H locs ls hR X
  have hcat : ∀ l : List Value, ((l.map (tv g)).map fun v => v.category).sum = (l.map fun v => v.category).sum := by
    intro l
    induction l with
    | nil => rfl
    | cons a l ih =>
      simp only [List.map_cons, List.sum_cons, ih]
      rw [tv_cat]
  refine te_after (st := st) hR X (va_runV (As := As.map (tv g)) (b := gad g k) (C := q.1) (n := n) (m_fix X) hM ⟨m_callB X hL hK, X.2.2.2.2.2.2.1 _ hi rfl, X.2.2.2.2.2.2.1 _ hse rfl⟩ ⟨mPc_blind g _ h, m_recv X hs hc hk h12, m_pre X (.ref k :: As)⟩ rfl (by rw [List.length_map]; exact hn) (m_lsz X.2.2.2.2.2.2.2.2.2.2.2.2.1) ?_ (lv_room (by rw [hcat]; exact hst)) hd (hq R s c hR))
  show ((As.reverse ++ .ref k :: st).map (tv g)) = _
  rw [List.map_append, List.map_reverse]
  rfl
theorem te_callS {g : gT} {u : uT} {pc index n : Nat} {lv st As : List Value} {h : mh_T} {Q : tQ} {y : MethodName} {u' : uT}
    (hd : decode u.2.1 pc = .ok (.invokestatic index, 3)) (hL : mLk u.1 index y u' n) (hi : Cond.static y ∈ lw_tbl) (hn : As.length = n) (hK : u'.2.2.2.2 < u.2.2.2.2) (hq : ∀ R s c, Q.2.1 R s c → Q.1.1 ≤ R.cells ∧ Q.1.2 ≤ R.slots) (hst : (st.map fun v => v.category).sum ≤ 8)
    (hM : MC g y u' As h (fun v h' => TE g u (pc + 3) lv (v.toList ++ st) h' Q)) : TE g u pc lv (As.reverse ++ st) h Q := by
  intro p e R s m args below meth c H locs ls hR X
  have hcat : ∀ l : List Value, ((l.map (tv g)).map fun v => v.category).sum = (l.map fun v => v.category).sum := by
    intro l
    induction l with
    | nil => rfl
    | cons a l ih =>
      simp only [List.map_cons, List.sum_cons, ih]
      rw [tv_cat]
  refine te_after (st := st) hR X (va_runS (As := As.map (tv g)) (n := n) (m_fix X) hM ⟨m_callB X hL hK, X.2.2.2.2.2.2.1 _ hi rfl⟩ ⟨mPc_blind g _ h, m_pre X As⟩ rfl (by rw [List.length_map]; exact hn) (m_lsz X.2.2.2.2.2.2.2.2.2.2.2.2.1) ?_ (lv_room (by rw [hcat]; exact hst)) hd (hq R s c hR))
  show ((As.reverse ++ st).map (tv g)) = _
  rw [List.map_append, List.map_reverse]
theorem TCi_go {g : gT} {y : MethodName} {u u2 : uT} {As lv st : List Value} {h : mh_T} {pc : Nat} {P : Int32 → mh_T → Prop} {Q : tQ} (hM : MCi g y u As h P) (hk : ∀ r h', P r h' → TE g u2 pc lv (.int r :: st) h' Q) : MC g y u As h (fun v h' => TE g u2 pc lv (v.toList ++ st) h' Q) :=
  MC_mono hM (fun v h' q => by obtain ⟨r, q1, q2⟩ := q; subst q1; exact hk r h' q2)
