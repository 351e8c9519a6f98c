/-! the small machine: what stays over calls -/
theorem mXC_same {g : gT} {U V : State} (hh : V.heap = U.heap) (hv : V.vm = U.vm) (h : mXC g U) : mXC g V := by
  obtain ⟨a1, a2, a3, a4, a5, a6, a7, a8, a9⟩ := h
  have al : U.vm.Alike V.vm := by rw [hv]; exact Vm.Alike.refl _
  unfold mXC
  rw [hh]
  exact ⟨a1.moved al, fun q hq => (a2 q hq).same hv, a3.moved al, a4, a5, a6.same rfl hv.symm, a7.moved al, a8.moved al, a9.moved al⟩
theorem mXC_go {g : gT} {s U : State} {H : Heap} {locs : List Loc} (hS : va_S (gA g) s.heap H locs) (hU : U.heap = H) (hW : s.WarmedH U.vm) (h : mXC g s) : mXC g U := by
  obtain ⟨a1, a2, a3, a4, a5, a6, a7, a8, a9⟩ := h
  have al := hW.alike
  have hq : ∀ a : Nat, a < s.heap.size → ¬ gA g a → U.heap[a]? = s.heap[a]? := fun a h1 h2 => by rw [hU]; exact hS.2.1 a h1 h2
  refine ⟨(a1.kept hq).moved al, fun q hq => (a2 q hq).warm hW, (a3.kept (hq _ a4 a5)).moved al, ?_, a5, a6.warmM hW, (a7.kept hq).moved al, a8.moved al, (a9.kept hq).moved al⟩
  rw [hU]
  exact Nat.lt_of_lt_of_le a4 hS.1
theorem mPc_blind (g : gT) (As : List Value) (h : mh_T) : FrameBlind (mPc g As h) := by
  intro a U f mk hp
  obtain ⟨h1, h2, h3, h4, h5⟩ := hp
  exact ⟨h1, va_K.moved (Vm.Alike.refl U.vm) h2, h3, h4, mXC_same (U := U) rfl rfl h5⟩
theorem va_S_call {A : Nat → Prop} {H0 : Heap} {st t : State} {locs L : List Loc} {H : Heap} (hS : va_S A H0 H locs) (h0 : st.heap = H) (hF : va_F A st t) (hL : ∀ q ∈ L, A q.base) : va_S A H0 t.heap (locs ++ L) := by
  obtain ⟨s1, s2, s3⟩ := hS
  obtain ⟨f1, f2⟩ := hF
  rw [h0] at f1 f2
  refine ⟨Nat.le_trans s1 f1, fun q hq hA => ?_, fun q hq => ?_⟩
  · rw [f2 q (Nat.lt_of_lt_of_le hq s1) hA]
    exact s2 q hq hA
  · rcases List.mem_append.mp hq with h | h
    · exact s3 q h
    · exact hL q h
/-- good words -/
theorem m_good {y : MethodName} {u : uT} (hc : Cond.code y u.2.1 u.2.2.1 u.2.2.2.1 ∈ lw_tbl) : GoodIn (lw_tbl.filter goodWord) (mWs y u) := by
  intro w hw
  rcases List.mem_cons.mp hw with h | h
  · subst h
    refine ⟨List.mem_filter.mpr ⟨hc, ?_⟩, good_of_word ?_⟩ <;> first | rfl | simp [goodWord, Cond.onTables, Cond.keeps, Cond.steady]
  · exact ⟨h, good_of_word (List.mem_filter.mp h).2⟩
/-- how a call goes on -/
theorem m_after {g : gT} {u : uT} {p : Program} {e : Env} {R : Room} {s : State} {m : MethodId} {args : Array Value} {below : List Frame} {meth : Method} {c : Code} {H : Heap} {locs : List Loc} {ls : Array Slot} {pc : Nat} {lv st : List Value} {st0 : List Value} {h : mh_T} {Q : Option Value → mh_T → Prop} {a : Array Value}
    (X : MX g u p R s m args meth c H locs ls lv h)
    (hr : va_Run p (gl g) e R s m args below meth c H locs 0 0 0 0 (F0 m pc ls st0) (st.map (tv g)) (mQ g (fun v h' => ME g u (pc + 3) lv (v.toList ++ st) h' Q) a) (gA g)) :
    W p (gl g) e R s m args below meth c H locs 0 0 (MQ below (mQ g Q) args s 0 0 (gA g)) (F0 m pc ls st0) := by
  intro T hT XT
  obtain ⟨v, s0, t, T', L, h0, X', hL, e1, e2, ⟨v', h', ev, hq, hP, hF⟩, go⟩ := hr T hT XT
  cases ev
  obtain ⟨x1, x2, x3, x4, x5, x6, x7, x8, x9, x10, x11, x12, x13, x14⟩ := X
  obtain ⟨tt, b1, b2⟩ := hq p e R s m args below meth c T'.heap (locs ++ L) ls ⟨x1, x2, x3, x4, x5, x6, x7, x8, by rw [e1]; exact hP, x10, by rw [e1]; exact va_S_call x11 h0 hF hL, x12, x13, x14⟩ T' rfl X'
  refine ⟨tt, go tt ?_, b2⟩
  have e : (v'.toList ++ st).map (tv g) = (v'.map (tv g)).toList ++ st.map (tv g) := by cases v' <;> simp
  rw [e] at b1
  exact b1
theorem m_ws {g : gT} {u : uT} {p : Program} {R : Room} {s : State} {m : MethodId} {args : Array Value} {meth : Method} {c : Code} {H : Heap} {locs : List Loc} {ls : Array Slot} {lv : List Value} {h : mh_T} (X : MX g u p R s m args meth c H locs ls lv h) : ∀ w ∈ lw_tbl.filter goodWord, w.before args s = true := by
  intro w hw
  obtain ⟨h1, h2⟩ := List.mem_filter.mp hw
  exact X.2.2.2.2.2.2.1 w h1 h2
theorem m_pre {g : gT} {u : uT} {p : Program} {R : Room} {s : State} {m : MethodId} {args : Array Value} {meth : Method} {c : Code} {H : Heap} {locs : List Loc} {ls : Array Slot} {lv : List Value} {h : mh_T} (X : MX g u p R s m args meth c H locs ls lv h) (As : List Value) : ∀ U : State, U.heap = H → s.WarmedH U.vm → mPc g As h (As.map (tv g)).toArray U := by
  intro U hU hW
  obtain ⟨x1, x2, x3, x4, x5, x6, x7, x8, x9, x10, x11, x12, x13, x14⟩ := X
  exact ⟨rfl, va_K.moved hW.alike x8, by rw [hU]; exact x9, x10, mXC_go x11 hU hW x14⟩
theorem m_room {K K' maxL : Nat} {R : Room} (hK : K' < K) (hm : maxL ≤ 45) (hR : K ≤ R.frames ∧ 64 * K ≤ R.locals) : (mRm K').frames + 1 ≤ R.frames ∧ 8 + (maxL + 11) + (mRm K').locals ≤ R.locals := by
  unfold mRm
  dsimp only
  omega
/-- a link of a method: what the tables say of it, by places -/
def mLk (own : String) (index : Nat) (y : MethodName) (u : uT) (n : Nat) : Prop :=
  Cond.code y u.2.1 u.2.2.1 u.2.2.2.1 ∈ lw_tbl ∧ Cond.methodLink own index y ∈ lw_tbl ∧ Cond.initialized y.cls ∈ lw_tbl ∧ (y.cls ≠ "java/lang/invoke/MethodHandle" ∧ y.cls ≠ "java/lang/invoke/VarHandle" ∧ (parseMethodDescriptor y.desc).map (fun d => d.parameters.length) = some n) ∧ u.2.2.1 ≤ 45
theorem m_callB {g : gT} {u u' : uT} {p : Program} {R : Room} {s : State} {m : MethodId} {args : Array Value} {meth : Method} {c : Code} {H : Heap} {locs : List Loc} {ls : Array Slot} {lv : List Value} {h : mh_T} {y : MethodName} {index n : Nat} (X : MX g u p R s m args meth c H locs ls lv h) (hL : mLk u.1 index y u' n) (hK : u'.2.2.2.2 < u.2.2.2.2) :
    CallB R s args u.1 index y u'.2.1 u'.2.2.1 u'.2.2.2.1 (mWs y u') (mRm u'.2.2.2.2) 0 0 n := by
  obtain ⟨h1, h2, h3, h4, h5⟩ := hL
  have hw := m_ws X
  exact callB_of n hw (m_good h1) rfl rfl rfl (X.2.2.2.2.2.2.1 _ h3 rfl) (X.2.2.2.2.2.2.1 _ h2 rfl) h4 (m_room hK h5 X.2.2.2.2.2.2.2.2.2.2.2.1)
theorem m_fix {g : gT} {u : uT} {p : Program} {R : Room} {s : State} {m : MethodId} {args : Array Value} {meth : Method} {c : Code} {H : Heap} {locs : List Loc} {ls : Array Slot} {lv : List Value} {h : mh_T} (X : MX g u p R s m args meth c H locs ls lv h) : CallFix p m c u.2.1 u.2.2.1 s args (lw_tbl.filter goodWord) u.1 := ⟨X.1, X.2.1, X.2.2.1, X.2.2.2.2.2.1, m_ws X⟩
theorem m_lsz {g : gT} {n : Nat} {lv : List Value} {ls : Array Slot} (h : lR g n lv ls) : ls.size = n := by
  obtain ⟨l, h1, -⟩ := h
  exact h1.1
/-- a receiver of the world -/
theorem m_recv {g : gT} {u : uT} {p : Program} {R : Room} {s : State} {m : MethodId} {args : Array Value} {meth : Method} {c : Code} {H : Heap} {locs : List Loc} {ls : Array Slot} {lv : List Value} {h : mh_T} (X : MX g u p R s m args meth c H locs ls lv h) {k ci n : Nat} {ts : List Nat} {q : vw_C} (hs : shp k = (ci, n, ts)) (hc : vwCl[ci]? = some q) (hk : k < 141) (h12 : ci < 12) : ∃ cell : Cell, H[gad g k]? = some cell ∧ cell.vm.isStatics = false ∧ s.vm.findClass q.1 = some cell.cls := by
  have e : gad g k = gr g k := by unfold gad; rw [if_pos (by omega)]
  rw [e]
  refine va_recv (q0 := k) (fs := fldL g h k ci ts) X.2.2.2.2.2.2.2.1 X.2.2.2.2.2.2.2.2.1 hc ?_
  rw [mw_at g h hk]
  unfold ent
  rw [hs]
  dsimp only
  rw [if_pos h12]
theorem m_callV {g : gT} {u : uT} {pc index n : Nat} {lv st As : List Value} {h : mh_T} {Q : Option Value → mh_T → Prop} {y : MethodName} {u' : uT} {k ci nn : Nat} {ts : List Nat} {q : vw_C}
    (hd : decode u.2.1 pc = .ok (.invokevirtual index, 3)) (hL : mLk u.1 index y u' n) (hi : Cond.instanceMethod y ∈ lw_tbl) (hse : Cond.selects q.1 y y ∈ lw_tbl) (hs : shp k = (ci, nn, ts)) (hc : vwCl[ci]? = some q) (h12 : ci < 12) (hk : k < 141) (hn : As.length = n) (hK : u'.2.2.2.2 < u.2.2.2.2) (hst : (st.map fun v => v.category).sum ≤ 8)
    (hM : MC g y u' (.ref k :: As) h (fun v h' => ME g u (pc + 3) lv (v.toList ++ st) h' Q)) : ME g u pc lv (As.reverse ++ .ref k :: st) h Q := by
  intro p e R s m args below meth c H locs ls X
  have hcat : ∀ l : List Value, ((l.map (tv g)).map fun v => v.category).sum = (l.map fun v => v.category).sum := by
    intro l
    induction l with
    | nil => rfl
    | cons a l ih =>
      simp only [List.map_cons, List.sum_cons, ih]
      rw [tv_cat]
  refine m_after (st := st) X (va_runV (As := As.map (tv g)) (b := gad g k) (C := q.1) (n := n) (m_fix X) hM ⟨m_callB X hL hK, X.2.2.2.2.2.2.1 _ hi rfl, X.2.2.2.2.2.2.1 _ hse rfl⟩ ⟨mPc_blind g _ h, m_recv X hs hc hk h12, m_pre X (.ref k :: As)⟩ rfl (by rw [List.length_map]; exact hn) (m_lsz X.2.2.2.2.2.2.2.2.2.2.2.2.1) ?_ (lv_room (by rw [hcat]; exact hst)) hd ⟨Nat.zero_le _, Nat.zero_le _⟩)
  show ((As.reverse ++ .ref k :: st).map (tv g)) = _
  rw [List.map_append, List.map_reverse]
  rfl
theorem m_callS {g : gT} {u : uT} {pc index n : Nat} {lv st As : List Value} {h : mh_T} {Q : Option Value → mh_T → Prop} {y : MethodName} {u' : uT}
    (hd : decode u.2.1 pc = .ok (.invokestatic index, 3)) (hL : mLk u.1 index y u' n) (hi : Cond.static y ∈ lw_tbl) (hn : As.length = n) (hK : u'.2.2.2.2 < u.2.2.2.2) (hst : (st.map fun v => v.category).sum ≤ 8)
    (hM : MC g y u' As h (fun v h' => ME g u (pc + 3) lv (v.toList ++ st) h' Q)) : ME g u pc lv (As.reverse ++ st) h Q := by
  intro p e R s m args below meth c H locs ls X
  have hcat : ∀ l : List Value, ((l.map (tv g)).map fun v => v.category).sum = (l.map fun v => v.category).sum := by
    intro l
    induction l with
    | nil => rfl
    | cons a l ih =>
      simp only [List.map_cons, List.sum_cons, ih]
      rw [tv_cat]
  refine m_after (st := st) X (va_runS (As := As.map (tv g)) (n := n) (m_fix X) hM ⟨m_callB X hL hK, X.2.2.2.2.2.2.1 _ hi rfl⟩ ⟨mPc_blind g _ h, m_pre X As⟩ rfl (by rw [List.length_map]; exact hn) (m_lsz X.2.2.2.2.2.2.2.2.2.2.2.2.1) ?_ (lv_room (by rw [hcat]; exact hst)) hd ⟨Nat.zero_le _, Nat.zero_le _⟩)
  show ((As.reverse ++ st).map (tv g)) = _
  rw [List.map_append, List.map_reverse]
/-- a method's start -/
def lvE (As : List Value) (n : Nat) : List Value := (As.flatMap (fun v => if v.category = 2 then [v, .retAddr 0] else [v])) ++ List.replicate (n - (As.flatMap (fun v => if v.category = 2 then [v, .retAddr 0] else [v])).length) (.retAddr 0)
theorem lv_args_mem (g : gT) : ∀ (As : List Value) (b i : Nat) (v : Value), (As.flatMap (fun v => if v.category = 2 then [v, .retAddr 0] else [v]))[i]? = some v → v ≠ .retAddr 0 → (b + i, tv g v) ∈ lv_args b (As.map (tv g)) := by
  intro As
  induction As with
  | nil => intro b i v h; simp at h
  | cons a As ih =>
    intro b i v h hv
    have hc : (tv g a).category = a.category := tv_cat g a
    simp only [List.flatMap_cons, List.map_cons, lv_args, hc] at h ⊢
    by_cases h2 : a.category = 2
    · rw [if_pos h2] at h
      rw [if_pos h2]
      match i, h with
      | 0, h => cases h; exact List.mem_cons_self
      | 1, h => cases h; exact absurd rfl hv
      | i + 2, h =>
        have := ih (b + 2) i v (by simpa using h) hv
        rw [show b + (i + 2) = b + 2 + i by omega]
        exact List.mem_cons_of_mem _ this
    · rw [if_neg h2] at h
      rw [if_neg h2]
      match i, h with
      | 0, h => cases h; exact List.mem_cons_self
      | i + 1, h =>
        have := ih (b + 1) i v (by simpa using h) hv
        rw [show b + (i + 1) = b + 1 + i by omega]
        exact List.mem_cons_of_mem _ this
theorem lg_sl_len (g : gT) : ∀ As : List Value, (lg_sl (As.map (tv g))).length = (As.flatMap (fun v => if v.category = 2 then [v, .retAddr 0] else [v])).length := by
  intro As
  induction As with
  | nil => rfl
  | cons a As ih =>
    have hc : (tv g a).category = a.category := tv_cat g a
    unfold lg_sl at ih ⊢
    simp only [List.map_cons, List.flatMap_cons, List.length_append, ih, hc]
    by_cases h2 : a.category = 2
    · rw [if_pos h2, if_pos h2]; rfl
    · rw [if_neg h2, if_neg h2]; rfl
theorem m_enter {g : gT} {y : MethodName} {own : String} {cc : ByteArray} {maxL K : Nat} {ret : Option FieldType} {As lv : List Value} {h : mh_T} {Q : Option Value → mh_T → Prop} (hp : plainName y.cls = true) (ho : y.cls = own) (hlen : (As.flatMap (fun v => if v.category = 2 then [v, .retAddr 0] else [v])).length ≤ maxL) (hlv : lvE As maxL = lv)
    (hM : ME g (own, cc, maxL, ret, K) 0 lv [] h Q) : MC g y (own, cc, maxL, ret, K) As h Q := by
  refine Met.ofW (cc := cc) (maxL := maxL) (ret := ret) hp rfl ?_
  intro p e s m args below meth c s₁ B hml hv
  obtain ⟨rfl, hK, hP, hg, hX⟩ := hv
  have hts := atoms_spec (ws := mWs y (own, cc, maxL, ret, K)) B.pre
  have hown : s.vm.findClass y.cls = some m.cls := findClass_of_methodNamed B.named
  rw [ho] at hown
  have hl := lv_entry (As.map (tv g)) (n := maxL) (by rw [lg_sl_len]; exact hlen)
  rw [lg_entry_eq]
  generalize (lg_sl (As.map (tv g)) ++ List.replicate (maxL - (lg_sl (As.map (tv g))).length) Slot.unset).toArray = ls at hl ⊢
  refine hM p e _ s m _ below meth c s.heap [] ls ⟨B.exec, B.bytes, hml, B.returns, B.notSynchronized, hown, fun w h1 h2 => hts w (List.mem_cons_of_mem _ (List.mem_filter.mpr ⟨h1, h2⟩)), hK, hP, hg, va_S.rf, ⟨Nat.le_refl _, Nat.le_refl _⟩, ⟨_, hl, ?_⟩, hX⟩
  intro i v hi hv
  subst hlv
  unfold lvE at hi
  by_cases hlt : i < (As.flatMap (fun v => if v.category = 2 then [v, .retAddr 0] else [v])).length
  · rw [List.getElem?_append_left hlt] at hi
    have := lv_args_mem g As 0 i v hi hv
    rwa [Nat.zero_add] at this
  · rw [List.getElem?_append_right (by omega)] at hi
    have := List.mem_of_getElem? hi
    exact absurd (List.eq_of_mem_replicate this) hv
/-- ends -/
theorem m_ireturn {g : gT} {u : uT} {pc : Nat} {lv : List Value} {h : mh_T} {Q : Option Value → mh_T → Prop} {v : Int32} {ty : FieldType} (hd : decode u.2.1 pc = .ok (.ireturn, 1)) (hr : u.2.2.2.1 = some ty) (hn : narrow ty (.int v) = .int v) (hq : Q (some (.int v)) h) : ME g u pc lv [.int v] h Q := by
  intro p e R s m args below meth c H locs ls X
  refine W.zret (ty := ty) X.1 X.2.1 (by rw [X.2.2.2.1]; exact hr) hn (fun t ht _ => ⟨some (.int v), h, rfl, hq, by rw [ht]; exact X.2.2.2.2.2.2.2.2.1, X.2.2.2.2.2.2.2.2.2.2.1.F ht⟩) X.2.2.2.2.2.2.2.2.2.2.1.2.2 hd X.2.2.2.2.1
theorem m_lreturn {g : gT} {u : uT} {pc : Nat} {lv : List Value} {h : mh_T} {Q : Option Value → mh_T → Prop} {v : Int64} (hd : decode u.2.1 pc = .ok (.lreturn, 1)) (hr : u.2.2.2.1 = some .long) (hq : Q (some (.long v)) h) : ME g u pc lv [.long v] h Q := by
  intro p e R s m args below meth c H locs ls X
  refine W.lret X.1 X.2.1 (by rw [X.2.2.2.1]; exact hr) (fun t ht _ => ⟨some (.long v), h, rfl, hq, by rw [ht]; exact X.2.2.2.2.2.2.2.2.1, X.2.2.2.2.2.2.2.2.2.2.1.F ht⟩) X.2.2.2.2.2.2.2.2.2.2.1.2.2 hd X.2.2.2.2.1
theorem m_return {g : gT} {u : uT} {pc : Nat} {lv : List Value} {h : mh_T} {Q : Option Value → mh_T → Prop} (hd : decode u.2.1 pc = .ok (.return_, 1)) (hr : u.2.2.2.1 = none) (hq : Q none h) : ME g u pc lv [] h Q := by
  intro p e R s m args below meth c H locs ls X
  refine W.vret X.1 X.2.1 (by rw [X.2.2.2.1]; exact hr) (fun t ht _ => ⟨none, h, rfl, hq, by rw [ht]; exact X.2.2.2.2.2.2.2.2.1, X.2.2.2.2.2.2.2.2.2.2.1.F ht⟩) X.2.2.2.2.2.2.2.2.2.2.1.2.2 hd X.2.2.2.2.1
