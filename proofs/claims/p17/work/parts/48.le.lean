/-! the law's frame over the small machine -/
def R_law : String := "NotAtOnceLaw"
def lw_P (b : Addr) (xs : List Int32) (args : Array Value) (s : State) : Prop := args = #[.ref b] ∧ s.IntsAt b xs ∧ xs.length ≤ 3584 ∧ (Jvm.Cond.and given_1 narrow_1).before args s = true
def lw_Q (_ : Array Value) (s : State) (o : Outcome) (t : State) : Prop := o = .returned (some (.int 1)) ∧ Framed s o t [] 601024 7293034
def lw_Z (below : List Frame) (a : Array Value) (s : State) : State → Prop := fun t => ∃ o, t.status = .running ∧ Ended t below o ∧ lw_Q a s o t
/-- the law's own end, with 1 on the stack, nothing written that was there before, its room as the claim has it -/
theorem lw_ret {p : Program} {l : Launch} {e : Env} {s : State} {m : MethodId} {below : List Frame} {meth : Method} {c : Code} {args : Array Value} (hx : p.tables.exec = Jvm.exec) (hb : c.code = code) (hr : meth.sig.returnType = ret) (hlocks : meth.locks = false) {pc : Nat} {H : Heap} {ls : Array Slot} (hdg : decode code pc = .ok (.ireturn, 1)) : W p l e room_1 s m args below meth c H [] 601024 7293034 (lw_Z below args s) (F0 m pc ls [.int 1]) := by
  intro T hT X
  obtain ⟨fs, hret, hrun, hended, hW, hframe⟩ := X.leave (v := some (.int 1)) (hlocks := hlocks) (fun h => by rw [hr] at h; cases h)
  have hmeth' : T.vm.method? m = some meth := X.method'
  refine ⟨T.setFrames fs, ?_, .returned (some (.int 1)), hrun, hended, rfl, ⟨_, rfl⟩, hW, hframe⟩
  jvm_step X.here [X.here.top, hx, hb, hdg, hmeth', hr, ret, narrow_b1]
  (try refine ⟨rfl, ?_⟩); (try refine ⟨rfl, ?_⟩)
  first | (intro acts; rw [hret _ acts rfl rfl rfl]) | rw [hret _ _ rfl rfl rfl]
  exact Steps.refl _
/-- what led's throw needs of the start -/
def XL (g : gT) (R : Room) (s : State) : Prop := R = room_1 ∧ (gl g).stackTraces = false ∧ (∃ sa : Nat, vk_R RX10 339 "no such outcome" sa s) ∧ va_Nw (.castable "java/util/NoSuchElementException" "java/util/NoSuchElementException") s ∧ va_Nw (.declares (Bundle.initS "java/lang/RuntimeException")) s ∧ va_Nw (.declares (Bundle.initS "java/lang/Exception")) s ∧ va_Nw (.declares (Bundle.initS "java/lang/Throwable")) s ∧ vx_Zq Bundle.tN "UNASSIGNED_STACK" Bundle.steD (gA g) s s.heap ∧ vx_Zq Bundle.tN "SUPPRESSED_SENTINEL" Bundle.listD (gA g) s s.heap ∧ ∀ q : Nat, gA g q → s.heap.size ≤ q
def LE (g : gT) (u : uT) (pc : Nat) (lv st : List Value) (h : mh_T) (Q : Nat × Nat) : Prop :=
  ∀ (p : Program) (e : Env) (R : Room) (s : State) (m : MethodId) (args : Array Value) (below : List Frame) (meth : Method) (c : Code) (H : Heap) (locs : List Loc) (ls : Array Slot),
    XL g R s → MX g u p R s m args meth c H locs ls lv h → W p (gl g) e R s m args below meth c H locs Q.1 Q.2 (lw_Z below args s) (F0 m pc ls (st.map (tv g)))
abbrev uL : uT := (RL, cL_law, 7, ret, 1000)

theorem l_iconst {g : gT} {u : uT} {pc : Nat} {lv st : List Value} {h : mh_T} {Q : Nat × Nat} {n : Int} {v : Int32} (hd : decode u.2.1 pc = .ok (.iconst n, 1)) (hv : Int32.ofInt n = v) (k : LE g u (pc + 1) lv (.int v :: st) h Q) : LE g u pc lv st h Q := by
  intro p e R s m args below meth c H locs ls hR X
  exact lv_iconst X.1 X.2.1 hd hv (k p e R s m args below meth c H locs ls hR X)
theorem l_bipush {g : gT} {u : uT} {pc : Nat} {lv st : List Value} {h : mh_T} {Q : Nat × Nat} {n : Int} {v : Int32} (hd : decode u.2.1 pc = .ok (.bipush n, 2)) (hv : (Int8.ofInt n).toInt32 = v) (k : LE g u (pc + 2) lv (.int v :: st) h Q) : LE g u pc lv st h Q := by
  intro p e R s m args below meth c H locs ls hR X
  exact lv_bipush X.1 X.2.1 hd hv (k p e R s m args below meth c H locs ls hR X)
theorem l_iload {g : gT} {u : uT} {pc : Nat} {lv st : List Value} {h : mh_T} {Q : Nat × Nat} {i : Nat} {x : Int32} (hd : decode u.2.1 pc = .ok (.iload i, 2)) (hl : lv[i]? = some (.int x)) (kk : LE g u (pc + 2) lv (.int x :: st) h Q) : LE g u pc lv st h Q := by
  intro p e R s m args below meth c H locs ls hR X
  obtain ⟨l, h1, h2⟩ := X.2.2.2.2.2.2.2.2.2.2.2.2.1
  exact lv_iload X.1 X.2.1 hd (h1.2.2 _ (h2 _ _ hl (by intro e; cases e))) (kk p e R s m args below meth c H locs ls hR X)
theorem l_aload_n {g : gT} {u : uT} {pc : Nat} {lv st : List Value} {h : mh_T} {Q : Nat × Nat} {k : Fin 4} {x : Nat} (hd : decode u.2.1 pc = .ok (.aload_n k, 1)) (hl : lv[(k : Nat)]? = some (.ref x)) (kk : LE g u (pc + 1) lv (.ref x :: st) h Q) : LE g u pc lv st h Q := by
  intro p e R s m args below meth c H locs ls hR X
  obtain ⟨l, h1, h2⟩ := X.2.2.2.2.2.2.2.2.2.2.2.2.1
  exact lv_aload_n X.1 X.2.1 hd rfl (h1.2.2 _ (h2 _ _ hl (by intro e; cases e))) (kk p e R s m args below meth c H locs ls hR X)
theorem l_iadd {g : gT} {u : uT} {pc : Nat} {lv st : List Value} {h : mh_T} {Q : Nat × Nat} {x y : Int32} (hd : decode u.2.1 pc = .ok (.iadd, 1))  (k : LE g u (pc + 1) lv (.int (x + y) :: st) h Q) : LE g u pc lv (.int y :: .int x :: st) h Q := by
  intro p e R s m args below meth c H locs ls hR X
  exact lv_iadd X.1 X.2.1 hd  (k p e R s m args below meth c H locs ls hR X)
theorem l_isub {g : gT} {u : uT} {pc : Nat} {lv st : List Value} {h : mh_T} {Q : Nat × Nat} {x y : Int32} (hd : decode u.2.1 pc = .ok (.isub, 1))  (k : LE g u (pc + 1) lv (.int (x - y) :: st) h Q) : LE g u pc lv (.int y :: .int x :: st) h Q := by
  intro p e R s m args below meth c H locs ls hR X
  exact lv_isub X.1 X.2.1 hd  (k p e R s m args below meth c H locs ls hR X)
theorem l_iand {g : gT} {u : uT} {pc : Nat} {lv st : List Value} {h : mh_T} {Q : Nat × Nat} {x y : Int32} (hd : decode u.2.1 pc = .ok (.iand, 1))  (k : LE g u (pc + 1) lv (.int (x &&& y) :: st) h Q) : LE g u pc lv (.int y :: .int x :: st) h Q := by
  intro p e R s m args below meth c H locs ls hR X
  exact lv_iand X.1 X.2.1 hd  (k p e R s m args below meth c H locs ls hR X)
theorem l_pop {g : gT} {u : uT} {pc : Nat} {lv st : List Value} {h : mh_T} {Q : Nat × Nat} {va : Value} (hd : decode u.2.1 pc = .ok (.pop, 1)) (hva : va.category = 1) (k : LE g u (pc + 1) lv st h Q) : LE g u pc lv (va :: st) h Q := by
  intro p e R s m args below meth c H locs ls hR X
  exact lv_pop X.1 X.2.1 hd (by rw [tv_cat]; exact hva) (k p e R s m args below meth c H locs ls hR X)
theorem l_goto {g : gT} {u : uT} {pc : Nat} {lv st : List Value} {h : mh_T} {Q : Nat × Nat} {off : Int} (tgt : Nat) (hd : decode u.2.1 pc = .ok (.goto off, 3)) (ht : (pc : Int) + off = (tgt : Int)) (k : LE g u tgt lv st h Q) : LE g u pc lv st h Q := by
  intro p e R s m args below meth c H locs ls hR X
  exact lv_goto X.1 X.2.1 hd ht (k p e R s m args below meth c H locs ls hR X)
theorem l_icmp_gt {g : gT} {u : uT} {pc : Nat} {lv st : List Value} {h : mh_T} {Q : Nat × Nat} {x y : Int32} {off : Int} (tgt : Nat) (hd : decode u.2.1 pc = .ok (.if_icmp .gt off, 3)) (ht : (pc : Int) + off = (tgt : Int)) (kt : y < x → LE g u tgt lv st h Q) (kf : ¬ y < x → LE g u (pc + 3) lv st h Q) : LE g u pc lv (.int y :: .int x :: st) h Q := by
  intro p e R s m args below meth c H locs ls hR X
  exact lv_icmp_gt X.1 X.2.1 hd ht (fun q => kt q p e R s m args below meth c H locs ls hR X) (fun q => kf q p e R s m args below meth c H locs ls hR X)
theorem l_icmp_eq {g : gT} {u : uT} {pc : Nat} {lv st : List Value} {h : mh_T} {Q : Nat × Nat} {x y : Int32} {off : Int} (tgt : Nat) (hd : decode u.2.1 pc = .ok (.if_icmp .eq off, 3)) (ht : (pc : Int) + off = (tgt : Int)) (kt : x = y → LE g u tgt lv st h Q) (kf : ¬ x = y → LE g u (pc + 3) lv st h Q) : LE g u pc lv (.int y :: .int x :: st) h Q := by
  intro p e R s m args below meth c H locs ls hR X
  exact lv_icmp_eq X.1 X.2.1 hd ht (fun q => kt q p e R s m args below meth c H locs ls hR X) (fun q => kf q p e R s m args below meth c H locs ls hR X)
theorem l_if_eq {g : gT} {u : uT} {pc : Nat} {lv st : List Value} {h : mh_T} {Q : Nat × Nat} {x : Int32} {off : Int} (tgt : Nat) (hd : decode u.2.1 pc = .ok (.ifCond .eq off, 3)) (ht : (pc : Int) + off = (tgt : Int)) (kt : x = 0 → LE g u tgt lv st h Q) (kf : ¬ x = 0 → LE g u (pc + 3) lv st h Q) : LE g u pc lv (.int x :: st) h Q := by
  intro p e R s m args below meth c H locs ls hR X
  exact lv_if_eq X.1 X.2.1 hd ht (fun q => kt q p e R s m args below meth c H locs ls hR X) (fun q => kf q p e R s m args below meth c H locs ls hR X)
theorem l_istore {g : gT} {u : uT} {pc : Nat} {lv st : List Value} {h : mh_T} {Q : Nat × Nat} {i : Nat} {x : Int32} {lv' : List Value} (hd : decode u.2.1 pc = .ok (.istore i, 2)) (hn : i < u.2.2.1) (hl : setL lv i (.int x) = lv') (hf : lvF lv = true) (kk : LE g u (pc + 2) lv' st h Q) : LE g u pc lv (.int x :: st) h Q := by
  intro p e R s m args below meth c H locs ls hR X
  obtain ⟨x1, x2, x3, x4, x5, x6, x7, x8, x9, x10, x11, x12, ⟨l, h1, h2⟩, x14⟩ := X
  refine lv_istore (lv' := _) x1 x2 hd h1 hn rfl (fun ls' hl' => kk p e R s m args below meth c H locs ls' hR ⟨x1, x2, x3, x4, x5, x6, x7, x8, x9, x10, x11, x12, ⟨_, hl', ?_⟩, x14⟩)
  intro j w hj hw
  subst hl
  rcases setL_get hj hw with ⟨q1, q2⟩ | ⟨q1, q2, q3⟩
  · subst q1; subst q2; exact List.mem_cons_self
  · refine List.mem_cons_of_mem _ (List.mem_filter.mpr ⟨h2 j w q2 hw, ?_⟩)
    simp only [Bool.and_eq_true, Bool.not_eq_true', beq_eq_false_iff_ne, ne_eq, Bool.and_eq_false_iff]
    refine ⟨q1, ?_⟩
    by_cases hji : j + 1 = i
    · right
      intro hc
      exact q3 ⟨hji, tv_cat2 hc (lvF_nd hf q2)⟩
    · left; exact hji
theorem l_iinc {g : gT} {u : uT} {pc : Nat} {lv st : List Value} {h : mh_T} {Q : Nat × Nat} {i : Nat} {n : Int} {x v : Int32} {lv' : List Value} (hd : decode u.2.1 pc = .ok (.iinc i n, 3)) (hn : i < u.2.2.1) (hx : lv[i]? = some (.int x)) (hv : x + Int32.ofInt n = v) (hl : setL lv i (.int v) = lv') (hf : lvF lv = true) (kk : LE g u (pc + 3) lv' st h Q) : LE g u pc lv st h Q := by
  intro p e R s m args below meth c H locs ls hR X
  obtain ⟨x1, x2, x3, x4, x5, x6, x7, x8, x9, x10, x11, x12, ⟨l, h1, h2⟩, x14⟩ := X
  obtain ⟨k, hk⟩ := List.getElem?_of_mem (h2 i _ hx (by intro e; cases e))
  refine lv_iinc (v := v) (k := k) (lv' := _) x1 x2 hd h1 hk hv hn rfl (fun ls' hl' => kk p e R s m args below meth c H locs ls' hR ⟨x1, x2, x3, x4, x5, x6, x7, x8, x9, x10, x11, x12, ⟨_, hl', ?_⟩, x14⟩)
  intro j w hj hw
  subst hl
  rcases setL_get hj hw with ⟨q1, q2⟩ | ⟨q1, q2, q3⟩
  · subst q1; subst q2; exact List.mem_cons_self
  · refine List.mem_cons_of_mem _ (List.mem_filter.mpr ⟨h2 j w q2 hw, ?_⟩)
    simp only [Bool.and_eq_true, Bool.not_eq_true', beq_eq_false_iff_ne, ne_eq, Bool.and_eq_false_iff]
    refine ⟨q1, ?_⟩
    by_cases hji : j + 1 = i
    · right
      intro hc
      exact q3 ⟨hji, tv_cat2 hc (lvF_nd hf q2)⟩
    · left; exact hji
theorem l_tableOut {g : gT} {u : uT} {pc : Nat} {lv st : List Value} {h : mh_T} {Q : Nat × Nat} {dflt lo hi : Int} {offs : Array Int} {len : Nat} {x : Int32} (tgt : Nat) (hd : decode u.2.1 pc = .ok (.tableswitch dflt lo hi offs, len)) (hx : x.toInt < lo ∨ hi < x.toInt) (ht : (pc : Int) + dflt = (tgt : Int)) (k : LE g u tgt lv st h Q) : LE g u pc lv (.int x :: st) h Q := by
  intro p e R s m args below meth c H locs ls hR X
  exact lv_tableOut X.1 X.2.1 hd hx ht (k p e R s m args below meth c H locs ls hR X)
theorem l_tableIn {g : gT} {u : uT} {pc : Nat} {lv st : List Value} {h : mh_T} {Q : Nat × Nat} {dflt lo hi : Int} {offs : Array Int} {len : Nat} {x : Int32} {off : Int} (tgt : Nat) (hd : decode u.2.1 pc = .ok (.tableswitch dflt lo hi offs, len)) (h1 : ¬ x.toInt < lo) (h2 : ¬ hi < x.toInt) (ho : offs[(x.toInt - lo).toNat]? = some off) (ht : (pc : Int) + off = (tgt : Int)) (k : LE g u tgt lv st h Q) : LE g u pc lv (.int x :: st) h Q := by
  intro p e R s m args below meth c H locs ls hR X
  exact lv_tableIn X.1 X.2.1 hd h1 h2 ho ht (k p e R s m args below meth c H locs ls hR X)
theorem l_slen {g : gT} {u : uT} {pc : Nat} {lv st : List Value} {h : mh_T} {Q : Nat × Nat} (hd : decode u.2.1 pc = .ok (.arraylength, 1)) (k : LE g u (pc + 1) lv (.int (Int32.ofNat (gN g)) :: st) h Q) : LE g u pc lv (.ref 900 :: st) h Q := by
  intro p e R s m args below meth c H locs ls hR X
  obtain ⟨x1, x2, x3, x4, x5, x6, x7, x8, x9, x10, x11, x12, x13, x14⟩ := id X
  exact va_slen x1 x2 x14.2.2.1 x14.2.2.2.1 x14.2.2.2.2.1 x11 hd (k p e R s m args below meth c H locs ls hR X)
theorem l_sld {g : gT} {u : uT} {pc : Nat} {lv st : List Value} {h : mh_T} {Q : Nat × Nat} {i : Int32} (hd : decode u.2.1 pc = .ok (.iaload, 1)) (hi : vp_in i (gN g)) (k : LE g u (pc + 1) lv (.int (gx g i.toNatClampNeg) :: st) h Q) : LE g u pc lv (.int i :: .ref 900 :: st) h Q := by
  intro p e R s m args below meth c H locs ls hR X
  obtain ⟨x1, x2, x3, x4, x5, x6, x7, x8, x9, x10, x11, x12, x13, x14⟩ := id X
  exact va_sld x1 x2 x14.2.2.1 x14.2.2.2.1 x14.2.2.2.2.1 x11 hi hd (k p e R s m args below meth c H locs ls hR X)
theorem l_dropK {g : gT} {u : uT} {pc : Nat} {lv lv' st : List Value} {h : mh_T} {Q : Nat × Nat} (ks : List Nat) (hl : ks.foldl (fun l k => l.set k (.retAddr 0)) lv = lv') (k : LE g u pc lv' st h Q) : LE g u pc lv st h Q := by
  intro p e R s m args below meth c H locs ls hR X
  obtain ⟨x1, x2, x3, x4, x5, x6, x7, x8, x9, x10, x11, x12, ⟨l, h1, h2⟩, x14⟩ := X
  refine k p e R s m args below meth c H locs ls hR ⟨x1, x2, x3, x4, x5, x6, x7, x8, x9, x10, x11, x12, ⟨l, h1, fun i v hi hv => ?_⟩, x14⟩
  subst hl
  exact h2 i v (drop_get ks lv i v hi hv) hv
theorem l_after {g : gT} {u : uT} {p : Program} {e : Env} {R : Room} {s : State} {m : MethodId} {args : Array Value} {below : List Frame} {meth : Method} {c : Code} {H : Heap} {locs : List Loc} {ls : Array Slot} {pc : Nat} {lv st : List Value} {st0 : List Value} {h : mh_T} {Q : Nat × Nat} {a : Array Value}
    (hR : XL g R s) (X : MX g u p R s m args meth c H locs ls lv h)
    (hr : va_Run p (gl g) e R s m args below meth c H locs Q.1 Q.2 0 0 (F0 m pc ls st0) (st.map (tv g)) (mQ g (fun v h' => LE g u (pc + 3) lv (v.toList ++ st) h' Q) a) (gA g)) :
    W p (gl g) e R s m args below meth c H locs Q.1 Q.2 (lw_Z below args s) (F0 m pc ls st0) := by
  intro T hT XT
  obtain ⟨v, s0, t, T', L, h0, X', hL, e1, e2, ⟨v', h', ev, hq, hP, hF⟩, go⟩ := hr T hT XT
  cases ev
  obtain ⟨x1, x2, x3, x4, x5, x6, x7, x8, x9, x10, x11, x12, x13, x14⟩ := X
  obtain ⟨tt, b1, b2⟩ := hq p e R s m args below meth c T'.heap (locs ++ L) ls hR ⟨x1, x2, x3, x4, x5, x6, x7, x8, by rw [e1]; exact hP, x10, by rw [e1]; exact va_S_call x11 h0 hF hL, x12, x13, x14⟩ T' rfl X'
  refine ⟨tt, go tt ?_, b2⟩
  have e : (v'.toList ++ st).map (tv g) = (v'.map (tv g)).toList ++ st.map (tv g) := by cases v' <;> simp
  rw [e] at b1
  exact b1
theorem l_callV {g : gT} {u : uT} {pc index n : Nat} {lv st As : List Value} {h : mh_T} {Q : Nat × Nat} {y : MethodName} {u' : uT} {k ci nn : Nat} {ts : List Nat} {q : vw_C}
    (hd : decode u.2.1 pc = .ok (.invokevirtual index, 3)) (hL : mLk u.1 index y u' n) (hi : Cond.instanceMethod y ∈ lw_tbl) (hse : Cond.selects q.1 y y ∈ lw_tbl) (hs : shp k = (ci, nn, ts)) (hc : vwCl[ci]? = some q) (h12 : ci < 12) (hk : k < 141) (hn : As.length = n) (hK : u'.2.2.2.2 < u.2.2.2.2) (hq : Q.1 ≤ 601024 ∧ Q.2 ≤ 7293034) (hst : (st.map fun v => v.category).sum ≤ 8)
    (hM : MC g y u' (.ref k :: As) h (fun v h' => LE g u (pc + 3) lv (v.toList ++ st) h' Q)) : LE g u pc lv (As.reverse ++ .ref k :: st) h Q := by
  intro p e R s m args below meth c H locs ls hR X
  have hcat : ∀ l : List Value, ((l.map (tv g)).map fun v => v.category).sum = (l.map fun v => v.category).sum := by
    intro l
    induction l with
    | nil => rfl
    | cons a l ih =>
      simp only [List.map_cons, List.sum_cons, ih]
      rw [tv_cat]
  refine l_after (st := st) hR X (va_runV (As := As.map (tv g)) (b := gad g k) (C := q.1) (n := n) (m_fix X) hM ⟨m_callB X hL hK, X.2.2.2.2.2.2.1 _ hi rfl, X.2.2.2.2.2.2.1 _ hse rfl⟩ ⟨mPc_blind g _ h, m_recv X hs hc hk h12, m_pre X (.ref k :: As)⟩ rfl (by rw [List.length_map]; exact hn) (m_lsz X.2.2.2.2.2.2.2.2.2.2.2.2.1) ?_ (lv_room (by rw [hcat]; exact hst)) hd ⟨by rw [hR.1]; exact hq.1, by rw [hR.1]; exact hq.2⟩)
  show ((As.reverse ++ .ref k :: st).map (tv g)) = _
  rw [List.map_append, List.map_reverse]
  rfl
theorem LCi_go {g : gT} {y : MethodName} {u u2 : uT} {As lv st : List Value} {h : mh_T} {pc : Nat} {P : Int32 → mh_T → Prop} {Q : Nat × Nat} (hM : MCi g y u As h P) (hk : ∀ r h', P r h' → LE g u2 pc lv (.int r :: st) h' Q) : MC g y u As h (fun v h' => LE g u2 pc lv (v.toList ++ st) h' Q) :=
  MC_mono hM (fun v h' q => by obtain ⟨r, q1, q2⟩ := q; subst q1; exact hk r h' q2)
theorem l_widen {g : gT} {u : uT} {pc : Nat} {lv st : List Value} {h : mh_T} {Q Q' : Nat × Nat} (h1 : Q.1 ≤ Q'.1) (h2 : Q.2 ≤ Q'.2) (k : LE g u pc lv st h Q') : LE g u pc lv st h Q := by
  intro p e R s m args below meth c H locs ls hR X
  exact W.widen h1 h2 (k p e R s m args below meth c H locs ls hR X)
/-- the law's end with true -/
theorem l_true {g : gT} {lv : List Value} {h : mh_T} {Q : Nat × Nat} {pc : Nat} (hd : decode code pc = .ok (.ireturn, 1)) (hq : Q.1 ≤ 601024 ∧ Q.2 ≤ 7293034) : LE g uL pc lv [.int 1] h Q := by
  intro p e R s m args below meth c H locs ls hR X
  have e0 := hR.1
  subst e0
  refine va_forget (fun q hq => hR.2.2.2.2.2.2.2.2.2 _ (X.2.2.2.2.2.2.2.2.2.2.1.2.2 q hq)) ?_
  exact W.widen hq.1 hq.2 (lw_ret X.1 X.2.1 X.2.2.2.1 X.2.2.2.2.1 hd)
