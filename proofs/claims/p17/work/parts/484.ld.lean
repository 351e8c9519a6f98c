/-! THROW new E("text") where E's constructor links its superclass at another place than 7 (NoSuchElementException: 13): the library's ctorThrowS and the printed vx_throwSW, followed step by step with the first link's place and bytes as givens (the library's own chainSX, ownAtomsX) -/
section MYT
variable {p : Program} {l : Launch} {e : Env} {R : Room} {s : State} {m₀ : MethodId} {args : Array Value} {below : List Frame} {meth : Method} {c : Code} {W : State} {locs : List Loc} {cells slots : Nat}
set_option maxHeartbeats 1000000 in
theorem my_ctorThrowSX (X : Stand p l e R s m₀ args below meth c W locs cells slots) (hexec : p.tables.exec = Jvm.exec) (htr : e.platform.stackTraces = false) {own cls : String} {names : List String} {ic : Nat}
    {ix : Nat} {rx : ByteArray} (x0 : decode rx 0 = .ok (.aload_n 0, 1)) (x1 : decode rx 1 = .ok (.aload_n 1, 1)) (x2 : decode rx 2 = .ok (.invokespecial ix, 3)) (x5 : decode rx 5 = .ok (.return_, 1))
    (hown : s.vm.findClass own = some m₀.cls) (hcls : Bundle.fit cls = true) (hnames : ∀ n ∈ names, Bundle.fit n = true)
    (h : ∀ a ∈ Bundle.ownAtomsX own ic cls ix rx names, a.before args s = true)
    (hlocs : ∀ x ∈ locs, ∀ cell, s.heap[x.base]? = some cell → cell.vm.isStatics = false)
    {a : Addr} {cX : ClassId} {kX : Class} (hfoundX : s.vm.findClass cls = some cX) (hkX : s.vm.classes[cX]? = some kX) (hcell : W.heap[a]? = some (freshCell cX kX)) (hnew : s.heap.size ≤ a)
    {msg : Value} (hmsg : msg.isRef = true)
    {g : JFrame} (hg : g.method = m₀) (hsize : g.locals.size = c.maxLocals) (hlocked : g.locked = none) (hentered : g.entered = []) {rest : List Value} (hstack : g.stack = msg :: .ref a :: .ref a :: rest)
    (hd6 : decode c.code g.pc = .ok (.invokespecial ic, 3)) (hd9 : decode c.code (g.pc + 3) = .ok (.athrow, 1)) (hout : ∀ x ∈ c.exceptionTable.toList, covers x (g.pc + 3) = false)
    (hRframes : names.length + 3 < R.frames) (hRlocals : 2 * g.monitorRoom + ((Value.ref a :: rest).map fun v => v.category).sum + (13 * (names.length + 1) + 42) ≤ R.locals) (hlocks : meth.locks = false := by first | assumption | exact BodyLoose.notSynchronized (by assumption) | exact Body.notSynchronized (by assumption)) :
    ∃ U : State, Steps p.tables e below (W.setTop g) U ∧ U.status = .running ∧ Ended U below (.threw a) ∧ s.WarmedH U.vm ∧ s.sameButNew ({ U with vm := s.vm } : State) locs cells slots ∧
      ∃ ce, U.heap[a]? = some ce ∧ ce.cls = cX ∧ ce.vm = .none := by
  have howns : e.platform.frameOwnsMonitors = true := by rw [X.admits.platform]
  have hfin : e.platform.finalization = false := by rw [X.admits.platform]
  have hpl : e.platform.magicAccessors = ({} : Platform).magicAccessors := by rw [X.admits.platform]
  have a' : ∀ x, x ∈ Bundle.ownAtomsX own ic cls ix rx names → x.holds args s none s [] = true := fun x hx => h x hx
  obtain ⟨T, Z0, L, -, Y⟩ := ThrowableC.of_atoms (args := args) howns hfin hpl (fun x hx => h x (by simp [Bundle.ownAtomsX, hx]))
  obtain ⟨Z, M, LZ, LM, hnZ⟩ := Init0T.ofS_atoms (args := args) hpl L Y (fun x hx => h x (by simp [Bundle.ownAtomsX, hx]))
  obtain ⟨P1, Ps, hlen, L1, hL, hP1m, hlink1, hlink⟩ := Bundle.chainSX (args := args) hpl hnZ x0 x1 x2 x5 names cls hcls hnames (fun x hx => h x (by simp [Bundle.ownAtomsX, hx]))
  have hfound : s.vm.findClass cls = some P1.m.cls := findClass_of_methodNamed hP1m
  cases Option.some.inj (hfoundX.symm.trans hfound)
  obtain ⟨c1, kX', hc1, hk, hord, -, -, hn6⟩ := Cond.instantiable_spec (a' (.instantiable cls 6) (by simp [Bundle.ownAtomsX]))
  cases Option.some.inj (hc1.symm.trans hfound)
  cases Option.some.inj (hkX.symm.trans hk)
  have hsel0 : selectMethod e.platform s.vm P1.m.cls T.fill0 = .method T.fill0 := by
    obtain ⟨c2, r2, m2, q1, q2, q3, q4, -⟩ := Cond.selects_spec (a' (.selects cls Bundle.tFill0 Bundle.tFill0) (by simp [Bundle.ownAtomsX]))
    cases Option.some.inj (q1.symm.trans hfound)
    cases Option.some.inj (q2.symm.trans (State.methodFound?_of_named Y.fill0 (by decide)))
    cases Option.some.inj (q3.symm.trans Y.fill0)
    rw [Launch.admits_selectMethod X.admits]; exact q4
  have hselF : selectMethod e.platform s.vm P1.m.cls T.fill = .method T.fill := by
    obtain ⟨c2, r2, m2, q1, q2, q3, q4, -⟩ := Cond.selects_spec (a' (.selects cls Bundle.tFill Bundle.tFill) (by simp [Bundle.ownAtomsX]))
    cases Option.some.inj (q1.symm.trans hfound)
    cases Option.some.inj (q2.symm.trans (State.methodFound?_of_named Y.fill (by decide)))
    cases Option.some.inj (q3.symm.trans Y.fill)
    rw [Launch.admits_selectMethod X.admits]; exact q4
  obtain ⟨cellS0, hcS0, hiss⟩ := Y.statics
  obtain ⟨u0, hu0⟩ := Cond.staticRefV Y.unassigned L.unassignedStatic L.statics hcS0 hiss (a' (.isRef (.static Bundle.tN "UNASSIGNED_STACK" Bundle.steD)) (by simp [Bundle.ownAtomsX]))
  obtain ⟨sen, hsen⟩ := Cond.staticRefV Y.sentinel L.sentinelStatic L.statics hcS0 hiss (a' (.isRef (.static Bundle.tN "SUPPRESSED_SENTINEL" Bundle.listD)) (by simp [Bundle.ownAtomsX]))
  obtain ⟨ci198, i198, fB, hk198, hg198, ha198, hsB, -, hnB, htB, hffB⟩ := Cond.ownField (t := .object "java/lang/Object") Y.found L.cls (by decide +kernel) (a' (.fieldLink Bundle.tN 198 Bundle.tN "backtrace" "Ljava/lang/Object;") (by simp [Bundle.ownAtomsX])) (a' (.lays Bundle.tN Bundle.tN "backtrace" "Ljava/lang/Object;") (by simp [Bundle.ownAtomsX])) e.platform hpl
  obtain ⟨cellS, hcS', heS, -, hkeep⟩ := X.same.2.2.2.2.2 T.aS cellS0 hcS0
  have hcellS : W.heap[T.aS]? = some cellS := hcS'
  have hout' : ∀ i, (⟨T.aS, i⟩ : Loc) ∉ locs := fun i hmem => by
    have := hlocs _ hmem cellS0 hcS0
    rw [hiss] at this; cases this
  have hknownS : cellS.vm ≠ .unknown := by
    rw [heS]; intro hu
    rw [show cellS0.vm = .unknown from hu] at hiss
    cases hiss
  have hneS : T.aS ≠ a := Nat.ne_of_lt (Nat.lt_of_lt_of_le (Array.getElem?_eq_some_iff.mp hcS0).1 hnew)
  obtain ⟨iM, hffM⟩ := Y.msg
  obtain ⟨tyC, dC, hdC, hdnC⟩ := Cond.laysAt hfound hk Y.cause (a' (.lays cls Bundle.tN "cause" "Ljava/lang/Throwable;") (by simp [Bundle.ownAtomsX]))
  obtain ⟨tyS, dS, hdS, hdnS⟩ := Cond.laysAt hfound hk Y.stack (a' (.lays cls Bundle.tN "stackTrace" Bundle.steD) (by simp [Bundle.ownAtomsX]))
  obtain ⟨tyP, dP, hdP, hdnP⟩ := Cond.laysAt hfound hk Y.supp (a' (.lays cls Bundle.tN "suppressedExceptions" Bundle.listD) (by simp [Bundle.ownAtomsX]))
  obtain ⟨tyM, dM, hdM, hdnM⟩ := Cond.laysAt hfound hk hffM (a' (.lays cls Bundle.tN "detailMessage" "Ljava/lang/String;") (by simp [Bundle.ownAtomsX]))
  obtain ⟨tyB, dB, hdB, hdnB⟩ := Cond.laysAt hfound hk hffB (a' (.lays cls Bundle.tN "backtrace" "Ljava/lang/Object;") (by simp [Bundle.ownAtomsX]))
  have bC := Cond.laysApart hdB hdC hdnB hdnC (by rw [hnB, Y.causeName]; decide)
  have bS := Cond.laysApart hdB hdS hdnB hdnS (by rw [hnB, Y.stackName]; decide)
  have bP := Cond.laysApart hdB hdP hdnB hdnP (by rw [hnB, Y.suppName]; decide)
  have hskip : SkipFacts T e.platform s (fun u => u) u0 ((preparedCellV T.toThrowableT (freshCell P1.m.cls kX) a u0 sen).withEntry W.cur) :=
    ⟨{ ci198 := ci198, i198 := i198, fBack := fB }, ⟨hk198, hg198, ha198, hsB⟩, by
      have := fresh_default (c := P1.m.cls) tyB
      rw [htB] at this
      simpa [preparedCellV, Cell.setSlot, Cell.withEntry, Array.getElem?_setIfInBounds, bC, bS, bP, bC.symm, bS.symm, bP.symm, defaultValue] using this, fun _ _ => rfl⟩
  obtain ⟨tm, methC, cdC, kC, vm₁, hnC, -, -, -, -, -, -, -, hW₁, st1⟩ := Steps.initColdS (tb := p.tables) (e := e) (below := below) (s := s) (U := W) X.here hexec X.warmed hpl hown (t := Bundle.initS cls) rfl rfl (Bundle.fit_spec hcls).2
    (a' (.methodLink own ic (Bundle.initS cls)) (by simp [Bundle.ownAtomsX])) (h (.instanceMethod (Bundle.initS cls)) (by cases names <;> simp [Bundle.ownAtomsX, Bundle.chainSAtomsX, Bundle.passSAtoms])) (bytes := rx) (maxL := 2) (h (.code (Bundle.initS cls) rx 2 none) (by cases names <;> simp [Bundle.ownAtomsX, Bundle.chainSAtomsX, Bundle.passSAtoms]))
    (f := g) hg (a := a) (msg := msg) (rest := .ref a :: rest) hstack hd6
  cases Option.some.inj (hnC.symm.trans hP1m)
  have X₁ := X.noted hW₁
  obtain ⟨vm₂, X₂, st2⟩ := X₁.ctorMessageOffV hexec (g := { g with stack := .ref a :: rest }) hg hsize T L Z LZ M LM (P1 :: Ps)
    (fun P hP => by rcases List.mem_cons.mp hP with rfl | hP; exact L1; exact hL P hP) ⟨hlink1, hlink⟩ (u0 := u0) (sen := sen) (self := a) hmsg (cell := freshCell P1.m.cls kX) (cellS := cellS)
    hcell (fun _ => by simp) (by simp) rfl rfl hsel0 hselF hcellS hneS hknownS (by rw [hkeep _ (hout' _)]; exact hu0) (by rw [hkeep _ (hout' _)]; exact hsen)
    (Takes.of_laid hk hord tyC (by rw [Y.causeType]; rfl)) (Takes.of_laid hk hord tyS (by rw [Y.stackType]; exact fits_refV_array _ u0)) (Takes.of_laid hk hord tyP (by rw [Y.suppType]; exact fits_refV_object _ sen))
    (Takes.of_laid hk hord tyM (by rw [Y.msgType]; exact fits_refV_object _ ⟨msg, hmsg⟩)) Y.objLocals hskip htr [] hd6
    (by simp only [List.length_cons, hlen]; omega) (by simp only [List.length_cons, hlen]; exact hRlocals)
  obtain ⟨hwalk, hrun, hended, hWU, hsame⟩ := X₂.athrowLeaves hexec (g := { g with stack := .ref a :: rest, pc := g.pc + 3 }) hg hlocked hentered hout (a := a) (rest := rest) rfl hd9
  have hlt : a < ((W.setVm vm₁).setVm vm₂).heap.size := (Array.getElem?_eq_some_iff.mp hcell).1
  have hU := heapAt_setCell_self (s := (W.setVm vm₁).setVm vm₂) (plainBareV T.toThrowableT (freshCell P1.m.cls kX) a u0 sen msg) hlt
  refine ⟨_, st1 _ (fun acts => ?_), hrun, hended, hWU, hsame.weaken (fun y hy hlt' => ?_) (Nat.le_refl _) (Nat.le_refl _), _, hU, ?_⟩
  · rw [doInvoke_state]
    exact st2 _ hwalk
  · rcases List.mem_append.mp hy with h1 | h1
    · exact h1
    · exfalso
      have hb : y.base = a := by
        simp only [List.mem_cons, List.not_mem_nil, or_false] at h1
        rcases h1 with rfl | rfl | rfl | rfl | rfl <;> rfl
      rw [hb] at hlt'
      exact Nat.not_lt.mpr hnew hlt'
  · exact ⟨rfl, rfl⟩
end MYT
def vx_atX (own : String) (ic : Nat) (X : String) (ix : Nat) (rx : ByteArray) (names : List String) : List Cond := (Bundle.ownAtomsX own ic X ix rx names).filter vx_no
section MYU
variable {p : Program} {l : Launch} {e : Env} {R : Room} {s : State} {m : MethodId} {args : Array Value} {below : List Frame} {meth : Method} {c : Code} {H : Heap} {locs : List Loc} {cells slots : Nat} {Q : State → Prop}
variable {mc ms : Nat} {free : Addr → Prop} {A0 A1 : Nat → Prop} {H0 : Heap} {a : Array Value} {ls : Array Slot} {st0 rest : List Value}
variable {Qc : Array Value → State → Outcome → State → Prop} {XC : String → State → State → Prop}
set_option maxHeartbeats 2000000 in
theorem my_throwSWX {cc : ByteArray} {pc : Nat} (hexec : p.tables.exec = Jvm.exec) (hb : c.code = cc) (hl : l.stackTraces = false) {own cls text : String} {names : List String} {ik is ic mc ms sa ix : Nat} {rx : ByteArray} (x0 : decode rx 0 = .ok (.aload_n 0, 1)) (x1 : decode rx 1 = .ok (.aload_n 1, 1)) (x2 : decode rx 2 = .ok (.invokespecial ix, 3)) (x5 : decode rx 5 = .ok (.return_, 1)) {A : Nat → Prop}
    (hown : s.vm.findClass own = some m.cls) (hcls : Bundle.fit cls = true) (hnames : ∀ n ∈ names, Bundle.fit n = true)
    (hk : (Cond.classLink own ik cls).before args s = true) (hini : (Cond.initialized cls).before args s = true) (hstr : vk_R own is text sa s) (hat : ∀ w ∈ vx_atX own ic cls ix rx names, w.before args s = true)
    (hgood : ∀ w ∈ Cond.classLink own ik cls :: Cond.initialized cls :: vx_atX own ic cls ix rx names, vx_ot w = true)
    (hU : vx_Zq Bundle.tN "UNASSIGNED_STACK" Bundle.steD A s s.heap) (hN : vx_Zq Bundle.tN "SUPPRESSED_SENTINEL" Bundle.listD A s s.heap) (hS : va_S A s.heap H locs) (hsize : ls.size = c.maxLocals)
    (d0 : decode cc pc = .ok (.new ik, 3)) (d3 : decode cc (pc + 3) = .ok (.dup, 1)) (d4 : decode cc (pc + 4) = .ok (.ldc_w is, 3)) (d7 : decode cc (pc + 7) = .ok (.invokespecial ic, 3)) (d10 : decode cc (pc + 10) = .ok (.athrow, 1))
    (hout : ∀ x ∈ c.exceptionTable.toList, covers x (pc + 10) = false)
    (hRframes : names.length + 3 < R.frames) (hRlocals : (rest.map fun v => v.category).sum + (13 * (names.length + 1) + 43) ≤ R.locals) (hRcells : cells + 1 ≤ R.cells) (hRslots : slots + 6 ≤ R.slots) (hlocks : meth.locks = false)
    (hx : ∀ t : State, s.vm.Alike t.vm → H.size ≤ t.heap.size → (∀ q : Nat, q < H.size → t.heap[q]? = H[q]?) → XC cls s t)
    (hf : ∀ z ∈ locs, free z.base) (hc : cells + 1 ≤ mc) (hs : slots + 6 ≤ ms) :
    W p l e R s m args below meth c H locs cells slots (vx_MQ below Qc XC args s mc ms free) (F0 m pc ls rest) := by
  intro T hT X
  have htr : e.platform.stackTraces = false := (show e.platform.stackTraces = l.stackTraces by rw [X.admits.platform]).trans hl
  have Y := vx_rebase X (R' := { frames := R.frames, locals := R.locals, cells := 1, slots := 6 }) (Nat.le_refl _) (Nat.le_refl _) hRcells hRslots
  obtain ⟨s', hA⟩ : ∃ z, z = (T.setVm s.vm).setFrames (.invoking m args :: below) := ⟨_, rfl⟩
  rw [← hA] at Y
  have hvm : s'.vm = s.vm := by rw [hA]; rfl
  have hhp : s'.heap = H := by rw [hA]; exact hT
  have hW0 : s.WarmedH s'.vm := by rw [hvm]; exact State.WarmedH.refl s
  have hat' : ∀ w ∈ vx_atX own ic cls ix rx names, w.before args s' = true := fun w hw => vx_ot_at hW0 hvm.symm (hgood w (List.mem_cons_of_mem _ (List.mem_cons_of_mem _ hw))) (hat w hw)
  have hk' : (Cond.classLink own ik cls).before args s' = true := vx_ot_at hW0 hvm.symm (hgood _ List.mem_cons_self) hk
  have hini' : (Cond.initialized cls).before args s' = true := vx_ot_at hW0 hvm.symm (hgood _ (List.mem_cons_of_mem _ List.mem_cons_self)) hini
  have hU' : vx_Zq Bundle.tN "UNASSIGNED_STACK" Bundle.steD A s' s'.heap := by rw [hhp]; exact vx_Zq.moved hW0.alike (hU.kept hS.2.1)
  have hN' : vx_Zq Bundle.tN "SUPPRESSED_SENTINEL" Bundle.listD A s' s'.heap := by rw [hhp]; exact vx_Zq.moved hW0.alike (hN.kept hS.2.1)
  have h : ∀ w ∈ Bundle.ownAtomsX own ic cls ix rx names, w.before args s' = true := vx_own hat' (vx_isRefq hU'.1) (vx_isRefq hN'.1) hU'.2.word hN'.2.word
  have hown' : s'.vm.findClass own = some m.cls := by rw [hvm]; exact hown
  have hins : (Cond.instantiable cls 6).before args s' = true := h _ (by simp [Bundle.ownAtomsX])
  obtain ⟨vm₁, cX, kX, hfX, hkX, -, -, X₁, st1⟩ := Y.newCold hexec (own := own) (C := cls) (index := ik) (n := 6) hown' hk' hins hini'
    (g := F0 m pc ls rest) rfl (by rw [hb]; exact d0) (Nat.le_refl _) (Nat.le_refl _)
  generalize hT1 : (T.setVm vm₁).pushCell { cls := cX, slots := kX.instanceTypes.map defaultValue, vm := .none } = T1 at X₁ st1
  have hcat : (Value.ref T.heap.size).category = 1 := rfl
  have hcellA : T1.heap[T.heap.size]? = some (freshCell cX kX) := by rw [← hT1]; exact State.heap_pushCell_size _ _
  have d3' : decode c.code (pc + 3) = .ok (.dup, 1) := by rw [hb]; exact d3
  have d4' : decode c.code (pc + 4) = .ok (.ldc_w is, 3) := by rw [hb]; exact d4
  have hstr' : vk_R own is text sa s' := vk_R.warm hW0 hstr
  obtain ⟨U, hsteps, hrun, hend, hW, hsame, ce, hce, hO⟩ := my_ctorThrowSX X₁ hexec htr (own := own) (cls := cls) (names := names) (ic := ic) x0 x1 x2 x5 hown' hcls hnames h (fun x hx => nomatch hx) hfX hkX hcellA (by rw [hhp, hT]; exact Nat.le_refl _) (msg := .ref sa) rfl
    (g := { method := m, pc := pc + 7, locals := ls, stack := .ref sa :: .ref T.heap.size :: .ref T.heap.size :: rest, locked := none }) rfl hsize rfl rfl (rest := rest) rfl
    (by rw [hb]; exact d7) (by rw [hb]; exact d10) hout hRframes (by simp only [List.map_cons, List.sum_cons, hcat]; omega) hlocks
  obtain ⟨f1, f2⟩ := vx_frame hsame
  rw [hhp] at f1 f2
  have hWs : s.WarmedH U.vm := State.WarmedH.trans hW0 hW
  have hcl : s.vm.findClass cls = some ce.cls := by
    rw [hO.1, ← hvm]
    exact hfX
  have hall : s.sameButNew ({ U with vm := s.vm } : State) locs mc ms := by
    subst hA
    obtain ⟨e1, e2⟩ := hsame
    rw [State.setFrames_setFrames] at e1
    have h2 : (T.setVm s.vm).sameButNew ({ U with vm := s.vm } : State) [] (0 + 1) (0 + 6) := ⟨e1, e2⟩
    have h3 := X.same.trans h2
    rw [List.append_nil] at h3
    exact h3.mono hc hs
  refine ⟨U, ?_, .threw T.heap.size, hrun, hend, Or.inr ⟨T.heap.size, rfl, cls, ce, locs, hx U hWs.alike f1 (fun q hq => f2 q hq (fun z hz => nomatch hz)), hce, hO.2, hcl, hWs, hall, hf⟩⟩
  refine st1 _ ?_
  show Steps p.tables e below (T1.setTop { method := m, pc := pc + 3, locals := ls, stack := .ref T.heap.size :: rest, locked := none }) _
  jvm_step X₁.here [X₁.here.top, hexec, d3', Value.category]
  exact X₁.ldcStringW hexec (own := own) (text := text) (index := is) (a := sa) hown' hstr'.1 hstr'.2
    (g := { method := m, pc := pc + 4, locals := ls, stack := .ref T.heap.size :: .ref T.heap.size :: rest, locked := none }) rfl d4' _ hsteps
end MYU

theorem nx_0 : decode prog_28_method_4_code 0 = .ok (.aload_n 0, 1) := by decide +kernel
theorem nx_1 : decode prog_28_method_4_code 1 = .ok (.aload_n 1, 1) := by decide +kernel
theorem nx_2 : decode prog_28_method_4_code 2 = .ok (.invokespecial 13, 3) := by decide +kernel
theorem nx_5 : decode prog_28_method_4_code 5 = .ok (.return_, 1) := by decide +kernel
set_option maxRecDepth 20000 in
theorem tm_0 : Cond.code yJ6_bitCount_0f7a4 cJ6_bitCount_0f7a4 1 (some .int) ∈ lw_tbl := tk_3 (j := 181) rfl
set_option maxRecDepth 20000 in
theorem tm_1 : Cond.methodLink RX10 332 yJ6_bitCount_0f7a4 ∈ lw_tbl := tk_6 (j := 18) rfl
set_option maxRecDepth 20000 in
theorem tm_2 : Cond.initialized RJ6 ∈ lw_tbl := tk_1 (j := 19) rfl
set_option maxRecDepth 20000 in
theorem tm_3 : Cond.code yX10_bitAt cX10_bitAt 4 (some .int) ∈ lw_tbl := tk_5 (j := 88) rfl
set_option maxRecDepth 20000 in
theorem tm_4 : Cond.methodLink RX10 344 yX10_bitAt ∈ lw_tbl := tk_6 (j := 84) rfl
set_option maxRecDepth 20000 in
theorem tm_5 : Cond.initialized RX10 ∈ lw_tbl := tk_1 (j := 1) rfl
set_option maxRecDepth 20000 in
theorem tm_6 : Cond.code yX8_possible cX8_possible 3 (some .int) ∈ lw_tbl := tk_4 (j := 114) rfl
set_option maxRecDepth 20000 in
theorem tm_7 : Cond.methodLink RX10 164 yX8_possible ∈ lw_tbl := tk_4 (j := 111) rfl
set_option maxRecDepth 20000 in
theorem tm_8 : Cond.initialized RX8 ∈ lw_tbl := tk_1 (j := 4) rfl
set_option maxRecDepth 20000 in
theorem tm_9 : Cond.code yX8_extending cX8_extending 5 (some .int) ∈ lw_tbl := tk_4 (j := 104) rfl
set_option maxRecDepth 20000 in
theorem tm_10 : Cond.methodLink RX10 160 yX8_extending ∈ lw_tbl := tk_4 (j := 101) rfl
set_option maxRecDepth 20000 in
theorem tm_11 : Cond.code yX10_led cX10_led 3 (some .int) ∈ lw_tbl := tk_6 (j := 17) rfl
set_option maxRecDepth 20000 in
theorem tm_12 : Cond.methodLink RL 7 yX10_led ∈ lw_tbl := tk_6 (j := 14) rfl
set_option maxRecDepth 20000 in
theorem tm_13 : Cond.fieldLink RX10 25 "NotAtOnce" "table" "LNotAtOnce$Table;" ∈ lw_tbl := tk_2 (j := 186) rfl
set_option maxRecDepth 20000 in
theorem tm_14 : Cond.instanceMethod yX8_possible ∈ lw_tbl := tk_4 (j := 112) rfl
set_option maxRecDepth 20000 in
theorem tm_15 : Cond.selects RX8 yX8_possible yX8_possible ∈ lw_tbl := tk_4 (j := 113) rfl
set_option maxRecDepth 20000 in
theorem tm_16 : Cond.instanceMethod yX8_extending ∈ lw_tbl := tk_4 (j := 102) rfl
set_option maxRecDepth 20000 in
theorem tm_17 : Cond.selects RX8 yX8_extending yX8_extending ∈ lw_tbl := tk_4 (j := 103) rfl
set_option maxRecDepth 20000 in
theorem tm_18 : Cond.static yJ6_bitCount_0f7a4 ∈ lw_tbl := tk_3 (j := 180) rfl
set_option maxRecDepth 20000 in
theorem tm_19 : Cond.static yX10_bitAt ∈ lw_tbl := tk_5 (j := 87) rfl
set_option maxRecDepth 20000 in
theorem tm_20 : Cond.classLink RX10 337 "java/util/NoSuchElementException" ∈ lw_tbl := tk_6 (j := 19) rfl
set_option maxRecDepth 20000 in
theorem tm_21 : Cond.initialized "java/util/NoSuchElementException" ∈ lw_tbl := tk_1 (j := 23) rfl
abbrev uX10_led : uT := (RX10, cX10_led, 3, (some .int), 50)
abbrev uL_led : uT := (RL, cL_led, 4, (some .int), 60)
def rmX : Room := { frames := 50, cells := 1, slots := 6, locals := 3200 }
def rmY : Room := { frames := 60, cells := 1, slots := 6, locals := 3840 }
set_option maxRecDepth 100000 in
theorem lq_X10_332 : mLk RX10 332 yJ6_bitCount_0f7a4 uJ6_bitCount_0f7a4 1 := ⟨tm_0, tm_1, tm_2, by decide +kernel, Nat.le_of_ble_eq_true rfl⟩
set_option maxRecDepth 100000 in
theorem lq_X10_344 : mLk RX10 344 yX10_bitAt uX10_bitAt 2 := ⟨tm_3, tm_4, tm_5, by decide +kernel, Nat.le_of_ble_eq_true rfl⟩
set_option maxRecDepth 100000 in
theorem lq_X10_164 : mLk RX10 164 yX8_possible uX8_possible 0 := ⟨tm_6, tm_7, tm_8, by decide +kernel, Nat.le_of_ble_eq_true rfl⟩
set_option maxRecDepth 100000 in
theorem lq_X10_160 : mLk RX10 160 yX8_extending uX8_extending 0 := ⟨tm_9, tm_10, tm_8, by decide +kernel, Nat.le_of_ble_eq_true rfl⟩
set_option maxRecDepth 100000 in
theorem lq_L_7 : mLk RL 7 yX10_led uX10_led 1 := ⟨tm_11, tm_12, tm_5, by decide +kernel, Nat.le_of_ble_eq_true rfl⟩
set_option maxRecDepth 100000 in
theorem gt_X10_25 {g : gT} {u : uT} {pc : Nat} {lv st : List Value} {h : mh_T} {Q : tQ} (hu : u.1 = RX10) (hd : decode u.2.1 pc = .ok (.getfield 25, 3)) (kk : TE g u (pc + 3) lv (.ref 3 :: st) h Q) : TE g u pc lv (.ref 0 :: st) h Q := te_getR (k' := 3) (ci := 10) (k := 0) (j := 2) (q := (RX10, TX10, 14)) (ref := "NotAtOnce") hd rfl (by decide) (by decide) rfl rfl tinX10 tgX10 (by rw [hu]; exact tm_13) rfl rfl rfl (by decide) kk
set_option maxRecDepth 100000 in
theorem ct_X10_164 {g : gT} {u : uT} {pc : Nat} {lv st : List Value} {h : mh_T} {Q : tQ} (hu : u.1 = RX10) (hK : 1 < u.2.2.2.2) (hd : decode u.2.1 pc = .ok (.invokevirtual 164, 3)) (hq : ∀ R s c, Q.2.1 R s c → Q.1.1 ≤ R.cells ∧ Q.1.2 ≤ R.slots) (hst : (st.map fun v => v.category).sum ≤ 8) (hM : MC g yX8_possible uX8_possible [.ref 3] h (fun v h' => TE g u (pc + 3) lv (v.toList ++ st) h' Q)) : TE g u pc lv (.ref 3 :: st) h Q := te_callV (As := []) (n := 0) (ci := 8) (k := 3) (q := (RX8, TX8, 8)) hd (by rw [hu]; exact lq_X10_164) tm_14 tm_15 rfl rfl (by decide) (by decide) rfl hK hq hst hM
set_option maxRecDepth 100000 in
theorem ct_X10_160 {g : gT} {u : uT} {pc : Nat} {lv st : List Value} {h : mh_T} {Q : tQ} (hu : u.1 = RX10) (hK : 3 < u.2.2.2.2) (hd : decode u.2.1 pc = .ok (.invokevirtual 160, 3)) (hq : ∀ R s c, Q.2.1 R s c → Q.1.1 ≤ R.cells ∧ Q.1.2 ≤ R.slots) (hst : (st.map fun v => v.category).sum ≤ 8) (hM : MC g yX8_extending uX8_extending [.ref 3] h (fun v h' => TE g u (pc + 3) lv (v.toList ++ st) h' Q)) : TE g u pc lv (.ref 3 :: st) h Q := te_callV (As := []) (n := 0) (ci := 8) (k := 3) (q := (RX8, TX8, 8)) hd (by rw [hu]; exact lq_X10_160) tm_16 tm_17 rfl rfl (by decide) (by decide) rfl hK hq hst hM
set_option maxRecDepth 100000 in
theorem ct_X10_332 {g : gT} {u : uT} {pc : Nat} {lv st : List Value} {h : mh_T} {Q : tQ} {a1 : Value} (hu : u.1 = RX10) (hK : 1 < u.2.2.2.2) (hd : decode u.2.1 pc = .ok (.invokestatic 332, 3)) (hq : ∀ R s c, Q.2.1 R s c → Q.1.1 ≤ R.cells ∧ Q.1.2 ≤ R.slots) (hst : (st.map fun v => v.category).sum ≤ 8) (hM : MC g yJ6_bitCount_0f7a4 uJ6_bitCount_0f7a4 [a1] h (fun v h' => TE g u (pc + 3) lv (v.toList ++ st) h' Q)) : TE g u pc lv (a1 :: st) h Q := te_callS (As := [a1]) (n := 1) hd (by rw [hu]; exact lq_X10_332) tm_18 rfl hK hq hst hM
set_option maxRecDepth 100000 in
theorem ct_X10_344 {g : gT} {u : uT} {pc : Nat} {lv st : List Value} {h : mh_T} {Q : tQ} {a1 a2 : Value} (hu : u.1 = RX10) (hK : 1 < u.2.2.2.2) (hd : decode u.2.1 pc = .ok (.invokestatic 344, 3)) (hq : ∀ R s c, Q.2.1 R s c → Q.1.1 ≤ R.cells ∧ Q.1.2 ≤ R.slots) (hst : (st.map fun v => v.category).sum ≤ 8) (hM : MC g yX10_bitAt uX10_bitAt [a1, a2] h (fun v h' => TE g u (pc + 3) lv (v.toList ++ st) h' Q)) : TE g u pc lv (a2 :: a1 :: st) h Q := te_callS (As := [a1, a2]) (n := 2) hd (by rw [hu]; exact lq_X10_344) tm_19 rfl hK hq hst hM
set_option maxRecDepth 20000 in
set_option maxRecDepth 100000 in
theorem led_good : ∀ w ∈ Cond.classLink RX10 337 "java/util/NoSuchElementException" :: Cond.initialized "java/util/NoSuchElementException" :: vx_atX RX10 341 "java/util/NoSuchElementException" 13 prog_28_method_4_code ["java/lang/RuntimeException", "java/lang/Exception"], vx_ot w = true := by decide +kernel
set_option maxRecDepth 100000 in
set_option maxRecDepth 100000 in
theorem led_gin0 : ∀ w ∈ (vx_atX RX10 341 "java/util/NoSuchElementException" 13 prog_28_method_4_code ["java/lang/RuntimeException", "java/lang/Exception"]).filter goodWord, w ∈ (tables_1_1.drop 20).take 12 ++ (tables_1_6.drop 13).take 71 := by decide +kernel
theorem led_gin : ∀ w ∈ (vx_atX RX10 341 "java/util/NoSuchElementException" 13 prog_28_method_4_code ["java/lang/RuntimeException", "java/lang/Exception"]).filter goodWord, w ∈ lw_tbl := fun w hw => by
  rcases List.mem_append.mp (led_gin0 w hw) with h | h
  · obtain ⟨i, hi⟩ := List.getElem?_of_mem (List.mem_of_mem_drop (List.mem_of_mem_take h))
    exact tk_1 hi
  · obtain ⟨i, hi⟩ := List.getElem?_of_mem (List.mem_of_mem_drop (List.mem_of_mem_take h))
    exact tk_6 hi
def led_B : List Cond := [Cond.castable "java/util/NoSuchElementException" "java/util/NoSuchElementException", Cond.declares (Bundle.initS "java/lang/RuntimeException"), Cond.declares (Bundle.initS "java/lang/Exception"), Cond.declares (Bundle.initS "java/lang/Throwable")]
set_option maxRecDepth 20000 in
set_option maxRecDepth 100000 in
theorem led_Bs : ∀ w ∈ (vx_atX RX10 341 "java/util/NoSuchElementException" 13 prog_28_method_4_code ["java/lang/RuntimeException", "java/lang/Exception"]).filter (fun w => !goodWord w), w ∈ led_B := by decide +kernel
theorem dX10_led_0 : decode cX10_led 0 = .ok (.aload_n 0, 1) := by decide +kernel
theorem dX10_led_1 : decode cX10_led 1 = .ok (.getfield 25, 3) := by decide +kernel
theorem dX10_led_4 : decode cX10_led 4 = .ok (.invokevirtual 164, 3) := by decide +kernel
theorem dX10_led_7 : decode cX10_led 7 = .ok (.aload_n 0, 1) := by decide +kernel
theorem dX10_led_8 : decode cX10_led 8 = .ok (.getfield 25, 3) := by decide +kernel
theorem dX10_led_11 : decode cX10_led 11 = .ok (.invokevirtual 160, 3) := by decide +kernel
theorem dX10_led_14 : decode cX10_led 14 = .ok (.iconst (-1), 1) := by decide +kernel
theorem dX10_led_15 : decode cX10_led 15 = .ok (.ixor, 1) := by decide +kernel
theorem dX10_led_16 : decode cX10_led 16 = .ok (.iand, 1) := by decide +kernel
theorem dX10_led_17 : decode cX10_led 17 = .ok (.istore_n 2, 1) := by decide +kernel
theorem dX10_led_18 : decode cX10_led 18 = .ok (.iload_n 1, 1) := by decide +kernel
theorem dX10_led_19 : decode cX10_led 19 = .ok (.ifCond .lt 11, 3) := by decide +kernel
theorem dX10_led_22 : decode cX10_led 22 = .ok (.iload_n 1, 1) := by decide +kernel
theorem dX10_led_23 : decode cX10_led 23 = .ok (.iload_n 2, 1) := by decide +kernel
theorem dX10_led_24 : decode cX10_led 24 = .ok (.invokestatic 332, 3) := by decide +kernel
theorem dX10_led_27 : decode cX10_led 27 = .ok (.if_icmp .lt 14, 3) := by decide +kernel
theorem dX10_led_30 : decode cX10_led 30 = .ok (.new 337, 3) := by decide +kernel
theorem dX10_led_33 : decode cX10_led 33 = .ok (.dup, 1) := by decide +kernel
theorem dX10_led_34 : decode cX10_led 34 = .ok (.ldc_w 339, 3) := by decide +kernel
theorem dX10_led_37 : decode cX10_led 37 = .ok (.invokespecial 341, 3) := by decide +kernel
theorem dX10_led_40 : decode cX10_led 40 = .ok (.athrow, 1) := by decide +kernel
theorem dX10_led_41 : decode cX10_led 41 = .ok (.iload_n 2, 1) := by decide +kernel
theorem dX10_led_42 : decode cX10_led 42 = .ok (.iload_n 1, 1) := by decide +kernel
theorem dX10_led_43 : decode cX10_led 43 = .ok (.invokestatic 344, 3) := by decide +kernel
theorem dX10_led_46 : decode cX10_led 46 = .ok (.ireturn, 1) := by decide +kernel
theorem dL_led_0 : decode cL_led 0 = .ok (.aload_n 2, 1) := by decide +kernel
theorem dL_led_1 : decode cL_led 1 = .ok (.iconst 0, 1) := by decide +kernel
theorem dL_led_2 : decode cL_led 2 = .ok (.aload_n 0, 1) := by decide +kernel
theorem dL_led_3 : decode cL_led 3 = .ok (.iload_n 1, 1) := by decide +kernel
theorem dL_led_4 : decode cL_led 4 = .ok (.invokevirtual 7, 3) := by decide +kernel
theorem dL_led_7 : decode cL_led 7 = .ok (.i2l, 1) := by decide +kernel
theorem dL_led_8 : decode cL_led 8 = .ok (.lastore, 1) := by decide +kernel
theorem dL_led_9 : decode cL_led 9 = .ok (.goto 6, 3) := by decide +kernel
theorem dL_led_12 : decode cL_led 12 = .ok (.astore_n 3, 1) := by decide +kernel
theorem dL_led_13 : decode cL_led 13 = .ok (.iconst 1, 1) := by decide +kernel
theorem dL_led_14 : decode cL_led 14 = .ok (.ireturn, 1) := by decide +kernel
theorem dL_led_15 : decode cL_led 15 = .ok (.iconst 0, 1) := by decide +kernel
theorem dL_led_16 : decode cL_led 16 = .ok (.ireturn, 1) := by decide +kernel
/-- what led's throw needs -/
def YL (g : gT) (s : State) : Prop := (∃ sa : Nat, vk_R RX10 339 "no such outcome" sa s) ∧ va_Nw (.castable "java/util/NoSuchElementException" "java/util/NoSuchElementException") s ∧ va_Nw (.declares (Bundle.initS "java/lang/RuntimeException")) s ∧ va_Nw (.declares (Bundle.initS "java/lang/Exception")) s ∧ va_Nw (.declares (Bundle.initS "java/lang/Throwable")) s ∧ vx_Zq Bundle.tN "UNASSIGNED_STACK" Bundle.steD (gA g) s s.heap ∧ vx_Zq Bundle.tN "SUPPRESSED_SENTINEL" Bundle.listD (gA g) s s.heap
theorem YL_same {g : gT} {U V : State} (hh : V.heap = U.heap) (hv : V.vm = U.vm) (h : YL g U) : YL g V := by
  obtain ⟨⟨sa, q0⟩, q1, q2, q3, q4, q5, q6⟩ := h
  have al : U.vm.Alike V.vm := by rw [hv]; exact Vm.Alike.refl _
  refine ⟨⟨sa, q0.same hv⟩, q1.same rfl hv.symm, q2.same rfl hv.symm, q3.same rfl hv.symm, q4.same rfl hv.symm, ?_, ?_⟩
  · rw [hh]; exact q5.moved al
  · rw [hh]; exact q6.moved al
theorem YL_go {g : gT} {s U : State} {H : Heap} {locs : List Loc} (hS : va_S (gA g) s.heap H locs) (hU : U.heap = H) (hW : s.WarmedH U.vm) (h : YL g s) : YL g U := by
  obtain ⟨⟨sa, q0⟩, q1, q2, q3, q4, q5, q6⟩ := h
  have al := hW.alike
  refine ⟨⟨sa, q0.warm hW⟩, va_Nw.warmC hW q1, va_Nw.warmD hW q2, va_Nw.warmD hW q3, va_Nw.warmD hW q4, ?_, ?_⟩
  · rw [hU]; exact vx_Zq.moved al (vx_Zq.kept q5 hS.2.1)
  · rw [hU]; exact vx_Zq.moved al (vx_Zq.kept q6 hS.2.1)
def XCl (g : gT) (h : mh_T) : String → State → State → Prop := fun E st t => E = "java/util/NoSuchElementException" ∧ va_P (gD g) vwCl (mw g h) t.heap ∧ va_F (gA g) st t
def QX (g : gT) (h : mh_T) : tQ := ((0, 0), (fun R s c => R = rmX ∧ (gl g).stackTraces = false ∧ YL g s ∧ ∀ x ∈ c.exceptionTable.toList, False), fun below args s => vx_MQ below (mQ g (qI (fun _ h' => h' = h))) (XCl g h) args s 1 6 (gA g))
theorem QX_r {g : gT} {h : mh_T} : ∀ R s c, (QX g h).2.1 R s c → (QX g h).1.1 ≤ R.cells ∧ (QX g h).1.2 ≤ R.slots := fun _ _ _ _ => ⟨Nat.zero_le _, Nat.zero_le _⟩
set_option maxHeartbeats 4000000 in
set_option maxRecDepth 100000 in
theorem t_throw {g : gT} {h : mh_T} {lv : List Value} : TE g uX10_led 30 lv [] h (QX g h) := by
  intro p e R s m args below meth c H locs ls hR X
  obtain ⟨x1, x2, x3, x4, x5, x6, x7, x8, x9, x10, x11, x12, ⟨l, h1, h2⟩, x14⟩ := X
  obtain ⟨hRe, hl0, ⟨⟨sa, hstr⟩, hng0, hd1, hd2, hd3, hU, hN⟩, hnt⟩ := hR
  subst hRe
  have hng : ∀ w ∈ led_B, w.before args s = true := vx_c (va_Nw.use rfl hng0) (vx_c (va_Nw.use rfl hd1) (vx_c (va_Nw.use rfl hd2) (vx_c (va_Nw.use rfl hd3) vx_n)))
  have hat : ∀ w ∈ vx_atX RX10 341 "java/util/NoSuchElementException" 13 prog_28_method_4_code ["java/lang/RuntimeException", "java/lang/Exception"], w.before args s = true := vx_hat (fun w h => x7 w (led_gin w h) (List.mem_filter.mp h).2) led_Bs hng
  exact my_throwSWX (ix := 13) (rx := prog_28_method_4_code) (own := RX10) (cls := "java/util/NoSuchElementException") (text := "no such outcome") (names := ["java/lang/RuntimeException", "java/lang/Exception"]) (ik := 337) (is := 339) (ic := 341) (sa := sa) x1 x2 hl0 nx_0 nx_1 nx_2 nx_5 x6 (by decide) (by decide) (x7 _ tm_20 rfl) (x7 _ tm_21 rfl) hstr hat led_good hU hN x11 (h1.1.trans x3.symm) dX10_led_30 dX10_led_33 dX10_led_34 dX10_led_37 dX10_led_40 (fun x h => (hnt x h).elim) (Nat.le_of_ble_eq_true rfl) (Nat.le_of_ble_eq_true rfl) (Nat.le_of_ble_eq_true rfl) (Nat.le_of_ble_eq_true rfl) x5 (fun t hvm hz hk => ⟨rfl, fun k q hq => (x9 k q hq).kept (hk _ (x9 k q hq).lt), Nat.le_trans x11.1 hz, fun q h1 h2 => (hk q (Nat.lt_of_lt_of_le h1 x11.1)).trans (x11.2.1 q h1 h2)⟩) x11.2.2 (Nat.le_of_ble_eq_true rfl) (Nat.le_of_ble_eq_true rfl)
theorem t_ledret {g : gT} {h : mh_T} {lv : List Value} {r : Int32} : TE g uX10_led 46 lv [.int r] h (QX g h) := by
  intro p e R s m args below meth c H locs ls hR X
  refine W.widen (k := 1) (n := 6) (Nat.zero_le _) (Nat.zero_le _) (vx_ret ?_)
  exact W.zret (ty := .int) X.1 X.2.1 X.2.2.2.1 rfl (fun t ht _ => ⟨some (.int r), h, rfl, ⟨r, rfl, rfl⟩, by rw [ht]; exact X.2.2.2.2.2.2.2.2.1, X.2.2.2.2.2.2.2.2.2.2.1.F ht⟩) X.2.2.2.2.2.2.2.2.2.2.1.2.2 dX10_led_46 X.2.2.2.2.1
set_option maxHeartbeats 4000000 in
set_option maxRecDepth 100000 in
theorem t_led {g : gT} {h : mh_T} (a1 : Int32) (hG : GI h) : TE g uX10_led 0 [.ref 0, .int a1, .retAddr 0] [] h (QX g h) := by
  refine te_aload_n dX10_led_0 rfl ?_
  refine gt_X10_25 rfl dX10_led_1 ?_
  refine ct_X10_164 rfl (by decide) dX10_led_4 QX_r (Nat.le_of_ble_eq_true rfl) (TCi_go (s_X8_possible hG (fun r1 => rfl)) (P := fun _ h' => h' = h) (fun r1 h1 e1 => ?_))
  subst e1
  refine te_aload_n dX10_led_7 rfl ?_
  refine gt_X10_25 rfl dX10_led_8 ?_
  refine ct_X10_160 rfl (by decide) dX10_led_11 QX_r (Nat.le_of_ble_eq_true rfl) (TCi_go (s_X8_extending hG (fun r2 => rfl)) (P := fun _ h' => h' = h1) (fun r2 h2 e2 => ?_))
  subst e2
  refine te_iconst (v := (-1)) dX10_led_14 (by decide) ?_
  refine te_ixor dX10_led_15 ?_
  refine te_iand dX10_led_16 ?_
  refine te_istore_n dX10_led_17 (by decide) rfl rfl ?_
  refine te_iload_n dX10_led_18 rfl ?_
  refine te_if_lt 30 dX10_led_19 (by decide) (fun _ => t_throw) (fun _ => ?_)
  refine te_iload_n dX10_led_22 rfl ?_
  refine te_iload_n dX10_led_23 rfl ?_
  refine ct_X10_332 rfl (by decide) dX10_led_24 QX_r (Nat.le_of_ble_eq_true rfl) (TCi_go (s_J6_bitCount_0f7a4 _ hG (fun r3 _ => rfl)) (P := fun _ h' => h' = h2) (fun r3 h3 e3 => ?_))
  subst e3
  refine te_icmp_lt 41 dX10_led_27 (by decide) (fun _ => ?_) (fun _ => t_throw)
  refine te_iload_n dX10_led_41 rfl ?_
  refine te_iload_n dX10_led_42 rfl ?_
  refine ct_X10_344 rfl (by decide) dX10_led_43 QX_r (Nat.le_of_ble_eq_true rfl) (TCi_go (s_X10_bitAt _ _ hG (fun r4 _ => rfl)) (P := fun _ h' => h' = h3) (fun r4 h4 e4 => ?_))
  subst e4
  exact t_ledret
