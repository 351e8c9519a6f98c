set_option maxRecDepth 20000 in
theorem tn_0 : Cond.instanceMethod yX10_led ∈ lw_tbl := tk_6 (j := 15) rfl
set_option maxRecDepth 20000 in
theorem tn_1 : Cond.selects RX10 yX10_led yX10_led ∈ lw_tbl := tk_6 (j := 16) rfl
set_option maxRecDepth 20000 in
theorem tn_2 : Cond.classLink RL 13 "java/util/NoSuchElementException" ∈ lw_tbl := tk_6 (j := 13) rfl
set_option maxRecDepth 20000 in
theorem tn_3 : Cond.codeWith yL_led cL_led 4 (some .int) [(0, 9, 12, 13)] ∈ lw_tbl := tk_6 (j := 12) rfl
set_option maxRecDepth 20000 in
theorem tn_4 : Cond.methodLink RL 218 yL_led ∈ lw_tbl := tk_6 (j := 10) rfl
set_option maxRecDepth 20000 in
theorem tn_5 : Cond.static yL_led ∈ lw_tbl := tk_6 (j := 11) rfl
set_option maxRecDepth 20000 in
theorem tn_6 : Cond.initialized RL ∈ lw_tbl := tk_1 (j := 0) rfl
/-! the law's led; its case; its loop -/
theorem k_led {g : gT} {h : mh_T} (hG : GI h) (hl0 : (gl g).stackTraces = false) (a1 : Int32) : vx_Met (gl g) yX10_led (mWs yX10_led uX10_led) rmX (fun v U => mPc g [.ref 0, .int a1] h v U ∧ YL g U) (mQ g (qI (fun _ h' => h' = h))) (XCl g h) 1 6 (gA g) := by
  refine vx_ofW (cc := cX10_led) (maxL := 3) (ret := some .int) (by decide) rfl ?_
  intro p e s m args below meth c s₁ B hml hnt hv
  obtain ⟨⟨rfl, hK, hP, hg, hX⟩, hY⟩ := hv
  have hts := atoms_spec (ws := mWs yX10_led uX10_led) B.pre
  have hown : s.vm.findClass RX10 = some m.cls := findClass_of_methodNamed B.named
  have hl := lv_entry (([.ref 0, .int a1] : List Value).map (tv g)) (n := 3) (by rw [lg_sl_len]; exact Nat.le_of_ble_eq_true rfl)
  rw [lg_entry_eq]
  generalize (lg_sl (([.ref 0, .int a1] : List Value).map (tv g)) ++ List.replicate (3 - (lg_sl (([.ref 0, .int a1] : List Value).map (tv g))).length) Slot.unset).toArray = ls at hl ⊢
  refine t_led a1 hG p e rmX s m _ below meth c s.heap [] ls ⟨rfl, hl0, hY, hnt⟩ ⟨B.exec, B.bytes, hml, B.returns, B.notSynchronized, hown, fun w h1 h2 => hts w (List.mem_cons_of_mem _ (List.mem_filter.mpr ⟨h1, h2⟩)), hK, hP, hg, va_S.rf, ⟨Nat.le_of_ble_eq_true rfl, Nat.le_of_ble_eq_true rfl⟩, ⟨_, hl, ?_⟩, hX⟩
  intro i v hi hv
  match i, hi with
  | 0, hi => cases hi; exact List.mem_cons_self
  | 1, hi => cases hi; exact List.mem_cons_of_mem _ List.mem_cons_self
  | 2, hi => cases hi; exact absurd rfl hv
  | i + 3, hi => cases hi
def PL (h : mh_T) : Int32 → mh_T → Prop := fun _ h' => ∃ v : Int64, h' = h ∨ h' = wL h 61 0 v
def QY (g : gT) (h : mh_T) : tQ := ((1, 6), (fun R s c => R = rmY ∧ (gl g).stackTraces = false ∧ YL g s ∧ c.exceptionTable.toList = [⟨0, 9, 12, 13⟩]), fun below args s => MQ below (mQ g (qI (PL h))) args s 1 6 (gA g))
theorem t_lret {g : gT} {h h' : mh_T} {lv : List Value} {pc : Nat} {r : Int32} (hd : decode cL_led pc = .ok (.ireturn, 1)) (hp : PL h r h') : TE g uL_led pc lv [.int r] h' (QY g h) := by
  intro p e R s m args below meth c H locs ls hR X
  exact W.zret (ty := .int) X.1 X.2.1 X.2.2.2.1 rfl (fun t ht _ => ⟨some (.int r), h', rfl, ⟨r, rfl, hp⟩, by rw [ht]; exact X.2.2.2.2.2.2.2.2.1, X.2.2.2.2.2.2.2.2.2.2.1.F ht⟩) X.2.2.2.2.2.2.2.2.2.2.1.2.2 hd X.2.2.2.2.1
theorem mPY_blind (g : gT) (As : List Value) (h : mh_T) : FrameBlind (fun v U => mPc g As h v U ∧ YL g U) := by
  intro a U f mk hp
  exact ⟨mPc_blind g As h a U f mk hp.1, YL_same (U := U) rfl rfl hp.2⟩
set_option maxHeartbeats 4000000 in
set_option maxRecDepth 100000 in
theorem t_Lled {g : gT} {h : mh_T} (a1 : Int32) (hG : GI h) : ∀ (p : Program) (e : Env) (R : Room) (s : State) (m : MethodId) (args : Array Value) (below : List Frame) (meth : Method) (c : Code) (H : Heap) (locs : List Loc) (ls : Array Slot), (QY g h).2.1 R s c → MX g uL_led p R s m args meth c H locs ls [.ref 0, .int a1, .ref 61, .retAddr 0] h → W p (gl g) e R s m args below meth c H locs 0 0 ((QY g h).2.2 below args s) (F0 m 0 ls []) := by
  intro p e R s m args below meth c H locs ls hR X
  have hX := X
  obtain ⟨x1, x2, x3, x4, x5, x6, x7, x8, x9, x10, x11, x12, ⟨l, h1, h2⟩, x14⟩ := X
  obtain ⟨hRe, hl0, hY, htab⟩ := id hR
  subst hRe
  refine lv_aload_n x1 x2 dL_led_0 rfl (h1.2.2 _ (h2 2 (.ref 61) rfl (by intro e; cases e))) ?_
  refine lv_iconst (v := 0) x1 x2 dL_led_1 (by decide) ?_
  refine lv_aload_n x1 x2 dL_led_2 rfl (h1.2.2 _ (h2 0 (.ref 0) rfl (by intro e; cases e))) ?_
  refine lv_iload_n x1 x2 dL_led_3 rfl (h1.2.2 _ (h2 1 (.int a1) rfl (by intro e; cases e))) ?_
  have hr := vx_runV (p := p) (R := rmY) (H := H) (e := e) (below := below) (meth := meth) (locs := locs) (cells := 0) (slots := 0) (As := [.int a1]) (b := gad g 0) (C := RX10) (n := 1) (rest := [.int 0, .ref (gad g 61)]) (g := F0 m 4 ls [.int a1, .ref (gad g 0), .int 0, .ref (gad g 61)]) (m_fix hX) (k_led hG hl0 a1) ⟨callB_of 1 (m_ws hX) (m_good lq_L_7.1) rfl rfl rfl (x7 _ lq_L_7.2.2.1 rfl) (x7 _ lq_L_7.2.1 rfl) lq_L_7.2.2.2.1 ⟨Nat.le_of_ble_eq_true rfl, Nat.le_of_ble_eq_true rfl⟩, x7 _ tn_0 rfl, x7 _ tn_1 rfl⟩ ⟨mPY_blind g _ h, m_recv hX (k := 0) (ci := 10) (q := (RX10, TX10, 14)) rfl rfl (by decide) (by decide), fun U hU hW => ⟨m_pre hX [.ref 0, .int a1] U hU hW, YL_go x11 hU hW hY⟩⟩ rfl rfl h1.1 rfl (lv_room (Nat.le_of_ble_eq_true rfl)) dL_led_4 ⟨Nat.le_of_ble_eq_true rfl, Nat.le_of_ble_eq_true rfl⟩
  intro T hT XT
  rcases hr T hT XT with ⟨v, st₀, t, T', L, h0, X', hL, e1, e2, ⟨v', h', ev, hq, hP, hF⟩, go⟩ | ⟨q9, st₀, t, T', L, E, ce, h0, X', hL, e1, e2, ⟨hE, hP, hF⟩, hce, hcv, hcl, st⟩
  · cases ev
    obtain ⟨r, hv, hh⟩ := hq
    subst hv
    subst hh
    have K : TE g uL_led 7 [.ref 0, .int a1, .ref 61, .retAddr 0] [.int r, .int 0, .ref 61] h' (QY g h') := by
      refine te_i2l dL_led_7 ?_
      refine te_lastore dL_led_8 rfl (by decide) (by unfold vp_in; decide) ?_
      refine te_goto 15 dL_led_9 (by decide) ?_
      refine te_iconst (v := 0) dL_led_15 (by decide) ?_
      exact t_lret dL_led_16 ⟨_, Or.inr rfl⟩
    obtain ⟨tt, b1, b2⟩ := K p e rmY s m args below meth c T'.heap (locs ++ L) ls hR ⟨x1, x2, x3, x4, x5, x6, x7, x8, by rw [e1]; exact hP, x10, by rw [e1]; exact va_S_call x11 h0 hF hL, x12, ⟨l, h1, h2⟩, x14⟩ T' rfl X'
    exact ⟨tt, go tt b1, b2⟩
  · subst hE
    have hS' : va_S (gA g) s.heap T'.heap (locs ++ L) := by rw [e1]; exact va_S_call x11 h0 hF hL
    have K : vx_W p (gl g) e rmY s m args below meth c T'.heap (locs ++ L) 1 6 ((QY g h).2.2 below args s) (F0 m 4 ls [.int 0, .ref (gad g 61)]) q9 := by
      refine vx_catch x6 [] ⟨0, 9, 12, 13⟩ [] htab (fun z h => nomatch h) (by decide) (by decide) (x7 _ tn_2 rfl) (va_Nw.use rfl hY.2.1) (by rw [e1]; exact hce) hcv hcl ?_
      refine lv_astore_n (lv' := _) x1 x2 dL_led_12 rfl h1 (by decide) rfl (fun ls hl => ?_)
      refine lv_iconst (v := 1) x1 x2 dL_led_13 (by decide) ?_
      exact W.zret (ty := .int) x1 x2 x4 rfl (fun t ht _ => ⟨some (.int 1), h, rfl, ⟨1, rfl, ⟨0, Or.inl rfl⟩⟩, by rw [ht, e1]; exact hP, hS'.F ht⟩) hS'.2.2 dL_led_14 x5
    obtain ⟨t2, b1, b2⟩ := K T' rfl X'
    exact ⟨t2, st.trans b1, b2⟩
def wsQ : List Cond := .codeWith yL_led cL_led 4 (some .int) [(0, 9, 12, 13)] :: lw_tbl.filter goodWord
theorem k_Lled {g : gT} {h : mh_T} (hG : GI h) (hl0 : (gl g).stackTraces = false) (a1 : Int32) : Met (gl g) yL_led wsQ rmY (fun v U => mPc g [.ref 0, .int a1, .ref 61] h v U ∧ YL g U) (mQ g (qI (PL h))) 1 6 (gA g) := by
  refine va_MetW (cc := cL_led) (maxL := 4) (ret := some .int) (by decide) rfl ?_
  intro p e s m args below meth c s₁ B hml hv
  obtain ⟨⟨rfl, hK, hP, hg, hX⟩, hY⟩ := hv
  have hts := atoms_spec (ws := wsQ) B.pre
  have hown : s.vm.findClass RL = some m.cls := findClass_of_methodNamed B.named
  have htab := vx_table (x := yL_led) B (hts _ List.mem_cons_self)
  have hl := lv_entry (([.ref 0, .int a1, .ref 61] : List Value).map (tv g)) (n := 4) (by rw [lg_sl_len]; exact Nat.le_of_ble_eq_true rfl)
  rw [lg_entry_eq]
  generalize (lg_sl (([.ref 0, .int a1, .ref 61] : List Value).map (tv g)) ++ List.replicate (4 - (lg_sl (([.ref 0, .int a1, .ref 61] : List Value).map (tv g))).length) Slot.unset).toArray = ls at hl ⊢
  refine t_Lled a1 hG p e rmY s m _ below meth c s.heap [] ls ⟨rfl, hl0, hY, htab⟩ ⟨B.exec, B.bytes, hml, B.returns, B.notSynchronized, hown, fun w h1 h2 => hts w (List.mem_cons_of_mem _ (List.mem_filter.mpr ⟨h1, h2⟩)), hK, hP, hg, va_S.rf, ⟨Nat.le_of_ble_eq_true rfl, Nat.le_of_ble_eq_true rfl⟩, ⟨_, hl, ?_⟩, hX⟩
  intro i v hi hv
  match i, hi with
  | 0, hi => cases hi; exact List.mem_cons_self
  | 1, hi => cases hi; exact List.mem_cons_of_mem _ List.mem_cons_self
  | 2, hi => cases hi; exact List.mem_cons_of_mem _ (List.mem_cons_of_mem _ List.mem_cons_self)
  | 3, hi => cases hi; exact absurd rfl hv
  | i + 4, hi => cases hi
theorem wsQ_good : GoodIn (lw_tbl.filter goodWord) wsQ := by
  intro w hw
  rcases List.mem_cons.mp hw with h | h
  · subst h
    refine ⟨List.mem_filter.mpr ⟨tn_3, ?_⟩, good_of_word ?_⟩ <;> first | rfl | simp [goodWord, Cond.onTables, Cond.keeps, Cond.steady]
  · exact ⟨h, good_of_word (List.mem_filter.mp h).2⟩
theorem wsQ_all : GoodIn (lw_tbl.filter goodWord) (va_wsS RL 218 yL_led wsQ) := by
  refine goodIn_app ?_ wsQ_good
  intro w hw
  have : w = Cond.methodLink RL 218 yL_led ∨ w = Cond.static yL_led ∨ w = Cond.initialized yL_led.cls := by
    simpa using hw
  rcases this with e | e | e <;> subst e
  · exact ⟨List.mem_filter.mpr ⟨tn_4, rfl⟩, good_of_word rfl⟩
  · exact ⟨List.mem_filter.mpr ⟨tn_5, rfl⟩, good_of_word rfl⟩
  · exact ⟨List.mem_filter.mpr ⟨show Cond.initialized RL ∈ lw_tbl from tn_6, rfl⟩, good_of_word rfl⟩
set_option maxHeartbeats 4000000 in
set_option maxRecDepth 100000 in
theorem l_ledcall {g : gT} {h : mh_T} {Q : Nat × Nat} {lv : List Value} (a1 : Int32) (hG : GI h) (hq : Q.1 + 1 ≤ 601024 ∧ Q.2 + 6 ≤ 7293034) (kk : ∀ (r : Int32) (h' : mh_T), PL h r h' → LE g uL 1528 lv [.int r] h' (Q.1 + 1, Q.2 + 6)) : LE g uL 1525 lv [.ref 61, .int a1, .ref 0] h Q := by
  intro p e R s m args below meth c H locs ls hR X
  have hX := X
  obtain ⟨x1, x2, x3, x4, x5, x6, x7, x8, x9, x10, x11, x12, ⟨l, h1, h2⟩, x14⟩ := X
  obtain ⟨hRe, hl0, y1, y2, y3, y4, y5, y6, y7, y8⟩ := id hR
  subst hRe
  have hY : YL g s := ⟨y1, y2, y3, y4, y5, y6, y7⟩
  have hr := vx_runSW (p := p) (R := room_1) (H := H) (e := e) (below := below) (meth := meth) (locs := locs) (cells := Q.1) (slots := Q.2) (As := [.ref (gad g 0), .int a1, .ref (gad g 61)]) (n := 3) (rest := []) (g := F0 m 1525 ls [.ref (gad g 61), .int a1, .ref (gad g 0)]) (m_fix hX) (k_Lled hG hl0 a1) (vx_cwSW 3 (m_ws hX) wsQ_all rfl rfl rfl (by decide +kernel) ⟨Nat.le_of_ble_eq_true rfl, Nat.le_of_ble_eq_true rfl⟩) ⟨mPY_blind g _ h, fun U hU hW => ⟨m_pre hX [.ref 0, .int a1, .ref 61] U hU hW, YL_go x11 hU hW hY⟩⟩ rfl rfl h1.1 rfl (lv_room (Nat.le_of_ble_eq_true rfl)) dL_law_1525 ⟨hq.1, hq.2⟩
  intro T hT XT
  obtain ⟨v, s0, t, T', L, h0, X', hL, e1, e2, ⟨v', h', ev, hq', hP, hF⟩, go⟩ := hr T hT XT
  cases ev
  obtain ⟨r, hv, hh⟩ := hq'
  subst hv
  obtain ⟨tt, b1, b2⟩ := kk r h' hh p e room_1 s m args below meth c T'.heap (locs ++ L) ls hR ⟨x1, x2, x3, x4, x5, x6, x7, x8, by rw [e1]; exact hP, x10, by rw [e1]; exact va_S_call x11 h0 hF hL, x12, ⟨l, h1, h2⟩, x14⟩ T' rfl X'
  exact ⟨tt, go tt b1, b2⟩
theorem PL_J {h h' : mh_T} {r : Int32} (hp : PL h r h') (hJ : JJ h) : JJ h' ∧ SL h h' := by
  obtain ⟨v, e | e⟩ := hp <;> subst e
  · exact ⟨hJ, SL_rf _⟩
  · exact ⟨⟨GI_wL hJ.1, hJ.2⟩, SL_wL⟩
set_option maxRecDepth 100000 in
set_option maxHeartbeats 4000000 in
theorem lc_47 {g : gT} {h : mh_T} {Q : Nat × Nat} (i : Int32) (k : Nat) (ei : i.toInt = (k : Int)) (hk : k + 7 ≤ gN g) (hN : gN g ≤ 3584) (hJ : JJ h) (he : RR h) (hq : Q.1 + 1 ≤ 601024 ∧ Q.2 + 6 ≤ 7293034) (K : ∀ h', JJ h' → RR h' → LE g uL 1583 [.ref 900, .ref 0, .ref 11, .ref 61, .int i, .retAddr 0, .retAddr 0] [] h' (Q.1 + 1, Q.2 + 6)) : LE g uL 1517 [.ref 900, .ref 0, .ref 11, .ref 61, .int i, .retAddr 0, .retAddr 0] [] h Q := by
  have hin1 : vp_in (i + 1) (gN g) := l_in ei (c := 1) (d := 1) (by decide) (by omega) (by omega)
  refine l_aload_n dL_law_1517 rfl ?_
  refine l_aload_n dL_law_1518 rfl ?_
  refine l_iload dL_law_1519 rfl ?_
  refine l_iconst (v := 1) dL_law_1521 (by decide) ?_
  refine l_iadd dL_law_1522 ?_
  refine l_sld dL_law_1523 hin1 ?_
  refine l_aload_n dL_law_1524 rfl ?_
  refine l_ledcall _ hJ.1 hq (fun r1 h1 hp1 => ?_)
  obtain ⟨hJ1, s1⟩ := PL_J hp1 hJ
  refine l_istore dL_law_1528 (by decide) rfl rfl ?_
  refine l_aload_n dL_law_1530 rfl ?_
  refine l_aload_n dL_law_1531 rfl ?_
  refine l_iload dL_law_1532 rfl ?_
  refine l_iconst (v := 1) dL_law_1534 (by decide) ?_
  refine l_iadd dL_law_1535 ?_
  refine l_sld dL_law_1536 hin1 ?_
  refine cl_L_223 dL_law_1537 (by exact ⟨by omega, by omega⟩) (Nat.le_of_ble_eq_true rfl) (LCi_go (P := fun r h' => LE g uL 1540 [.ref 900, .ref 0, .ref 11, .ref 61, .int i, .int r1, .retAddr 0] [.int r] h' (Q.1 + 1, Q.2 + 6)) ?_ (fun _ _ q => q))
  refine k_X11_led _ hJ1 (fun r2 h2 hJ2 s2 => ?_)
  refine l_istore dL_law_1540 (by decide) rfl rfl ?_
  refine l_goto 1583 dL_law_1542 (by decide) ?_
  refine l_dropK [5, 6] rfl ?_
  exact K h2 hJ2 (RR_l hJ hJ1 he s1 s2)
