/-! the small machine: switches, constants, strings, the script, arraycopy -/
theorem m_tableOut {g : gT} {u : uT} {pc : Nat} {lv st : List Value} {h : mh_T} {Q : Option Value → mh_T → Prop} {dflt lo hi : Int} {offs : Array Int} {len : Nat} {x : Int32} (tgt : Nat) (hd : decode u.2.1 pc = .ok (.tableswitch dflt lo hi offs, len)) (hx : x.toInt < lo ∨ hi < x.toInt) (ht : (pc : Int) + dflt = (tgt : Int)) (k : ME g u tgt lv st h Q) : ME g u pc lv (.int x :: st) h Q := by
  intro p e R s m args below meth c H locs ls X
  exact lv_tableOut X.1 X.2.1 hd hx ht (k p e R s m args below meth c H locs ls X)
theorem m_tableIn {g : gT} {u : uT} {pc : Nat} {lv st : List Value} {h : mh_T} {Q : Option Value → mh_T → Prop} {dflt lo hi : Int} {offs : Array Int} {len : Nat} {x : Int32} {off : Int} (tgt : Nat) (hd : decode u.2.1 pc = .ok (.tableswitch dflt lo hi offs, len)) (h1 : ¬ x.toInt < lo) (h2 : ¬ hi < x.toInt) (ho : offs[(x.toInt - lo).toNat]? = some off) (ht : (pc : Int) + off = (tgt : Int)) (k : ME g u tgt lv st h Q) : ME g u pc lv (.int x :: st) h Q := by
  intro p e R s m args below meth c H locs ls X
  exact lv_tableIn X.1 X.2.1 hd h1 h2 ho ht (k p e R s m args below meth c H locs ls X)
theorem m_ldc {g : gT} {u : uT} {pc : Nat} {lv st : List Value} {h : mh_T} {Q : Option Value → mh_T → Prop} {index : Nat} {v : Int32} (hd : decode u.2.1 pc = .ok (.ldc index, 2)) (hc : Cond.constant u.1 index v ∈ lw_tbl) (k : ME g u (pc + 2) lv (.int v :: st) h Q) : ME g u pc lv st h Q := by
  intro p e R s m args below meth c H locs ls X
  exact lv_ldc X.1 X.2.1 X.2.2.2.2.2.1 (X.2.2.2.2.2.2.1 _ hc rfl) hd (k p e R s m args below meth c H locs ls X)
theorem m_ldcw {g : gT} {u : uT} {pc : Nat} {lv st : List Value} {h : mh_T} {Q : Option Value → mh_T → Prop} {index : Nat} {v : Int32} (hd : decode u.2.1 pc = .ok (.ldc_w index, 3)) (hc : Cond.constant u.1 index v ∈ lw_tbl) (k : ME g u (pc + 3) lv (.int v :: st) h Q) : ME g u pc lv st h Q := by
  intro p e R s m args below meth c H locs ls X
  exact lv_ldcw X.1 X.2.1 X.2.2.2.2.2.1 (X.2.2.2.2.2.2.1 _ hc rfl) hd (k p e R s m args below meth c H locs ls X)
theorem m_ldc2 {g : gT} {u : uT} {pc : Nat} {lv st : List Value} {h : mh_T} {Q : Option Value → mh_T → Prop} {index : Nat} {v : Int64} (hd : decode u.2.1 pc = .ok (.ldc2_w index, 3)) (hc : Cond.constantLong u.1 index v ∈ lw_tbl) (k : ME g u (pc + 3) lv (.long v :: st) h Q) : ME g u pc lv st h Q := by
  intro p e R s m args below meth c H locs ls X
  exact lv_ldc2 X.1 X.2.1 X.2.2.2.2.2.1 (X.2.2.2.2.2.2.1 _ hc rfl) hd (k p e R s m args below meth c H locs ls X)
theorem gad_K (g : gT) {i : Nat} (hi : i < nJS) : gad g (1000 + i) = gK g i := by
  have : i < 12 := hi
  unfold gad
  rw [if_neg (by omega), if_neg (by omega), if_pos (by omega), Nat.add_sub_cancel_left]
theorem gad_V (g : gT) (i : Nat) : gad g (2000 + i) = gV g i := by
  unfold gad
  rw [if_neg (by omega), if_neg (by omega), if_neg (by omega), Nat.add_sub_cancel_left]
theorem m_ldcH {g : gT} {s : State} (x : mXC g s) {o : String} {index i : Nat} {tx : String} (hq : (o, index, tx, i) ∈ strJS) : vk_R o index tx (gK g i) s := x.2.1 (o, index, tx, i) hq
theorem m_ldcS {g : gT} {u : uT} {pc : Nat} {lv st : List Value} {h : mh_T} {Q : Option Value → mh_T → Prop} {index i : Nat} {tx : String} (hd : decode u.2.1 pc = .ok (.ldc index, 2)) (hq : (u.1, index, tx, i) ∈ strJS) (hi : i < nJS) (k : ME g u (pc + 2) lv (.ref (1000 + i) :: st) h Q) : ME g u pc lv st h Q := by
  intro p e R s m args below meth c H locs ls X
  obtain ⟨x1, x2, x3, x4, x5, x6, x7, x8, x9, x10, x11, x12, x13, x14⟩ := id X
  have kx : W p (gl g) e R s m args below meth c H locs 0 0 _ (F0 m (pc + 2) ls (.ref (gad g (1000 + i)) :: st.map (tv g))) := k p e R s m args below meth c H locs ls X
  rw [gad_K g hi] at kx
  have w : vk_R u.1 index tx (gK g i) s := m_ldcH x14 hq
  generalize gK g i = z at w kx
  exact va_ldcS x1 x2 x6 w hd kx
theorem m_getCoder {g : gT} {u : uT} {pc : Nat} {lv st : List Value} {h : mh_T} {Q : Option Value → mh_T → Prop} {index i : Nat} (hd : decode u.2.1 pc = .ok (.getfield index, 3)) (hi : i < nJS) (hl : Cond.fieldLink u.1 index "java/lang/String" "coder" "B" ∈ lw_tbl) (k : ME g u (pc + 3) lv (.int 0 :: st) h Q) : ME g u pc lv (.ref (1000 + i) :: st) h Q := by
  intro p e R s m args below meth c H locs ls X
  obtain ⟨x1, x2, x3, x4, x5, x6, x7, x8, x9, x10, x11, x12, x13, x14⟩ := id X
  show W p (gl g) e R s m args below meth c H locs 0 0 _ (F0 m pc ls (.ref (gad g (1000 + i)) :: st.map (tv g)))
  rw [gad_K g hi]
  exact vk_getf x1 x2 (x14.1.1 i hi).2.1 x11 x6 (x7 _ hl rfl) (fun _ q => q) hd (k p e R s m args below meth c H locs ls X)
theorem m_getValue {g : gT} {u : uT} {pc : Nat} {lv st : List Value} {h : mh_T} {Q : Option Value → mh_T → Prop} {index i : Nat} (hd : decode u.2.1 pc = .ok (.getfield index, 3)) (hi : i < nJS) (hl : Cond.fieldLink u.1 index "java/lang/String" "value" "[B" ∈ lw_tbl) (k : ME g u (pc + 3) lv (.ref (2000 + i) :: st) h Q) : ME g u pc lv (.ref (1000 + i) :: st) h Q := by
  intro p e R s m args below meth c H locs ls X
  obtain ⟨x1, x2, x3, x4, x5, x6, x7, x8, x9, x10, x11, x12, x13, x14⟩ := id X
  show W p (gl g) e R s m args below meth c H locs 0 0 _ (F0 m pc ls (.ref (gad g (1000 + i)) :: st.map (tv g)))
  have kx := k p e R s m args below meth c H locs ls X
  have kx : W p (gl g) e R s m args below meth c H locs 0 0 _ (F0 m (pc + 3) ls (.ref (gad g (2000 + i)) :: st.map (tv g))) := kx
  rw [gad_V g i] at kx
  rw [gad_K g hi]
  exact vk_getf x1 x2 (x14.1.1 i hi).2.2.1 x11 x6 (x7 _ hl rfl) (fun _ q => q) hd kx
theorem m_getsC {g : gT} {u : uT} {pc : Nat} {lv st : List Value} {h : mh_T} {Q : Option Value → mh_T → Prop} {index : Nat} (hd : decode u.2.1 pc = .ok (.getstatic index, 3)) (hl : Cond.fieldLink u.1 index "java/lang/String" "COMPACT_STRINGS" "Z" ∈ lw_tbl) (k : ME g u (pc + 3) lv (.int 1 :: st) h Q) : ME g u pc lv st h Q := by
  intro p e R s m args below meth c H locs ls X
  obtain ⟨x1, x2, x3, x4, x5, x6, x7, x8, x9, x10, x11, x12, x13, x14⟩ := id X
  exact va_gets x1 x2 x14.2.2.2.2.2.2.1 x11 x6 (x7 _ hl rfl) (fun _ q => q) hd (k p e R s m args below meth c H locs ls X)
theorem m_getsF {g : gT} {u : uT} {pc : Nat} {lv st : List Value} {h : mh_T} {Q : Option Value → mh_T → Prop} {index : Nat} (hd : decode u.2.1 pc = .ok (.getstatic index, 3)) (hl : Cond.fieldLink u.1 index "jdk/internal/util/Preconditions" "SIOOBE_FORMATTER" "Ljava/util/function/BiFunction;" ∈ lw_tbl) (k : ME g u (pc + 3) lv (.retAddr 1 :: st) h Q) : ME g u pc lv st h Q := by
  intro p e R s m args below meth c H locs ls X
  obtain ⟨x1, x2, x3, x4, x5, x6, x7, x8, x9, x10, x11, x12, x13, x14⟩ := id X
  exact va_gets x1 x2 x14.2.2.2.2.2.2.2.2 x11 x6 (x7 _ hl rfl) (fun _ q => q) hd (k p e R s m args below meth c H locs ls X)
theorem m_alenS {g : gT} {u : uT} {pc : Nat} {lv st : List Value} {h : mh_T} {Q : Option Value → mh_T → Prop} {i : Nat} (hd : decode u.2.1 pc = .ok (.arraylength, 1)) (hi : i < nJS) (k : ME g u (pc + 1) lv (.int (Int32.ofNat (lenJS.getD i 0)) :: st) h Q) : ME g u pc lv (.ref (2000 + i) :: st) h Q := by
  intro p e R s m args below meth c H locs ls X
  obtain ⟨x1, x2, x3, x4, x5, x6, x7, x8, x9, x10, x11, x12, x13, x14⟩ := id X
  show W p (gl g) e R s m args below meth c H locs 0 0 _ (F0 m pc ls (.ref (gad g (2000 + i)) :: st.map (tv g)))
  rw [gad_V g i]
  exact va_tlen x1 x2 (x14.1.1 i hi).2.2.2 x11 rfl hd (k p e R s m args below meth c H locs ls X)
theorem m_baldS {g : gT} {u : uT} {pc : Nat} {lv st : List Value} {h : mh_T} {Q : Option Value → mh_T → Prop} {i : Nat} {j : Int32} (hd : decode u.2.1 pc = .ok (.baload, 1)) (hi : i < nJS) (hj : vp_in j (lenJS.getD i 0)) (k : ME g u (pc + 1) lv (.int ((bytJS.getD i []).getD j.toNatClampNeg 0) :: st) h Q) : ME g u pc lv (.int j :: .ref (2000 + i) :: st) h Q := by
  intro p e R s m args below meth c H locs ls X
  obtain ⟨x1, x2, x3, x4, x5, x6, x7, x8, x9, x10, x11, x12, x13, x14⟩ := id X
  show W p (gl g) e R s m args below meth c H locs 0 0 _ (F0 m pc ls (.int j :: .ref (gad g (2000 + i)) :: st.map (tv g)))
  rw [gad_V g i]
  exact va_tb x1 x2 (x14.1.1 i hi).2.2.2 x11 hj rfl hd (k p e R s m args below meth c H locs ls X)
theorem tv_cats (g : gT) : ∀ l : List Value, ((l.map (tv g)).map fun v => v.category).sum = (l.map fun v => v.category).sum := by
  intro l
  induction l with
  | nil => rfl
  | cons a l ih => simp only [List.map_cons, List.sum_cons, ih, tv_cat]
theorem m_callVS {g : gT} {u : uT} {pc index n : Nat} {lv st As : List Value} {h : mh_T} {Q : Option Value → mh_T → Prop} {y : MethodName} {u' : uT} {i : Nat}
    (hd : decode u.2.1 pc = .ok (.invokevirtual index, 3)) (hL : mLk u.1 index y u' n) (hi : Cond.instanceMethod y ∈ lw_tbl) (hse : Cond.selects "java/lang/String" y y ∈ lw_tbl) (hin : i < nJS) (hn : As.length = n) (hK : u'.2.2.2.2 < u.2.2.2.2) (hst : (st.map fun v => v.category).sum ≤ 8)
    (hM : MC g y u' (.ref (1000 + i) :: As) h (fun v h' => ME g u (pc + 3) lv (v.toList ++ st) h' Q)) : ME g u pc lv (As.reverse ++ .ref (1000 + i) :: st) h Q := by
  intro p e R s m args below meth c H locs ls X
  refine m_after (st := st) X (va_runV (As := As.map (tv g)) (b := gad g (1000 + i)) (C := "java/lang/String") (n := n) (m_fix X) hM ⟨m_callB X hL hK, X.2.2.2.2.2.2.1 _ hi rfl, X.2.2.2.2.2.2.1 _ hse rfl⟩ ⟨mPc_blind g _ h, ?_, m_pre X (.ref (1000 + i) :: As)⟩ rfl (by rw [List.length_map]; exact hn) (m_lsz X.2.2.2.2.2.2.2.2.2.2.2.2.1) ?_ (lv_room (by rw [tv_cats]; exact hst)) hd ⟨Nat.zero_le _, Nat.zero_le _⟩)
  · rw [gad_K g hin]
    exact vk_recv X.2.2.2.2.2.2.2.2.2.2.2.2.2.1 hin X.2.2.2.2.2.2.2.2.2.2.1
  · show ((As.reverse ++ .ref (1000 + i) :: st).map (tv g)) = _
    rw [List.map_append, List.map_reverse]
    rfl
theorem m_callSN {g : gT} {u : uT} {pc : Nat} {lv st As : List Value} {h : mh_T} {Q : Option Value → mh_T → Prop} {u' : uT} (hu : u.1 = RX3)
    (hd : decode u.2.1 pc = .ok (.invokestatic 83, 3)) (hc : Cond.code yX10_bitAt u'.2.1 u'.2.2.1 u'.2.2.2.1 ∈ lw_tbl) (hin : Cond.initialized RX10 ∈ lw_tbl) (hi : Cond.static yX10_bitAt ∈ lw_tbl) (hm : u'.2.2.1 ≤ 45) (hn : As.length = 2) (hK : u'.2.2.2.2 < u.2.2.2.2) (hst : (st.map fun v => v.category).sum ≤ 8)
    (hM : MC g yX10_bitAt u' As h (fun v h' => ME g u (pc + 3) lv (v.toList ++ st) h' Q)) : ME g u pc lv (As.reverse ++ st) h Q := by
  intro p e R s m args below meth c H locs ls X
  refine m_after (st := st) X (va_runSN (As := As.map (tv g)) (n := 2) (own := RX3) (host := "NotAtOnce") (by rw [← hu]; exact m_fix X) hM ⟨va_cnB 2 (m_ws X) (m_good hc) rfl rfl rfl X.2.2.2.2.2.2.2.2.2.2.2.2.2.2.2.2.2.2.1 (X.2.2.2.2.2.2.1 _ hin rfl) (by decide +kernel) (m_room hK hm X.2.2.2.2.2.2.2.2.2.2.2.1), X.2.2.2.2.2.2.1 _ hi rfl, trivial⟩ ⟨mPc_blind g _ h, m_pre X As⟩ rfl (by rw [List.length_map]; exact hn) (m_lsz X.2.2.2.2.2.2.2.2.2.2.2.2.1) ?_ (lv_room (by rw [tv_cats]; exact hst)) hd ⟨Nat.zero_le _, Nat.zero_le _⟩)
  show ((As.reverse ++ st).map (tv g)) = _
  rw [List.map_append, List.map_reverse]
def cpI (h : mh_T) (k0 sp k1 dp n : Nat) : mh_T := (fun a b => if a = k1 ∧ dp ≤ b ∧ b < dp + n then h.1 k0 (sp + (b - dp)) else h.1 a b, h.2)
theorem m_copy {g : gT} {u : uT} {pc index : Nat} {lv st : List Value} {h : mh_T} {Q : Option Value → mh_T → Prop} {k0 k1 n0 n1 : Nat} {t0 t1 : List Nat} {sp dp n : Int32}
    (hd : decode u.2.1 pc = .ok (.invokestatic index, 3)) (hl : Cond.methodLink u.1 index arraycopyName ∈ lw_tbl) (hnat : Cond.native arraycopyName ∈ lw_tbl) (hsta : Cond.static arraycopyName ∈ lw_tbl) (hini : Cond.initialized "java/lang/System" ∈ lw_tbl)
    (hs0 : shp k0 = (20, n0, t0)) (hs1 : shp k1 = (20, n1, t1)) (hk0 : k0 < 141) (hk1 : k1 < 141) (h1 : ¬ sp < 0) (h2 : ¬ dp < 0) (h3 : ¬ n < 0) (h4 : sp.toNatClampNeg + n.toNatClampNeg ≤ n0) (h5 : dp.toNatClampNeg + n.toNatClampNeg ≤ n1) (hK : 0 < u.2.2.2.2) (hst : (st.map fun v => v.category).sum ≤ 8)
    (kk : ME g u (pc + 3) lv st (cpI h k0 sp.toNatClampNeg k1 dp.toNatClampNeg n.toNatClampNeg) Q) : ME g u pc lv (.int n :: .int dp :: .ref k1 :: .int sp :: .ref k0 :: st) h Q := by
  intro p e R s m args below meth c H locs ls X
  obtain ⟨x1, x2, x3, x4, x5, x6, x7, x8, x9, x10, x11, x12, x13, x14⟩ := id X
  show W p (gl g) e R s m args below meth c H locs 0 0 _ (F0 m pc ls (.int n :: .int dp :: .ref (gad g k1) :: .int sp :: .ref (gad g k0) :: st.map (tv g)))
  rw [gad_lt g hk0, gad_lt g hk1]
  refine va_copyi x1 x2 (x3.trans (m_lsz x13).symm) x6 (x7 _ hl rfl) (x7 _ hnat rfl) (x7 _ hsta rfl) (x7 _ hini rfl) x8 x9 (mw_D x10 h) x11 k0 k1 0 0 (by rw [mw_at g h hk0, ent_i hs0]) (by rw [mw_at g h hk1, ent_i hs1]) rfl rfl rfl h1 h2 h3 h4 h5 (fun _ _ => rfl) (by omega) ?_ hd (fun H1 locs1 hP1 _ hS1 => ?_)
  · rw [tv_cats]
    have : nativeFrameWords "java/lang/System" "arraycopy" 5 = 7 := by decide
    omega
  · refine kk p e R s m args below meth c H1 locs1 ls ⟨x1, x2, x3, x4, x5, x6, x7, x8, ?_, x10, hS1, x12, x13, x14⟩
    rw [← mw_set (h := h) (h' := cpI h k0 sp.toNatClampNeg k1 dp.toNatClampNeg n.toNatClampNeg) hk1 (ent_ne (fun q hq => ?_) (fun _ _ => rfl) (fun _ _ => rfl)), ent_i hs1]
    · refine cast (congrArg (fun z => va_P (gD g) vwCl ((mw g h).set k1 (gr g k1, z)) H1) ?_) hP1
      congr 4
      funext b
      show va_cpy (h.1 k0) (h.1 k1) _ _ _ b = if k1 = k1 ∧ _ then _ else _
      unfold va_cpy
      simp
    · funext b
      show h.1 q b = if q = k1 ∧ _ then _ else h.1 q b
      rw [if_neg (fun z => hq z.1)]
