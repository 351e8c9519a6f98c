def lvF (lv : List Value) : Bool := lv.all (fun v => match v with | .double _ => false | _ => true)
theorem lvF_nd {lv : List Value} {j : Nat} {w : Value} (h : lvF lv = true) (hj : lv[j]? = some w) : ∀ b, w ≠ .double b := by
  intro b e
  have := List.all_eq_true.mp h w (List.mem_of_getElem? hj)
  rw [e] at this
  cases this
theorem m_iconst {g : gT} {u : uT} {pc : Nat} {lv st : List Value} {h : mh_T} {Q : Option Value → mh_T → Prop} {n : Int} {v : Int32} (hd : decode u.2.1 pc = .ok (.iconst n, 1)) (hv : Int32.ofInt n = v) (k : ME g u (pc + 1) lv (.int v :: st) h Q) : ME g u pc lv st h Q := by
  intro p e R s m args below meth c H locs ls X
  exact lv_iconst X.1 X.2.1 hd hv (k p e R s m args below meth c H locs ls X)
theorem m_bipush {g : gT} {u : uT} {pc : Nat} {lv st : List Value} {h : mh_T} {Q : Option Value → mh_T → Prop} {n : Int} {v : Int32} (hd : decode u.2.1 pc = .ok (.bipush n, 2)) (hv : (Int8.ofInt n).toInt32 = v) (k : ME g u (pc + 2) lv (.int v :: st) h Q) : ME g u pc lv st h Q := by
  intro p e R s m args below meth c H locs ls X
  exact lv_bipush X.1 X.2.1 hd hv (k p e R s m args below meth c H locs ls X)
theorem m_sipush {g : gT} {u : uT} {pc : Nat} {lv st : List Value} {h : mh_T} {Q : Option Value → mh_T → Prop} {n : Int} {v : Int32} (hd : decode u.2.1 pc = .ok (.sipush n, 3)) (hv : (Int16.ofInt n).toInt32 = v) (k : ME g u (pc + 3) lv (.int v :: st) h Q) : ME g u pc lv st h Q := by
  intro p e R s m args below meth c H locs ls X
  exact lv_sipush X.1 X.2.1 hd hv (k p e R s m args below meth c H locs ls X)
theorem m_lconst {g : gT} {u : uT} {pc : Nat} {lv st : List Value} {h : mh_T} {Q : Option Value → mh_T → Prop} {n : Fin 2} {v : Int64} (hd : decode u.2.1 pc = .ok (.lconst n, 1)) (hv : Int64.ofNat (n : Nat) = v) (k : ME g u (pc + 1) lv (.long v :: st) h Q) : ME g u pc lv st h Q := by
  intro p e R s m args below meth c H locs ls X
  exact lv_lconst X.1 X.2.1 hd hv (k p e R s m args below meth c H locs ls X)
theorem m_iload_n {g : gT} {u : uT} {pc : Nat} {lv st : List Value} {h : mh_T} {Q : Option Value → mh_T → Prop} {k : Fin 4} {x : Int32} (hd : decode u.2.1 pc = .ok (.iload_n k, 1)) (hl : lv[(k : Nat)]? = some (.int x)) (kk : ME g u (pc + 1) lv (.int x :: st) h Q) : ME g u pc lv st h Q := by
  intro p e R s m args below meth c H locs ls X
  obtain ⟨l, h1, h2⟩ := X.2.2.2.2.2.2.2.2.2.2.2.2.1
  exact lv_iload_n X.1 X.2.1 hd rfl (h1.2.2 _ (h2 _ _ hl (by intro e; cases e))) (kk p e R s m args below meth c H locs ls X)
theorem m_iload {g : gT} {u : uT} {pc : Nat} {lv st : List Value} {h : mh_T} {Q : Option Value → mh_T → Prop} {i : Nat} {x : Int32} (hd : decode u.2.1 pc = .ok (.iload i, 2)) (hl : lv[i]? = some (.int x)) (kk : ME g u (pc + 2) lv (.int x :: st) h Q) : ME g u pc lv st h Q := by
  intro p e R s m args below meth c H locs ls X
  obtain ⟨l, h1, h2⟩ := X.2.2.2.2.2.2.2.2.2.2.2.2.1
  exact lv_iload X.1 X.2.1 hd (h1.2.2 _ (h2 _ _ hl (by intro e; cases e))) (kk p e R s m args below meth c H locs ls X)
theorem m_lload_n {g : gT} {u : uT} {pc : Nat} {lv st : List Value} {h : mh_T} {Q : Option Value → mh_T → Prop} {k : Fin 4} {x : Int64} (hd : decode u.2.1 pc = .ok (.lload_n k, 1)) (hl : lv[(k : Nat)]? = some (.long x)) (kk : ME g u (pc + 1) lv (.long x :: st) h Q) : ME g u pc lv st h Q := by
  intro p e R s m args below meth c H locs ls X
  obtain ⟨l, h1, h2⟩ := X.2.2.2.2.2.2.2.2.2.2.2.2.1
  exact lv_lload_n X.1 X.2.1 hd rfl (h1.2.2 _ (h2 _ _ hl (by intro e; cases e))) (kk p e R s m args below meth c H locs ls X)
theorem m_lload {g : gT} {u : uT} {pc : Nat} {lv st : List Value} {h : mh_T} {Q : Option Value → mh_T → Prop} {i : Nat} {x : Int64} (hd : decode u.2.1 pc = .ok (.lload i, 2)) (hl : lv[i]? = some (.long x)) (kk : ME g u (pc + 2) lv (.long x :: st) h Q) : ME g u pc lv st h Q := by
  intro p e R s m args below meth c H locs ls X
  obtain ⟨l, h1, h2⟩ := X.2.2.2.2.2.2.2.2.2.2.2.2.1
  exact lv_lload X.1 X.2.1 hd (h1.2.2 _ (h2 _ _ hl (by intro e; cases e))) (kk p e R s m args below meth c H locs ls X)
theorem m_aload_n {g : gT} {u : uT} {pc : Nat} {lv st : List Value} {h : mh_T} {Q : Option Value → mh_T → Prop} {k : Fin 4} {x : Nat} (hd : decode u.2.1 pc = .ok (.aload_n k, 1)) (hl : lv[(k : Nat)]? = some (.ref x)) (kk : ME g u (pc + 1) lv (.ref x :: st) h Q) : ME g u pc lv st h Q := by
  intro p e R s m args below meth c H locs ls X
  obtain ⟨l, h1, h2⟩ := X.2.2.2.2.2.2.2.2.2.2.2.2.1
  exact lv_aload_n X.1 X.2.1 hd rfl (h1.2.2 _ (h2 _ _ hl (by intro e; cases e))) (kk p e R s m args below meth c H locs ls X)
theorem m_aload {g : gT} {u : uT} {pc : Nat} {lv st : List Value} {h : mh_T} {Q : Option Value → mh_T → Prop} {i : Nat} {x : Nat} (hd : decode u.2.1 pc = .ok (.aload i, 2)) (hl : lv[i]? = some (.ref x)) (kk : ME g u (pc + 2) lv (.ref x :: st) h Q) : ME g u pc lv st h Q := by
  intro p e R s m args below meth c H locs ls X
  obtain ⟨l, h1, h2⟩ := X.2.2.2.2.2.2.2.2.2.2.2.2.1
  exact lv_aload X.1 X.2.1 hd (h1.2.2 _ (h2 _ _ hl (by intro e; cases e))) (kk p e R s m args below meth c H locs ls X)
theorem m_iadd {g : gT} {u : uT} {pc : Nat} {lv st : List Value} {h : mh_T} {Q : Option Value → mh_T → Prop} {x y : Int32} (hd : decode u.2.1 pc = .ok (.iadd, 1))  (k : ME g u (pc + 1) lv (.int (x + y) :: st) h Q) : ME g u pc lv (.int y :: .int x :: st) h Q := by
  intro p e R s m args below meth c H locs ls X
  exact lv_iadd X.1 X.2.1 hd  (k p e R s m args below meth c H locs ls X)
theorem m_isub {g : gT} {u : uT} {pc : Nat} {lv st : List Value} {h : mh_T} {Q : Option Value → mh_T → Prop} {x y : Int32} (hd : decode u.2.1 pc = .ok (.isub, 1))  (k : ME g u (pc + 1) lv (.int (x - y) :: st) h Q) : ME g u pc lv (.int y :: .int x :: st) h Q := by
  intro p e R s m args below meth c H locs ls X
  exact lv_isub X.1 X.2.1 hd  (k p e R s m args below meth c H locs ls X)
theorem m_imul {g : gT} {u : uT} {pc : Nat} {lv st : List Value} {h : mh_T} {Q : Option Value → mh_T → Prop} {x y : Int32} (hd : decode u.2.1 pc = .ok (.imul, 1))  (k : ME g u (pc + 1) lv (.int (x * y) :: st) h Q) : ME g u pc lv (.int y :: .int x :: st) h Q := by
  intro p e R s m args below meth c H locs ls X
  exact lv_imul X.1 X.2.1 hd  (k p e R s m args below meth c H locs ls X)
theorem m_iand {g : gT} {u : uT} {pc : Nat} {lv st : List Value} {h : mh_T} {Q : Option Value → mh_T → Prop} {x y : Int32} (hd : decode u.2.1 pc = .ok (.iand, 1))  (k : ME g u (pc + 1) lv (.int (x &&& y) :: st) h Q) : ME g u pc lv (.int y :: .int x :: st) h Q := by
  intro p e R s m args below meth c H locs ls X
  exact lv_iand X.1 X.2.1 hd  (k p e R s m args below meth c H locs ls X)
theorem m_ior {g : gT} {u : uT} {pc : Nat} {lv st : List Value} {h : mh_T} {Q : Option Value → mh_T → Prop} {x y : Int32} (hd : decode u.2.1 pc = .ok (.ior, 1))  (k : ME g u (pc + 1) lv (.int (x ||| y) :: st) h Q) : ME g u pc lv (.int y :: .int x :: st) h Q := by
  intro p e R s m args below meth c H locs ls X
  exact lv_ior X.1 X.2.1 hd  (k p e R s m args below meth c H locs ls X)
theorem m_ixor {g : gT} {u : uT} {pc : Nat} {lv st : List Value} {h : mh_T} {Q : Option Value → mh_T → Prop} {x y : Int32} (hd : decode u.2.1 pc = .ok (.ixor, 1))  (k : ME g u (pc + 1) lv (.int (x ^^^ y) :: st) h Q) : ME g u pc lv (.int y :: .int x :: st) h Q := by
  intro p e R s m args below meth c H locs ls X
  exact lv_ixor X.1 X.2.1 hd  (k p e R s m args below meth c H locs ls X)
theorem m_ishl {g : gT} {u : uT} {pc : Nat} {lv st : List Value} {h : mh_T} {Q : Option Value → mh_T → Prop} {x y : Int32} (hd : decode u.2.1 pc = .ok (.ishl, 1))  (k : ME g u (pc + 1) lv (.int (x <<< (y &&& 31)) :: st) h Q) : ME g u pc lv (.int y :: .int x :: st) h Q := by
  intro p e R s m args below meth c H locs ls X
  exact lv_ishl X.1 X.2.1 hd  (k p e R s m args below meth c H locs ls X)
theorem m_ishr {g : gT} {u : uT} {pc : Nat} {lv st : List Value} {h : mh_T} {Q : Option Value → mh_T → Prop} {x y : Int32} (hd : decode u.2.1 pc = .ok (.ishr, 1))  (k : ME g u (pc + 1) lv (.int (x >>> (y &&& 31)) :: st) h Q) : ME g u pc lv (.int y :: .int x :: st) h Q := by
  intro p e R s m args below meth c H locs ls X
  exact lv_ishr X.1 X.2.1 hd  (k p e R s m args below meth c H locs ls X)
theorem m_iushr {g : gT} {u : uT} {pc : Nat} {lv st : List Value} {h : mh_T} {Q : Option Value → mh_T → Prop} {x y : Int32} (hd : decode u.2.1 pc = .ok (.iushr, 1))  (k : ME g u (pc + 1) lv (.int ((x.toUInt32 >>> (y.toUInt32 &&& Int32.toUInt32 31)).toInt32) :: st) h Q) : ME g u pc lv (.int y :: .int x :: st) h Q := by
  intro p e R s m args below meth c H locs ls X
  exact lv_iushr X.1 X.2.1 hd rfl (k p e R s m args below meth c H locs ls X)
theorem m_ladd {g : gT} {u : uT} {pc : Nat} {lv st : List Value} {h : mh_T} {Q : Option Value → mh_T → Prop} {x y : Int64} (hd : decode u.2.1 pc = .ok (.ladd, 1))  (k : ME g u (pc + 1) lv (.long (x + y) :: st) h Q) : ME g u pc lv (.long y :: .long x :: st) h Q := by
  intro p e R s m args below meth c H locs ls X
  exact lv_ladd X.1 X.2.1 hd  (k p e R s m args below meth c H locs ls X)
theorem m_lsub {g : gT} {u : uT} {pc : Nat} {lv st : List Value} {h : mh_T} {Q : Option Value → mh_T → Prop} {x y : Int64} (hd : decode u.2.1 pc = .ok (.lsub, 1))  (k : ME g u (pc + 1) lv (.long (x - y) :: st) h Q) : ME g u pc lv (.long y :: .long x :: st) h Q := by
  intro p e R s m args below meth c H locs ls X
  exact lv_lsub X.1 X.2.1 hd  (k p e R s m args below meth c H locs ls X)
theorem m_lmul {g : gT} {u : uT} {pc : Nat} {lv st : List Value} {h : mh_T} {Q : Option Value → mh_T → Prop} {x y : Int64} (hd : decode u.2.1 pc = .ok (.lmul, 1))  (k : ME g u (pc + 1) lv (.long (x * y) :: st) h Q) : ME g u pc lv (.long y :: .long x :: st) h Q := by
  intro p e R s m args below meth c H locs ls X
  exact lv_lmul X.1 X.2.1 hd  (k p e R s m args below meth c H locs ls X)
theorem m_lor {g : gT} {u : uT} {pc : Nat} {lv st : List Value} {h : mh_T} {Q : Option Value → mh_T → Prop} {x y : Int64} (hd : decode u.2.1 pc = .ok (.lor, 1))  (k : ME g u (pc + 1) lv (.long (x ||| y) :: st) h Q) : ME g u pc lv (.long y :: .long x :: st) h Q := by
  intro p e R s m args below meth c H locs ls X
  exact lv_lor X.1 X.2.1 hd  (k p e R s m args below meth c H locs ls X)
theorem m_idiv {g : gT} {u : uT} {pc : Nat} {lv st : List Value} {h : mh_T} {Q : Option Value → mh_T → Prop} {x y : Int32} (hd : decode u.2.1 pc = .ok (.idiv, 1)) (hne : ¬ y = 0) (k : ME g u (pc + 1) lv (.int (x / y) :: st) h Q) : ME g u pc lv (.int y :: .int x :: st) h Q := by
  intro p e R s m args below meth c H locs ls X
  exact lv_idiv X.1 X.2.1 hd hne (k p e R s m args below meth c H locs ls X)
theorem m_irem {g : gT} {u : uT} {pc : Nat} {lv st : List Value} {h : mh_T} {Q : Option Value → mh_T → Prop} {x y : Int32} (hd : decode u.2.1 pc = .ok (.irem, 1)) (hne : ¬ y = 0) (k : ME g u (pc + 1) lv (.int (x - x / y * y) :: st) h Q) : ME g u pc lv (.int y :: .int x :: st) h Q := by
  intro p e R s m args below meth c H locs ls X
  exact lv_irem X.1 X.2.1 hd hne (k p e R s m args below meth c H locs ls X)
theorem m_ldiv {g : gT} {u : uT} {pc : Nat} {lv st : List Value} {h : mh_T} {Q : Option Value → mh_T → Prop} {x y : Int64} (hd : decode u.2.1 pc = .ok (.ldiv, 1)) (hne : ¬ y = 0) (k : ME g u (pc + 1) lv (.long (x / y) :: st) h Q) : ME g u pc lv (.long y :: .long x :: st) h Q := by
  intro p e R s m args below meth c H locs ls X
  exact lv_ldiv X.1 X.2.1 hd hne (k p e R s m args below meth c H locs ls X)
theorem m_lrem {g : gT} {u : uT} {pc : Nat} {lv st : List Value} {h : mh_T} {Q : Option Value → mh_T → Prop} {x y : Int64} (hd : decode u.2.1 pc = .ok (.lrem, 1)) (hne : ¬ y = 0) (k : ME g u (pc + 1) lv (.long (x - x / y * y) :: st) h Q) : ME g u pc lv (.long y :: .long x :: st) h Q := by
  intro p e R s m args below meth c H locs ls X
  exact lv_lrem X.1 X.2.1 hd hne (k p e R s m args below meth c H locs ls X)
theorem m_ineg {g : gT} {u : uT} {pc : Nat} {lv st : List Value} {h : mh_T} {Q : Option Value → mh_T → Prop} {x : Int32} (hd : decode u.2.1 pc = .ok (.ineg, 1))  (k : ME g u (pc + 1) lv (.int (-x) :: st) h Q) : ME g u pc lv (.int x :: st) h Q := by
  intro p e R s m args below meth c H locs ls X
  exact lv_ineg X.1 X.2.1 hd  (k p e R s m args below meth c H locs ls X)
theorem m_lneg {g : gT} {u : uT} {pc : Nat} {lv st : List Value} {h : mh_T} {Q : Option Value → mh_T → Prop} {x : Int64} (hd : decode u.2.1 pc = .ok (.lneg, 1))  (k : ME g u (pc + 1) lv (.long (-x) :: st) h Q) : ME g u pc lv (.long x :: st) h Q := by
  intro p e R s m args below meth c H locs ls X
  exact lv_lneg X.1 X.2.1 hd  (k p e R s m args below meth c H locs ls X)
theorem m_i2l {g : gT} {u : uT} {pc : Nat} {lv st : List Value} {h : mh_T} {Q : Option Value → mh_T → Prop} {x : Int32} (hd : decode u.2.1 pc = .ok (.i2l, 1))  (k : ME g u (pc + 1) lv (.long (x.toInt64) :: st) h Q) : ME g u pc lv (.int x :: st) h Q := by
  intro p e R s m args below meth c H locs ls X
  exact lv_i2l X.1 X.2.1 hd rfl (k p e R s m args below meth c H locs ls X)
theorem m_l2i {g : gT} {u : uT} {pc : Nat} {lv st : List Value} {h : mh_T} {Q : Option Value → mh_T → Prop} {x : Int64} (hd : decode u.2.1 pc = .ok (.l2i, 1))  (k : ME g u (pc + 1) lv (.int (x.toInt32) :: st) h Q) : ME g u pc lv (.long x :: st) h Q := by
  intro p e R s m args below meth c H locs ls X
  exact lv_l2i X.1 X.2.1 hd rfl (k p e R s m args below meth c H locs ls X)
theorem m_i2c {g : gT} {u : uT} {pc : Nat} {lv st : List Value} {h : mh_T} {Q : Option Value → mh_T → Prop} {x : Int32} (hd : decode u.2.1 pc = .ok (.i2c, 1))  (k : ME g u (pc + 1) lv (.int ((x.toUInt32 % 65536).toInt32) :: st) h Q) : ME g u pc lv (.int x :: st) h Q := by
  intro p e R s m args below meth c H locs ls X
  exact lv_i2c X.1 X.2.1 hd rfl (k p e R s m args below meth c H locs ls X)
theorem m_lshl {g : gT} {u : uT} {pc : Nat} {lv st : List Value} {h : mh_T} {Q : Option Value → mh_T → Prop} {x : Int64} {y : Int32} (hd : decode u.2.1 pc = .ok (.lshl, 1))  (k : ME g u (pc + 1) lv (.long (x <<< (y.toInt64 &&& 63)) :: st) h Q) : ME g u pc lv (.int y :: .long x :: st) h Q := by
  intro p e R s m args below meth c H locs ls X
  exact lv_lshl X.1 X.2.1 hd rfl (k p e R s m args below meth c H locs ls X)
theorem m_lcmp {g : gT} {u : uT} {pc : Nat} {lv st : List Value} {h : mh_T} {Q : Option Value → mh_T → Prop} {x y : Int64} (hd : decode u.2.1 pc = .ok (.lcmp, 1)) (k : ME g u (pc + 1) lv (.int (lg_cmp x y) :: st) h Q) : ME g u pc lv (.long y :: .long x :: st) h Q := by
  intro p e R s m args below meth c H locs ls X
  exact W.lcmp X.1 X.2.1 hd (k p e R s m args below meth c H locs ls X)
theorem m_dup {g : gT} {u : uT} {pc : Nat} {lv st : List Value} {h : mh_T} {Q : Option Value → mh_T → Prop} {va : Value} (hd : decode u.2.1 pc = .ok (.dup, 1)) (hva : va.category = 1) (k : ME g u (pc + 1) lv (va :: va :: st) h Q) : ME g u pc lv (va :: st) h Q := by
  intro p e R s m args below meth c H locs ls X
  exact lv_dup X.1 X.2.1 hd (by rw [tv_cat]; exact hva) (k p e R s m args below meth c H locs ls X)
theorem m_pop {g : gT} {u : uT} {pc : Nat} {lv st : List Value} {h : mh_T} {Q : Option Value → mh_T → Prop} {va : Value} (hd : decode u.2.1 pc = .ok (.pop, 1)) (hva : va.category = 1) (k : ME g u (pc + 1) lv st h Q) : ME g u pc lv (va :: st) h Q := by
  intro p e R s m args below meth c H locs ls X
  exact lv_pop X.1 X.2.1 hd (by rw [tv_cat]; exact hva) (k p e R s m args below meth c H locs ls X)
theorem m_dup2 {g : gT} {u : uT} {pc : Nat} {lv st : List Value} {h : mh_T} {Q : Option Value → mh_T → Prop} {va vb : Value} (hd : decode u.2.1 pc = .ok (.dup2, 1)) (hva : va.category = 1) (hvb : vb.category = 1) (k : ME g u (pc + 1) lv (va :: vb :: va :: vb :: st) h Q) : ME g u pc lv (va :: vb :: st) h Q := by
  intro p e R s m args below meth c H locs ls X
  exact lv_dup2_11 X.1 X.2.1 hd (by rw [tv_cat]; exact hva) (by rw [tv_cat]; exact hvb) (k p e R s m args below meth c H locs ls X)
theorem m_goto {g : gT} {u : uT} {pc : Nat} {lv st : List Value} {h : mh_T} {Q : Option Value → mh_T → Prop} {off : Int} (tgt : Nat) (hd : decode u.2.1 pc = .ok (.goto off, 3)) (ht : (pc : Int) + off = (tgt : Int)) (k : ME g u tgt lv st h Q) : ME g u pc lv st h Q := by
  intro p e R s m args below meth c H locs ls X
  exact lv_goto X.1 X.2.1 hd ht (k p e R s m args below meth c H locs ls X)
theorem m_icmp_eq {g : gT} {u : uT} {pc : Nat} {lv st : List Value} {h : mh_T} {Q : Option Value → mh_T → Prop} {x y : Int32} {off : Int} (tgt : Nat) (hd : decode u.2.1 pc = .ok (.if_icmp .eq off, 3)) (ht : (pc : Int) + off = (tgt : Int)) (kt : x = y → ME g u tgt lv st h Q) (kf : ¬ x = y → ME g u (pc + 3) lv st h Q) : ME g u pc lv (.int y :: .int x :: st) h Q := by
  intro p e R s m args below meth c H locs ls X
  exact lv_icmp_eq X.1 X.2.1 hd ht (fun q => kt q p e R s m args below meth c H locs ls X) (fun q => kf q p e R s m args below meth c H locs ls X)
theorem m_if_eq {g : gT} {u : uT} {pc : Nat} {lv st : List Value} {h : mh_T} {Q : Option Value → mh_T → Prop} {x : Int32} {off : Int} (tgt : Nat) (hd : decode u.2.1 pc = .ok (.ifCond .eq off, 3)) (ht : (pc : Int) + off = (tgt : Int)) (kt : x = 0 → ME g u tgt lv st h Q) (kf : ¬ x = 0 → ME g u (pc + 3) lv st h Q) : ME g u pc lv (.int x :: st) h Q := by
  intro p e R s m args below meth c H locs ls X
  exact lv_if_eq X.1 X.2.1 hd ht (fun q => kt q p e R s m args below meth c H locs ls X) (fun q => kf q p e R s m args below meth c H locs ls X)
theorem m_icmp_ne {g : gT} {u : uT} {pc : Nat} {lv st : List Value} {h : mh_T} {Q : Option Value → mh_T → Prop} {x y : Int32} {off : Int} (tgt : Nat) (hd : decode u.2.1 pc = .ok (.if_icmp .ne off, 3)) (ht : (pc : Int) + off = (tgt : Int)) (kt : ¬ x = y → ME g u tgt lv st h Q) (kf : x = y → ME g u (pc + 3) lv st h Q) : ME g u pc lv (.int y :: .int x :: st) h Q := by
  intro p e R s m args below meth c H locs ls X
  exact lv_icmp_ne X.1 X.2.1 hd ht (fun q => kt q p e R s m args below meth c H locs ls X) (fun q => kf q p e R s m args below meth c H locs ls X)
theorem m_if_ne {g : gT} {u : uT} {pc : Nat} {lv st : List Value} {h : mh_T} {Q : Option Value → mh_T → Prop} {x : Int32} {off : Int} (tgt : Nat) (hd : decode u.2.1 pc = .ok (.ifCond .ne off, 3)) (ht : (pc : Int) + off = (tgt : Int)) (kt : ¬ x = 0 → ME g u tgt lv st h Q) (kf : x = 0 → ME g u (pc + 3) lv st h Q) : ME g u pc lv (.int x :: st) h Q := by
  intro p e R s m args below meth c H locs ls X
  exact lv_if_ne X.1 X.2.1 hd ht (fun q => kt q p e R s m args below meth c H locs ls X) (fun q => kf q p e R s m args below meth c H locs ls X)
theorem m_icmp_lt {g : gT} {u : uT} {pc : Nat} {lv st : List Value} {h : mh_T} {Q : Option Value → mh_T → Prop} {x y : Int32} {off : Int} (tgt : Nat) (hd : decode u.2.1 pc = .ok (.if_icmp .lt off, 3)) (ht : (pc : Int) + off = (tgt : Int)) (kt : x < y → ME g u tgt lv st h Q) (kf : ¬ x < y → ME g u (pc + 3) lv st h Q) : ME g u pc lv (.int y :: .int x :: st) h Q := by
  intro p e R s m args below meth c H locs ls X
  exact lv_icmp_lt X.1 X.2.1 hd ht (fun q => kt q p e R s m args below meth c H locs ls X) (fun q => kf q p e R s m args below meth c H locs ls X)
theorem m_if_lt {g : gT} {u : uT} {pc : Nat} {lv st : List Value} {h : mh_T} {Q : Option Value → mh_T → Prop} {x : Int32} {off : Int} (tgt : Nat) (hd : decode u.2.1 pc = .ok (.ifCond .lt off, 3)) (ht : (pc : Int) + off = (tgt : Int)) (kt : x < 0 → ME g u tgt lv st h Q) (kf : ¬ x < 0 → ME g u (pc + 3) lv st h Q) : ME g u pc lv (.int x :: st) h Q := by
  intro p e R s m args below meth c H locs ls X
  exact lv_if_lt X.1 X.2.1 hd ht (fun q => kt q p e R s m args below meth c H locs ls X) (fun q => kf q p e R s m args below meth c H locs ls X)
theorem m_icmp_ge {g : gT} {u : uT} {pc : Nat} {lv st : List Value} {h : mh_T} {Q : Option Value → mh_T → Prop} {x y : Int32} {off : Int} (tgt : Nat) (hd : decode u.2.1 pc = .ok (.if_icmp .ge off, 3)) (ht : (pc : Int) + off = (tgt : Int)) (kt : y ≤ x → ME g u tgt lv st h Q) (kf : ¬ y ≤ x → ME g u (pc + 3) lv st h Q) : ME g u pc lv (.int y :: .int x :: st) h Q := by
  intro p e R s m args below meth c H locs ls X
  exact lv_icmp_ge X.1 X.2.1 hd ht (fun q => kt q p e R s m args below meth c H locs ls X) (fun q => kf q p e R s m args below meth c H locs ls X)
theorem m_if_ge {g : gT} {u : uT} {pc : Nat} {lv st : List Value} {h : mh_T} {Q : Option Value → mh_T → Prop} {x : Int32} {off : Int} (tgt : Nat) (hd : decode u.2.1 pc = .ok (.ifCond .ge off, 3)) (ht : (pc : Int) + off = (tgt : Int)) (kt : 0 ≤ x → ME g u tgt lv st h Q) (kf : ¬ 0 ≤ x → ME g u (pc + 3) lv st h Q) : ME g u pc lv (.int x :: st) h Q := by
  intro p e R s m args below meth c H locs ls X
  exact lv_if_ge X.1 X.2.1 hd ht (fun q => kt q p e R s m args below meth c H locs ls X) (fun q => kf q p e R s m args below meth c H locs ls X)
theorem m_icmp_gt {g : gT} {u : uT} {pc : Nat} {lv st : List Value} {h : mh_T} {Q : Option Value → mh_T → Prop} {x y : Int32} {off : Int} (tgt : Nat) (hd : decode u.2.1 pc = .ok (.if_icmp .gt off, 3)) (ht : (pc : Int) + off = (tgt : Int)) (kt : y < x → ME g u tgt lv st h Q) (kf : ¬ y < x → ME g u (pc + 3) lv st h Q) : ME g u pc lv (.int y :: .int x :: st) h Q := by
  intro p e R s m args below meth c H locs ls X
  exact lv_icmp_gt X.1 X.2.1 hd ht (fun q => kt q p e R s m args below meth c H locs ls X) (fun q => kf q p e R s m args below meth c H locs ls X)
theorem m_if_gt {g : gT} {u : uT} {pc : Nat} {lv st : List Value} {h : mh_T} {Q : Option Value → mh_T → Prop} {x : Int32} {off : Int} (tgt : Nat) (hd : decode u.2.1 pc = .ok (.ifCond .gt off, 3)) (ht : (pc : Int) + off = (tgt : Int)) (kt : 0 < x → ME g u tgt lv st h Q) (kf : ¬ 0 < x → ME g u (pc + 3) lv st h Q) : ME g u pc lv (.int x :: st) h Q := by
  intro p e R s m args below meth c H locs ls X
  exact lv_if_gt X.1 X.2.1 hd ht (fun q => kt q p e R s m args below meth c H locs ls X) (fun q => kf q p e R s m args below meth c H locs ls X)
theorem m_icmp_le {g : gT} {u : uT} {pc : Nat} {lv st : List Value} {h : mh_T} {Q : Option Value → mh_T → Prop} {x y : Int32} {off : Int} (tgt : Nat) (hd : decode u.2.1 pc = .ok (.if_icmp .le off, 3)) (ht : (pc : Int) + off = (tgt : Int)) (kt : x ≤ y → ME g u tgt lv st h Q) (kf : ¬ x ≤ y → ME g u (pc + 3) lv st h Q) : ME g u pc lv (.int y :: .int x :: st) h Q := by
  intro p e R s m args below meth c H locs ls X
  exact lv_icmp_le X.1 X.2.1 hd ht (fun q => kt q p e R s m args below meth c H locs ls X) (fun q => kf q p e R s m args below meth c H locs ls X)
theorem m_if_le {g : gT} {u : uT} {pc : Nat} {lv st : List Value} {h : mh_T} {Q : Option Value → mh_T → Prop} {x : Int32} {off : Int} (tgt : Nat) (hd : decode u.2.1 pc = .ok (.ifCond .le off, 3)) (ht : (pc : Int) + off = (tgt : Int)) (kt : x ≤ 0 → ME g u tgt lv st h Q) (kf : ¬ x ≤ 0 → ME g u (pc + 3) lv st h Q) : ME g u pc lv (.int x :: st) h Q := by
  intro p e R s m args below meth c H locs ls X
  exact lv_if_le X.1 X.2.1 hd ht (fun q => kt q p e R s m args below meth c H locs ls X) (fun q => kf q p e R s m args below meth c H locs ls X)
theorem set_self_eq {l : List Value} {i : Nat} {v w : Value} (h : (l.set i v)[i]? = some w) : w = v := by
  by_cases hl : i < l.length
  · rw [List.getElem?_set_self hl] at h
    exact (Option.some.inj h).symm
  · rw [List.getElem?_eq_none (by rw [List.length_set]; omega)] at h
    cases h
def setL (lv : List Value) (i : Nat) (v : Value) : List Value := (match i with
  | 0 => lv
  | j + 1 => match lv[j]? with
    | some (.long _) => lv.set j (.retAddr 0)
    | _ => lv).set i v
theorem setL_get {lv : List Value} {i j : Nat} {v w : Value} (h : (setL lv i v)[j]? = some w) (hw : w ≠ .retAddr 0) : (j = i ∧ w = v) ∨ (j ≠ i ∧ lv[j]? = some w ∧ ¬ (j + 1 = i ∧ ∃ x, w = .long x)) := by
  by_cases hj : j = i
  · subst hj
    left
    refine ⟨rfl, ?_⟩
    unfold setL at h
    exact set_self_eq h
  · right
    refine ⟨hj, ?_⟩
    unfold setL at h
    rw [List.getElem?_set_ne (Ne.symm hj)] at h
    cases i with
    | zero => exact ⟨h, fun q => by omega⟩
    | succ i =>
      dsimp only at h
      split at h
      · rename_i x hx
        by_cases hji : j = i
        · subst hji
          exact absurd (set_self_eq h) hw
        · rw [List.getElem?_set_ne (Ne.symm hji)] at h
          exact ⟨h, fun q => by omega⟩
      · rename_i hx
        refine ⟨h, fun q => ?_⟩
        obtain ⟨q1, x, q2⟩ := q
        have : j = i := by omega
        subst this
        rw [q2] at h
        exact hx x h
theorem tv_cat2 {g : gT} {w : Value} (h : (tv g w).category = 2) (hf : ∀ b, w ≠ .double b) : ∃ x, w = .long x := by
  rw [tv_cat] at h
  cases w with
  | long x => exact ⟨x, rfl⟩
  | double b => exact absurd rfl (hf b)
  | _ => simp [Value.category] at h
theorem m_istore_n {g : gT} {u : uT} {pc : Nat} {lv st : List Value} {h : mh_T} {Q : Option Value → mh_T → Prop} {k : Fin 4} {x : Int32} {lv' : List Value} (hd : decode u.2.1 pc = .ok (.istore_n k, 1)) (hn : (k : Nat) < u.2.2.1) (hl : setL lv (k : Nat) (.int x) = lv') (hf : lvF lv = true) (kk : ME g u (pc + 1) lv' st h Q) : ME g u pc lv (.int x :: st) h Q := by
  intro p e R s m args below meth c H locs ls X
  obtain ⟨x1, x2, x3, x4, x5, x6, x7, x8, x9, x10, x11, x12, ⟨l, h1, h2⟩, x14⟩ := X
  refine lv_istore_n (lv' := _) x1 x2 hd rfl h1 hn rfl (fun ls' hl' => kk p e R s m args below meth c H locs ls' ⟨x1, x2, x3, x4, x5, x6, x7, x8, x9, x10, x11, x12, ⟨_, hl', ?_⟩, x14⟩)
  intro j w hj hw
  subst hl
  rcases setL_get hj hw with ⟨q1, q2⟩ | ⟨q1, q2, q3⟩
  · subst q1; subst q2; exact List.mem_cons_self
  · refine List.mem_cons_of_mem _ (List.mem_filter.mpr ⟨h2 j w q2 hw, ?_⟩)
    simp only [Bool.and_eq_true, Bool.not_eq_true', beq_eq_false_iff_ne, ne_eq, Bool.and_eq_false_iff]
    refine ⟨q1, ?_⟩
    by_cases hji : j + 1 = (k : Nat)
    · right
      intro hc
      exact q3 ⟨hji, tv_cat2 hc (lvF_nd hf q2)⟩
    · left; exact hji
theorem m_istore {g : gT} {u : uT} {pc : Nat} {lv st : List Value} {h : mh_T} {Q : Option Value → mh_T → Prop} {i : Nat} {x : Int32} {lv' : List Value} (hd : decode u.2.1 pc = .ok (.istore i, 2)) (hn : i < u.2.2.1) (hl : setL lv i (.int x) = lv') (hf : lvF lv = true) (kk : ME g u (pc + 2) lv' st h Q) : ME g u pc lv (.int x :: st) h Q := by
  intro p e R s m args below meth c H locs ls X
  obtain ⟨x1, x2, x3, x4, x5, x6, x7, x8, x9, x10, x11, x12, ⟨l, h1, h2⟩, x14⟩ := X
  refine lv_istore (lv' := _) x1 x2 hd h1 hn rfl (fun ls' hl' => kk p e R s m args below meth c H locs ls' ⟨x1, x2, x3, x4, x5, x6, x7, x8, x9, x10, x11, x12, ⟨_, hl', ?_⟩, x14⟩)
  intro j w hj hw
  subst hl
  rcases setL_get hj hw with ⟨q1, q2⟩ | ⟨q1, q2, q3⟩
  · subst q1; subst q2; exact List.mem_cons_self
  · refine List.mem_cons_of_mem _ (List.mem_filter.mpr ⟨h2 j w q2 hw, ?_⟩)
    simp only [Bool.and_eq_true, Bool.not_eq_true', beq_eq_false_iff_ne, ne_eq, Bool.and_eq_false_iff]
    refine ⟨q1, ?_⟩
    by_cases hji : j + 1 = i
    · right
      intro hc
      exact q3 ⟨hji, tv_cat2 hc (lvF_nd hf q2)⟩
    · left; exact hji
theorem m_astore_n {g : gT} {u : uT} {pc : Nat} {lv st : List Value} {h : mh_T} {Q : Option Value → mh_T → Prop} {k : Fin 4} {x : Nat} {lv' : List Value} (hd : decode u.2.1 pc = .ok (.astore_n k, 1)) (hn : (k : Nat) < u.2.2.1) (hl : setL lv (k : Nat) (.ref x) = lv') (hf : lvF lv = true) (kk : ME g u (pc + 1) lv' st h Q) : ME g u pc lv (.ref x :: st) h Q := by
  intro p e R s m args below meth c H locs ls X
  obtain ⟨x1, x2, x3, x4, x5, x6, x7, x8, x9, x10, x11, x12, ⟨l, h1, h2⟩, x14⟩ := X
  refine lv_astore_n (lv' := _) x1 x2 hd rfl h1 hn rfl (fun ls' hl' => kk p e R s m args below meth c H locs ls' ⟨x1, x2, x3, x4, x5, x6, x7, x8, x9, x10, x11, x12, ⟨_, hl', ?_⟩, x14⟩)
  intro j w hj hw
  subst hl
  rcases setL_get hj hw with ⟨q1, q2⟩ | ⟨q1, q2, q3⟩
  · subst q1; subst q2; exact List.mem_cons_self
  · refine List.mem_cons_of_mem _ (List.mem_filter.mpr ⟨h2 j w q2 hw, ?_⟩)
    simp only [Bool.and_eq_true, Bool.not_eq_true', beq_eq_false_iff_ne, ne_eq, Bool.and_eq_false_iff]
    refine ⟨q1, ?_⟩
    by_cases hji : j + 1 = (k : Nat)
    · right
      intro hc
      exact q3 ⟨hji, tv_cat2 hc (lvF_nd hf q2)⟩
    · left; exact hji
theorem m_astore {g : gT} {u : uT} {pc : Nat} {lv st : List Value} {h : mh_T} {Q : Option Value → mh_T → Prop} {i : Nat} {x : Nat} {lv' : List Value} (hd : decode u.2.1 pc = .ok (.astore i, 2)) (hn : i < u.2.2.1) (hl : setL lv i (.ref x) = lv') (hf : lvF lv = true) (kk : ME g u (pc + 2) lv' st h Q) : ME g u pc lv (.ref x :: st) h Q := by
  intro p e R s m args below meth c H locs ls X
  obtain ⟨x1, x2, x3, x4, x5, x6, x7, x8, x9, x10, x11, x12, ⟨l, h1, h2⟩, x14⟩ := X
  refine lv_astore (lv' := _) x1 x2 hd h1 hn rfl (fun ls' hl' => kk p e R s m args below meth c H locs ls' ⟨x1, x2, x3, x4, x5, x6, x7, x8, x9, x10, x11, x12, ⟨_, hl', ?_⟩, x14⟩)
  intro j w hj hw
  subst hl
  rcases setL_get hj hw with ⟨q1, q2⟩ | ⟨q1, q2, q3⟩
  · subst q1; subst q2; exact List.mem_cons_self
  · refine List.mem_cons_of_mem _ (List.mem_filter.mpr ⟨h2 j w q2 hw, ?_⟩)
    simp only [Bool.and_eq_true, Bool.not_eq_true', beq_eq_false_iff_ne, ne_eq, Bool.and_eq_false_iff]
    refine ⟨q1, ?_⟩
    by_cases hji : j + 1 = i
    · right
      intro hc
      exact q3 ⟨hji, tv_cat2 hc (lvF_nd hf q2)⟩
    · left; exact hji
def setL2 (lv : List Value) (i : Nat) (v : Value) : List Value := (setL lv i v).set (i + 1) (.retAddr 0)
theorem setL2_get {lv : List Value} {i j : Nat} {v w : Value} (h : (setL2 lv i v)[j]? = some w) (hw : w ≠ .retAddr 0) : (j = i ∧ w = v) ∨ (j ≠ i ∧ j ≠ i + 1 ∧ lv[j]? = some w ∧ ¬ (j + 1 = i ∧ ∃ x, w = .long x)) := by
  unfold setL2 at h
  by_cases hj : j = i + 1
  · subst hj
    exact absurd (set_self_eq h) hw
  · rw [List.getElem?_set_ne (Ne.symm hj)] at h
    rcases setL_get h hw with ⟨q1, q2⟩ | ⟨q1, q2, q3⟩
    · exact Or.inl ⟨q1, q2⟩
    · exact Or.inr ⟨q1, hj, q2, q3⟩
theorem m_lstore_n {g : gT} {u : uT} {pc : Nat} {lv st : List Value} {h : mh_T} {Q : Option Value → mh_T → Prop} {k : Fin 4} {x : Int64} {lv' : List Value} (hd : decode u.2.1 pc = .ok (.lstore_n k, 1)) (hn : (k : Nat) + 1 < u.2.2.1) (hl : setL2 lv (k : Nat) (.long x) = lv') (hf : lvF lv = true) (kk : ME g u (pc + 1) lv' st h Q) : ME g u pc lv (.long x :: st) h Q := by
  intro p e R s m args below meth c H locs ls X
  obtain ⟨x1, x2, x3, x4, x5, x6, x7, x8, x9, x10, x11, x12, ⟨l, h1, h2⟩, x14⟩ := X
  refine lv_lstore_n (lv' := _) x1 x2 hd rfl h1 hn rfl (fun ls' hl' => kk p e R s m args below meth c H locs ls' ⟨x1, x2, x3, x4, x5, x6, x7, x8, x9, x10, x11, x12, ⟨_, hl', ?_⟩, x14⟩)
  intro j w hj hw
  subst hl
  rcases setL2_get hj hw with ⟨q1, q2⟩ | ⟨q1, q4, q2, q3⟩
  · subst q1; subst q2; exact List.mem_cons_self
  · refine List.mem_cons_of_mem _ (List.mem_filter.mpr ⟨h2 j w q2 hw, ?_⟩)
    simp only [Bool.and_eq_true, Bool.not_eq_true', beq_eq_false_iff_ne, ne_eq, Bool.and_eq_false_iff]
    refine ⟨q1, q4, ?_⟩
    by_cases hji : j + 1 = (k : Nat)
    · right
      intro hc
      exact q3 ⟨hji, tv_cat2 hc (lvF_nd hf q2)⟩
    · left; exact hji
theorem m_lstore {g : gT} {u : uT} {pc : Nat} {lv st : List Value} {h : mh_T} {Q : Option Value → mh_T → Prop} {i : Nat} {x : Int64} {lv' : List Value} (hd : decode u.2.1 pc = .ok (.lstore i, 2)) (hn : i + 1 < u.2.2.1) (hl : setL2 lv i (.long x) = lv') (hf : lvF lv = true) (kk : ME g u (pc + 2) lv' st h Q) : ME g u pc lv (.long x :: st) h Q := by
  intro p e R s m args below meth c H locs ls X
  obtain ⟨x1, x2, x3, x4, x5, x6, x7, x8, x9, x10, x11, x12, ⟨l, h1, h2⟩, x14⟩ := X
  refine lv_lstore (lv' := _) x1 x2 hd h1 hn rfl (fun ls' hl' => kk p e R s m args below meth c H locs ls' ⟨x1, x2, x3, x4, x5, x6, x7, x8, x9, x10, x11, x12, ⟨_, hl', ?_⟩, x14⟩)
  intro j w hj hw
  subst hl
  rcases setL2_get hj hw with ⟨q1, q2⟩ | ⟨q1, q4, q2, q3⟩
  · subst q1; subst q2; exact List.mem_cons_self
  · refine List.mem_cons_of_mem _ (List.mem_filter.mpr ⟨h2 j w q2 hw, ?_⟩)
    simp only [Bool.and_eq_true, Bool.not_eq_true', beq_eq_false_iff_ne, ne_eq, Bool.and_eq_false_iff]
    refine ⟨q1, q4, ?_⟩
    by_cases hji : j + 1 = i
    · right
      intro hc
      exact q3 ⟨hji, tv_cat2 hc (lvF_nd hf q2)⟩
    · left; exact hji
theorem m_iinc {g : gT} {u : uT} {pc : Nat} {lv st : List Value} {h : mh_T} {Q : Option Value → mh_T → Prop} {i : Nat} {n : Int} {x v : Int32} {lv' : List Value} (hd : decode u.2.1 pc = .ok (.iinc i n, 3)) (hn : i < u.2.2.1) (hx : lv[i]? = some (.int x)) (hv : x + Int32.ofInt n = v) (hl : setL lv i (.int v) = lv') (hf : lvF lv = true) (kk : ME g u (pc + 3) lv' st h Q) : ME g u pc lv st h Q := by
  intro p e R s m args below meth c H locs ls X
  obtain ⟨x1, x2, x3, x4, x5, x6, x7, x8, x9, x10, x11, x12, ⟨l, h1, h2⟩, x14⟩ := X
  obtain ⟨k, hk⟩ := List.getElem?_of_mem (h2 i _ hx (by intro e; cases e))
  refine lv_iinc (v := v) (k := k) (lv' := _) x1 x2 hd h1 hk hv hn rfl (fun ls' hl' => kk p e R s m args below meth c H locs ls' ⟨x1, x2, x3, x4, x5, x6, x7, x8, x9, x10, x11, x12, ⟨_, hl', ?_⟩, x14⟩)
  intro j w hj hw
  subst hl
  rcases setL_get hj hw with ⟨q1, q2⟩ | ⟨q1, q2, q3⟩
  · subst q1; subst q2; exact List.mem_cons_self
  · refine List.mem_cons_of_mem _ (List.mem_filter.mpr ⟨h2 j w q2 hw, ?_⟩)
    simp only [Bool.and_eq_true, Bool.not_eq_true', beq_eq_false_iff_ne, ne_eq, Bool.and_eq_false_iff]
    refine ⟨q1, ?_⟩
    by_cases hji : j + 1 = i
    · right
      intro hc
      exact q3 ⟨hji, tv_cat2 hc (lvF_nd hf q2)⟩
    · left; exact hji
theorem gad_lt (g : gT) {k : Nat} (hk : k < 141) : gad g k = gr g k := by unfold gad; rw [if_pos (by omega)]
theorem ent_ne {g : gT} {h h' : mh_T} {k : Nat} (h1 : ∀ q, q ≠ k → h.1 q = h'.1 q) (h2 : ∀ q, q ≠ k → h.2.1 q = h'.2.1 q) (h3 : ∀ q, q ≠ k → h.2.2 q = h'.2.2 q) : ∀ q, q ≠ k → ent g h q = ent g h' q := by
  intro q hq
  unfold ent fldL fldV
  rw [h1 q hq, h2 q hq, h3 q hq]
theorem wI_off {h : mh_T} {k j : Nat} {v : Int32} : (∀ q, q ≠ k → h.1 q = (wI h k j v).1 q) ∧ (∀ q, q ≠ k → h.2.1 q = (wI h k j v).2.1 q) ∧ ∀ q, q ≠ k → h.2.2 q = (wI h k j v).2.2 q := by
  refine ⟨fun q hq => ?_, fun _ _ => rfl, fun _ _ => rfl⟩
  funext b
  show h.1 q b = if q = k ∧ b = j then v else h.1 q b
  rw [if_neg (fun z => hq z.1)]
theorem wL_off {h : mh_T} {k j : Nat} {v : Int64} : (∀ q, q ≠ k → h.1 q = (wL h k j v).1 q) ∧ (∀ q, q ≠ k → h.2.1 q = (wL h k j v).2.1 q) ∧ ∀ q, q ≠ k → h.2.2 q = (wL h k j v).2.2 q := by
  refine ⟨fun _ _ => rfl, fun q hq => ?_, fun _ _ => rfl⟩
  funext b
  show h.2.1 q b = if q = k ∧ b = j then v else h.2.1 q b
  rw [if_neg (fun z => hq z.1)]
theorem wR_off {h : mh_T} {k j : Nat} {v : Nat} : (∀ q, q ≠ k → h.1 q = (wR h k j v).1 q) ∧ (∀ q, q ≠ k → h.2.1 q = (wR h k j v).2.1 q) ∧ ∀ q, q ≠ k → h.2.2 q = (wR h k j v).2.2 q := by
  refine ⟨fun _ _ => rfl, fun _ _ => rfl, fun q hq => ?_⟩
  funext b
  show h.2.2 q b = if q = k ∧ b = j then v else h.2.2 q b
  rw [if_neg (fun z => hq z.1)]
theorem ent_o {g : gT} {h : mh_T} {k ci n : Nat} {ts : List Nat} (hs : shp k = (ci, n, ts)) (h12 : ci < 12) : ent g h k = .inr (ci, fldL g h k ci ts) := by
  unfold ent; rw [hs]; dsimp only; rw [if_pos h12]
theorem fldL_at {g : gT} {h : mh_T} {k ci : Nat} {ts : List Nat} {j t : Nat} (hj : (fty ci)[j]? = some t) : (fldL g h k ci ts)[j]? = some (fldV g h k ts j t) := by
  have hl : j < (fty ci).length := (List.getElem?_eq_some_iff.mp hj).1
  unfold fldL
  rw [List.getElem?_map, List.getElem?_range hl]
  show some (fldV g h k ts j ((fty ci).getD j 9)) = _
  rw [List.getD_eq_getElem?_getD, hj]
  rfl
theorem fldL_len {g : gT} {h : mh_T} {k ci : Nat} {ts : List Nat} : (fldL g h k ci ts).length = (fty ci).length := by simp [fldL]
theorem fldL_set {g : gT} {h h' : mh_T} {k ci : Nat} {ts : List Nat} {j : Nat} {v : Value} (hj : j < (fty ci).length) (hv : fldV g h' k ts j ((fty ci).getD j 9) = v) (ho : ∀ i, i ≠ j → h.1 k i = h'.1 k i ∧ h.2.1 k i = h'.2.1 k i) : (fldL g h k ci ts).set j v = fldL g h' k ci ts := by
  apply List.ext_getElem?
  intro i
  by_cases hi : i < (fty ci).length
  · by_cases hij : i = j
    · subst hij
      rw [List.getElem?_set_self (by rw [fldL_len]; exact hi)]
      unfold fldL
      rw [List.getElem?_map, List.getElem?_range hi]
      exact congrArg some hv.symm
    · rw [List.getElem?_set_ne (Ne.symm hij)]
      unfold fldL
      rw [List.getElem?_map, List.getElem?_map, List.getElem?_range hi]
      simp only [Option.map_some, fldV, (ho i hij).1, (ho i hij).2]
  · rw [List.getElem?_eq_none (by rw [List.length_set, fldL_len]; omega), List.getElem?_eq_none (by rw [fldL_len]; omega)]
theorem m_getI {g : gT} {u : uT} {pc : Nat} {lv st : List Value} {h : mh_T} {Q : Option Value → mh_T → Prop} {index : Nat} {ref : String} {k ci n j : Nat} {ts : List Nat} {q : vw_C} (hd : decode u.2.1 pc = .ok (.getfield index, 3)) (hs : shp k = (ci, n, ts)) (h12 : ci < 12) (hk : k < 141) (hc : vwCl[ci]? = some q) (hq : q.2.2 = (fty ci).length) (hin : ∀ w ∈ u_ws q.1 q.2.1 q.2.2, w ∈ lw_tbl) (hgw : (u_ws q.1 q.2.1 q.2.2).all goodWord = true) (hlink : Cond.fieldLink u.1 index ref (q.2.1 j).2.1 (q.2.1 j).2.2.1 ∈ lw_tbl) (hre : (q.2.1 j).1 = ref) (hj : (fty ci)[j]? = some 0) (kk : ME g u (pc + 3) lv (.int (mI h k j) :: st) h Q) : ME g u pc lv (.ref k :: st) h Q := by
  intro p e R s m args below meth c H locs ls X
  have hlt : j < (fty ci).length := (List.getElem?_eq_some_iff.mp hj).1
  obtain ⟨C, T, N⟩ := q
  have hP := X.2.2.2.2.2.2.2.2.1
  show W p (gl g) e R s m args below meth c H locs 0 0 _ (F0 m pc ls (.ref (gad g k) :: st.map (tv g)))
  rw [gad_lt g hk]
  refine va_get (ci := ci) (v := .int (mI h k j)) (Ts := lw_tbl.filter goodWord) (ref := ref) X.1 X.2.1 (m_ws X) (fun w hw => List.mem_filter.mpr ⟨hin w hw, List.all_eq_true.mp hgw w hw⟩) X.2.2.2.2.2.1 X.2.2.2.2.2.2.2.1 hP k (fs := fldL g h k ci ts) (by rw [mw_at g h hk, ent_o hs h12]) hc j (by rw [show N = _ from hq]; exact hlt) (X.2.2.2.2.2.2.1 _ hlink rfl) (fun x hx => by rw [← hre]; exact hx) (by rw [fldL_at hj]; rfl) hd (kk p e R s m args below meth c H locs ls X)
theorem m_getL {g : gT} {u : uT} {pc : Nat} {lv st : List Value} {h : mh_T} {Q : Option Value → mh_T → Prop} {index : Nat} {ref : String} {k ci n j : Nat} {ts : List Nat} {q : vw_C} (hd : decode u.2.1 pc = .ok (.getfield index, 3)) (hs : shp k = (ci, n, ts)) (h12 : ci < 12) (hk : k < 141) (hc : vwCl[ci]? = some q) (hq : q.2.2 = (fty ci).length) (hin : ∀ w ∈ u_ws q.1 q.2.1 q.2.2, w ∈ lw_tbl) (hgw : (u_ws q.1 q.2.1 q.2.2).all goodWord = true) (hlink : Cond.fieldLink u.1 index ref (q.2.1 j).2.1 (q.2.1 j).2.2.1 ∈ lw_tbl) (hre : (q.2.1 j).1 = ref) (hj : (fty ci)[j]? = some 1) (kk : ME g u (pc + 3) lv (.long (mL h k j) :: st) h Q) : ME g u pc lv (.ref k :: st) h Q := by
  intro p e R s m args below meth c H locs ls X
  have hlt : j < (fty ci).length := (List.getElem?_eq_some_iff.mp hj).1
  obtain ⟨C, T, N⟩ := q
  have hP := X.2.2.2.2.2.2.2.2.1
  show W p (gl g) e R s m args below meth c H locs 0 0 _ (F0 m pc ls (.ref (gad g k) :: st.map (tv g)))
  rw [gad_lt g hk]
  refine va_get (ci := ci) (v := .long (mL h k j)) (Ts := lw_tbl.filter goodWord) (ref := ref) X.1 X.2.1 (m_ws X) (fun w hw => List.mem_filter.mpr ⟨hin w hw, List.all_eq_true.mp hgw w hw⟩) X.2.2.2.2.2.1 X.2.2.2.2.2.2.2.1 hP k (fs := fldL g h k ci ts) (by rw [mw_at g h hk, ent_o hs h12]) hc j (by rw [show N = _ from hq]; exact hlt) (X.2.2.2.2.2.2.1 _ hlink rfl) (fun x hx => by rw [← hre]; exact hx) (by rw [fldL_at hj]; rfl) hd (kk p e R s m args below meth c H locs ls X)
theorem m_getR {g : gT} {u : uT} {pc : Nat} {lv st : List Value} {h : mh_T} {Q : Option Value → mh_T → Prop} {index : Nat} {ref : String} {k ci n j : Nat} {ts : List Nat} {q : vw_C} {k' : Nat} (hd : decode u.2.1 pc = .ok (.getfield index, 3)) (hs : shp k = (ci, n, ts)) (h12 : ci < 12) (hk : k < 141) (hc : vwCl[ci]? = some q) (hq : q.2.2 = (fty ci).length) (hin : ∀ w ∈ u_ws q.1 q.2.1 q.2.2, w ∈ lw_tbl) (hgw : (u_ws q.1 q.2.1 q.2.2).all goodWord = true) (hlink : Cond.fieldLink u.1 index ref (q.2.1 j).2.1 (q.2.1 j).2.2.1 ∈ lw_tbl) (hre : (q.2.1 j).1 = ref) (hj : (fty ci)[j]? = some 2) (ht : ts.getD j 0 = k') (hk' : k' < 141) (kk : ME g u (pc + 3) lv (.ref k' :: st) h Q) : ME g u pc lv (.ref k :: st) h Q := by
  intro p e R s m args below meth c H locs ls X
  have hlt : j < (fty ci).length := (List.getElem?_eq_some_iff.mp hj).1
  obtain ⟨C, T, N⟩ := q
  have hP := X.2.2.2.2.2.2.2.2.1
  show W p (gl g) e R s m args below meth c H locs 0 0 _ (F0 m pc ls (.ref (gad g k) :: st.map (tv g)))
  rw [gad_lt g hk]
  refine va_get (ci := ci) (v := .ref (gad g k')) (Ts := lw_tbl.filter goodWord) (ref := ref) X.1 X.2.1 (m_ws X) (fun w hw => List.mem_filter.mpr ⟨hin w hw, List.all_eq_true.mp hgw w hw⟩) X.2.2.2.2.2.1 X.2.2.2.2.2.2.2.1 hP k (fs := fldL g h k ci ts) (by rw [mw_at g h hk, ent_o hs h12]) hc j (by rw [show N = _ from hq]; exact hlt) (X.2.2.2.2.2.2.1 _ hlink rfl) (fun x hx => by rw [← hre]; exact hx) (by rw [fldL_at hj, gad_lt g hk', ← ht]; rfl) hd (kk p e R s m args below meth c H locs ls X)
theorem m_putI {g : gT} {u : uT} {pc : Nat} {lv st : List Value} {h : mh_T} {Q : Option Value → mh_T → Prop} {index : Nat} {ref : String} {k ci n j : Nat} {ts : List Nat} {q : vw_C} {v : Int32} {ty : FieldType} (hd : decode u.2.1 pc = .ok (.putfield index, 3)) (hs : shp k = (ci, n, ts)) (h12 : ci < 12) (hk : k < 141) (hc : vwCl[ci]? = some q) (hq : q.2.2 = (fty ci).length) (hin : ∀ w ∈ u_ws q.1 q.2.1 q.2.2, w ∈ lw_tbl) (hgw : (u_ws q.1 q.2.1 q.2.2).all goodWord = true) (hlink : Cond.fieldLink u.1 index ref (q.2.1 j).2.1 (q.2.1 j).2.2.1 ∈ lw_tbl) (hre : (q.2.1 j).1 = ref) (ty0 : Nat → FieldType) (hty : ∀ k, k < q.2.2 → parseFieldDescriptor (q.2.1 k).2.2.1 = some (ty0 k)) (hnm : ∀ a, a < q.2.2 → ∀ b, b < q.2.2 → a ≠ b → (q.2.1 a).2.1 ≠ (q.2.1 b).2.1) (hfin : (q.2.1 j).2.2.2 = false) (htj : parseFieldDescriptor (q.2.1 j).2.2.1 = some ty) (hnv : narrow ty (.int v) = .int v) (hfit : fits ty (.int v) = true) (hj : (fty ci)[j]? = some 0) (kk : ME g u (pc + 3) lv st (wI h k j v) Q) : ME g u pc lv (.int v :: .ref k :: st) h Q := by
  intro p e R s m args below meth c H locs ls X
  have hlt : j < (fty ci).length := (List.getElem?_eq_some_iff.mp hj).1
  obtain ⟨C, T, N⟩ := q
  obtain ⟨x1, x2, x3, x4, x5, x6, x7, x8, x9, x10, x11, x12, x13, x14⟩ := id X
  show W p (gl g) e R s m args below meth c H locs 0 0 _ (F0 m pc ls (.int v :: .ref (gad g k) :: st.map (tv g)))
  rw [gad_lt g hk]
  refine va_put (ci := ci) (v := .int v) (ty := ty) (Ts := lw_tbl.filter goodWord) (ref := ref) x1 x2 (m_ws X) (fun w hw => List.mem_filter.mpr ⟨hin w hw, List.all_eq_true.mp hgw w hw⟩) ty0 hty hnm x6 x8 x9 (mw_D x10 h) x11 k (fs := fldL g h k ci ts) (by rw [mw_at g h hk, ent_o hs h12]) hc j (by rw [show N = _ from hq]; exact hlt) (x7 _ hlink rfl) (fun x hx => by rw [← hre]; exact hx) hfin htj hnv hfit (by rw [fldL_len]; exact hlt) hd (fun H1 locs1 hP1 _ hS1 => ?_)
  have e1 : (mw g h).set k (gr g k, .inr (ci, (fldL g h k ci ts).set j (.int v))) = mw g (wI h k j v) := by
    rw [← mw_set (h := h) (h' := wI h k j v) hk (ent_ne wI_off.1 wI_off.2.1 wI_off.2.2), ent_o hs h12, fldL_set (h' := wI h k j v) hlt ?_ ?_]
    · rw [List.getD_eq_getElem?_getD, hj]
      show (.int (if k = k ∧ j = j then v else _) : Value) = .int v
      rw [if_pos ⟨rfl, rfl⟩]
    · intro i hi
      refine ⟨?_, ?_⟩ <;> first | rfl | (show _ = if k = k ∧ i = j then v else _; rw [if_neg (fun z => hi z.2)])
  rw [e1] at hP1
  exact kk p e R s m args below meth c H1 locs1 ls ⟨x1, x2, x3, x4, x5, x6, x7, x8, hP1, x10, hS1, x12, x13, x14⟩
theorem m_putL {g : gT} {u : uT} {pc : Nat} {lv st : List Value} {h : mh_T} {Q : Option Value → mh_T → Prop} {index : Nat} {ref : String} {k ci n j : Nat} {ts : List Nat} {q : vw_C} {v : Int64} {ty : FieldType} (hd : decode u.2.1 pc = .ok (.putfield index, 3)) (hs : shp k = (ci, n, ts)) (h12 : ci < 12) (hk : k < 141) (hc : vwCl[ci]? = some q) (hq : q.2.2 = (fty ci).length) (hin : ∀ w ∈ u_ws q.1 q.2.1 q.2.2, w ∈ lw_tbl) (hgw : (u_ws q.1 q.2.1 q.2.2).all goodWord = true) (hlink : Cond.fieldLink u.1 index ref (q.2.1 j).2.1 (q.2.1 j).2.2.1 ∈ lw_tbl) (hre : (q.2.1 j).1 = ref) (ty0 : Nat → FieldType) (hty : ∀ k, k < q.2.2 → parseFieldDescriptor (q.2.1 k).2.2.1 = some (ty0 k)) (hnm : ∀ a, a < q.2.2 → ∀ b, b < q.2.2 → a ≠ b → (q.2.1 a).2.1 ≠ (q.2.1 b).2.1) (hfin : (q.2.1 j).2.2.2 = false) (htj : parseFieldDescriptor (q.2.1 j).2.2.1 = some ty) (hnv : narrow ty (.long v) = .long v) (hfit : fits ty (.long v) = true) (hj : (fty ci)[j]? = some 1) (kk : ME g u (pc + 3) lv st (wL h k j v) Q) : ME g u pc lv (.long v :: .ref k :: st) h Q := by
  intro p e R s m args below meth c H locs ls X
  have hlt : j < (fty ci).length := (List.getElem?_eq_some_iff.mp hj).1
  obtain ⟨C, T, N⟩ := q
  obtain ⟨x1, x2, x3, x4, x5, x6, x7, x8, x9, x10, x11, x12, x13, x14⟩ := id X
  show W p (gl g) e R s m args below meth c H locs 0 0 _ (F0 m pc ls (.long v :: .ref (gad g k) :: st.map (tv g)))
  rw [gad_lt g hk]
  refine va_put (ci := ci) (v := .long v) (ty := ty) (Ts := lw_tbl.filter goodWord) (ref := ref) x1 x2 (m_ws X) (fun w hw => List.mem_filter.mpr ⟨hin w hw, List.all_eq_true.mp hgw w hw⟩) ty0 hty hnm x6 x8 x9 (mw_D x10 h) x11 k (fs := fldL g h k ci ts) (by rw [mw_at g h hk, ent_o hs h12]) hc j (by rw [show N = _ from hq]; exact hlt) (x7 _ hlink rfl) (fun x hx => by rw [← hre]; exact hx) hfin htj hnv hfit (by rw [fldL_len]; exact hlt) hd (fun H1 locs1 hP1 _ hS1 => ?_)
  have e1 : (mw g h).set k (gr g k, .inr (ci, (fldL g h k ci ts).set j (.long v))) = mw g (wL h k j v) := by
    rw [← mw_set (h := h) (h' := wL h k j v) hk (ent_ne wL_off.1 wL_off.2.1 wL_off.2.2), ent_o hs h12, fldL_set (h' := wL h k j v) hlt ?_ ?_]
    · rw [List.getD_eq_getElem?_getD, hj]
      show (.long (if k = k ∧ j = j then v else _) : Value) = .long v
      rw [if_pos ⟨rfl, rfl⟩]
    · intro i hi
      refine ⟨?_, ?_⟩ <;> first | rfl | (show _ = if k = k ∧ i = j then v else _; rw [if_neg (fun z => hi z.2)])
  rw [e1] at hP1
  exact kk p e R s m args below meth c H1 locs1 ls ⟨x1, x2, x3, x4, x5, x6, x7, x8, hP1, x10, hS1, x12, x13, x14⟩
theorem ent_i {g : gT} {h : mh_T} {k n : Nat} {ts : List Nat} (hs : shp k = (20, n, ts)) : ent g h k = .inl (gc g 0, n, .inl (h.1 k)) := by
  unfold ent; rw [hs]; rfl
theorem m_iaload {g : gT} {u : uT} {pc : Nat} {lv st : List Value} {h : mh_T} {Q : Option Value → mh_T → Prop} {k n : Nat} {ts : List Nat} {i : Int32} (hd : decode u.2.1 pc = .ok (.iaload, 1)) (hs : shp k = (20, n, ts)) (hk : k < 141) (hi : vp_in i n) (kk : ME g u (pc + 1) lv (.int (mI h k i.toNatClampNeg) :: st) h Q) : ME g u pc lv (.int i :: .ref k :: st) h Q := by
  intro p e R s m args below meth c H locs ls X
  show W p (gl g) e R s m args below meth c H locs 0 0 _ (F0 m pc ls (.int i :: .ref (gad g k) :: st.map (tv g)))
  rw [gad_lt g hk]
  exact va_iald X.1 X.2.1 X.2.2.2.2.2.2.2.1 X.2.2.2.2.2.2.2.2.1 k 0 (by rw [mw_at g h hk, ent_i hs]; rfl) rfl hi hd (kk p e R s m args below meth c H locs ls X)
theorem m_iastore {g : gT} {u : uT} {pc : Nat} {lv st : List Value} {h : mh_T} {Q : Option Value → mh_T → Prop} {k n : Nat} {ts : List Nat} {i : Int32} {v : Int32} (hd : decode u.2.1 pc = .ok (.iastore, 1)) (hs : shp k = (20, n, ts)) (hk : k < 141) (hi : vp_in i n) (kk : ME g u (pc + 1) lv st (wI h k i.toNatClampNeg v) Q) : ME g u pc lv (.int v :: .int i :: .ref k :: st) h Q := by
  intro p e R s m args below meth c H locs ls X
  obtain ⟨x1, x2, x3, x4, x5, x6, x7, x8, x9, x10, x11, x12, x13, x14⟩ := id X
  show W p (gl g) e R s m args below meth c H locs 0 0 _ (F0 m pc ls (.int v :: .int i :: .ref (gad g k) :: st.map (tv g)))
  rw [gad_lt g hk]
  refine va_iast x1 x2 x8 x9 (mw_D x10 h) x11 k 0 (by rw [mw_at g h hk, ent_i hs]) rfl hi hd (fun H1 locs1 hP1 _ hS1 => ?_)
  refine kk p e R s m args below meth c H1 locs1 ls ⟨x1, x2, x3, x4, x5, x6, x7, x8, ?_, x10, hS1, x12, x13, x14⟩
  rw [← mw_set (h := h) (h' := wI h k i.toNatClampNeg v) hk (ent_ne wI_off.1 wI_off.2.1 wI_off.2.2), ent_i hs]
  refine cast (congrArg (fun z => va_P (gD g) vwCl ((mw g h).set k (gr g k, z)) H1) ?_) hP1
  congr 4
  funext b
  show upd (h.1 k) i.toNatClampNeg v b = if k = k ∧ b = i.toNatClampNeg then v else h.1 k b
  simp [upd]
theorem ent_z {g : gT} {h : mh_T} {k n : Nat} {ts : List Nat} (hs : shp k = (21, n, ts)) : ent g h k = .inl (gc g 1, n, .inl (h.1 k)) := by
  unfold ent; rw [hs]; rfl
theorem m_zaload {g : gT} {u : uT} {pc : Nat} {lv st : List Value} {h : mh_T} {Q : Option Value → mh_T → Prop} {k n : Nat} {ts : List Nat} {i : Int32} (hd : decode u.2.1 pc = .ok (.baload, 1)) (hs : shp k = (21, n, ts)) (hk : k < 141) (hi : vp_in i n) (kk : ME g u (pc + 1) lv (.int (mI h k i.toNatClampNeg) :: st) h Q) : ME g u pc lv (.int i :: .ref k :: st) h Q := by
  intro p e R s m args below meth c H locs ls X
  show W p (gl g) e R s m args below meth c H locs 0 0 _ (F0 m pc ls (.int i :: .ref (gad g k) :: st.map (tv g)))
  rw [gad_lt g hk]
  exact va_zald X.1 X.2.1 X.2.2.2.2.2.2.2.1 X.2.2.2.2.2.2.2.2.1 k 1 (by rw [mw_at g h hk, ent_z hs]; rfl) rfl hi hd (kk p e R s m args below meth c H locs ls X)
theorem m_zastore {g : gT} {u : uT} {pc : Nat} {lv st : List Value} {h : mh_T} {Q : Option Value → mh_T → Prop} {k n : Nat} {ts : List Nat} {i : Int32} {v : Int32} (hd : decode u.2.1 pc = .ok (.bastore, 1)) (hs : shp k = (21, n, ts)) (hk : k < 141) (hi : vp_in i n) (hz : v = 0 ∨ v = 1) (kk : ME g u (pc + 1) lv st (wI h k i.toNatClampNeg v) Q) : ME g u pc lv (.int v :: .int i :: .ref k :: st) h Q := by
  intro p e R s m args below meth c H locs ls X
  obtain ⟨x1, x2, x3, x4, x5, x6, x7, x8, x9, x10, x11, x12, x13, x14⟩ := id X
  show W p (gl g) e R s m args below meth c H locs 0 0 _ (F0 m pc ls (.int v :: .int i :: .ref (gad g k) :: st.map (tv g)))
  rw [gad_lt g hk]
  refine va_zast x1 x2 x8 x9 (mw_D x10 h) x11 k 1 (by rw [mw_at g h hk, ent_z hs]) rfl hi hd (fun H1 locs1 hP1 _ hS1 => ?_)
  refine kk p e R s m args below meth c H1 locs1 ls ⟨x1, x2, x3, x4, x5, x6, x7, x8, ?_, x10, hS1, x12, x13, x14⟩
  rw [← mw_set (h := h) (h' := wI h k i.toNatClampNeg v) hk (ent_ne wI_off.1 wI_off.2.1 wI_off.2.2), ent_z hs]
  refine cast (congrArg (fun z => va_P (gD g) vwCl ((mw g h).set k (gr g k, z)) H1) ?_) hP1
  congr 4
  funext b
  show upd (h.1 k) i.toNatClampNeg (vp_nar .boolean v) b = if k = k ∧ b = i.toNatClampNeg then v else h.1 k b
  have hb2 : vp_nar .boolean v = v := by rcases hz with e | e <;> subst e <;> decide
  rw [hb2]
  simp [upd]
theorem ent_l {g : gT} {h : mh_T} {k n : Nat} {ts : List Nat} (hs : shp k = (22, n, ts)) : ent g h k = .inl (gc g 2, n, .inr (.inl (h.2.1 k))) := by
  unfold ent; rw [hs]; rfl
theorem m_laload {g : gT} {u : uT} {pc : Nat} {lv st : List Value} {h : mh_T} {Q : Option Value → mh_T → Prop} {k n : Nat} {ts : List Nat} {i : Int32} (hd : decode u.2.1 pc = .ok (.laload, 1)) (hs : shp k = (22, n, ts)) (hk : k < 141) (hi : vp_in i n) (kk : ME g u (pc + 1) lv (.long (mL h k i.toNatClampNeg) :: st) h Q) : ME g u pc lv (.int i :: .ref k :: st) h Q := by
  intro p e R s m args below meth c H locs ls X
  show W p (gl g) e R s m args below meth c H locs 0 0 _ (F0 m pc ls (.int i :: .ref (gad g k) :: st.map (tv g)))
  rw [gad_lt g hk]
  exact va_lald X.1 X.2.1 X.2.2.2.2.2.2.2.1 X.2.2.2.2.2.2.2.2.1 k 2 (by rw [mw_at g h hk, ent_l hs]; rfl) rfl hi hd (kk p e R s m args below meth c H locs ls X)
theorem m_lastore {g : gT} {u : uT} {pc : Nat} {lv st : List Value} {h : mh_T} {Q : Option Value → mh_T → Prop} {k n : Nat} {ts : List Nat} {i : Int32} {v : Int64} (hd : decode u.2.1 pc = .ok (.lastore, 1)) (hs : shp k = (22, n, ts)) (hk : k < 141) (hi : vp_in i n) (kk : ME g u (pc + 1) lv st (wL h k i.toNatClampNeg v) Q) : ME g u pc lv (.long v :: .int i :: .ref k :: st) h Q := by
  intro p e R s m args below meth c H locs ls X
  obtain ⟨x1, x2, x3, x4, x5, x6, x7, x8, x9, x10, x11, x12, x13, x14⟩ := id X
  show W p (gl g) e R s m args below meth c H locs 0 0 _ (F0 m pc ls (.long v :: .int i :: .ref (gad g k) :: st.map (tv g)))
  rw [gad_lt g hk]
  refine va_last x1 x2 x8 x9 (mw_D x10 h) x11 k 2 (by rw [mw_at g h hk, ent_l hs]) rfl hi hd (fun H1 locs1 hP1 _ hS1 => ?_)
  refine kk p e R s m args below meth c H1 locs1 ls ⟨x1, x2, x3, x4, x5, x6, x7, x8, ?_, x10, hS1, x12, x13, x14⟩
  rw [← mw_set (h := h) (h' := wL h k i.toNatClampNeg v) hk (ent_ne wL_off.1 wL_off.2.1 wL_off.2.2), ent_l hs]
  refine cast (congrArg (fun z => va_P (gD g) vwCl ((mw g h).set k (gr g k, z)) H1) ?_) hP1
  congr 5
  funext b
  show vp_updL (h.2.1 k) i.toNatClampNeg v b = if k = k ∧ b = i.toNatClampNeg then v else h.2.1 k b
  simp [vp_updL]
theorem m_alen {g : gT} {u : uT} {pc : Nat} {lv st : List Value} {h : mh_T} {Q : Option Value → mh_T → Prop} {k n kd : Nat} {ts : List Nat} {v : Int32} (hd : decode u.2.1 pc = .ok (.arraylength, 1)) (hs : shp k = (kd, n, ts)) (hkd : kd = 20 ∨ kd = 21 ∨ kd = 22) (hk : k < 141) (hv : Int32.ofNat n = v) (kk : ME g u (pc + 1) lv (.int v :: st) h Q) : ME g u pc lv (.ref k :: st) h Q := by
  intro p e R s m args below meth c H locs ls X
  show W p (gl g) e R s m args below meth c H locs 0 0 _ (F0 m pc ls (.ref (gad g k) :: st.map (tv g)))
  rw [gad_lt g hk]
  rcases hkd with e1 | e1 | e1
  · subst e1
    exact va_alen X.1 X.2.1 X.2.2.2.2.2.2.2.1 X.2.2.2.2.2.2.2.2.1 k 0 (by rw [mw_at g h hk, ent_i hs]) rfl hv hd (kk p e R s m args below meth c H locs ls X)
  · subst e1
    exact va_alen X.1 X.2.1 X.2.2.2.2.2.2.2.1 X.2.2.2.2.2.2.2.2.1 k 1 (by rw [mw_at g h hk, ent_z hs]) rfl hv hd (kk p e R s m args below meth c H locs ls X)
  · subst e1
    exact va_alen X.1 X.2.1 X.2.2.2.2.2.2.2.1 X.2.2.2.2.2.2.2.2.1 k 2 (by rw [mw_at g h hk, ent_l hs]) rfl hv hd (kk p e R s m args below meth c H locs ls X)
theorem ent_s {g : gT} {h : mh_T} {k n : Nat} {ts : List Nat} (hs : shp k = (23, n, ts)) : ent g h k = .inl (gc g 3, n, .inr (.inr (.inr (.inr (fun i => some (gr g (ts.getD i 0))))))) := by
  unfold ent; rw [hs]; rfl
theorem ent_t {g : gT} {h : mh_T} {k n : Nat} {ts : List Nat} (hs : shp k = (24, n, ts)) : ent g h k = .inl (gc g 4, n, .inr (.inr (.inr (.inr (fun i => some (gr g (ts.getD i 0))))))) := by
  unfold ent; rw [hs]; rfl
theorem ent_d {g : gT} {h : mh_T} {k n : Nat} {ts : List Nat} (hs : shp k = (25, n, ts)) : ent g h k = .inl (gc g 4, n, .inr (.inr (.inr (.inr (fun i => some (gr g (h.2.2 k i))))))) := by
  unfold ent; rw [hs]; rfl
theorem m_aald0 {g : gT} {p : Program} {e : Env} {R : Room} {s : State} {m : MethodId} {args : Array Value} {below : List Frame} {meth : Method} {c : Code} {H : Heap} {locs : List Loc} {Q : State → Prop} {cc : ByteArray} {pc : Nat} {ls : Array Slot} {rest : List Value} {a : Nat} {cA : ClassId} {ty : FieldType} {n : Nat} {f : Nat → Option Nat} (hexec : p.tables.exec = Jvm.exec) (hb : c.code = cc) (hA : ArrOfT s cA ty) (hr : ty.isReference = true) (ha : H[a]? = some (vp_cell cA (n, .inr (.inr (.inr (.inr f)))))) {i : Int32} {v : Nat} (hin : vp_in i n) (hv : f i.toNatClampNeg = some v) (hdg : decode cc pc = .ok (.aaload, 1))
    (kk : W p (gl g) e R s m args below meth c H locs 0 0 Q (F0 m (pc + 1) ls (.ref v :: rest))) : W p (gl g) e R s m args below meth c H locs 0 0 Q (F0 m pc ls (.int i :: .ref a :: rest)) := by
  have hlt : i.toNatClampNeg < n := Nat.not_le.mp fun q => hin (Or.inr q)
  have e0 : vp_cell cA (n, .inr (.inr (.inr (.inr f)))) = arrV cA n (fun j => va_rf (f j)) := rfl
  rw [e0] at ha
  refine W.aald (v := .ref v) (ty := ty) hexec hb ha (hA n _) hr (fun q => by cases q) (by rw [arrV_size]; exact hin) (by rw [arrV_read _ _ hlt, hv]; rfl) rfl rfl hdg kk
theorem m_aaloadS {g : gT} {u : uT} {pc : Nat} {lv st : List Value} {h : mh_T} {Q : Option Value → mh_T → Prop} {k n k' : Nat} {ts : List Nat} {i : Int32} (hd : decode u.2.1 pc = .ok (.aaload, 1)) (hs : shp k = (23, n, ts) ∨ shp k = (24, n, ts)) (hk : k < 141) (hi : vp_in i n) (ht : ts.getD i.toNatClampNeg 0 = k') (hk' : k' < 141) (kk : ME g u (pc + 1) lv (.ref k' :: st) h Q) : ME g u pc lv (.int i :: .ref k :: st) h Q := by
  intro p e R s m args below meth c H locs ls X
  show W p (gl g) e R s m args below meth c H locs 0 0 _ (F0 m pc ls (.int i :: .ref (gad g k) :: st.map (tv g)))
  rw [gad_lt g hk]
  have kx := kk p e R s m args below meth c H locs ls X
  have kx : W p (gl g) e R s m args below meth c H locs 0 0 _ (F0 m (pc + 1) ls (.ref (gad g k') :: st.map (tv g))) := kx
  rw [gad_lt g hk', ← ht] at kx
  rcases hs with hs | hs
  · have := X.2.2.2.2.2.2.2.2.1 k _ (by rw [mw_at g h hk, ent_s hs])
    exact m_aald0 X.1 X.2.1 (X.2.2.2.2.2.2.2.1.2 3 _ rfl).1 rfl this hi rfl hd kx
  · have := X.2.2.2.2.2.2.2.2.1 k _ (by rw [mw_at g h hk, ent_t hs])
    exact m_aald0 X.1 X.2.1 (X.2.2.2.2.2.2.2.1.2 4 _ rfl).1 rfl this hi rfl hd kx
theorem m_aaloadD {g : gT} {u : uT} {pc : Nat} {lv st : List Value} {h : mh_T} {Q : Option Value → mh_T → Prop} {k n : Nat} {ts : List Nat} {i : Int32} (hd : decode u.2.1 pc = .ok (.aaload, 1)) (hs : shp k = (25, n, ts)) (hk : k < 141) (hi : vp_in i n) (hk' : mR h k i.toNatClampNeg < 141) (kk : ME g u (pc + 1) lv (.ref (mR h k i.toNatClampNeg) :: st) h Q) : ME g u pc lv (.int i :: .ref k :: st) h Q := by
  intro p e R s m args below meth c H locs ls X
  show W p (gl g) e R s m args below meth c H locs 0 0 _ (F0 m pc ls (.int i :: .ref (gad g k) :: st.map (tv g)))
  rw [gad_lt g hk]
  have kx := kk p e R s m args below meth c H locs ls X
  have kx : W p (gl g) e R s m args below meth c H locs 0 0 _ (F0 m (pc + 1) ls (.ref (gad g (mR h k i.toNatClampNeg)) :: st.map (tv g))) := kx
  rw [gad_lt g hk'] at kx
  have := X.2.2.2.2.2.2.2.2.1 k _ (by rw [mw_at g h hk, ent_d hs])
  exact m_aald0 X.1 X.2.1 (X.2.2.2.2.2.2.2.1.2 4 _ rfl).1 rfl this hi rfl hd kx
theorem m_aastore {g : gT} {u : uT} {pc : Nat} {lv st : List Value} {h : mh_T} {Q : Option Value → mh_T → Prop} {k n k' n' : Nat} {ts ts' : List Nat} {i : Int32} (hd : decode u.2.1 pc = .ok (.aastore, 1)) (hs : shp k = (25, n, ts)) (hk : k < 141) (hi : vp_in i n) (hs' : shp k' = (20, n', ts')) (hk' : k' < 141) (kk : ME g u (pc + 1) lv st (wR h k i.toNatClampNeg k') Q) : ME g u pc lv (.ref k' :: .int i :: .ref k :: st) h Q := by
  intro p e R s m args below meth c H locs ls X
  obtain ⟨x1, x2, x3, x4, x5, x6, x7, x8, x9, x10, x11, x12, x13, x14⟩ := id X
  show W p (gl g) e R s m args below meth c H locs 0 0 _ (F0 m pc ls (.ref (gad g k') :: .int i :: .ref (gad g k) :: st.map (tv g)))
  rw [gad_lt g hk, gad_lt g hk']
  have hc1 := x9 k _ (by rw [mw_at g h hk, ent_d hs])
  have hc2 := x9 k' _ (by rw [mw_at g h hk', ent_i hs'])
  have hc1 : H[gr g k]? = some (arrV (gc g 4) n (fun j => va_rf (some (gr g (h.2.2 k j))))) := hc1
  have hc2 : H[gr g k']? = some (arrV (gc g 0) n' (fun j => .int (h.1 k' j))) := hc2
  have hlt : i.toNatClampNeg < n := Nat.not_le.mp fun q => hi (Or.inr q)
  have h0 : ¬ i < 0 := fun q => hi (Or.inl q)
  obtain ⟨comp, cc, kk2, q1, q2, q3, q4, q5⟩ := arrayOverA_spec x14.2.2.2.2.2.2.2.1
  have r4 : s.vm.findClass ("[" ++ (FieldType.array .int).toString) = some (gc g 4) := (x8.2 4 _ rfl).2
  have r0 : s.vm.findClass ("[" ++ FieldType.int.toString) = some (gc g 0) := (x8.2 0 _ rfl).2
  have hcc : cc = gc g 4 := Option.some.inj (q5.symm.trans r4)
  have hco : comp = gc g 0 := Option.some.inj (q1.symm.trans r0)
  subst hcc
  subst hco
  obtain ⟨kI, compI, w1, w2⟩ := (x8.2 0 _ rfl).1 n' (fun j => .int (h.1 k' j))
  refine W.aast x1 x2 hc1 (fun q h => by cases h) (fun h => by cases h) q3 q4 rfl w1 ⟨h0, by rw [arrV_size]; exact hlt⟩ hc2 (fun q h => by cases h) w1 (va_asg _ _) rfl rfl hd fun H1 e1 z oq => ?_
  refine kk p e R s m args below meth c H1 _ ls ⟨x1, x2, x3, x4, x5, x6, x7, x8, ?_, x10, x11.put z oq (x10.2 k hk), x12, x13, x14⟩
  rw [← mw_set (h := h) (h' := wR h k i.toNatClampNeg k') hk (ent_ne wR_off.1 wR_off.2.1 wR_off.2.2), ent_d hs]
  refine x9.set (mw_D x10 h) (mw_at g h hk) ?_ oq
  show H1[gr g k]? = some (arrV (gc g 4) n (fun j => va_rf (some (gr g ((wR h k i.toNatClampNeg k').2.2 k j)))))
  rw [e1, arrV_store]
  congr 2
  funext b
  by_cases hb : b = i.toNatClampNeg
  · subst hb
    simp [updV, wR, va_rf]
  · simp [updV, wR, hb]
