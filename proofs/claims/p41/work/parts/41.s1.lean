theorem ix_lt {lo hi : Int} {x : Int32} {n : Nat} (f : R lo hi x) (h : hi < (n : Int) ∧ 0 < n) : x.toNatClampNeg < n := by
  have := f.2
  show x.toInt.toNat < n
  omega
theorem R_abs {lo hi : Int} {x : Int32} (f : R lo hi x) (h : hi < lo) : False := by
  have := f.1
  have := f.2
  omega
theorem R_abs2 {lo hi lo' hi' : Int} {x : Int32} (f : R lo hi x) (k : R lo' hi' x) (h : hi < lo' ∨ hi' < lo) : False := by
  have := f.1
  have := f.2
  have := k.1
  have := k.2
  omega
theorem R_nz {lo hi : Int} {x : Int32} (f : R lo hi x) (h : 0 < lo) : ¬ x = 0 := by
  intro e
  subst e
  have := f.1
  rw [show (0 : Int32).toInt = 0 from by decide] at this
  omega
theorem vinS {lo hi : Int} {x : Int32} {n m : Nat} (f : R lo hi x) (hm : m ≤ n) (h : 0 ≤ lo ∧ hi < (m : Int)) : vp_in x n := vp_in_iff.mpr ⟨Int.le_trans h.1 f.1, by have := f.2; omega⟩
theorem isM_22 {k n : Nat} {ts : List Nat} (h : shp k = (22, 65, ts)) : mIsM k = false := by
  have hk := shp_lt h (by decide)
  have : ∀ k, k < 141 → (shp k).1 = 22 → (shp k).2.1 = 65 → mIsM k = false := by decide
  exact this k hk (by rw [h]) (by rw [h])
theorem lg_ne {x y : Int64} (h : ¬ lg_cmp x y = 0) : ¬ x = y := by
  intro e
  subst e
  apply h
  unfold lg_cmp
  simp
theorem rd_ne {lo hi : Int} {h : mh_T} {k j k' j' : Nat} {v : Int32} (f : R lo hi (mI h k' j')) (hk : k' ≠ k) : R lo hi (mI (wI h k j v) k' j') := by
  rw [mI_wI, if_neg (fun z => hk z.1)]
  exact f
theorem cp_ok {k0 sp k1 dp n : Nat} (h : ∀ b, b < dp + n → dp ≤ b → (rgT k1 b = rgT k0 (sp + (b - dp)) ∨ rgT k1 b = rgF)) : ∀ b, dp ≤ b → b < dp + n → rgT k1 b = rgT k0 (sp + (b - dp)) ∨ rgT k1 b = rgF := fun b h1 h2 => h b h2 h1
theorem sh5 {k : Nat} {ts : List Nat} (h : shp k = (20, 5, ts)) : 96 ≤ k ∧ k ≤ 115 := by
  have hk := shp_lt h (by decide)
  have : ∀ k, k < 141 → (shp k).1 = 20 → (shp k).2.1 = 5 → 96 ≤ k ∧ k ≤ 115 := by decide
  exact this k hk (by rw [h]) (by rw [h])
theorem sh49 {k : Nat} {ts : List Nat} (h : shp k = (20, 49, ts)) : k = 48 ∨ (116 ≤ k ∧ k ≤ 140) := by
  have hk := shp_lt h (by decide)
  have : ∀ k, k < 141 → (shp k).1 = 20 → (shp k).2.1 = 49 → k = 48 ∨ (116 ≤ k ∧ k ≤ 140) := by decide
  exact this k hk (by rw [h]) (by rw [h])
theorem rg_5 {k : Nat} {ts : List Nat} (h : shp k = (20, 5, ts)) (j : Nat) : rgT k j = rgF := by
  obtain ⟨h1, h2⟩ := sh5 h
  have hh : k = 96 ∨ k = 97 ∨ k = 98 ∨ k = 99 ∨ k = 100 ∨ k = 101 ∨ k = 102 ∨ k = 103 ∨ k = 104 ∨ k = 105 ∨ k = 106 ∨ k = 107 ∨ k = 108 ∨ k = 109 ∨ k = 110 ∨ k = 111 ∨ k = 112 ∨ k = 113 ∨ k = 114 ∨ k = 115 := by omega
  rcases hh with e | e | e | e | e | e | e | e | e | e | e | e | e | e | e | e | e | e | e | e <;> subst e <;> rfl
theorem isM_5 {k : Nat} {ts : List Nat} (h : shp k = (20, 5, ts)) : mIsM k = false := by
  obtain ⟨h1, h2⟩ := sh5 h
  unfold mIsM
  simp
  omega
theorem ne0_5 {k : Nat} {ts : List Nat} (h : shp k = (20, 5, ts)) : ¬ k = 0 := by
  obtain ⟨h1, h2⟩ := sh5 h
  omega
theorem R_le {a b c d : Int} {x y : Int32} (f : R a b x) (k : R c d y) (h : b ≤ c) : x ≤ y := Int32.le_iff_toInt_le.mpr (by have := f.2; have := k.1; omega)
theorem R_lt {a b c d : Int} {x y : Int32} (f : R a b x) (k : R c d y) (h : b < c) : x < y := Int32.lt_iff_toInt_lt.mpr (by have := f.2; have := k.1; omega)
theorem ti_inc {a b : Int} {x : Int32} (f : R a b x) (h : b < 2147483647) : (x + 1).toInt = x.toInt + 1 := by
  have := f.2
  have := (R_full x).1
  rw [Int32.toInt_add, show (1 : Int32).toInt = 1 from by decide, bm (by omega) (by omega)]
theorem ti_dec {a b : Int} {x : Int32} (f : R a b x) (h : -2147483648 < a) : (x + (-1)).toInt = x.toInt - 1 := by
  have := f.1
  have := (R_full x).2
  rw [Int32.toInt_add, show (-1 : Int32).toInt = -1 from by decide, bm (by omega) (by omega)]
  omega
theorem le_inc {a b : Int} {x y : Int32} (f : R a b y) (h : x ≤ y) (hb : b < 2147483647) : x ≤ y + 1 := Int32.le_iff_toInt_le.mpr (by rw [ti_inc f hb]; have := le_ti h; omega)
theorem lt_inc {a b : Int} {x y : Int32} (f : R a b y) (h : x < y) (hb : b < 2147483647) : x < y + 1 := Int32.lt_iff_toInt_lt.mpr (by rw [ti_inc f hb]; have := lt_ti h; omega)
theorem le_inc2 {a b c d : Int} {x y : Int32} (g : R c d x) (f : R a b y) (h : x ≤ y) (hb : b < 2147483647 ∧ d < 2147483647) : x + 1 ≤ y + 1 := Int32.le_iff_toInt_le.mpr (by rw [ti_inc f hb.1, ti_inc g hb.2]; have := le_ti h; omega)
theorem lt_inc2 {a b c d : Int} {x y : Int32} (g : R c d x) (f : R a b y) (h : x < y) (hb : b < 2147483647 ∧ d < 2147483647) : x + 1 < y + 1 := Int32.lt_iff_toInt_lt.mpr (by rw [ti_inc f hb.1, ti_inc g hb.2]; have := lt_ti h; omega)
theorem le_dec {c d : Int} {x y : Int32} (g : R c d x) (h : x ≤ y) (hb : -2147483648 < c) : x + (-1) ≤ y := Int32.le_iff_toInt_le.mpr (by rw [ti_dec g hb]; have := le_ti h; omega)
theorem lt_dec {c d : Int} {x y : Int32} (g : R c d x) (h : x < y) (hb : -2147483648 < c) : x + (-1) < y := Int32.lt_iff_toInt_lt.mpr (by rw [ti_dec g hb]; have := lt_ti h; omega)
theorem sub1 (x : Int32) : x - 1 = x + (-1) := by rw [Int32.sub_eq_add_neg]
theorem le_decm {c d : Int} {x y : Int32} (g : R c d x) (h : x ≤ y) (hb : -2147483648 < c) : x - 1 ≤ y := by rw [sub1]; exact le_dec g h hb
theorem lt_decm {c d : Int} {x y : Int32} (g : R c d x) (h : x < y) (hb : -2147483648 < c) : x - 1 < y := by rw [sub1]; exact lt_dec g h hb
theorem lt_succ_le {c d : Int} {x y : Int32} (g : R c d x) (h : x < y) (hb : d < 2147483647) : x + 1 ≤ y := Int32.le_iff_toInt_le.mpr (by rw [ti_inc g hb]; have := lt_ti h; omega)
theorem shp_n {k kd n : Nat} {ts : List Nat} (h : shp k = (kd, n, ts)) : n ≤ 3298 := by
  by_cases hk : k < 141
  · have : ∀ k, k < 141 → (shp k).2.1 ≤ 3298 := by decide +kernel
    have := this k hk
    rw [h] at this
    exact this
  · have e : shp k = (99, 0, []) := by
      unfold shp
      rw [List.getD_eq_getElem?_getD, List.getElem?_eq_none (by show 141 ≤ k; omega)]
      rfl
    rw [e] at h
    cases h
    decide
theorem vinL {a b : Int} {x : Int32} {k kd n : Nat} {ts : List Nat} (f : R a b x) (h0 : 0 ≤ a) (h : x < Int32.ofNat n) (hs : shp k = (kd, n, ts)) : vp_in x n := by
  have := shp_n hs
  refine vp_in_iff.mpr ⟨by have := f.1; omega, ?_⟩
  have := lt_ti h
  have e : (Int32.ofNat n).toInt = (n : Int) := nI_toInt (n := n) (by omega)
  omega
theorem R_up1 {c d a b : Int} {x : Int32} (g : R c d x) (f : R a b (x + 1)) (lo hi : Int) (h : d < 2147483647 ∧ (lo ≤ c ∨ lo ≤ a - 1) ∧ (d ≤ hi ∨ b - 1 ≤ hi)) : R lo hi x := by
  have e := ti_inc g h.1
  have f1 := f.1
  have f2 := f.2
  have g1 := g.1
  have g2 := g.2
  exact ⟨by omega, by omega⟩
theorem R_um1 {c d a b : Int} {x : Int32} (g : R c d x) (f : R a b (x - 1)) (lo hi : Int) (h : -2147483648 < c ∧ (lo ≤ c ∨ lo ≤ a + 1) ∧ (d ≤ hi ∨ b + 1 ≤ hi)) : R lo hi x := by
  rw [sub1] at f
  have e := ti_dec g h.1
  have f1 := f.1
  have f2 := f.2
  have g1 := g.1
  have g2 := g.2
  exact ⟨by omega, by omega⟩
theorem R_ofN {k kd n : Nat} {ts : List Nat} (hs : shp k = (kd, n, ts)) : R 0 3298 (Int32.ofNat n) := by
  have := shp_n hs
  have e : (Int32.ofNat n).toInt = (n : Int) := nI_toInt (n := n) (by omega)
  unfold R
  omega
theorem Ok_eq {ms : List Nat} {h h' : mh_T} (a : Ok ms h h') {k j : Nat} (hk : k < 62 ∧ k ∉ ms) : mI h' k j = mI h k j := congrFun (a.2.1 k hk.1 hk.2).1 j
theorem rd_nj {lo hi : Int} {h : mh_T} {k j j' : Nat} {v : Int32} (f : R lo hi (mI h k j')) (hj : j' ≠ j) : R lo hi (mI (wI h k j v) k j') := by
  rw [mI_wI, if_neg (fun z => hj z.2)]
  exact f
theorem ix_ne {lo hi : Int} {x : Int32} {m : Nat} (f : R lo hi x) (h : (m : Int) < lo ∨ (hi < (m : Int) ∧ 0 ≤ lo)) : m ≠ x.toNatClampNeg := by
  have := f.1
  have := f.2
  show m ≠ x.toInt.toNat
  omega
theorem sub1_lt {c d : Int} {x : Int32} (g : R c d x) (hb : -2147483648 < c) : x - 1 < x := by
  rw [sub1]
  exact Int32.lt_iff_toInt_lt.mpr (by rw [ti_dec g hb]; omega)
theorem lt_dec2 {a b c d : Int} {x y : Int32} (g : R c d x) (f : R a b y) (h : x < y) (hb : -2147483648 < c ∧ -2147483648 < a) : x + (-1) < y - 1 := by
  rw [sub1]
  exact Int32.lt_iff_toInt_lt.mpr (by rw [ti_dec g hb.1, ti_dec f hb.2]; have := lt_ti h; omega)
theorem le_dec2 {a b c d : Int} {x y : Int32} (g : R c d x) (f : R a b y) (h : x ≤ y) (hb : -2147483648 < c ∧ -2147483648 < a) : x + (-1) ≤ y - 1 := by
  rw [sub1]
  exact Int32.le_iff_toInt_le.mpr (by rw [ti_dec g hb.1, ti_dec f hb.2]; have := le_ti h; omega)
theorem ge_22 {k : Nat} {ts : List Nat} (h : shp k = (22, 65, ts)) : 62 ≤ k := by
  have hk := shp_lt h (by decide)
  have : ∀ k, k < 141 → (shp k).1 = 22 → (shp k).2.1 = 65 → 62 ≤ k := by decide
  exact this k hk (by rw [h]) (by rw [h])
theorem ge_5 {k : Nat} {ts : List Nat} (h : shp k = (20, 5, ts)) : 62 ≤ k := by
  have := (sh5 h).1
  omega
theorem nt_5 {k j : Nat} {ts : List Nat} (h : shp k = (20, 5, ts)) : ¬ ((k = 0 ∧ (j = 10 ∨ j = 12 ∨ j = 13)) ∨ (k = 3 ∧ (j = 0 ∨ j = 1)) ∨ (k = 8 ∧ j = 0)) ∧ ¬ ((k = 11 ∧ (j = 2 ∨ j = 9 ∨ j = 10 ∨ j = 11 ∨ j = 14)) ∨ (k = 45 ∧ 49 ≤ j)) := by
  have := (sh5 h).1
  omega
/-- rows of THE TABLE -/
theorem rg_row {k : Nat} (h1 : 116 ≤ k) (h2 : k < 141) (j : Nat) : rgT k j = rgRow j := by
  obtain ⟨d, rfl⟩ : ∃ d, k = 116 + d := ⟨k - 116, by omega⟩
  have hd : d < 25 := by omega
  have : ∀ d, d < 25 → ∀ j, rgT (116 + d) j = rgRow j := by
    intro d hd j
    have hh : d = 0 ∨ d = 1 ∨ d = 2 ∨ d = 3 ∨ d = 4 ∨ d = 5 ∨ d = 6 ∨ d = 7 ∨ d = 8 ∨ d = 9 ∨ d = 10 ∨ d = 11 ∨ d = 12 ∨ d = 13 ∨ d = 14 ∨ d = 15 ∨ d = 16 ∨ d = 17 ∨ d = 18 ∨ d = 19 ∨ d = 20 ∨ d = 21 ∨ d = 22 ∨ d = 23 ∨ d = 24 := by omega
    rcases hh with e | e | e | e | e | e | e | e | e | e | e | e | e | e | e | e | e | e | e | e | e | e | e | e | e <;> subst e <;> rfl
  exact this d hd j
theorem isM_row {k : Nat} (h1 : 116 ≤ k) : mIsM k = false := by
  unfold mIsM
  simp
  omega
theorem rowcp {l k0 sp dp n : Nat} (hn : 116 ≤ l) (hk : l < 141) (h : ∀ b, b < dp + n → dp ≤ b → (rgRow b = rgT k0 (sp + (b - dp)) ∨ rgRow b = rgF)) : ∀ b, dp ≤ b → b < dp + n → rgT l b = rgT k0 (sp + (b - dp)) ∨ rgT l b = rgF := by
  intro b h1 h2
  rw [rg_row hn hk]
  exact h b h2 h1
theorem rowcp' {l k1 sp dp n : Nat} (hn : 116 ≤ l) (hk : l < 141) (h : ∀ b, b < dp + n → dp ≤ b → (rgT k1 b = rgRow (sp + (b - dp)) ∨ rgT k1 b = rgF)) : ∀ b, dp ≤ b → b < dp + n → rgT k1 b = rgT l (sp + (b - dp)) ∨ rgT k1 b = rgF := by
  intro b h1 h2
  rw [rg_row hn hk]
  exact h b h2 h1
theorem nt_45 {j : Nat} (h : j < 49) : ¬ ((45 = 0 ∧ (j = 10 ∨ j = 12 ∨ j = 13)) ∨ (45 = 3 ∧ (j = 0 ∨ j = 1)) ∨ (45 = 8 ∧ j = 0)) ∧ ¬ ((45 = 11 ∧ (j = 2 ∨ j = 9 ∨ j = 10 ∨ j = 11 ∨ j = 14)) ∨ (45 = 45 ∧ 49 ≤ j)) := by omega
theorem nt_c {k j : Nat} (h : k ≠ 0 ∧ k ≠ 11 ∧ k ≠ 3 ∧ k ≠ 8) (h45 : k = 45 → j < 49) : ¬ ((k = 0 ∧ (j = 10 ∨ j = 12 ∨ j = 13)) ∨ (k = 3 ∧ (j = 0 ∨ j = 1)) ∨ (k = 8 ∧ j = 0)) ∧ ¬ ((k = 11 ∧ (j = 2 ∨ j = 9 ∨ j = 10 ∨ j = 11 ∨ j = 14)) ∨ (k = 45 ∧ 49 ≤ j)) := by omega
theorem nt_k {k j : Nat} (h : k ≠ 0 ∧ k ≠ 11 ∧ k ≠ 45 ∧ k ≠ 3 ∧ k ≠ 8) : ¬ ((k = 0 ∧ (j = 10 ∨ j = 12 ∨ j = 13)) ∨ (k = 3 ∧ (j = 0 ∨ j = 1)) ∨ (k = 8 ∧ j = 0)) ∧ ¬ ((k = 11 ∧ (j = 2 ∨ j = 9 ∨ j = 10 ∨ j = 11 ∨ j = 14)) ∨ (k = 45 ∧ 49 ≤ j)) := by omega
theorem rd_ge {lo hi : Int} {h : mh_T} {k j k' j' : Nat} {v : Int32} (f : R lo hi (mI h k' j')) (hk : k' < 62) (hg : 62 ≤ k) : R lo hi (mI (wI h k j v) k' j') := by
  rw [mI_wI, if_neg (fun z => by omega)]
  exact f
theorem nz_fr {ms : List Nat} {h h' : mh_T} (a : Ok ms h h') {k j : Nat} (hk : k < 62 ∧ k ∉ ms) (f : ¬ mL h k j = 0) : ¬ mL h' k j = 0 := by
  have e : mL h' k j = mL h k j := congrFun (a.2.1 k hk.1 hk.2).2.1 j
  rw [e]
  exact f
theorem nz_row {h : mh_T} {k j k' j' : Nat} {v : Int64} (f : ¬ mL h k' j' = 0) (hk : k' < 62) (hg : 62 ≤ k) : ¬ mL (wL h k j v) k' j' = 0 := by
  rw [mL_wL, if_neg (fun z => by omega)]
  exact f
theorem i2l_ne {x : Int32} (h : ¬ x = 0) : ¬ x.toInt64 = 0 := by
  intro e
  apply h
  apply Int32.toInt_inj.mp
  have := congrArg Int64.toInt e
  rw [Int32.toInt_toInt64] at this
  rw [this]
  decide
theorem rd_eq {lo hi : Int} {h : mh_T} {k j : Nat} {v : Int32} (f : R lo hi v) : R lo hi (mI (wI h k j v) k j) := by
  rw [mI_wI, if_pos ⟨rfl, rfl⟩]
  exact f
theorem rd_wL {lo hi : Int} {h : mh_T} {k j k' j' : Nat} {v : Int64} (f : R lo hi (mI h k' j')) : R lo hi (mI (wL h k j v) k' j') := f
theorem rd_wR {lo hi : Int} {h : mh_T} {k j k' j' v : Nat} (f : R lo hi (mI h k' j')) : R lo hi (mI (wR h k j v) k' j') := f
theorem R_zero {x : Int32} (f : R 0 0 x) : x = 0 := by
  apply Int32.toInt_inj.mp
  have := f.1
  have := f.2
  have z : (0 : Int32).toInt = 0 := by decide
  omega
theorem Fr_w {ms : List Nat} {h0 h : mh_T} (a : Fr ms h0 h) {k j : Nat} {v : Int32} (hk : k ∈ ms) : Fr ms h0 (wI h k j v) := by
  intro q h62 hq
  have hne : q ≠ k := fun z => by subst z; exact hq hk
  rw [← (wI_off (h := h) (k := k) (j := j) (v := v)).1 q hne]
  exact a q h62 hq
theorem rgc_4 (j : Nat) : rgT 4 j = (-2147483648, 2147483647) := rfl
theorem rgc_5 (j : Nat) : rgT 5 j = (-2147483648, 2147483647) := rfl
theorem rgc_12 (j : Nat) : rgT 12 j = (-2147483648, 2147483647) := rfl
theorem rgc_13 (j : Nat) : rgT 13 j = (-2147483648, 2147483647) := rfl
theorem rgc_14 (j : Nat) : rgT 14 j = (-2147483648, 2147483647) := rfl
theorem rgc_17 (j : Nat) : rgT 17 j = (-2147483648, 2147483647) := rfl
theorem rgc_18 (j : Nat) : rgT 18 j = (-2147483648, 2147483647) := rfl
theorem rgc_19 (j : Nat) : rgT 19 j = (-2147483648, 2147483647) := rfl
theorem rgc_20 (j : Nat) : rgT 20 j = (-2147483648, 2147483647) := rfl
theorem rgc_26 (j : Nat) : rgT 26 j = (-2147483648, 2147483647) := rfl
theorem rgc_27 (j : Nat) : rgT 27 j = (-2147483648, 2147483647) := rfl
theorem rgc_28 (j : Nat) : rgT 28 j = (-2147483648, 2147483647) := rfl
theorem rgc_29 (j : Nat) : rgT 29 j = (-2147483648, 2147483647) := rfl
theorem rgc_30 (j : Nat) : rgT 30 j = (-2147483648, 2147483647) := rfl
theorem rgc_32 (j : Nat) : rgT 32 j = (-2147483648, 2147483647) := rfl
theorem rgc_39 (j : Nat) : rgT 39 j = (-2147483648, 2147483647) := rfl
theorem rgc_40 (j : Nat) : rgT 40 j = (-2147483648, 2147483647) := rfl
theorem rgc_41 (j : Nat) : rgT 41 j = (-2147483648, 2147483647) := rfl
theorem rgc_42 (j : Nat) : rgT 42 j = (-2147483648, 2147483647) := rfl
theorem rgc_43 (j : Nat) : rgT 43 j = (-2147483648, 2147483647) := rfl
theorem rgc_44 (j : Nat) : rgT 44 j = (-2147483648, 2147483647) := rfl
theorem rgp_45_1 {j : Nat} (h1 : 1 ≤ j) (h2 : j ≤ 8) : rgT 45 j = (-1, 5) := by
  have : ∀ j, j ≤ 8 → 1 ≤ j → rgT 45 j = (-1, 5) := by decide +kernel
  exact this j h2 h1
theorem rgp_45_2 {j : Nat} (h1 : 9 ≤ j) (h2 : j ≤ 16) : rgT 45 j = (-2, 5) := by
  have : ∀ j, j ≤ 16 → 9 ≤ j → rgT 45 j = (-2, 5) := by decide +kernel
  exact this j h2 h1
theorem rgp_45_7 {j : Nat} (h1 : 53 ≤ j) (h2 : j ≤ 76) : rgT 45 j = (0, 8) := by
  have : ∀ j, j ≤ 76 → 53 ≤ j → rgT 45 j = (0, 8) := by decide +kernel
  exact this j h2 h1
theorem rgp_45_8 {j : Nat} (h1 : 77 ≤ j) (h2 : j ≤ 84) : rgT 45 j = (0, 1) := by
  have : ∀ j, j ≤ 84 → 77 ≤ j → rgT 45 j = (0, 1) := by decide +kernel
  exact this j h2 h1
theorem rgp_45_11 {j : Nat} (h1 : 159 ≤ j) (h2 : j ≤ 162) : rgT 45 j = (0, 6) := by
  have : ∀ j, j ≤ 162 → 159 ≤ j → rgT 45 j = (0, 6) := by decide +kernel
  exact this j h2 h1
theorem rgp_45_12 {j : Nat} (h1 : 163 ≤ j) (h2 : j ≤ 186) : rgT 45 j = (0, 5) := by
  have : ∀ j, j ≤ 186 → 163 ≤ j → rgT 45 j = (0, 5) := by decide +kernel
  exact this j h2 h1
theorem rgp_45_13 {j : Nat} (h1 : 187 ≤ j) (h2 : j ≤ 210) : rgT 45 j = (0, 1) := by
  have : ∀ j, j ≤ 210 → 187 ≤ j → rgT 45 j = (0, 1) := by decide +kernel
  exact this j h2 h1
theorem rgp_45_14 {j : Nat} (h1 : 211 ≤ j) (h2 : j ≤ 225) : rgT 45 j = (0, 8) := by
  have : ∀ j, j ≤ 225 → 211 ≤ j → rgT 45 j = (0, 8) := by decide +kernel
  exact this j h2 h1
theorem rgp_46_1 {j : Nat} (h1 : 1 ≤ j) (h2 : j ≤ 8) : rgT 46 j = (-1, 5) := by
  have : ∀ j, j ≤ 8 → 1 ≤ j → rgT 46 j = (-1, 5) := by decide +kernel
  exact this j h2 h1
theorem rgp_46_2 {j : Nat} (h1 : 9 ≤ j) (h2 : j ≤ 16) : rgT 46 j = (-2, 5) := by
  have : ∀ j, j ≤ 16 → 9 ≤ j → rgT 46 j = (-2, 5) := by decide +kernel
  exact this j h2 h1
theorem rgp_46_7 {j : Nat} (h1 : 53 ≤ j) (h2 : j ≤ 76) : rgT 46 j = (0, 8) := by
  have : ∀ j, j ≤ 76 → 53 ≤ j → rgT 46 j = (0, 8) := by decide +kernel
  exact this j h2 h1
theorem rgp_46_8 {j : Nat} (h1 : 77 ≤ j) (h2 : j ≤ 84) : rgT 46 j = (0, 1) := by
  have : ∀ j, j ≤ 84 → 77 ≤ j → rgT 46 j = (0, 1) := by decide +kernel
  exact this j h2 h1
theorem rgp_46_11 {j : Nat} (h1 : 159 ≤ j) (h2 : j ≤ 162) : rgT 46 j = (0, 6) := by
  have : ∀ j, j ≤ 162 → 159 ≤ j → rgT 46 j = (0, 6) := by decide +kernel
  exact this j h2 h1
theorem rgp_46_12 {j : Nat} (h1 : 163 ≤ j) (h2 : j ≤ 186) : rgT 46 j = (0, 5) := by
  have : ∀ j, j ≤ 186 → 163 ≤ j → rgT 46 j = (0, 5) := by decide +kernel
  exact this j h2 h1
theorem rgp_46_13 {j : Nat} (h1 : 187 ≤ j) (h2 : j ≤ 210) : rgT 46 j = (0, 1) := by
  have : ∀ j, j ≤ 210 → 187 ≤ j → rgT 46 j = (0, 1) := by decide +kernel
  exact this j h2 h1
theorem rgp_46_14 {j : Nat} (h1 : 211 ≤ j) (h2 : j ≤ 225) : rgT 46 j = (0, 8) := by
  have : ∀ j, j ≤ 225 → 211 ≤ j → rgT 46 j = (0, 8) := by decide +kernel
  exact this j h2 h1
theorem rgc_47 (j : Nat) : rgT 47 j = (-2147483648, 2147483647) := rfl
theorem rgp_48_1 {j : Nat} (h1 : 1 ≤ j) (h2 : j ≤ 8) : rgT 48 j = (-1, 5) := by
  have : ∀ j, j ≤ 8 → 1 ≤ j → rgT 48 j = (-1, 5) := by decide +kernel
  exact this j h2 h1
theorem rgp_48_2 {j : Nat} (h1 : 9 ≤ j) (h2 : j ≤ 16) : rgT 48 j = (-2, 5) := by
  have : ∀ j, j ≤ 16 → 9 ≤ j → rgT 48 j = (-2, 5) := by decide +kernel
  exact this j h2 h1
theorem rgc_52 (j : Nat) : rgT 52 j = (-2147483648, 2147483647) := rfl
theorem rgc_53 (j : Nat) : rgT 53 j = (-2147483648, 2147483647) := rfl
theorem rgc_54 (j : Nat) : rgT 54 j = (-2147483648, 2147483647) := rfl
theorem rgc_56 (j : Nat) : rgT 56 j = (-2147483648, 2147483647) := rfl
theorem rgc_57 (j : Nat) : rgT 57 j = (-2147483648, 2147483647) := rfl
theorem rgc_61 (j : Nat) : rgT 61 j = (-2147483648, 2147483647) := rfl
theorem rgc_62 (j : Nat) : rgT 62 j = (-2147483648, 2147483647) := rfl
theorem rgc_63 (j : Nat) : rgT 63 j = (-2147483648, 2147483647) := rfl
theorem rgc_64 (j : Nat) : rgT 64 j = (-2147483648, 2147483647) := rfl
theorem rgc_65 (j : Nat) : rgT 65 j = (-2147483648, 2147483647) := rfl
theorem rgc_66 (j : Nat) : rgT 66 j = (-2147483648, 2147483647) := rfl
theorem rgc_67 (j : Nat) : rgT 67 j = (-2147483648, 2147483647) := rfl
theorem rgc_68 (j : Nat) : rgT 68 j = (-2147483648, 2147483647) := rfl
theorem rgc_69 (j : Nat) : rgT 69 j = (-2147483648, 2147483647) := rfl
theorem rgc_70 (j : Nat) : rgT 70 j = (-2147483648, 2147483647) := rfl
theorem rgc_71 (j : Nat) : rgT 71 j = (-2147483648, 2147483647) := rfl
theorem rgc_72 (j : Nat) : rgT 72 j = (-2147483648, 2147483647) := rfl
theorem rgc_73 (j : Nat) : rgT 73 j = (-2147483648, 2147483647) := rfl
theorem rgc_74 (j : Nat) : rgT 74 j = (-2147483648, 2147483647) := rfl
theorem rgc_75 (j : Nat) : rgT 75 j = (-2147483648, 2147483647) := rfl
theorem rgc_76 (j : Nat) : rgT 76 j = (-2147483648, 2147483647) := rfl
theorem rgc_77 (j : Nat) : rgT 77 j = (-2147483648, 2147483647) := rfl
theorem rgc_78 (j : Nat) : rgT 78 j = (-2147483648, 2147483647) := rfl
theorem rgc_79 (j : Nat) : rgT 79 j = (-2147483648, 2147483647) := rfl
theorem rgc_80 (j : Nat) : rgT 80 j = (-2147483648, 2147483647) := rfl
theorem rgc_81 (j : Nat) : rgT 81 j = (-2147483648, 2147483647) := rfl
theorem rgc_82 (j : Nat) : rgT 82 j = (-2147483648, 2147483647) := rfl
theorem rgc_83 (j : Nat) : rgT 83 j = (-2147483648, 2147483647) := rfl
theorem rgc_84 (j : Nat) : rgT 84 j = (-2147483648, 2147483647) := rfl
theorem rgc_85 (j : Nat) : rgT 85 j = (-2147483648, 2147483647) := rfl
theorem rgc_86 (j : Nat) : rgT 86 j = (-2147483648, 2147483647) := rfl
theorem rgc_87 (j : Nat) : rgT 87 j = (-2147483648, 2147483647) := rfl
theorem rgc_88 (j : Nat) : rgT 88 j = (-2147483648, 2147483647) := rfl
theorem rgc_89 (j : Nat) : rgT 89 j = (-2147483648, 2147483647) := rfl
theorem rgc_90 (j : Nat) : rgT 90 j = (-2147483648, 2147483647) := rfl
theorem rgc_91 (j : Nat) : rgT 91 j = (-2147483648, 2147483647) := rfl
theorem rgc_92 (j : Nat) : rgT 92 j = (-2147483648, 2147483647) := rfl
theorem rgc_93 (j : Nat) : rgT 93 j = (-2147483648, 2147483647) := rfl
theorem rgc_94 (j : Nat) : rgT 94 j = (-2147483648, 2147483647) := rfl
theorem rgc_95 (j : Nat) : rgT 95 j = (-2147483648, 2147483647) := rfl
theorem rgc_96 (j : Nat) : rgT 96 j = (-2147483648, 2147483647) := rfl
theorem rgc_97 (j : Nat) : rgT 97 j = (-2147483648, 2147483647) := rfl
theorem rgc_98 (j : Nat) : rgT 98 j = (-2147483648, 2147483647) := rfl
theorem rgc_99 (j : Nat) : rgT 99 j = (-2147483648, 2147483647) := rfl
theorem rgc_100 (j : Nat) : rgT 100 j = (-2147483648, 2147483647) := rfl
theorem rgc_101 (j : Nat) : rgT 101 j = (-2147483648, 2147483647) := rfl
theorem rgc_102 (j : Nat) : rgT 102 j = (-2147483648, 2147483647) := rfl
theorem rgc_103 (j : Nat) : rgT 103 j = (-2147483648, 2147483647) := rfl
theorem rgc_104 (j : Nat) : rgT 104 j = (-2147483648, 2147483647) := rfl
theorem rgc_105 (j : Nat) : rgT 105 j = (-2147483648, 2147483647) := rfl
theorem rgc_106 (j : Nat) : rgT 106 j = (-2147483648, 2147483647) := rfl
theorem rgc_107 (j : Nat) : rgT 107 j = (-2147483648, 2147483647) := rfl
theorem rgc_108 (j : Nat) : rgT 108 j = (-2147483648, 2147483647) := rfl
theorem rgc_109 (j : Nat) : rgT 109 j = (-2147483648, 2147483647) := rfl
theorem rgc_110 (j : Nat) : rgT 110 j = (-2147483648, 2147483647) := rfl
theorem rgc_111 (j : Nat) : rgT 111 j = (-2147483648, 2147483647) := rfl
theorem rgc_112 (j : Nat) : rgT 112 j = (-2147483648, 2147483647) := rfl
theorem rgc_113 (j : Nat) : rgT 113 j = (-2147483648, 2147483647) := rfl
theorem rgc_114 (j : Nat) : rgT 114 j = (-2147483648, 2147483647) := rfl
theorem rgc_115 (j : Nat) : rgT 115 j = (-2147483648, 2147483647) := rfl
theorem rgg_45_0 {j : Nat} (h1 : 17 ≤ j) (h2 : j ≤ 48) : rgT 45 j = (-2147483648, 2147483647) := by
  have : ∀ j, j ≤ 48 → 17 ≤ j → rgT 45 j = (-2147483648, 2147483647) := by decide +kernel
  exact this j h2 h1
theorem rgg_45_1 {j : Nat} (h1 : 86 ≤ j) (h2 : j ≤ 157) : rgT 45 j = (-2147483648, 2147483647) := by
  have : ∀ j, j ≤ 157 → 86 ≤ j → rgT 45 j = (-2147483648, 2147483647) := by decide +kernel
  exact this j h2 h1
theorem rgg_45_2 {j : Nat} (h1 : 226 ≤ j) (h2 : j ≤ 345) : rgT 45 j = (-2147483648, 2147483647) := by
  have : ∀ j, j ≤ 345 → 226 ≤ j → rgT 45 j = (-2147483648, 2147483647) := by decide +kernel
  exact this j h2 h1
theorem rgg_46_0 {j : Nat} (h1 : 86 ≤ j) (h2 : j ≤ 157) : rgT 46 j = (-2147483648, 2147483647) := by
  have : ∀ j, j ≤ 157 → 86 ≤ j → rgT 46 j = (-2147483648, 2147483647) := by decide +kernel
  exact this j h2 h1
theorem rgg_46_1 {j : Nat} (h1 : 226 ≤ j) (h2 : j ≤ 345) : rgT 46 j = (-2147483648, 2147483647) := by
  have : ∀ j, j ≤ 345 → 226 ≤ j → rgT 46 j = (-2147483648, 2147483647) := by decide +kernel
  exact this j h2 h1
theorem rgg_48_0 {j : Nat} (h1 : 17 ≤ j) (h2 : j ≤ 48) : rgT 48 j = (-2147483648, 2147483647) := by
  have : ∀ j, j ≤ 48 → 17 ≤ j → rgT 48 j = (-2147483648, 2147483647) := by decide +kernel
  exact this j h2 h1
theorem rgp_46_15 {j : Nat} (h1 : 17 ≤ j) (h2 : j ≤ 48) : rgT 46 j = (0, 60) := by
  have : ∀ j, j ≤ 48 → 17 ≤ j → rgT 46 j = (0, 60) := by decide +kernel
  exact this j h2 h1
