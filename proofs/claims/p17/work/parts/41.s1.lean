theorem ix_lt {lo hi : Int} {x : Int32} {n : Nat} (f : R lo hi x) (h : hi < (n : Int) ∧ 0 < n) : x.toNatClampNeg < n := by
  have := f.2
  show x.toInt.toNat < n
  omega
theorem R_abs {lo hi : Int} {x : Int32} (f : R lo hi x) (h : hi < lo) : False := by
  have := f.1
  have := f.2
  omega
theorem lg_ne {x y : Int64} (h : ¬ lg_cmp x y = 0) : ¬ x = y := by
  intro e
  subst e
  apply h
  unfold lg_cmp
  simp
theorem rd_ne {lo hi : Int} {h : mh_T} {k j k' j' : Nat} {v : Int32} (f : R lo hi (mI h k' j')) (hk : k' ≠ k) : R lo hi (mI (wI h k j v) k' j') := by
  rw [mI_wI, if_neg (fun z => hk z.1)]
  exact f
theorem cp_ok {k0 sp k1 dp n : Nat} (h : ∀ b, b < dp + n → dp ≤ b → (rgT k1 b = rgT k0 (sp + (b - dp)) ∨ rgT k1 b = rgF)) : ∀ b, dp ≤ b → b < dp + n → rgT k1 b = rgT k0 (sp + (b - dp)) ∨ rgT k1 b = rgF := fun b h1 h2 => h b h2 h1
theorem sh5 {k : Nat} {ts : List Nat} (h : shp k = (20, 5, ts)) : 96 ≤ k ∧ k ≤ 115 := by
  have hk := shp_lt h (by decide)
  have : ∀ k, k < 141 → (shp k).1 = 20 → (shp k).2.1 = 5 → 96 ≤ k ∧ k ≤ 115 := by decide
  exact this k hk (by rw [h]) (by rw [h])
theorem rg_5 {k : Nat} {ts : List Nat} (h : shp k = (20, 5, ts)) (j : Nat) : rgT k j = rgF := by
  obtain ⟨h1, h2⟩ := sh5 h
  have hh : k = 96 ∨ k = 97 ∨ k = 98 ∨ k = 99 ∨ k = 100 ∨ k = 101 ∨ k = 102 ∨ k = 103 ∨ k = 104 ∨ k = 105 ∨ k = 106 ∨ k = 107 ∨ k = 108 ∨ k = 109 ∨ k = 110 ∨ k = 111 ∨ k = 112 ∨ k = 113 ∨ k = 114 ∨ k = 115 := by omega
  rcases hh with e | e | e | e | e | e | e | e | e | e | e | e | e | e | e | e | e | e | e | e <;> subst e <;> rfl
theorem ti_inc {a b : Int} {x : Int32} (f : R a b x) (h : b < 2147483647) : (x + 1).toInt = x.toInt + 1 := by
  have := f.2
  have := (R_full x).1
  rw [Int32.toInt_add, show (1 : Int32).toInt = 1 from by decide, bm (by omega) (by omega)]
theorem ti_dec {a b : Int} {x : Int32} (f : R a b x) (h : -2147483648 < a) : (x + (-1)).toInt = x.toInt - 1 := by
  have := f.1
  have := (R_full x).2
  rw [Int32.toInt_add, show (-1 : Int32).toInt = -1 from by decide, bm (by omega) (by omega)]
  omega
theorem le_inc {a b : Int} {x y : Int32} (f : R a b y) (h : x ≤ y) (hb : b < 2147483647) : x ≤ y + 1 := Int32.le_iff_toInt_le.mpr (by rw [ti_inc f hb]; have := le_ti h; omega)
theorem le_inc2 {a b c d : Int} {x y : Int32} (g : R c d x) (f : R a b y) (h : x ≤ y) (hb : b < 2147483647 ∧ d < 2147483647) : x + 1 ≤ y + 1 := Int32.le_iff_toInt_le.mpr (by rw [ti_inc f hb.1, ti_inc g hb.2]; have := le_ti h; omega)
theorem sub1 (x : Int32) : x - 1 = x + (-1) := by rw [Int32.sub_eq_add_neg]
theorem R_um1 {c d a b : Int} {x : Int32} (g : R c d x) (f : R a b (x - 1)) (lo hi : Int) (h : -2147483648 < c ∧ (lo ≤ c ∨ lo ≤ a + 1) ∧ (d ≤ hi ∨ b + 1 ≤ hi)) : R lo hi x := by
  rw [sub1] at f
  have e := ti_dec g h.1
  have f1 := f.1
  have f2 := f.2
  have g1 := g.1
  have g2 := g.2
  exact ⟨by omega, by omega⟩
theorem Ok_eq {ms : List Nat} {h h' : mh_T} (a : Ok ms h h') {k j : Nat} (hk : k < 62 ∧ k ∉ ms) : mI h' k j = mI h k j := congrFun (a.2.1 k hk.1 hk.2).1 j
theorem rd_nj {lo hi : Int} {h : mh_T} {k j j' : Nat} {v : Int32} (f : R lo hi (mI h k j')) (hj : j' ≠ j) : R lo hi (mI (wI h k j v) k j') := by
  rw [mI_wI, if_neg (fun z => hj z.2)]
  exact f
theorem ge_22 {k : Nat} {ts : List Nat} (h : shp k = (22, 65, ts)) : 62 ≤ k := by
  have hk := shp_lt h (by decide)
  have : ∀ k, k < 141 → (shp k).1 = 22 → (shp k).2.1 = 65 → 62 ≤ k := by decide
  exact this k hk (by rw [h]) (by rw [h])
theorem ge_5 {k : Nat} {ts : List Nat} (h : shp k = (20, 5, ts)) : 62 ≤ k := by
  have := (sh5 h).1
  omega
theorem nt_5 {k j : Nat} {ts : List Nat} (h : shp k = (20, 5, ts)) : ¬ ((k = 0 ∧ (j = 10 ∨ j = 12 ∨ j = 13)) ∨ (k = 3 ∧ (j = 0 ∨ j = 1)) ∨ (k = 8 ∧ j = 0)) ∧ ¬ ((k = 11 ∧ (j = 2 ∨ j = 9 ∨ j = 10 ∨ j = 11 ∨ j = 14)) ∨ (k = 45 ∧ 49 ≤ j)) := by
  have := (sh5 h).1
  omega
/-- rows of THE TABLE -/
theorem rg_row {k : Nat} (h1 : 116 ≤ k) (h2 : k < 141) (j : Nat) : rgT k j = rgRow j := by
  obtain ⟨d, rfl⟩ : ∃ d, k = 116 + d := ⟨k - 116, by omega⟩
  have hd : d < 25 := by omega
  have : ∀ d, d < 25 → ∀ j, rgT (116 + d) j = rgRow j := by
    intro d hd j
    have hh : d = 0 ∨ d = 1 ∨ d = 2 ∨ d = 3 ∨ d = 4 ∨ d = 5 ∨ d = 6 ∨ d = 7 ∨ d = 8 ∨ d = 9 ∨ d = 10 ∨ d = 11 ∨ d = 12 ∨ d = 13 ∨ d = 14 ∨ d = 15 ∨ d = 16 ∨ d = 17 ∨ d = 18 ∨ d = 19 ∨ d = 20 ∨ d = 21 ∨ d = 22 ∨ d = 23 ∨ d = 24 := by omega
    rcases hh with e | e | e | e | e | e | e | e | e | e | e | e | e | e | e | e | e | e | e | e | e | e | e | e | e <;> subst e <;> rfl
  exact this d hd j
theorem rowcp {l k0 sp dp n : Nat} (hn : 116 ≤ l) (hk : l < 141) (h : ∀ b, b < dp + n → dp ≤ b → (rgRow b = rgT k0 (sp + (b - dp)) ∨ rgRow b = rgF)) : ∀ b, dp ≤ b → b < dp + n → rgT l b = rgT k0 (sp + (b - dp)) ∨ rgT l b = rgF := by
  intro b h1 h2
  rw [rg_row hn hk]
  exact h b h2 h1
theorem rowcp' {l k1 sp dp n : Nat} (hn : 116 ≤ l) (hk : l < 141) (h : ∀ b, b < dp + n → dp ≤ b → (rgT k1 b = rgRow (sp + (b - dp)) ∨ rgT k1 b = rgF)) : ∀ b, dp ≤ b → b < dp + n → rgT k1 b = rgT l (sp + (b - dp)) ∨ rgT k1 b = rgF := by
  intro b h1 h2
  rw [rg_row hn hk]
  exact h b h2 h1
theorem nt_c {k j : Nat} (h : k ≠ 0 ∧ k ≠ 11 ∧ k ≠ 3 ∧ k ≠ 8) (h45 : k = 45 → j < 49) : ¬ ((k = 0 ∧ (j = 10 ∨ j = 12 ∨ j = 13)) ∨ (k = 3 ∧ (j = 0 ∨ j = 1)) ∨ (k = 8 ∧ j = 0)) ∧ ¬ ((k = 11 ∧ (j = 2 ∨ j = 9 ∨ j = 10 ∨ j = 11 ∨ j = 14)) ∨ (k = 45 ∧ 49 ≤ j)) := by omega
theorem nt_k {k j : Nat} (h : k ≠ 0 ∧ k ≠ 11 ∧ k ≠ 45 ∧ k ≠ 3 ∧ k ≠ 8) : ¬ ((k = 0 ∧ (j = 10 ∨ j = 12 ∨ j = 13)) ∨ (k = 3 ∧ (j = 0 ∨ j = 1)) ∨ (k = 8 ∧ j = 0)) ∧ ¬ ((k = 11 ∧ (j = 2 ∨ j = 9 ∨ j = 10 ∨ j = 11 ∨ j = 14)) ∨ (k = 45 ∧ 49 ≤ j)) := by omega
theorem nz_fr {ms : List Nat} {h h' : mh_T} (a : Ok ms h h') {k j : Nat} (hk : k < 62 ∧ k ∉ ms) (f : ¬ mL h k j = 0) : ¬ mL h' k j = 0 := by
  have e : mL h' k j = mL h k j := congrFun (a.2.1 k hk.1 hk.2).2.1 j
  rw [e]
  exact f
theorem nz_row {h : mh_T} {k j k' j' : Nat} {v : Int64} (f : ¬ mL h k' j' = 0) (hk : k' < 62) (hg : 62 ≤ k) : ¬ mL (wL h k j v) k' j' = 0 := by
  rw [mL_wL, if_neg (fun z => by omega)]
  exact f
theorem i2l_ne {x : Int32} (h : ¬ x = 0) : ¬ x.toInt64 = 0 := by
  intro e
  apply h
  apply Int32.toInt_inj.mp
  have := congrArg Int64.toInt e
  rw [Int32.toInt_toInt64] at this
  rw [this]
  decide
theorem rd_wL {lo hi : Int} {h : mh_T} {k j k' j' : Nat} {v : Int64} (f : R lo hi (mI h k' j')) : R lo hi (mI (wL h k j v) k' j') := f
theorem Fr_w {ms : List Nat} {h0 h : mh_T} (a : Fr ms h0 h) {k j : Nat} {v : Int32} (hk : k ∈ ms) : Fr ms h0 (wI h k j v) := by
  intro q h62 hq
  have hne : q ≠ k := fun z => by subst z; exact hq hk
  rw [← (wI_off (h := h) (k := k) (j := j) (v := v)).1 q hne]
  exact a q h62 hq
theorem rgc_12 (j : Nat) : rgT 12 j = (-2147483648, 2147483647) := rfl
theorem rgc_26 (j : Nat) : rgT 26 j = (-2147483648, 2147483647) := rfl
theorem rgc_27 (j : Nat) : rgT 27 j = (-2147483648, 2147483647) := rfl
theorem rgc_29 (j : Nat) : rgT 29 j = (-2147483648, 2147483647) := rfl
theorem rgc_30 (j : Nat) : rgT 30 j = (-2147483648, 2147483647) := rfl
theorem rgc_32 (j : Nat) : rgT 32 j = (-2147483648, 2147483647) := rfl
theorem rgc_43 (j : Nat) : rgT 43 j = (-2147483648, 2147483647) := rfl
theorem rgc_44 (j : Nat) : rgT 44 j = (-2147483648, 2147483647) := rfl
theorem rgp_45_1 {j : Nat} (h1 : 1 ≤ j) (h2 : j ≤ 8) : rgT 45 j = (-1, 5) := by
  have : ∀ j, j ≤ 8 → 1 ≤ j → rgT 45 j = (-1, 5) := by decide +kernel
  exact this j h2 h1
theorem rgp_45_2 {j : Nat} (h1 : 9 ≤ j) (h2 : j ≤ 16) : rgT 45 j = (-2, 5) := by
  have : ∀ j, j ≤ 16 → 9 ≤ j → rgT 45 j = (-2, 5) := by decide +kernel
  exact this j h2 h1
theorem rgp_45_8 {j : Nat} (h1 : 77 ≤ j) (h2 : j ≤ 84) : rgT 45 j = (0, 1) := by
  have : ∀ j, j ≤ 84 → 77 ≤ j → rgT 45 j = (0, 1) := by decide +kernel
  exact this j h2 h1
theorem rgp_45_11 {j : Nat} (h1 : 159 ≤ j) (h2 : j ≤ 162) : rgT 45 j = (0, 6) := by
  have : ∀ j, j ≤ 162 → 159 ≤ j → rgT 45 j = (0, 6) := by decide +kernel
  exact this j h2 h1
theorem rgp_45_12 {j : Nat} (h1 : 163 ≤ j) (h2 : j ≤ 186) : rgT 45 j = (0, 5) := by
  have : ∀ j, j ≤ 186 → 163 ≤ j → rgT 45 j = (0, 5) := by decide +kernel
  exact this j h2 h1
theorem rgp_45_13 {j : Nat} (h1 : 187 ≤ j) (h2 : j ≤ 210) : rgT 45 j = (0, 1) := by
  have : ∀ j, j ≤ 210 → 187 ≤ j → rgT 45 j = (0, 1) := by decide +kernel
  exact this j h2 h1
theorem rgp_46_1 {j : Nat} (h1 : 1 ≤ j) (h2 : j ≤ 8) : rgT 46 j = (-1, 5) := by
  have : ∀ j, j ≤ 8 → 1 ≤ j → rgT 46 j = (-1, 5) := by decide +kernel
  exact this j h2 h1
theorem rgp_46_2 {j : Nat} (h1 : 9 ≤ j) (h2 : j ≤ 16) : rgT 46 j = (-2, 5) := by
  have : ∀ j, j ≤ 16 → 9 ≤ j → rgT 46 j = (-2, 5) := by decide +kernel
  exact this j h2 h1
theorem rgp_46_7 {j : Nat} (h1 : 53 ≤ j) (h2 : j ≤ 76) : rgT 46 j = (0, 8) := by
  have : ∀ j, j ≤ 76 → 53 ≤ j → rgT 46 j = (0, 8) := by decide +kernel
  exact this j h2 h1
theorem rgp_46_8 {j : Nat} (h1 : 77 ≤ j) (h2 : j ≤ 84) : rgT 46 j = (0, 1) := by
  have : ∀ j, j ≤ 84 → 77 ≤ j → rgT 46 j = (0, 1) := by decide +kernel
  exact this j h2 h1
theorem rgp_46_11 {j : Nat} (h1 : 159 ≤ j) (h2 : j ≤ 162) : rgT 46 j = (0, 6) := by
  have : ∀ j, j ≤ 162 → 159 ≤ j → rgT 46 j = (0, 6) := by decide +kernel
  exact this j h2 h1
theorem rgp_46_12 {j : Nat} (h1 : 163 ≤ j) (h2 : j ≤ 186) : rgT 46 j = (0, 5) := by
  have : ∀ j, j ≤ 186 → 163 ≤ j → rgT 46 j = (0, 5) := by decide +kernel
  exact this j h2 h1
theorem rgp_46_13 {j : Nat} (h1 : 187 ≤ j) (h2 : j ≤ 210) : rgT 46 j = (0, 1) := by
  have : ∀ j, j ≤ 210 → 187 ≤ j → rgT 46 j = (0, 1) := by decide +kernel
  exact this j h2 h1
theorem rgp_46_14 {j : Nat} (h1 : 211 ≤ j) (h2 : j ≤ 225) : rgT 46 j = (0, 8) := by
  have : ∀ j, j ≤ 225 → 211 ≤ j → rgT 46 j = (0, 8) := by decide +kernel
  exact this j h2 h1
theorem rgc_47 (j : Nat) : rgT 47 j = (-2147483648, 2147483647) := rfl
theorem rgc_56 (j : Nat) : rgT 56 j = (-2147483648, 2147483647) := rfl
theorem rgc_57 (j : Nat) : rgT 57 j = (-2147483648, 2147483647) := rfl
theorem rgg_45_0 {j : Nat} (h1 : 17 ≤ j) (h2 : j ≤ 48) : rgT 45 j = (-2147483648, 2147483647) := by
  have : ∀ j, j ≤ 48 → 17 ≤ j → rgT 45 j = (-2147483648, 2147483647) := by decide +kernel
  exact this j h2 h1
theorem rgg_46_0 {j : Nat} (h1 : 86 ≤ j) (h2 : j ≤ 157) : rgT 46 j = (-2147483648, 2147483647) := by
  have : ∀ j, j ≤ 157 → 86 ≤ j → rgT 46 j = (-2147483648, 2147483647) := by decide +kernel
  exact this j h2 h1
theorem rgg_46_1 {j : Nat} (h1 : 226 ≤ j) (h2 : j ≤ 345) : rgT 46 j = (-2147483648, 2147483647) := by
  have : ∀ j, j ≤ 345 → 226 ≤ j → rgT 46 j = (-2147483648, 2147483647) := by decide +kernel
  exact this j h2 h1
theorem rgp_46_15 {j : Nat} (h1 : 17 ≤ j) (h2 : j ≤ 48) : rgT 46 j = (0, 60) := by
  have : ∀ j, j ≤ 48 → 17 ≤ j → rgT 46 j = (0, 60) := by decide +kernel
  exact this j h2 h1
