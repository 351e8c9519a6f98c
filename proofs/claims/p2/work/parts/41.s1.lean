theorem ix_lt {lo hi : Int} {x : Int32} {n : Nat} (f : R lo hi x) (h : hi < (n : Int) ∧ 0 < n) : x.toNatClampNeg < n := by
  have := f.2
  show x.toInt.toNat < n
  omega
theorem R_abs {lo hi : Int} {x : Int32} (f : R lo hi x) (h : hi < lo) : False := by
  have := f.1
  have := f.2
  omega
theorem R_abs2 {lo hi lo' hi' : Int} {x : Int32} (f : R lo hi x) (k : R lo' hi' x) (h : hi < lo' ∨ hi' < lo) : False := by
  have := f.1
  have := f.2
  have := k.1
  have := k.2
  omega
theorem R_nz {lo hi : Int} {x : Int32} (f : R lo hi x) (h : 0 < lo) : ¬ x = 0 := by
  intro e
  subst e
  have := f.1
  rw [show (0 : Int32).toInt = 0 from by decide] at this
  omega
theorem vinS {lo hi : Int} {x : Int32} {n m : Nat} (f : R lo hi x) (hm : m ≤ n) (h : 0 ≤ lo ∧ hi < (m : Int)) : vp_in x n := vp_in_iff.mpr ⟨Int.le_trans h.1 f.1, by have := f.2; omega⟩
theorem isM_22 {k n : Nat} {ts : List Nat} (h : shp k = (22, 65, ts)) : mIsM k = false := by
  have hk := shp_lt h (by decide)
  have : ∀ k, k < 141 → (shp k).1 = 22 → (shp k).2.1 = 65 → mIsM k = false := by decide
  exact this k hk (by rw [h]) (by rw [h])
theorem lg_ne {x y : Int64} (h : ¬ lg_cmp x y = 0) : ¬ x = y := by
  intro e
  subst e
  apply h
  unfold lg_cmp
  simp
theorem rd_ne {lo hi : Int} {h : mh_T} {k j k' j' : Nat} {v : Int32} (f : R lo hi (mI h k' j')) (hk : k' ≠ k) : R lo hi (mI (wI h k j v) k' j') := by
  rw [mI_wI, if_neg (fun z => hk z.1)]
  exact f
theorem cp_ok {k0 sp k1 dp n : Nat} (h : ∀ b, b < dp + n → dp ≤ b → (rgT k1 b = rgT k0 (sp + (b - dp)) ∨ rgT k1 b = rgF)) : ∀ b, dp ≤ b → b < dp + n → rgT k1 b = rgT k0 (sp + (b - dp)) ∨ rgT k1 b = rgF := fun b h1 h2 => h b h2 h1
theorem sh5 {k : Nat} {ts : List Nat} (h : shp k = (20, 5, ts)) : 96 ≤ k ∧ k ≤ 115 := by
  have hk := shp_lt h (by decide)
  have : ∀ k, k < 141 → (shp k).1 = 20 → (shp k).2.1 = 5 → 96 ≤ k ∧ k ≤ 115 := by decide
  exact this k hk (by rw [h]) (by rw [h])
theorem sh49 {k : Nat} {ts : List Nat} (h : shp k = (20, 49, ts)) : k = 48 ∨ (116 ≤ k ∧ k ≤ 140) := by
  have hk := shp_lt h (by decide)
  have : ∀ k, k < 141 → (shp k).1 = 20 → (shp k).2.1 = 49 → k = 48 ∨ (116 ≤ k ∧ k ≤ 140) := by decide
  exact this k hk (by rw [h]) (by rw [h])
theorem rg_5 {k : Nat} {ts : List Nat} (h : shp k = (20, 5, ts)) (j : Nat) : rgT k j = rgF := by
  obtain ⟨h1, h2⟩ := sh5 h
  have hh : k = 96 ∨ k = 97 ∨ k = 98 ∨ k = 99 ∨ k = 100 ∨ k = 101 ∨ k = 102 ∨ k = 103 ∨ k = 104 ∨ k = 105 ∨ k = 106 ∨ k = 107 ∨ k = 108 ∨ k = 109 ∨ k = 110 ∨ k = 111 ∨ k = 112 ∨ k = 113 ∨ k = 114 ∨ k = 115 := by omega
  rcases hh with e | e | e | e | e | e | e | e | e | e | e | e | e | e | e | e | e | e | e | e <;> subst e <;> rfl
theorem isM_5 {k : Nat} {ts : List Nat} (h : shp k = (20, 5, ts)) : mIsM k = false := by
  obtain ⟨h1, h2⟩ := sh5 h
  unfold mIsM
  simp
  omega
theorem ne0_5 {k : Nat} {ts : List Nat} (h : shp k = (20, 5, ts)) : ¬ k = 0 := by
  obtain ⟨h1, h2⟩ := sh5 h
  omega
theorem rgc_4 (j : Nat) : rgT 4 j = (-2147483648, 2147483647) := rfl
theorem rgc_5 (j : Nat) : rgT 5 j = (-2147483648, 2147483647) := rfl
theorem rgc_12 (j : Nat) : rgT 12 j = (-2147483648, 2147483647) := rfl
theorem rgc_13 (j : Nat) : rgT 13 j = (-2147483648, 2147483647) := rfl
theorem rgc_14 (j : Nat) : rgT 14 j = (-2147483648, 2147483647) := rfl
theorem rgc_17 (j : Nat) : rgT 17 j = (-2147483648, 2147483647) := rfl
theorem rgc_18 (j : Nat) : rgT 18 j = (-2147483648, 2147483647) := rfl
theorem rgc_19 (j : Nat) : rgT 19 j = (-2147483648, 2147483647) := rfl
theorem rgc_20 (j : Nat) : rgT 20 j = (-2147483648, 2147483647) := rfl
theorem rgc_26 (j : Nat) : rgT 26 j = (-2147483648, 2147483647) := rfl
theorem rgc_27 (j : Nat) : rgT 27 j = (-2147483648, 2147483647) := rfl
theorem rgc_28 (j : Nat) : rgT 28 j = (-2147483648, 2147483647) := rfl
theorem rgc_29 (j : Nat) : rgT 29 j = (-2147483648, 2147483647) := rfl
theorem rgc_30 (j : Nat) : rgT 30 j = (-2147483648, 2147483647) := rfl
theorem rgc_32 (j : Nat) : rgT 32 j = (-2147483648, 2147483647) := rfl
theorem rgc_39 (j : Nat) : rgT 39 j = (-2147483648, 2147483647) := rfl
theorem rgc_40 (j : Nat) : rgT 40 j = (-2147483648, 2147483647) := rfl
theorem rgc_41 (j : Nat) : rgT 41 j = (-2147483648, 2147483647) := rfl
theorem rgc_42 (j : Nat) : rgT 42 j = (-2147483648, 2147483647) := rfl
theorem rgc_43 (j : Nat) : rgT 43 j = (-2147483648, 2147483647) := rfl
theorem rgc_44 (j : Nat) : rgT 44 j = (-2147483648, 2147483647) := rfl
theorem rgp_45_1 {j : Nat} (h1 : 1 ≤ j) (h2 : j ≤ 8) : rgT 45 j = (0, 5) := by
  have : ∀ j, j ≤ 8 → 1 ≤ j → rgT 45 j = (0, 5) := by decide +kernel
  exact this j h2 h1
theorem rgp_45_2 {j : Nat} (h1 : 9 ≤ j) (h2 : j ≤ 16) : rgT 45 j = (-2, 5) := by
  have : ∀ j, j ≤ 16 → 9 ≤ j → rgT 45 j = (-2, 5) := by decide +kernel
  exact this j h2 h1
theorem rgp_45_7 {j : Nat} (h1 : 53 ≤ j) (h2 : j ≤ 76) : rgT 45 j = (0, 8) := by
  have : ∀ j, j ≤ 76 → 53 ≤ j → rgT 45 j = (0, 8) := by decide +kernel
  exact this j h2 h1
theorem rgp_45_8 {j : Nat} (h1 : 77 ≤ j) (h2 : j ≤ 84) : rgT 45 j = (0, 1) := by
  have : ∀ j, j ≤ 84 → 77 ≤ j → rgT 45 j = (0, 1) := by decide +kernel
  exact this j h2 h1
theorem rgp_45_11 {j : Nat} (h1 : 159 ≤ j) (h2 : j ≤ 162) : rgT 45 j = (0, 6) := by
  have : ∀ j, j ≤ 162 → 159 ≤ j → rgT 45 j = (0, 6) := by decide +kernel
  exact this j h2 h1
theorem rgp_45_12 {j : Nat} (h1 : 163 ≤ j) (h2 : j ≤ 186) : rgT 45 j = (0, 5) := by
  have : ∀ j, j ≤ 186 → 163 ≤ j → rgT 45 j = (0, 5) := by decide +kernel
  exact this j h2 h1
theorem rgp_45_13 {j : Nat} (h1 : 187 ≤ j) (h2 : j ≤ 210) : rgT 45 j = (0, 1) := by
  have : ∀ j, j ≤ 210 → 187 ≤ j → rgT 45 j = (0, 1) := by decide +kernel
  exact this j h2 h1
theorem rgp_45_14 {j : Nat} (h1 : 211 ≤ j) (h2 : j ≤ 225) : rgT 45 j = (0, 8) := by
  have : ∀ j, j ≤ 225 → 211 ≤ j → rgT 45 j = (0, 8) := by decide +kernel
  exact this j h2 h1
theorem rgp_46_1 {j : Nat} (h1 : 1 ≤ j) (h2 : j ≤ 8) : rgT 46 j = (0, 5) := by
  have : ∀ j, j ≤ 8 → 1 ≤ j → rgT 46 j = (0, 5) := by decide +kernel
  exact this j h2 h1
theorem rgp_46_2 {j : Nat} (h1 : 9 ≤ j) (h2 : j ≤ 16) : rgT 46 j = (-2, 5) := by
  have : ∀ j, j ≤ 16 → 9 ≤ j → rgT 46 j = (-2, 5) := by decide +kernel
  exact this j h2 h1
theorem rgp_46_7 {j : Nat} (h1 : 53 ≤ j) (h2 : j ≤ 76) : rgT 46 j = (0, 8) := by
  have : ∀ j, j ≤ 76 → 53 ≤ j → rgT 46 j = (0, 8) := by decide +kernel
  exact this j h2 h1
theorem rgp_46_8 {j : Nat} (h1 : 77 ≤ j) (h2 : j ≤ 84) : rgT 46 j = (0, 1) := by
  have : ∀ j, j ≤ 84 → 77 ≤ j → rgT 46 j = (0, 1) := by decide +kernel
  exact this j h2 h1
theorem rgp_46_11 {j : Nat} (h1 : 159 ≤ j) (h2 : j ≤ 162) : rgT 46 j = (0, 6) := by
  have : ∀ j, j ≤ 162 → 159 ≤ j → rgT 46 j = (0, 6) := by decide +kernel
  exact this j h2 h1
theorem rgp_46_12 {j : Nat} (h1 : 163 ≤ j) (h2 : j ≤ 186) : rgT 46 j = (0, 5) := by
  have : ∀ j, j ≤ 186 → 163 ≤ j → rgT 46 j = (0, 5) := by decide +kernel
  exact this j h2 h1
theorem rgp_46_13 {j : Nat} (h1 : 187 ≤ j) (h2 : j ≤ 210) : rgT 46 j = (0, 1) := by
  have : ∀ j, j ≤ 210 → 187 ≤ j → rgT 46 j = (0, 1) := by decide +kernel
  exact this j h2 h1
theorem rgp_46_14 {j : Nat} (h1 : 211 ≤ j) (h2 : j ≤ 225) : rgT 46 j = (0, 8) := by
  have : ∀ j, j ≤ 225 → 211 ≤ j → rgT 46 j = (0, 8) := by decide +kernel
  exact this j h2 h1
theorem rgc_47 (j : Nat) : rgT 47 j = (-2147483648, 2147483647) := rfl
theorem rgp_48_1 {j : Nat} (h1 : 1 ≤ j) (h2 : j ≤ 8) : rgT 48 j = (0, 5) := by
  have : ∀ j, j ≤ 8 → 1 ≤ j → rgT 48 j = (0, 5) := by decide +kernel
  exact this j h2 h1
theorem rgp_48_2 {j : Nat} (h1 : 9 ≤ j) (h2 : j ≤ 16) : rgT 48 j = (-2, 5) := by
  have : ∀ j, j ≤ 16 → 9 ≤ j → rgT 48 j = (-2, 5) := by decide +kernel
  exact this j h2 h1
theorem rgc_52 (j : Nat) : rgT 52 j = (-2147483648, 2147483647) := rfl
theorem rgc_53 (j : Nat) : rgT 53 j = (-2147483648, 2147483647) := rfl
theorem rgc_54 (j : Nat) : rgT 54 j = (-2147483648, 2147483647) := rfl
theorem rgc_56 (j : Nat) : rgT 56 j = (-2147483648, 2147483647) := rfl
theorem rgc_57 (j : Nat) : rgT 57 j = (-2147483648, 2147483647) := rfl
theorem rgc_61 (j : Nat) : rgT 61 j = (-2147483648, 2147483647) := rfl
theorem rgc_62 (j : Nat) : rgT 62 j = (-2147483648, 2147483647) := rfl
theorem rgc_63 (j : Nat) : rgT 63 j = (-2147483648, 2147483647) := rfl
theorem rgc_64 (j : Nat) : rgT 64 j = (-2147483648, 2147483647) := rfl
theorem rgc_65 (j : Nat) : rgT 65 j = (-2147483648, 2147483647) := rfl
theorem rgc_66 (j : Nat) : rgT 66 j = (-2147483648, 2147483647) := rfl
theorem rgc_67 (j : Nat) : rgT 67 j = (-2147483648, 2147483647) := rfl
theorem rgc_68 (j : Nat) : rgT 68 j = (-2147483648, 2147483647) := rfl
theorem rgc_69 (j : Nat) : rgT 69 j = (-2147483648, 2147483647) := rfl
theorem rgc_70 (j : Nat) : rgT 70 j = (-2147483648, 2147483647) := rfl
theorem rgc_71 (j : Nat) : rgT 71 j = (-2147483648, 2147483647) := rfl
theorem rgc_72 (j : Nat) : rgT 72 j = (-2147483648, 2147483647) := rfl
theorem rgc_73 (j : Nat) : rgT 73 j = (-2147483648, 2147483647) := rfl
theorem rgc_74 (j : Nat) : rgT 74 j = (-2147483648, 2147483647) := rfl
theorem rgc_75 (j : Nat) : rgT 75 j = (-2147483648, 2147483647) := rfl
theorem rgc_76 (j : Nat) : rgT 76 j = (-2147483648, 2147483647) := rfl
theorem rgc_77 (j : Nat) : rgT 77 j = (-2147483648, 2147483647) := rfl
theorem rgc_78 (j : Nat) : rgT 78 j = (-2147483648, 2147483647) := rfl
theorem rgc_79 (j : Nat) : rgT 79 j = (-2147483648, 2147483647) := rfl
theorem rgc_80 (j : Nat) : rgT 80 j = (-2147483648, 2147483647) := rfl
theorem rgc_81 (j : Nat) : rgT 81 j = (-2147483648, 2147483647) := rfl
theorem rgc_82 (j : Nat) : rgT 82 j = (-2147483648, 2147483647) := rfl
theorem rgc_83 (j : Nat) : rgT 83 j = (-2147483648, 2147483647) := rfl
theorem rgc_84 (j : Nat) : rgT 84 j = (-2147483648, 2147483647) := rfl
theorem rgc_85 (j : Nat) : rgT 85 j = (-2147483648, 2147483647) := rfl
theorem rgc_86 (j : Nat) : rgT 86 j = (-2147483648, 2147483647) := rfl
theorem rgc_87 (j : Nat) : rgT 87 j = (-2147483648, 2147483647) := rfl
theorem rgc_88 (j : Nat) : rgT 88 j = (-2147483648, 2147483647) := rfl
theorem rgc_89 (j : Nat) : rgT 89 j = (-2147483648, 2147483647) := rfl
theorem rgc_90 (j : Nat) : rgT 90 j = (-2147483648, 2147483647) := rfl
theorem rgc_91 (j : Nat) : rgT 91 j = (-2147483648, 2147483647) := rfl
theorem rgc_92 (j : Nat) : rgT 92 j = (-2147483648, 2147483647) := rfl
theorem rgc_93 (j : Nat) : rgT 93 j = (-2147483648, 2147483647) := rfl
theorem rgc_94 (j : Nat) : rgT 94 j = (-2147483648, 2147483647) := rfl
theorem rgc_95 (j : Nat) : rgT 95 j = (-2147483648, 2147483647) := rfl
theorem rgc_96 (j : Nat) : rgT 96 j = (-2147483648, 2147483647) := rfl
theorem rgc_97 (j : Nat) : rgT 97 j = (-2147483648, 2147483647) := rfl
theorem rgc_98 (j : Nat) : rgT 98 j = (-2147483648, 2147483647) := rfl
theorem rgc_99 (j : Nat) : rgT 99 j = (-2147483648, 2147483647) := rfl
theorem rgc_100 (j : Nat) : rgT 100 j = (-2147483648, 2147483647) := rfl
theorem rgc_101 (j : Nat) : rgT 101 j = (-2147483648, 2147483647) := rfl
theorem rgc_102 (j : Nat) : rgT 102 j = (-2147483648, 2147483647) := rfl
theorem rgc_103 (j : Nat) : rgT 103 j = (-2147483648, 2147483647) := rfl
theorem rgc_104 (j : Nat) : rgT 104 j = (-2147483648, 2147483647) := rfl
theorem rgc_105 (j : Nat) : rgT 105 j = (-2147483648, 2147483647) := rfl
theorem rgc_106 (j : Nat) : rgT 106 j = (-2147483648, 2147483647) := rfl
theorem rgc_107 (j : Nat) : rgT 107 j = (-2147483648, 2147483647) := rfl
theorem rgc_108 (j : Nat) : rgT 108 j = (-2147483648, 2147483647) := rfl
theorem rgc_109 (j : Nat) : rgT 109 j = (-2147483648, 2147483647) := rfl
theorem rgc_110 (j : Nat) : rgT 110 j = (-2147483648, 2147483647) := rfl
theorem rgc_111 (j : Nat) : rgT 111 j = (-2147483648, 2147483647) := rfl
theorem rgc_112 (j : Nat) : rgT 112 j = (-2147483648, 2147483647) := rfl
theorem rgc_113 (j : Nat) : rgT 113 j = (-2147483648, 2147483647) := rfl
theorem rgc_114 (j : Nat) : rgT 114 j = (-2147483648, 2147483647) := rfl
theorem rgc_115 (j : Nat) : rgT 115 j = (-2147483648, 2147483647) := rfl
