/-! the class's small readers: says, refuse, pass, passWord, needWhole, isName, indexOf -/
theorem ch_byt : ∀ l, l < nJS → ∀ i, i < lenJS.getD l 0 → chJS l i = (bytJS.getD l []).getD i 0 := by decide
theorem byt_len : ∀ l, l < nJS → (bytJS.getD l []).length = lenJS.getD l 0 := by decide
theorem rx_wd_iff {T : Nat → Int32} {n e : Nat} {w : List Int32} : rx_wd T n e w = true ↔ rx_k T n e = 2 ∧ rx_e T n e - rx_s T n e = w.length ∧ ∀ i, i < w.length → T (rx_s T n e + i) = w.getD i 0 := by
  unfold rx_wd
  rw [Bool.and_eq_true, decide_eq_true_iff, List.all_eq_true]
  constructor
  · rintro ⟨⟨a, b⟩, c⟩
    exact ⟨a, b, fun i hi => eq_of_beq (c i (List.mem_range.mpr hi))⟩
  · rintro ⟨a, b, c⟩
    exact ⟨⟨a, b⟩, fun i hi => beq_iff_eq.mpr (c i (List.mem_range.mp hi))⟩
theorem c_says_L {g : gT} {h : mh_T} {P : Int32 → mh_T → Prop} {T : Nat → Int32} {n e : Nat} (l1 : Nat) (sl1 : l1 < nJS) (hT : Tp h T n) (hk : Tk h T n e) (hen : e ≤ n) (hz : rx_e T n e - rx_s T n e = lenJS.getD l1 0) (h1 : (∀ i, i < lenJS.getD l1 0 → T (rx_s T n e + i) = (bytJS.getD l1 []).getD i 0) → P 1 h) (h0 : ¬ (∀ i, i < lenJS.getD l1 0 → T (rx_s T n e + i) = (bytJS.getD l1 []).getD i 0) → P 0 h) : ∀ (m : Nat) (l2 : Int32) (j : Nat), l2.toInt = (j : Int) → j ≤ lenJS.getD l1 0 → lenJS.getD l1 0 - j < m → (∀ i, i < j → T (rx_s T n e + i) = (bytJS.getD l1 []).getD i 0) → ME g uX6_says 28 [.ref 1, .ref (1000 + l1), .int l2] [] h (qI P) := by
  intro m
  induction m with
  | zero => intro l2 j _ _ hm; exact absurd hm (Nat.not_lt_zero _)
  | succ m ih =>
    intro l2 j e2 hj hm hin
    have n9 := hT.2.1
    have hen' := rx_e_le (T := T) hen
    refine r_X6_says_28 l1 l2 sl1 ?_
    refine s_J0_length l1 sl1 (fun r er fr => ⟨fun c => ?_, fun c => ?_⟩)
    · rw [i_le, er, e2] at c
      exact h1 (fun i hi => hin i (by omega))
    · rw [i_le, er, e2] at c
      have ix : (mI h 1 9 + l2).toInt = ((rx_s T n e + j : Nat) : Int) := by
        rw [i_add hk.1 e2 (by omega)]
        omega
      have hlt : rx_s T n e + j < n := by omega
      have eT : mI h 12 (mI h 1 9 + l2).toNatClampNeg = T (rx_s T n e + j) := by rw [i_nat ix]; exact hT.2.2 _ hlt
      refine ⟨i_vp ix (by omega), ?_⟩
      rw [eT]
      refine s_J0_charAt l1 l2 sl1 ⟨by omega, by omega⟩ ?_
      rw [i_nat e2, ch_byt l1 sl1 j (by omega)]
      refine ⟨fun z => ih (l2 + 1) (j + 1) (i_inc e2 (by have := fr.2; omega)) (by omega) (by omega) (fun i hi => ?_), fun z => h0 (fun y => z (y j (by omega)))⟩
      by_cases q : i = j
      · rw [q]; exact z
      · exact hin i (by omega)
theorem c_says {g : gT} {h : mh_T} {P : Int32 → mh_T → Prop} {T : Nat → Int32} {n e : Nat} (l1 : Nat) (sl1 : l1 < nJS) (hT : Tp h T n) (hk : Tk h T n e) (hen : e ≤ n) (h1 : rx_wd T n e (bytJS.getD l1 []) = true → P 1 h) (h0 : ¬ rx_wd T n e (bytJS.getD l1 []) = true → P 0 h) : MCi g yX6_says uX6_says [.ref 1, .ref (1000 + l1)] h P := by
  rw [rx_wd_iff, byt_len l1 sl1] at h1 h0
  have n9 := hT.2.1
  have hen' := rx_e_le (T := T) hen
  have hse := rx_e_ge T n e
  refine e_X6_says l1 sl1 ⟨fun c => h0 (fun z => c (by rw [hk.2.2.1]; exact z.1)), fun c => ?_⟩
  rw [hk.2.2.1] at c
  refine s_J0_length l1 sl1 (fun r er fr => ?_)
  have i79 : (mI h 1 7 - mI h 1 9).toInt = (rx_e T n e : Int) - (rx_s T n e : Int) := i_sub hk.2.1 hk.1 (by omega)
  have iq : mI h 1 7 - mI h 1 9 = r ↔ rx_e T n e - rx_s T n e = lenJS.getD l1 0 := by
    rw [← Int32.toInt_inj, i79, er]
    omega
  rw [iq]
  refine ⟨fun z => ?_, fun z => h0 (fun y => z y.2.1)⟩
  exact c_says_L l1 sl1 hT hk hen z (fun y => h1 ⟨c, z, y⟩) (fun y => h0 (fun x => y x.2.2)) _ 0 0 (by decide) (Nat.zero_le _) (Nat.lt_succ_self _) (fun i hi => absurd hi (Nat.not_lt_zero i))
/-- refused: the fault's number, its place -/
def rf (h : mh_T) (w : Int32) : mh_T := wI (wI h 1 1 w) 1 2 (mI h 1 9)
theorem c_refuse {g : gT} {h : mh_T} {P : Int32 → mh_T → Prop} (w : Int32) (hp : P 0 (rf h w)) : MCi g yX6_refuse uX6_refuse [.ref 1, .int w] h P := by
  refine e_X6_refuse w ?_
  rw [mI_wI, if_neg (by decide)]
  exact hp
theorem c_pass {g : gT} {h : mh_T} {P : Int32 → mh_T → Prop} {T : Nat → Int32} {n e : Nat} (c : Int32) (hG : GI h) (hT : Tp h T n) (hk : Tk h T n e) (hen : e ≤ n) (h1 : rx_k T n e = c → ∀ h', Kp h h' → Tk h' T n (rx_e T n e) → P 1 h') (h0 : ¬ rx_k T n e = c → P 0 (rf h 1)) : MCi g yX6_pass uX6_pass [.ref 1, .int c] h P := by
  refine e_X6_pass c ⟨fun z => ?_, fun z => ?_⟩
  · rw [hk.2.2.1] at z
    exact c_next hG hT hk.2.1 (rx_e_le hen) (h1 z)
  · rw [hk.2.2.1] at z
    exact c_refuse 1 ⟨Or.inl rfl, h0 z⟩
theorem c_passWord {g : gT} {h : mh_T} {P : Int32 → mh_T → Prop} {T : Nat → Int32} {n e : Nat} (l1 : Nat) (sl1 : l1 < nJS) (hG : GI h) (hT : Tp h T n) (hk : Tk h T n e) (hen : e ≤ n) (h1 : rx_wd T n e (bytJS.getD l1 []) = true → ∀ h', Kp h h' → Tk h' T n (rx_e T n e) → P 1 h') (h0 : ¬ rx_wd T n e (bytJS.getD l1 []) = true → P 0 (rf h 1)) : MCi g yX6_passWord uX6_passWord [.ref 1, .ref (1000 + l1)] h P := by
  refine e_X6_passWord l1 sl1 ?_
  refine c_says l1 sl1 hT hk hen (fun z => ⟨fun _ => c_next hG hT hk.2.1 (rx_e_le hen) (h1 z), fun y => absurd y (by decide)⟩) (fun z => ⟨fun y => absurd rfl y, fun _ => c_refuse 1 ⟨Or.inl rfl, h0 z⟩⟩)
theorem c_needWhole {g : gT} {h : mh_T} {P : Int32 → mh_T → Prop} {T : Nat → Int32} {n e : Nat} (lo hi : Int32) (hk : Tk h T n e) (h1 : rx_k T n e = 3 → lo ≤ rx_v T n e ∧ rx_v T n e ≤ hi → P 1 h) (h4 : rx_k T n e = 3 → ¬ (lo ≤ rx_v T n e ∧ rx_v T n e ≤ hi) → P 0 (rf h 4)) (h0 : ¬ rx_k T n e = 3 → P 0 (rf h 1)) : MCi g yX6_needWhole uX6_needWhole [.ref 1, .int lo, .int hi] h P := by
  refine e_X6_needWhole lo hi ⟨fun z => ?_, fun z => ?_⟩
  · rw [hk.2.2.1] at z
    rw [hk.2.2.2.1 z]
    refine ⟨fun y => c_refuse 4 ⟨fun _ => h4 z (fun x => ?_), fun x => absurd rfl x⟩, fun y => ⟨fun x => h1 z ⟨?_, x⟩, fun x => c_refuse 4 ⟨fun _ => h4 z (fun q => x q.2), fun q => absurd rfl q⟩⟩⟩
    · have := x.1
      rw [i_le] at this
      rw [i_lt] at y
      omega
    · rw [i_lt] at y
      rw [i_le]
      omega
  · rw [hk.2.2.1] at z
    exact c_refuse 1 ⟨Or.inl rfl, h0 z⟩
theorem rx_nm_iff {T : Nat → Int32} {n e : Nat} : rx_nm T n e = true ↔ rx_k T n e = 2 ∧ ∀ i, i < 7 → ¬ rx_wd T n e (bytJS.getD i []) = true := by
  unfold rx_nm rx_bar
  rw [Bool.and_eq_true, decide_eq_true_iff, Bool.not_eq_true', List.any_eq_false]
  constructor
  · rintro ⟨a, b⟩
    exact ⟨a, fun i hi => b i (List.mem_range.mpr hi)⟩
  · rintro ⟨a, b⟩
    exact ⟨a, fun i hi => b i (List.mem_range.mp hi)⟩
theorem c_isName {g : gT} {h : mh_T} {P : Int32 → mh_T → Prop} {T : Nat → Int32} {n e : Nat} (hT : Tp h T n) (hk : Tk h T n e) (hen : e ≤ n) (h1 : rx_nm T n e = true → P 1 h) (h0 : ¬ rx_nm T n e = true → P 0 h) : MCi g yX6_isName uX6_isName [.ref 1] h P := by
  rw [rx_nm_iff] at h1 h0
  have no : ∀ i, i < 7 → rx_wd T n e (bytJS.getD i []) = true → P 0 h := fun i hi z => h0 (fun y => y.2 i hi z)
  refine e_X6_isName ⟨fun c => h0 (fun z => c (by rw [hk.2.2.1]; exact z.1)), fun c => ?_⟩
  rw [hk.2.2.1] at c
  refine c_says 0 (by decide) hT hk hen (fun z => ⟨fun _ => no 0 (by decide) z, fun y => absurd y (by decide)⟩) (fun z0 => ⟨fun y => absurd rfl y, fun _ => ?_⟩)
  refine c_says 1 (by decide) hT hk hen (fun z => ⟨fun _ => no 1 (by decide) z, fun y => absurd y (by decide)⟩) (fun z1 => ⟨fun y => absurd rfl y, fun _ => ?_⟩)
  refine c_says 2 (by decide) hT hk hen (fun z => ⟨fun _ => no 2 (by decide) z, fun y => absurd y (by decide)⟩) (fun z2 => ⟨fun y => absurd rfl y, fun _ => ?_⟩)
  refine c_says 3 (by decide) hT hk hen (fun z => ⟨fun _ => no 3 (by decide) z, fun y => absurd y (by decide)⟩) (fun z3 => ⟨fun y => absurd rfl y, fun _ => ?_⟩)
  refine c_says 4 (by decide) hT hk hen (fun z => ⟨fun _ => no 4 (by decide) z, fun y => absurd y (by decide)⟩) (fun z4 => ⟨fun y => absurd rfl y, fun _ => ?_⟩)
  refine c_says 5 (by decide) hT hk hen (fun z => ⟨fun _ => no 5 (by decide) z, fun y => absurd y (by decide)⟩) (fun z5 => ⟨fun y => absurd rfl y, fun _ => ?_⟩)
  refine c_says 6 (by decide) hT hk hen (fun z => ⟨fun _ => no 6 (by decide) z, fun y => absurd y (by decide)⟩) (fun z6 => ⟨fun y => absurd rfl y, fun _ => h1 ⟨c, fun i hi => ?_⟩⟩)
  rcases (show i = 0 ∨ i = 1 ∨ i = 2 ∨ i = 3 ∨ i = 4 ∨ i = 5 ∨ i = 6 by omega) with q | q | q | q | q | q | q <;> subst q <;> assumption
theorem lg_cmp0 {x y : Int64} (h : lg_cmp x y = 0) : x = y := by
  unfold lg_cmp at h
  split at h
  · exact absurd h (by decide)
  · split at h
    · assumption
    · exact absurd h (by decide)
/-- the first of the count first names that is the word; its number, or -1 -/
theorem c_indexOf {g : gT} {h : mh_T} {P : Int32 → mh_T → Prop} (l1 nl1 : Nat) (l2 : Int32) (c : Nat) (sl1 : shp l1 = (22, nl1, [])) (hn : nl1 ≤ 900) (e2 : l2.toInt = (c : Int)) (hc : c ≤ nl1) (h1 : ∀ (r : Int32) (j : Nat), r.toInt = (j : Int) → j < c → mL h l1 j = mL h 1 10 → (∀ i, i < j → ¬ mL h l1 i = mL h 1 10) → P r h) (h0 : (∀ i, i < c → ¬ mL h l1 i = mL h 1 10) → P (-1) h) : MCi g yX6_indexOf uX6_indexOf [.ref 1, .ref l1, .int l2] h P := by
  have L : ∀ (m : Nat) (l3 : Int32) (j : Nat), l3.toInt = (j : Int) → j ≤ c → c - j < m → (∀ i, i < j → ¬ mL h l1 i = mL h 1 10) → ME g uX6_indexOf 2 [.ref 1, .ref l1, .int l2, .int l3] [] h (qI P) := by
    intro m
    induction m with
    | zero => intro l3 j _ _ hm; exact absurd hm (Nat.not_lt_zero _)
    | succ m ih =>
      intro l3 j e3 hj hm hin
      have en : (Int32.ofNat nl1).toInt = (nl1 : Int) := nI_toInt (n := nl1) (by omega)
      refine r_X6_indexOf_2 l1 nl1 l2 l3 sl1 ⟨fun z => ?_, fun z => ?_⟩
      · rw [i_le, e2, e3] at z
        exact h0 (fun i hi => hin i (by omega))
      · rw [i_le, e2, e3] at z
        refine ⟨fun y => ?_, fun y => ⟨i_vp e3 (by omega), fun x => ?_, fun x => ?_⟩⟩
        · rw [i_le, en, e3] at y
          omega
        · rw [i_nat e3] at x
          refine ih (l3 + 1) (j + 1) (i_inc e3 (by omega)) (by omega) (by omega) (fun i hi => ?_)
          by_cases q : i = j
          · rw [q]; exact lg_ne x
          · exact hin i (by omega)
        · rw [i_nat e3] at x
          exact h1 l3 j e3 (by omega) (lg_cmp0 x) hin
  exact e_X6_indexOf l1 nl1 l2 sl1 (L _ 0 0 (by decide) (Nat.zero_le _) (Nat.lt_succ_self _) (fun i hi => absurd hi (Nat.not_lt_zero i)))
