/-! names: the class's numbers and the reference's letters -/
theorem rx_k2 {T : Nat → Int32} {n e : Nat} (h : rx_k T n e = 2) : rx_s T n e < n ∧ 1 ≤ rx_e T n e - rx_s T n e ∧ rx_e T n e - rx_s T n e ≤ 8 ∧ ∀ i, i < rx_e T n e - rx_s T n e → rx_l (T (rx_s T n e + i)) = true := by
  by_cases c : rx_s T n e < n
  · by_cases l : rx_l (T (rx_s T n e)) = true
    · have ee : rx_e T n e = rx_sc rx_l T n (rx_s T n e) := by unfold rx_e; rw [if_pos c, if_pos l]
      have gt := rx_e_gt c
      refine ⟨c, by omega, ?_, fun i hi => ?_⟩
      · unfold rx_k at h
        rw [if_pos c, if_pos l] at h
        split at h
        · assumption
        · exact absurd h (by decide)
      · exact (rx_in (q := rx_l) (p := rx_s T n e) (Nat.le_add_right _ _) (by rw [← ee]; omega)).2
    · unfold rx_k at h
      rw [if_pos c, if_neg l] at h
      split at h
      · split at h <;> exact absurd h (by decide)
      · split at h
        · rename_i z
          rw [h] at z
          exact absurd z (by decide)
        · exact absurd h (by decide)
  · unfold rx_k at h
    rw [if_neg c] at h
    exact absurd h (by decide)
theorem rx_ws_congr {T U : Nat → Int32} {s t : Nat} : ∀ k, (∀ i, i < k → T (s + i) = U (t + i)) → rx_ws T s k = rx_ws U t k
  | 0, _ => rfl
  | k + 1, h => by
    show rx_ws T s k <<< 5 ||| (T (s + k) - 97 + 1).toInt64 = rx_ws U t k <<< 5 ||| (U (t + k) - 97 + 1).toInt64
    rw [rx_ws_congr k (fun i hi => h i (by omega)), h k (by omega)]
def rx_used (f : Nat → Int32) (j : Nat) : Prop := (j : Int) < (f 50).toInt ∨ (6 ≤ j ∧ (j : Int) - 6 < (f 51).toInt)
/-- the name of number j, as the class keeps it -/
def rx_en (f : Nat → Int32) (j : Nat) : Int64 := rx_ws f (226 + 8 * j) (f (211 + j)).toNatClampNeg
def Nv (f : Nat → Int32) : Prop := R 0 6 (f 50) ∧ R 0 9 (f 51) ∧ (∀ j, j < 15 → (rx_used f j → R 1 8 (f (211 + j)) ∧ ∀ i, i < (f (211 + j)).toNatClampNeg → rx_l (f (226 + 8 * j + i)) = true) ∧ (¬ rx_used f j → f (211 + j) = 0)) ∧ ∀ i j, i < 15 → j < 15 → rx_used f i → rx_used f j → rx_en f i = rx_en f j → i = j
theorem rx_is_iff {T : Nat → Int32} {n e : Nat} {f : Nat → Int32} (hv : Nv f) (hk : rx_k T n e = 2) {j : Nat} (hj : j < 15) : rx_is T n e f j = true ↔ rx_used f j ∧ rx_en f j = rx_w T n e := by
  obtain ⟨-, k1, k8, kl⟩ := rx_k2 hk
  have el : (Int32.ofNat (rx_e T n e - rx_s T n e)).toInt = ((rx_e T n e - rx_s T n e : Nat) : Int) := nI_toInt (n := rx_e T n e - rx_s T n e) (by omega)
  unfold rx_is
  rw [Bool.and_eq_true, decide_eq_true_iff, List.all_eq_true]
  constructor
  · rintro ⟨⟨a, b⟩, c⟩
    have us : rx_used f j := by
      by_cases u : rx_used f j
      · exact u
      · rw [(hv.2.2.1 j hj).2 u] at a
        exact absurd a (by decide)
    refine ⟨us, ?_⟩
    unfold rx_en rx_w
    rw [b, i_nat el]
    exact rx_ws_congr _ (fun i hi => eq_of_beq (c i (List.mem_range.mpr hi)))
  · rintro ⟨us, en⟩
    obtain ⟨⟨r1, r8⟩, rl⟩ := (hv.2.2.1 j hj).1 us
    obtain ⟨m, em, m1, m8⟩ := i_R (x := f (211 + j)) ⟨r1, r8⟩ (by decide)
    unfold rx_en rx_w at en
    rw [i_nat em] at en rl
    have e1 := rx_ws_n m (by omega) rl
    have e2 := rx_ws_n (T := T) (s := rx_s T n e) (rx_e T n e - rx_s T n e) k8 kl
    rw [en, e2] at e1
    obtain ⟨q1, q2⟩ := rx_wn_inj m (rx_e T n e - rx_s T n e) rl kl (by omega)
    refine ⟨⟨?_, ?_⟩, fun i hi => ?_⟩
    · rw [i_lt, em]
      rw [show (0 : Int32).toInt = 0 from by decide]
      omega
    · apply Int32.toInt_inj.mp
      rw [em, el, q1]
    · exact beq_iff_eq.mpr (q2 i (by rw [q1]; exact List.mem_range.mp hi))
theorem rx_fd_none {T : Nat → Int32} {n e : Nat} {f : Nat → Int32} (h : ∀ j, j < 15 → ¬ rx_is T n e f j = true) : rx_fd T n e f = none := by
  unfold rx_fd
  rw [List.find?_eq_none]
  exact fun j hj => h j (List.mem_range.mp hj)
theorem rx_fd_some {T : Nat → Int32} {n e : Nat} {f : Nat → Int32} {j : Nat} (h : rx_fd T n e f = some j) : j < 15 ∧ rx_is T n e f j = true := by
  unfold rx_fd at h
  exact ⟨List.mem_range.mp (List.mem_of_find?_eq_some h), List.find?_some h⟩
theorem rx_fd_at {T : Nat → Int32} {n e : Nat} {f : Nat → Int32} (hv : Nv f) (hk : rx_k T n e = 2) {j : Nat} (hj : j < 15) (h : rx_is T n e f j = true) : rx_fd T n e f = some j := by
  cases c : rx_fd T n e f with
  | none =>
    unfold rx_fd at c
    rw [List.find?_eq_none] at c
    exact absurd h (c j (List.mem_range.mpr hj))
  | some i =>
    obtain ⟨h1, h2⟩ := rx_fd_some c
    have a := (rx_is_iff hv hk hj).mp h
    have b := (rx_is_iff hv hk h1).mp h2
    rw [hv.2.2.2 i j h1 hj b.1 a.1 (b.2.trans a.2.symm)]
/-- the class's draft stands for f: its counts and its names -/
def Dr (h : mh_T) (f : Nat → Int32) : Prop := (mI h 2 0 = f 49 ∧ mI h 2 1 = f 50 ∧ mI h 2 2 = f 51 ∧ mI h 2 3 = f 0 ∧ mI h 2 4 = f 52 ∧ mI h 2 5 = f 85 ∧ mI h 2 6 = f 158) ∧ (∀ i : Nat, (i : Int) < (f 50).toInt → mL h 13 i = rx_en f i) ∧ ∀ i : Nat, (i : Int) < (f 51).toInt → mL h 14 i = rx_en f (6 + i)
theorem c_nameL {g : gT} {h : mh_T} {P : Int32 → mh_T → Prop} {T : Nat → Int32} {n e : Nat} {f : Nat → Int32} (hT : Tp h T n) (hk : Tk h T n e) (hen : e ≤ n) (hd : Dr h f) (hv : Nv f) (h1 : ∀ (r : Int32) (j : Nat), rx_name T n true e f = .inr (j, rx_e T n e, f) → r.toInt = (j : Int) → j < 6 → P r h) (h0 : ∀ w : Int32, ¬ w = 0 → rx_name T n true e f = rx_no T n e w → P (-1) (rf h w)) : MCi g yX6_nameAmong uX6_nameAmong [.ref 1, .ref 13, .int (mI h 2 1)] h P := by
  refine e_X6_nameAmong 13 6 _ rfl ?_
  refine c_isName hT hk hen (fun z => ⟨fun _ => ?_, fun y => absurd y (by decide)⟩) (fun z => ⟨fun y => absurd rfl y, fun _ => ?_⟩)
  · have k2 := (rx_nm_iff.mp z).1
    obtain ⟨c, ec, c0, c6⟩ := i_R hv.1 (by decide)
    have ew := hk.2.2.2.2 k2
    have i0 : (0 : Int32).toInt = 0 := by decide
    refine c_indexOf 13 6 _ c rfl (by decide) (by rw [hd.1.2.1]; exact ec) (by omega) (fun r j er hj ej hi => ⟨fun _ => ?_, fun y => ?_⟩) (fun hi => ⟨fun y => absurd y (by decide), fun _ => ?_⟩)
    · have us : rx_used f j := Or.inl (by omega)
      have is := (rx_is_iff (T := T) (n := n) (e := e) hv k2 (j := j) (by omega)).mpr ⟨us, by rw [← hd.2.1 j (by omega), ej, ew]⟩
      refine h1 r j ?_ er (by omega)
      unfold rx_name
      rw [if_pos z, rx_fd_at hv k2 (by omega) is]
      show (if decide (j < 6) = true then _ else _) = _
      rw [if_pos (decide_eq_true (by omega : j < 6))]
      rfl
    · exfalso
      apply y
      rw [i_le, i0, er]
      omega
    · refine c_refuse 2 (h0 2 (by decide) ?_)
      unfold rx_name
      rw [if_pos z]
      cases fc : rx_fd T n e f with
      | none => rfl
      | some j =>
        obtain ⟨j15, js⟩ := rx_fd_some fc
        obtain ⟨us, en⟩ := (rx_is_iff hv k2 j15).mp js
        have j6 : ¬ j < 6 := by
          intro j6
          rcases us with us | us
          · exact hi j (by omega) (by rw [hd.2.1 j us, en, ew])
          · omega
        show (if decide (j < 6) = true then _ else _) = _
        rw [if_neg (by rw [decide_eq_true_iff]; exact j6)]
  · refine c_refuse 1 (h0 1 (by decide) ?_)
    unfold rx_name
    rw [if_neg z]
theorem c_nameP {g : gT} {h : mh_T} {P : Int32 → mh_T → Prop} {T : Nat → Int32} {n e : Nat} {f : Nat → Int32} (hT : Tp h T n) (hk : Tk h T n e) (hen : e ≤ n) (hd : Dr h f) (hv : Nv f) (h1 : ∀ (r : Int32) (j : Nat), rx_name T n false e f = .inr (j, rx_e T n e, f) → r.toInt = (j : Int) → j < 9 → P r h) (h0 : ∀ w : Int32, ¬ w = 0 → rx_name T n false e f = rx_no T n e w → P (-1) (rf h w)) : MCi g yX6_nameAmong uX6_nameAmong [.ref 1, .ref 14, .int (mI h 2 2)] h P := by
  refine e_X6_nameAmong 14 9 _ rfl ?_
  refine c_isName hT hk hen (fun z => ⟨fun _ => ?_, fun y => absurd y (by decide)⟩) (fun z => ⟨fun y => absurd rfl y, fun _ => ?_⟩)
  · have k2 := (rx_nm_iff.mp z).1
    obtain ⟨c, ec, c0, c9⟩ := i_R hv.2.1 (by decide)
    have ew := hk.2.2.2.2 k2
    have i0 : (0 : Int32).toInt = 0 := by decide
    refine c_indexOf 14 9 _ c rfl (by decide) (by rw [hd.1.2.2.1]; exact ec) (by omega) (fun r j er hj ej hi => ⟨fun _ => ?_, fun y => ?_⟩) (fun hi => ⟨fun y => absurd y (by decide), fun _ => ?_⟩)
    · have us : rx_used f (6 + j) := Or.inr ⟨by omega, by omega⟩
      have is := (rx_is_iff (T := T) (n := n) (e := e) hv k2 (j := 6 + j) (by omega)).mpr ⟨us, by rw [← hd.2.2 j (by omega), ej, ew]⟩
      refine h1 r j ?_ er (by omega)
      unfold rx_name
      rw [if_pos z, rx_fd_at hv k2 (by omega) is]
      show (if decide (6 + j < 6) = false then _ else _) = _
      rw [if_pos (decide_eq_false (by omega : ¬ 6 + j < 6))]
      show Sum.inr ((6 + j - 6), _, _) = _
      rw [Nat.add_sub_cancel_left]
    · exfalso
      apply y
      rw [i_le, i0, er]
      omega
    · refine c_refuse 2 (h0 2 (by decide) ?_)
      unfold rx_name
      rw [if_pos z]
      cases fc : rx_fd T n e f with
      | none => rfl
      | some j =>
        obtain ⟨j15, js⟩ := rx_fd_some fc
        obtain ⟨us, en⟩ := (rx_is_iff hv k2 j15).mp js
        have j6 : j < 6 := by
          rcases us with us | us
          · have := hv.1.2
            omega
          · exfalso
            exact hi (j - 6) (by omega) (by rw [hd.2.2 (j - 6) (by omega), show 6 + (j - 6) = j by omega, en, ew])
        show (if decide (j < 6) = false then _ else _) = _
        rw [if_neg (by rw [decide_eq_true j6]; decide)]
  · refine c_refuse 1 (h0 1 (by decide) ?_)
    unfold rx_name
    rw [if_neg z]
theorem c_needNew {g : gT} {h : mh_T} {P : Int32 → mh_T → Prop} {T : Nat → Int32} {n e : Nat} {f : Nat → Int32} (hT : Tp h T n) (hk : Tk h T n e) (hen : e ≤ n) (hd : Dr h f) (hv : Nv f) (h1 : rx_nm T n e = true → rx_fd T n e f = none → P 1 h) (h3 : rx_nm T n e = true → (rx_fd T n e f).isSome = true → P 0 (rf h 3)) (h0 : ¬ rx_nm T n e = true → P 0 (rf h 1)) : MCi g yX6_needNewName uX6_needNewName [.ref 1] h P := by
  refine e_X6_needNewName ?_
  refine c_isName hT hk hen (fun z => ⟨fun _ => ?_, fun y => absurd y (by decide)⟩) (fun z => ⟨fun y => absurd rfl y, fun _ => c_refuse 1 ⟨Or.inl rfl, h0 z⟩⟩)
  have k2 := (rx_nm_iff.mp z).1
  obtain ⟨c, ec, c0, c6⟩ := i_R hv.1 (by decide)
  obtain ⟨d, ed, d0, d9⟩ := i_R hv.2.1 (by decide)
  have ew := hk.2.2.2.2 k2
  have i0 : (0 : Int32).toInt = 0 := by decide
  refine c_indexOf 13 6 _ c rfl (by decide) (by rw [hd.1.2.1]; exact ec) (by omega) (fun r j er hj ej hi => ⟨fun _ => ?_, fun y => ?_⟩) (fun hi => ⟨fun y => absurd y (by decide), fun _ => ?_⟩)
  · have us : rx_used f j := Or.inl (by omega)
    have is := (rx_is_iff (T := T) (n := n) (e := e) hv k2 (j := j) (by omega)).mpr ⟨us, by rw [← hd.2.1 j (by omega), ej, ew]⟩
    exact c_refuse 3 ⟨fun _ => h3 z (by rw [rx_fd_at hv k2 (by omega) is]; rfl), fun y => absurd rfl y⟩
  · exfalso
    apply y
    rw [i_le, i0, er]
    omega
  · refine c_indexOf 14 9 _ d rfl (by decide) (by rw [hd.1.2.2.1]; exact ed) (by omega) (fun r j er hj ej hi2 => ⟨fun y => ?_, fun _ => ?_⟩) (fun hi2 => ⟨fun _ => h1 z ?_, fun y => absurd (by decide) y⟩)
    · rw [i_lt, i0, er] at y
      omega
    · have us : rx_used f (6 + j) := Or.inr ⟨by omega, by omega⟩
      have is := (rx_is_iff (T := T) (n := n) (e := e) hv k2 (j := 6 + j) (by omega)).mpr ⟨us, by rw [← hd.2.2 j (by omega), ej, ew]⟩
      exact c_refuse 3 ⟨fun _ => h3 z (by rw [rx_fd_at hv k2 (by omega) is]; rfl), fun y => absurd rfl y⟩
    · cases fc : rx_fd T n e f with
      | none => rfl
      | some j =>
        obtain ⟨j15, js⟩ := rx_fd_some fc
        obtain ⟨us, en⟩ := (rx_is_iff hv k2 j15).mp js
        exfalso
        rcases us with us | us
        · exact hi j (by omega) (by rw [hd.2.1 j us, en, ew])
        · exact hi2 (j - 6) (by omega) (by rw [hd.2.2 (j - 6) (by omega), show 6 + (j - 6) = j by omega, en, ew])
