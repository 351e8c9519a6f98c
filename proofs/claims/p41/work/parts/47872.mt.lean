/-! the reference's small readers -/
theorem i_of {x : Int32} {k : Nat} (h : x.toInt = (k : Int)) (hk : k < 2147483648) : x = Int32.ofNat k := Int32.toInt_inj.mp (h.trans (Int32.toInt_ofNat_of_lt (by omega)).symm)
def Mc (h : mh_T) (f : Nat → Int32) : Prop := ∀ j, j < 346 → mI h 46 j = f j
def Ms (h0 : mh_T) (T : Nat → Int32) (n e : Nat) (f : Nat → Int32) (h : mh_T) : Prop := Og h0 h ∧ Mp h T n ∧ Mk h T n e ∧ e ≤ n ∧ Mc h f ∧ mI h 11 13 = 0
def Mx (h0 : mh_T) (f : Nat → Int32) (w : Int32) (p : Nat) (h : mh_T) : Prop := Of h0 h ∧ mI h 11 13 = 1 ∧ mI h 11 9 = w ∧ (mI h 11 10).toInt = (p : Int) ∧ Mc h f
def wr (h : mh_T) (w : Int32) : mh_T := wI (wI (wI h 11 13 1) 11 9 w) 11 10 (mI h 11 4)
theorem Mc_kq {h h' : mh_T} {f : Nat → Int32} (k : Kq h h') (c : Mc h f) : Mc h' f := fun j hj => by
  have := (k.2.1 46 (by decide) (by decide)).1
  show h'.1 46 j = f j
  rw [this]
  exact c j hj
theorem Ms_next {h0 h h' : mh_T} {T : Nat → Int32} {n e : Nat} {f : Nat → Int32} (c : Ms h0 T n e f h) (k : Kq h h') (t : Mk h' T n (rx_e T n e)) : Ms h0 T n (rx_e T n e) f h' :=
  ⟨Og_kq c.1 k, Mp_k k c.2.1, t, rx_e_le c.2.2.2.1, Mc_kq k c.2.2.2.2.1, by rw [k.2.2.1 13 (by decide)]; exact c.2.2.2.2.2⟩
theorem b_nx {g : gT} {h0 h : mh_T} {P : mh_T → Prop} {T : Nat → Int32} {n e : Nat} {f : Nat → Int32} (c : Ms h0 T n e f h) (hp : ∀ h', Ms h0 T n (rx_e T n e) f h' → P h') : MCv g yX11_next uX11_next [.ref 11] h P :=
  b_next c.1.1 c.2.1 c.2.2.1.2.1 (rx_e_le c.2.2.2.1) (fun h' k t => hp h' (Ms_next c k t))
theorem Mx_wr {h0 h : mh_T} {T : Nat → Int32} {n e : Nat} {f : Nat → Int32} (c : Ms h0 T n e f h) (w : Int32) : Mx h0 f w (rx_s T n e) (wr h w) := by
  refine ⟨Of_w (Of_w (Of_w (Og_of c.1) (k := 11) (j := 13) (lo := 0) (hi := 1) (by decide) ⟨by decide, by decide⟩ (by decide) (by decide)) (k := 11) (j := 9) (lo := -2147483648) (hi := 2147483647) (by decide) (R_full _) (by decide) (by decide)) (k := 11) (j := 10) (lo := -2147483648) (hi := 2147483647) (by decide) (R_full _) (by decide) (by decide), ?_, ?_, ?_, fun j hj => ?_⟩
  · unfold wr
    rw [mI_wI, if_neg (by decide), mI_wI, if_neg (by decide), mI_wI, if_pos ⟨rfl, rfl⟩]
  · unfold wr
    rw [mI_wI, if_neg (by decide), mI_wI, if_pos ⟨rfl, rfl⟩]
  · unfold wr
    rw [mI_wI, if_pos ⟨rfl, rfl⟩]
    exact c.2.2.1.1
  · unfold wr
    rw [mI_wI, if_neg (fun z => absurd z.1 (by decide)), mI_wI, if_neg (fun z => absurd z.1 (by decide)), mI_wI, if_neg (fun z => absurd z.1 (by decide))]
    exact c.2.2.2.2.1 j hj
theorem b_wrong {g : gT} {h0 h : mh_T} {P : mh_T → Prop} {T : Nat → Int32} {n e : Nat} {f : Nat → Int32} (c : Ms h0 T n e f h) (w : Int32) (hp : Mx h0 f w (rx_s T n e) (wr h w) → P (wr h w)) : MCv g yX11_wrong uX11_wrong [.ref 11, .int w, .int (mI h 11 4)] h P :=
  e_X11_wrong w _ ⟨fun _ => hp (Mx_wr c w), fun z => absurd c.2.2.2.2.2 z⟩
theorem Mx_ne {h0 h : mh_T} {f : Nat → Int32} {w : Int32} {p : Nat} (c : Mx h0 f w p h) : ¬ mI h 11 13 = 0 := fun z => by
  rw [c.2.1] at z
  exact absurd z (by decide)
theorem b_isWord_L {g : gT} {h0 h : mh_T} {P : Int32 → mh_T → Prop} {T : Nat → Int32} {n e : Nat} {f : Nat → Int32} (l1 : Nat) (sl1 : l1 < nJS) (c : Ms h0 T n e f h) (k2 : rx_k T n e = 2) (hz : rx_e T n e - rx_s T n e = lenJS.getD l1 0) (h1 : (∀ i, i < lenJS.getD l1 0 → T (rx_s T n e + i) = (bytJS.getD l1 []).getD i 0) → P 1 h) (h0' : ¬ (∀ i, i < lenJS.getD l1 0 → T (rx_s T n e + i) = (bytJS.getD l1 []).getD i 0) → P 0 h) : ∀ (m : Nat) (l2 l3 : Int32) (j : Nat), l3.toInt = (j : Int) → j ≤ lenJS.getD l1 0 → lenJS.getD l1 0 - j < m → ((l2 = 1 ∧ ∀ i, i < j → T (rx_s T n e + i) = (bytJS.getD l1 []).getD i 0) ∨ (l2 = 0 ∧ ¬ (∀ i, i < lenJS.getD l1 0 → T (rx_s T n e + i) = (bytJS.getD l1 []).getD i 0))) → ME g uX11_isWord 32 [.ref 11, .ref (1000 + l1), .int l2, .int l3] [] h (qI P) := by
  intro m
  induction m with
  | zero => intro l2 l3 j _ _ hm; exact absurd hm (Nat.not_lt_zero _)
  | succ m ih =>
    intro l2 l3 j e3 hj hm hin
    obtain ⟨-, k1, k8, kl⟩ := rx_k2 k2
    obtain ⟨e8, el⟩ := c.2.2.1.2.2.2.2 k2
    refine r_X11_isWord_32 l1 l2 l3 sl1 ⟨fun z => ?_, fun z => ?_⟩
    · rw [i_le, e8, e3] at z
      rcases hin with ⟨a, b⟩ | ⟨a, b⟩
      · rw [a]; exact ⟨Or.inr rfl, h1 (fun i hi => b i (by omega))⟩
      · rw [a]; exact ⟨Or.inl rfl, h0' b⟩
    · rw [i_le, e8, e3] at z
      have e3' := i_inc e3 (by omega)
      refine ⟨fun a => ?_, fun a => ⟨i_vp e3 (by omega), ?_⟩⟩
      · have b : ¬ (∀ i, i < lenJS.getD l1 0 → T (rx_s T n e + i) = (bytJS.getD l1 []).getD i 0) := by
          rcases hin with ⟨q, _⟩ | ⟨_, b⟩
          · rw [q] at a; exact absurd a (by decide)
          · exact b
        exact ih 0 (l3 + 1) (j + 1) e3' (by omega) (by omega) (Or.inr ⟨rfl, b⟩)
      · have b : ∀ i, i < j → T (rx_s T n e + i) = (bytJS.getD l1 []).getD i 0 := by
          rcases hin with ⟨_, b⟩ | ⟨q, _⟩
          · exact b
          · exact absurd q a
        rw [i_nat e3, el j (by omega)]
        refine s_J0_charAt l1 l3 sl1 ⟨by omega, by omega⟩ ?_
        rw [i_nat e3, ch_byt l1 sl1 j (by omega)]
        refine ⟨fun y => ih 0 (l3 + 1) (j + 1) e3' (by omega) (by omega) (Or.inr ⟨rfl, fun x => y (x j (by omega))⟩), fun y => ih 1 (l3 + 1) (j + 1) e3' (by omega) (by omega) (Or.inl ⟨rfl, fun i hi => ?_⟩)⟩
        by_cases q : i = j
        · rw [q]; exact y
        · exact b i (by omega)
theorem b_isWord {g : gT} {h0 h : mh_T} {P : Int32 → mh_T → Prop} {T : Nat → Int32} {n e : Nat} {f : Nat → Int32} (l1 : Nat) (sl1 : l1 < nJS) (c : Ms h0 T n e f h) (h1 : rx_wd T n e (bytJS.getD l1 []) = true → P 1 h) (h0' : ¬ rx_wd T n e (bytJS.getD l1 []) = true → P 0 h) : MCi g yX11_isWord uX11_isWord [.ref 11, .ref (1000 + l1)] h P := by
  rw [rx_wd_iff, byt_len l1 sl1] at h1 h0'
  have c6 := c.2.2.1.2.2.1
  refine e_X11_isWord l1 sl1 ⟨fun z => absurd c.2.2.2.2.2 z, fun _ => ⟨fun z => h0' (fun y => z (by rw [c6]; exact y.1)), fun z => ?_⟩⟩
  rw [c6] at z
  obtain ⟨-, k1, k8, kl⟩ := rx_k2 z
  obtain ⟨e8, el⟩ := c.2.2.1.2.2.2.2 z
  refine s_J0_length l1 sl1 (fun r er fr => ?_)
  have iq : mI h 11 8 = r ↔ rx_e T n e - rx_s T n e = lenJS.getD l1 0 := by
    rw [← Int32.toInt_inj, e8, er]
    omega
  rw [iq]
  exact ⟨fun y => b_isWord_L l1 sl1 c z y (fun x => h1 ⟨z, y, x⟩) (fun x => h0' (fun q => x q.2.2)) _ 1 0 0 (by decide) (Nat.zero_le _) (Nat.lt_succ_self _) (Or.inl ⟨rfl, fun i hi => absurd hi (Nat.not_lt_zero i)⟩), fun y => h0' (fun x => y x.2.1)⟩
theorem b_takes {g : gT} {h0 h : mh_T} {P : Int32 → mh_T → Prop} {T : Nat → Int32} {n e : Nat} {f : Nat → Int32} (l1 : Nat) (sl1 : l1 < nJS) (c : Ms h0 T n e f h) (h1 : rx_wd T n e (bytJS.getD l1 []) = true → ∀ h', Ms h0 T n (rx_e T n e) f h' → P 1 h') (h0' : ¬ rx_wd T n e (bytJS.getD l1 []) = true → P 0 h) : MCi g yX11_takes uX11_takes [.ref 11, .ref (1000 + l1)] h P :=
  e_X11_takes l1 sl1 (b_isWord l1 sl1 c (fun z => ⟨fun _ => b_nx c (h1 z), fun y => absurd y (by decide)⟩) (fun z => ⟨fun y => absurd rfl y, fun _ => h0' z⟩))
theorem b_pass {g : gT} {h0 h : mh_T} {P : mh_T → Prop} {T : Nat → Int32} {n e : Nat} {f : Nat → Int32} (l1 : Nat) (sl1 : l1 < nJS) (c : Ms h0 T n e f h) (h1 : rx_word T n l1 e f = .inr ((), rx_e T n e, f) → ∀ h', Ms h0 T n (rx_e T n e) f h' → P h') (h0' : rx_word T n l1 e f = rx_no T n e 1 → Mx h0 f 1 (rx_s T n e) (wr h 1) → P (wr h 1)) : MCv g yX11_pass uX11_pass [.ref 11, .ref (1000 + l1)] h P := by
  refine e_X11_pass l1 sl1 ⟨fun z => absurd c.2.2.2.2.2 z, fun _ => b_takes l1 sl1 c (fun z h' c' => ⟨fun _ => h1 ?_ h' c', fun y => absurd y (by decide)⟩) (fun z => ⟨fun y => absurd rfl y, fun _ => b_wrong c 1 (h0' ?_)⟩)⟩
  · unfold rx_word; rw [if_pos z]
  · unfold rx_word; rw [if_neg z]
theorem x_pass {g : gT} {h : mh_T} {P : mh_T → Prop} (l1 : Nat) (sl1 : l1 < nJS) (z : ¬ mI h 11 13 = 0) (hp : P h) : MCv g yX11_pass uX11_pass [.ref 11, .ref (1000 + l1)] h P := e_X11_pass l1 sl1 ⟨fun _ => hp, fun y => absurd y z⟩
theorem b_mustName {g : gT} {h0 h : mh_T} {P : mh_T → Prop} {T : Nat → Int32} {n e : Nat} {f : Nat → Int32} (c : Ms h0 T n e f h) (h1 : rx_nm T n e = true → P h) (h0' : ¬ rx_nm T n e = true → Mx h0 f 1 (rx_s T n e) (wr h 1) → P (wr h 1)) : MCv g yX11_mustName uX11_mustName [.ref 11] h P := by
  rw [rx_nm_iff] at h1 h0'
  have c6 := c.2.2.1.2.2.1
  have no : ∀ i, i < 7 → rx_wd T n e (bytJS.getD i []) = true → (¬ (mI h 11 6) = 2 → MCv g yX11_wrong uX11_wrong [.ref 11, .int 1, .int (mI h 11 4)] h (fun h5 => P h5)) ∧ ((mI h 11 6) = 2 → MCv g yX11_wrong uX11_wrong [.ref 11, .int 1, .int (mI h 11 4)] h (fun h7 => P h7)) := fun i hi z => ⟨fun _ => b_wrong c 1 (h0' (fun y => y.2 i hi z)), fun _ => b_wrong c 1 (h0' (fun y => y.2 i hi z))⟩
  refine e_X11_mustName ?_
  refine b_isWord 0 (by decide) c (fun z => ⟨fun _ => no 0 (by decide) z, fun y => absurd y (by decide)⟩) (fun z0 => ⟨fun y => absurd rfl y, fun _ => ?_⟩)
  refine b_isWord 1 (by decide) c (fun z => ⟨fun _ => no 1 (by decide) z, fun y => absurd y (by decide)⟩) (fun z1 => ⟨fun y => absurd rfl y, fun _ => ?_⟩)
  refine b_isWord 2 (by decide) c (fun z => ⟨fun _ => no 2 (by decide) z, fun y => absurd y (by decide)⟩) (fun z2 => ⟨fun y => absurd rfl y, fun _ => ?_⟩)
  refine b_isWord 3 (by decide) c (fun z => ⟨fun _ => no 3 (by decide) z, fun y => absurd y (by decide)⟩) (fun z3 => ⟨fun y => absurd rfl y, fun _ => ?_⟩)
  refine b_isWord 4 (by decide) c (fun z => ⟨fun _ => no 4 (by decide) z, fun y => absurd y (by decide)⟩) (fun z4 => ⟨fun y => absurd rfl y, fun _ => ?_⟩)
  refine b_isWord 5 (by decide) c (fun z => ⟨fun _ => no 5 (by decide) z, fun y => absurd y (by decide)⟩) (fun z5 => ⟨fun y => absurd rfl y, fun _ => ?_⟩)
  refine b_isWord 6 (by decide) c (fun z => ⟨fun y => absurd y (by decide), fun _ => no 6 (by decide) z⟩) (fun z6 => ⟨fun _ => ⟨fun y => ?_, fun y => ?_⟩, fun y => absurd rfl y⟩)
  · rw [c6] at y
    exact b_wrong c 1 (h0' (fun x => y x.1))
  · rw [c6] at y
    refine h1 ⟨y, fun i hi => ?_⟩
    rcases (show i = 0 ∨ i = 1 ∨ i = 2 ∨ i = 3 ∨ i = 4 ∨ i = 5 ∨ i = 6 by omega) with q | q | q | q | q | q | q <;> subst q <;> assumption
theorem rx_is_i {T : Nat → Int32} {n e : Nat} {f : Nat → Int32} {j : Nat} : rx_is T n e f j = true ↔ (0 < f (211 + j) ∧ f (211 + j) = Int32.ofNat (rx_e T n e - rx_s T n e)) ∧ ∀ i, i < rx_e T n e - rx_s T n e → f (226 + 8 * j + i) = T (rx_s T n e + i) := by
  unfold rx_is
  rw [Bool.and_eq_true, decide_eq_true_iff, List.all_eq_true]
  constructor
  · rintro ⟨a, c⟩
    exact ⟨a, fun i hi => eq_of_beq (c i (List.mem_range.mpr hi))⟩
  · rintro ⟨a, c⟩
    exact ⟨a, fun i hi => beq_iff_eq.mpr (c i (List.mem_range.mp hi))⟩
theorem rx_fd_first {T : Nat → Int32} {n e : Nat} {f : Nat → Int32} {j : Nat} (hj : j < 15) (h : rx_is T n e f j = true) (hn : ∀ i, i < j → ¬ rx_is T n e f i = true) : rx_fd T n e f = some j := by
  unfold rx_fd
  rw [List.find?_range_eq_some]
  exact ⟨h, List.mem_range.mpr hj, fun i hi => by rw [Bool.not_eq_true']; exact Bool.eq_false_iff.mpr (hn i hi)⟩
theorem b_find {g : gT} {h0 h : mh_T} {P : Int32 → mh_T → Prop} {T : Nat → Int32} {n e : Nat} {f : Nat → Int32} (c : Ms h0 T n e f h) (k2 : rx_k T n e = 2) (h1 : ∀ (r : Int32) (j : Nat), rx_fd T n e f = some j → r.toInt = (j : Int) → j < 15 → P r h) (h0' : rx_fd T n e f = none → P (-1) h) : MCi g yX11_find uX11_find [.ref 11] h P := by
  obtain ⟨-, k1, k8, kl⟩ := rx_k2 k2
  obtain ⟨e8, el⟩ := c.2.2.1.2.2.2.2 k2
  have q8 : mI h 11 8 = Int32.ofNat (rx_e T n e - rx_s T n e) := i_of e8 (by omega)
  have i0 : (0 : Int32).toInt = 0 := by decide
  have i15 : (15 : Int32).toInt = 15 := by decide
  have i226 : (226 : Int32).toInt = 226 := by decide
  have L : ∀ (m : Nat) (l1 : Int32) (j : Nat), l1.toInt = (j : Int) → j ≤ 15 → 15 - j < m → (∀ i, i < j → ¬ rx_is T n e f i = true) → ME g uX11_find 2 [.ref 11, .int l1, .retAddr 0, .retAddr 0] [] h (qI P) := by
    intro m
    induction m with
    | zero => intro l1 j _ _ hm; exact absurd hm (Nat.not_lt_zero _)
    | succ m ih =>
      intro l1 j e1 hj hm hin
      have nx : j < 15 → ¬ rx_is T n e f j = true → ME g uX11_find 2 [.ref 11, .int (l1 + 1), .retAddr 0, .retAddr 0] [] h (qI P) := fun hj' hx => ih (l1 + 1) (j + 1) (i_inc e1 (by omega)) (by omega) (by omega) (fun i hi => by
        by_cases q : i = j
        · rw [q]; exact hx
        · exact hin i (by omega))
      have K : j < 15 → ∀ (m : Nat) (l2 l3 : Int32) (k : Nat), l3.toInt = (k : Int) → k ≤ 8 → 8 - k < m → ((l2 = 1 ∧ (0 < f (211 + j) ∧ f (211 + j) = Int32.ofNat (rx_e T n e - rx_s T n e)) ∧ (∀ i, i < k → i < rx_e T n e - rx_s T n e → f (226 + 8 * j + i) = T (rx_s T n e + i))) ∨ (l2 = 0 ∧ ¬ rx_is T n e f j = true)) → ME g uX11_find 46 [.ref 11, .int l1, .int l2, .int l3] [] h (qI P) := by
        intro hj' m'
        induction m' with
        | zero => intro l2 l3 k _ _ hm; exact absurd hm (Nat.not_lt_zero _)
        | succ m' ih' =>
          intro l2 l3 k e3 hk8 hmk hst
          have fin0 : l2 = 0 → ME g uX11_find 2 [.ref 11, .int (l1 + 1), .retAddr 0, .retAddr 0] [] h (qI P) := fun a => by
            rcases hst with ⟨q, _⟩ | ⟨_, q⟩
            · rw [q] at a; exact absurd a (by decide)
            · exact nx hj' q
          have i8 : (8 * l1).toInt = ((8 * j : Nat) : Int) := by
            rw [Int32.toInt_mul, e1, show (8 : Int32).toInt = 8 from by decide, bm (by omega) (by omega)]
            omega
          have ia : (226 + 8 * l1).toInt = ((226 + 8 * j : Nat) : Int) := by
            rw [i_add i226 i8 (by omega)]; omega
          have ib : ((226 + 8 * l1) + l3).toInt = ((226 + 8 * j + k : Nat) : Int) := by
            rw [i_add ia e3 (by omega)]; omega
          refine r_X11_find_46 l1 l2 l3 ⟨fun z => ⟨fin0, fun a => ?_⟩, fun z => ⟨fun a => ⟨fin0, fun b => absurd a b⟩, fun a => ?_⟩⟩
          · rw [i_le, e8, e3] at z
            rcases hst with ⟨_, q, q2⟩ | ⟨q, _⟩
            · exact h1 l1 j (rx_fd_first hj' (rx_is_i.mpr ⟨q, fun i hi => q2 i (by omega) hi⟩) hin) e1 hj'
            · exact absurd q a
          · rw [i_le, e8, e3] at z
            rcases hst with ⟨_, q, q2⟩ | ⟨q, _⟩
            · refine ⟨i_vp ib (by omega), i_vp e3 (by omega), ?_⟩
              rw [i_nat ib, i_nat e3, c.2.2.2.2.1 _ (by omega), el k (by omega)]
              have e3' := i_inc e3 (by omega)
              refine ⟨fun y => ih' 0 (l3 + 1) (k + 1) e3' (by omega) (by omega) (Or.inr ⟨rfl, fun x => y ((rx_is_i.mp x).2 k (by omega))⟩), fun y => ih' 1 (l3 + 1) (k + 1) e3' (by omega) (by omega) (Or.inl ⟨rfl, q, fun i hi hi2 => ?_⟩)⟩
              by_cases x : i = k
              · rw [x]; exact y
              · exact q2 i (by omega) hi2
            · exact absurd q a
      refine r_X11_find_2 l1 ⟨fun z => ?_, fun z => ?_⟩
      · rw [i_le, i15, e1] at z
        exact h0' (rx_fd_none (fun i hi => hin i (by omega)))
      · rw [i_le, i15, e1] at z
        have hj' : j < 15 := by omega
        have ix : (211 + l1).toInt = ((211 + j : Nat) : Int) := by
          rw [i_add (show (211 : Int32).toInt = 211 from by decide) e1 (by omega)]; omega
        have vx := i_vp (n := 346) ix (by omega)
        refine ⟨vx, ?_⟩
        rw [i_nat ix, c.2.2.2.2.1 _ (by omega), q8]
        refine ⟨fun y => K hj' 9 0 0 0 (by decide) (by omega) (by omega) (Or.inr ⟨rfl, fun x => ?_⟩), fun y => ⟨vx, fun w => K hj' 9 0 0 0 (by decide) (by omega) (by omega) (Or.inr ⟨rfl, fun x => w (rx_is_i.mp x).1.2⟩), fun w => K hj' 9 1 0 0 (by decide) (by omega) (by omega) (Or.inl ⟨rfl, ⟨nle y, w⟩, fun i hi => absurd hi (Nat.not_lt_zero i)⟩)⟩⟩
        have := (rx_is_i.mp x).1.1
        rw [i_lt] at this
        rw [i_le] at y
        omega
  exact e_X11_find (L 16 0 0 (by decide) (by omega) (by omega) (fun i hi => absurd hi (Nat.not_lt_zero i)))
