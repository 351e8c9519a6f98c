/-! the class's next() finds the token -/
theorem rx_eq {q : Int32 → Bool} {T : Nat → Int32} {n : Nat} : ∀ (k s p : Nat), p - s = k → s ≤ p → (∀ i, s ≤ i → i < p → i < n ∧ q (T i) = true) → ¬ (p < n ∧ q (T p) = true) → rx_sc q T n s = p
  | 0, s, p, hk, hsp, _, hx => by
    have : s = p := by omega
    subst this
    exact rx_stop hx
  | k + 1, s, p, hk, hsp, hi, hx => by
    rw [rx_step (hi s (Nat.le_refl _) (by omega))]
    exact rx_eq k (s + 1) p (by omega) (by omega) (fun i h1 h2 => hi i (by omega) h2) hx
def Tp (h : mh_T) (T : Nat → Int32) (n : Nat) : Prop := (mI h 1 6).toInt = (n : Int) ∧ n ≤ 900 ∧ ∀ j, j < n → mI h 12 j = T j
def Tk (h : mh_T) (T : Nat → Int32) (n e : Nat) : Prop := (mI h 1 9).toInt = (rx_s T n e : Int) ∧ (mI h 1 7).toInt = (rx_e T n e : Int) ∧ mI h 1 8 = rx_k T n e ∧ (rx_k T n e = 3 → mI h 1 11 = rx_v T n e) ∧ (rx_k T n e = 2 → mL h 1 10 = rx_w T n e)
def Kp (h h' : mh_T) : Prop := Ok [1] h h' ∧ ∀ j, j < 7 → mI h' 1 j = mI h 1 j
theorem Kp_rf {h : mh_T} (hG : GI h) : Kp h h := ⟨Ok_rf hG, fun _ _ => rfl⟩
theorem Kp_tr {h h1 h2 : mh_T} (a : Kp h h1) (b : Kp h1 h2) : Kp h h2 := ⟨Ok_tr a.1 b.1 (by decide), fun j hj => (b.2 j hj).trans (a.2 j hj)⟩
theorem Kp_w {h0 h : mh_T} (a : Kp h0 h) {j : Nat} {v : Int32} (hj : 7 ≤ j) {lo hi : Int} (e : rgT 1 j = (lo, hi)) (f : R lo hi v) : Kp h0 (wI h 1 j v) :=
  ⟨Ok_w a.1 e f (by decide) (by omega), fun i hi => by rw [mI_wI, if_neg (by omega)]; exact a.2 i hi⟩
theorem Kp_wL {h0 h : mh_T} (a : Kp h0 h) {j : Nat} {v : Int64} : Kp h0 (wL h 1 j v) := ⟨Ok_wL a.1 (by decide), fun i hi => a.2 i hi⟩
theorem Tp_k {h h' : mh_T} {T : Nat → Int32} {n : Nat} (a : Kp h h') (t : Tp h T n) : Tp h' T n :=
  ⟨by rw [a.2 6 (by decide)]; exact t.1, t.2.1, fun j hj => by
    have := (a.1.2.1 12 (by decide) (by decide)).1
    show h'.1 12 j = T j
    rw [this]
    exact t.2.2 j hj⟩
theorem rx_li {c : Int32} : rx_l c = true ↔ ¬ c < 97 ∧ ¬ 122 < c := by
  unfold rx_l
  rw [decide_eq_true_iff, i_le, i_le, i_lt, i_lt]
  omega
theorem rx_di {c : Int32} : rx_d c = true ↔ ¬ c < 48 ∧ ¬ 57 < c := by
  unfold rx_d
  rw [decide_eq_true_iff, i_le, i_le, i_lt, i_lt]
  omega
theorem c_isLetter {g : gT} {h : mh_T} {P : Int32 → mh_T → Prop} (c : Int32) (h1 : rx_l c = true → P 1 h) (h0 : ¬ rx_l c = true → P 0 h) : MCi g yX6_isLetter uX6_isLetter [.int c] h P :=
  e_X6_isLetter c ⟨fun a => h0 (fun b => (rx_li.mp b).1 a), fun a => ⟨fun b => h0 (fun d => (rx_li.mp d).2 b), fun b => h1 (rx_li.mpr ⟨a, b⟩)⟩⟩
theorem c_isDigit {g : gT} {h : mh_T} {P : Int32 → mh_T → Prop} (c : Int32) (h1 : rx_d c = true → P 1 h) (h0 : ¬ rx_d c = true → P 0 h) : MCi g yX6_isDigit uX6_isDigit [.int c] h P :=
  e_X6_isDigit c ⟨fun a => h0 (fun b => (rx_di.mp b).1 a), fun a => ⟨fun b => h0 (fun d => (rx_di.mp d).2 b), fun b => h1 (rx_di.mpr ⟨a, b⟩)⟩⟩
