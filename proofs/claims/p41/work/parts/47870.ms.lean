/-! the reference's reader: see, isSmall, isDigit -/
def Mp (h : mh_T) (T : Nat → Int32) (n : Nat) : Prop := (mI h 11 3).toInt = (n : Int) ∧ n ≤ 900 ∧ (∀ j, j < n → mI h 43 j = T j) ∧ ∀ j, j < n → 0 ≤ (T j).toInt
theorem m_see_ {g : gT} {h : mh_T} {P : Int32 → mh_T → Prop} {T : Nat → Int32} {n p : Nat} (l1 : Int32) (hT : Mp h T n) (e1 : l1.toInt = (p : Int)) (h1 : p < n → P (T p) h) (h0 : ¬ p < n → P (-1) h) : MCi g yX11_see uX11_see [.ref 11, .int l1] h P := by
  refine e_X11_see l1 ⟨fun z => ?_, fun z => ?_⟩
  · rw [i_le, hT.1, e1] at z
    exact h0 (by omega)
  · rw [i_le, hT.1, e1] at z
    have hp : p < n := by omega
    refine ⟨i_vp e1 (by have := hT.2.1; omega), ?_⟩
    rw [i_nat e1, hT.2.2.1 p hp]
    exact h1 hp
theorem m_isSmall_ {g : gT} {h : mh_T} {P : Int32 → mh_T → Prop} (c : Int32) (h1 : rx_l c = true → P 1 h) (h0 : ¬ rx_l c = true → P 0 h) : MCi g yX11_isSmall uX11_isSmall [.int c] h P :=
  e_X11_isSmall c ⟨fun a => h0 (fun b => (rx_li.mp b).1 a), fun a => ⟨fun b => h0 (fun d => (rx_li.mp d).2 b), fun b => h1 (rx_li.mpr ⟨a, b⟩)⟩⟩
theorem m_isDigit_ {g : gT} {h : mh_T} {P : Int32 → mh_T → Prop} (c : Int32) (h1 : rx_d c = true → P 1 h) (h0 : ¬ rx_d c = true → P 0 h) : MCi g yX11_isDigit uX11_isDigit [.int c] h P :=
  e_X11_isDigit c ⟨fun a => h0 (fun b => (rx_di.mp b).1 a), fun a => ⟨fun b => h0 (fun d => (rx_di.mp d).2 b), fun b => h1 (rx_di.mpr ⟨a, b⟩)⟩⟩
