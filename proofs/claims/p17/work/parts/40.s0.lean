/-! safety: ranges of the cells; what stays -/
def R (lo hi : Int) (x : Int32) : Prop := lo ≤ x.toInt ∧ x.toInt ≤ hi
def rgF : Int × Int := (-2147483648, 2147483647)
def rgRow (j : Nat) : Int × Int := if j = 0 then (0, 8) else if 1 ≤ j ∧ j ≤ 8 then (0, 5) else if 9 ≤ j ∧ j ≤ 16 then (-2, 5) else rgF
def rgRowM (j : Nat) : Int × Int := if j = 0 then (0, 8) else if 1 ≤ j ∧ j ≤ 8 then (-1, 5) else if 9 ≤ j ∧ j ≤ 16 then (-2, 5) else rgF
def rgRR (j : Nat) : Int × Int := if j = 0 then (0, 8) else if 1 ≤ j ∧ j ≤ 8 then (-1, 5) else if 9 ≤ j ∧ j ≤ 16 then (-2, 5) else if j = 49 then (0, 60) else if j = 50 then (0, 6) else if j = 51 then (0, 9) else if j = 52 then (0, 8) else if 53 ≤ j ∧ j ≤ 76 then (0, 8) else if 77 ≤ j ∧ j ≤ 84 then (0, 1) else if j = 85 then (0, 18) else if j = 158 then (0, 4) else if 159 ≤ j ∧ j ≤ 162 then (0, 6) else if 163 ≤ j ∧ j ≤ 186 then (0, 5) else if 187 ≤ j ∧ j ≤ 210 then (0, 1) else if 211 ≤ j ∧ j ≤ 225 then (0, 8) else rgF
def rgR6 (j : Nat) : Int × Int := if j = 0 then (0, 8) else if 1 ≤ j ∧ j ≤ 8 then (-1, 5) else if 9 ≤ j ∧ j ≤ 16 then (-2, 5) else if j = 49 then (0, 60) else if j = 50 then (0, 6) else if j = 51 then (0, 9) else if j = 52 then (0, 8) else if 53 ≤ j ∧ j ≤ 76 then (0, 8) else if 77 ≤ j ∧ j ≤ 84 then (0, 1) else if j = 85 then (0, 18) else if j = 158 then (0, 4) else if 159 ≤ j ∧ j ≤ 162 then (0, 6) else if 163 ≤ j ∧ j ≤ 186 then (0, 5) else if 187 ≤ j ∧ j ≤ 210 then (0, 1) else if 211 ≤ j ∧ j ≤ 225 then (0, 8) else if 17 ≤ j ∧ j ≤ 48 then (0, 60) else rgF
def rgT (k j : Nat) : Int × Int := match k with
  | 0 => if j = 10 then (0, 900) else rgF
  | 1 => if j = 6 then (0, 900) else if j = 7 then (0, 900) else if j = 9 then (0, 900) else rgF
  | 2 => if j = 0 then (0, 60) else if j = 1 then (0, 6) else if j = 2 then (0, 9) else if j = 3 then (0, 8) else if j = 4 then (0, 8) else if j = 5 then (0, 18) else if j = 6 then (0, 4) else rgF
  | 3 => if j = 0 then (0, 60) else if j = 1 then (0, 6) else if j = 2 then (0, 8) else rgF
  | 6 => if j = 5 then (0, 32) else if j = 6 then (0, 64) else rgF
  | 7 => if j = 0 then (0, 9) else if j = 1 then (0, 8) else rgF
  | 8 => if j = 0 then (0, 18) else if j = 1 then (0, 400) else if j = 8 then (0, 1) else rgF
  | 9 => if j = 0 then (0, 4) else if j = 1 then (0, 3) else if j = 2 then (0, 24) else if j = 3 then (0, 1) else rgF
  | 10 => if j = 0 then (0, 20) else if j = 1 then (0, 20) else if j = 2 then (0, 4) else rgF
  | 11 => if j = 2 then (0, 900) else if j = 3 then (0, 900) else if j = 4 then (0, 900) else if j = 5 then (0, 900) else if j = 8 then (0, 900) else if j = 13 then (0, 1) else if j = 14 then (0, 1) else if j = 24 then (0, 20) else if j = 25 then (0, 20) else if j = 26 then (0, 4) else if j = 30 then (0, 32) else if j = 31 then (0, 97) else if j = 34 then (0, 3060) else rgF
  | 15 => (0, 5)
  | 16 => (-2, 5)
  | 21 => (0, 6)
  | 22 => (0, 5)
  | 23 => (0, 1)
  | 24 => (0, 5)
  | 25 => (-2, 5)
  | 31 => (0, 1)
  | 33 => (0, 262143)
  | 34 => (0, 5)
  | 35 => (0, 1)
  | 36 => (0, 1)
  | 37 => (-2, 1)
  | 38 => (-2, 2)
  | 45 => rgRR j
  | 46 => rgR6 j
  | 48 => rgRowM j
  | 55 => (0, 96)
  | 58 => (0, 2)
  | 59 => (0, 2)
  | 60 => (-1, 2)
  | 49 => rgRowM (j % 49)
  | 50 => rgRowM (j % 49)
  | 51 => rgRowM (j % 49)
  | k => if 116 ≤ k ∧ k ≤ 140 then rgRow j else rgF
def GI (h : mh_T) : Prop := (∀ k j, R (rgT k j).1 (rgT k j).2 (mI h k j)) ∧ (∀ i, i < 20 → shp (mR h 40 i) = (20, 5, [])) ∧ (∀ i, i < 21 → shp (mR h 41 i) = (20, 49, []) ∧ 116 ≤ mR h 41 i)
theorem mI_wI (h : mh_T) (k j k' j' : Nat) (v : Int32) : mI (wI h k j v) k' j' = if k' = k ∧ j' = j then v else mI h k' j' := rfl
theorem mL_wL (h : mh_T) (k j k' j' : Nat) (v : Int64) : mL (wL h k j v) k' j' = if k' = k ∧ j' = j then v else mL h k' j' := rfl
theorem mR_wR (h : mh_T) (k j k' j' : Nat) (v : Nat) : mR (wR h k j v) k' j' = if k' = k ∧ j' = j then v else mR h k' j' := rfl
theorem mI_wL (h : mh_T) (k j k' j' : Nat) (v : Int64) : mI (wL h k j v) k' j' = mI h k' j' := rfl
theorem mL_wI (h : mh_T) (k j k' j' : Nat) (v : Int32) : mL (wI h k j v) k' j' = mL h k' j' := rfl
theorem mR_wI (h : mh_T) (k j k' j' : Nat) (v : Int32) : mR (wI h k j v) k' j' = mR h k' j' := rfl
theorem mI_cpI (h : mh_T) (k0 sp k1 dp n k' j' : Nat) : mI (cpI h k0 sp k1 dp n) k' j' = if k' = k1 ∧ dp ≤ j' ∧ j' < dp + n then mI h k0 (sp + (j' - dp)) else mI h k' j' := rfl
theorem GI_rd {h : mh_T} (hG : GI h) (k j : Nat) {lo hi : Int} (e : rgT k j = (lo, hi)) : R lo hi (mI h k j) := by have := hG.1 k j; rw [e] at this; exact this
theorem GI_w {h : mh_T} (hG : GI h) {k j : Nat} {v : Int32} {lo hi : Int} (e : rgT k j = (lo, hi)) (f : R lo hi v) : GI (wI h k j v) := by
  refine ⟨fun k' j' => ?_, hG.2⟩
  rw [mI_wI]
  split
  · rename_i c
    rw [c.1, c.2, e]
    exact f
  · exact hG.1 k' j'
theorem GI_wL {h : mh_T} (hG : GI h) {k j : Nat} {v : Int64} : GI (wL h k j v) := hG
theorem GI_wRa {h : mh_T} (hG : GI h) {j v : Nat} (hs : shp v = (20, 5, [])) : GI (wR h 40 j v) := by
  refine ⟨hG.1, fun i hi => ?_, fun i hi => ?_⟩
  · rw [mR_wR]
    split
    · exact hs
    · exact hG.2.1 i hi
  · rw [mR_wR, if_neg (fun z => by cases z.1)]
    exact hG.2.2 i hi
theorem GI_wRr {h : mh_T} (hG : GI h) {j v : Nat} (hs : shp v = (20, 49, []) ∧ 116 ≤ v) : GI (wR h 41 j v) := by
  refine ⟨hG.1, fun i hi => ?_, fun i hi => ?_⟩
  · rw [mR_wR, if_neg (fun z => by cases z.1)]
    exact hG.2.1 i hi
  · rw [mR_wR]
    split
    · exact hs
    · exact hG.2.2 i hi
theorem GI_cp {h : mh_T} (hG : GI h) {k0 sp k1 dp n : Nat} (e : ∀ b, dp ≤ b → b < dp + n → rgT k1 b = rgT k0 (sp + (b - dp)) ∨ rgT k1 b = rgF) : GI (cpI h k0 sp k1 dp n) := by
  refine ⟨fun k' j' => ?_, hG.2⟩
  rw [mI_cpI]
  split
  · rename_i c
    obtain ⟨c1, c2, c3⟩ := c
    subst c1
    rcases e j' c2 c3 with q | q
    · rw [q]; exact hG.1 _ _
    · rw [q]; exact ⟨Int32.le_toInt _, Int32.toInt_le _⟩
  · exact hG.1 k' j'
/-- cells below 62 that are not listed stay -/
def Fr (ms : List Nat) (h h' : mh_T) : Prop := ∀ k, k < 62 → k ∉ ms → h'.1 k = h.1 k ∧ h'.2.1 k = h.2.1 k ∧ h'.2.2 k = h.2.2 k
def Tm (ms : List Nat) (h h' : mh_T) : Prop := (300 ∈ ms ∨ mI h' 11 11 = mI h 11 11) ∧ (¬ mI h 11 11 = 4 → ¬ mI h' 11 11 = 4) ∧ (302 ∈ ms ∨ ∀ k, 62 ≤ k → h'.1 k = h.1 k) ∧ (301 ∈ ms ∨ ∀ j, 24 ≤ j → j ≤ 26 → mI h' 11 j = mI h 11 j)
/-- what a call leaves: ranges, all cells but the listed, and how many bytes both tapes have -/
abbrev Pk (k j : Nat) : Prop := (k = 0 ∧ (j = 10 ∨ j = 12 ∨ j = 13)) ∨ (k = 3 ∧ (j = 0 ∨ j = 1)) ∨ (k = 8 ∧ j = 0) ∨ (k = 11 ∧ (j = 2 ∨ j = 9 ∨ j = 10 ∨ j = 14)) ∨ (k = 45 ∧ 49 ≤ j)
def Sl (h h' : mh_T) : Prop := ∀ k j, Pk k j → mI h' k j = mI h k j
def Ok (ms : List Nat) (h h' : mh_T) : Prop := GI h' ∧ Fr ms h h' ∧ mI h' 0 10 = mI h 0 10 ∧ mI h' 11 2 = mI h 11 2 ∧ Sl h h' ∧ Tm ms h h'
theorem Ok_rf {ms : List Nat} {h : mh_T} (hG : GI h) : Ok ms h h := ⟨hG, fun _ _ _ => ⟨rfl, rfl, rfl⟩, rfl, rfl, fun _ _ _ => rfl, Or.inr rfl, fun z => z, Or.inr (fun _ _ => rfl), Or.inr (fun _ _ _ => rfl)⟩
theorem Ok_tr {ms ms' : List Nat} {h h1 h2 : mh_T} (a : Ok ms h h1) (b : Ok ms' h1 h2) (hs : ∀ x ∈ ms', x ∈ ms) : Ok ms h h2 := by
  refine ⟨b.1, fun k hk hm => ?_, b.2.2.1.trans a.2.2.1, b.2.2.2.1.trans a.2.2.2.1, fun k j hj => (b.2.2.2.2.1 k j hj).trans (a.2.2.2.2.1 k j hj), ?_, fun z => b.2.2.2.2.2.2.1 (a.2.2.2.2.2.2.1 z), ?_, ?_⟩
  · have p := a.2.1 k hk hm
    have q := b.2.1 k hk (fun z => hm (hs k z))
    exact ⟨q.1.trans p.1, q.2.1.trans p.2.1, q.2.2.trans p.2.2⟩
  · rcases a.2.2.2.2.2.1 with p | p
    · exact Or.inl p
    · rcases b.2.2.2.2.2.1 with q | q
      · exact Or.inl (hs _ q)
      · exact Or.inr (q.trans p)
  · rcases a.2.2.2.2.2.2.2.1 with p | p
    · exact Or.inl p
    · rcases b.2.2.2.2.2.2.2.1 with q | q
      · exact Or.inl (hs _ q)
      · exact Or.inr (fun k hk => (q k hk).trans (p k hk))
  · rcases a.2.2.2.2.2.2.2.2 with p | p
    · exact Or.inl p
    · rcases b.2.2.2.2.2.2.2.2 with q | q
      · exact Or.inl (hs _ q)
      · exact Or.inr (fun k h1 h2 => (q k h1 h2).trans (p k h1 h2))
theorem Ok_w {ms : List Nat} {h0 h : mh_T} (a : Ok ms h0 h) {k j : Nat} {v : Int32} {lo hi : Int} (e : rgT k j = (lo, hi)) (f : R lo hi v) (hk : (k ∈ ms ∧ k < 62) ∨ (62 ≤ k ∧ 302 ∈ ms)) (hn : ¬ ((k = 0 ∧ (j = 10 ∨ j = 12 ∨ j = 13)) ∨ (k = 3 ∧ (j = 0 ∨ j = 1)) ∨ (k = 8 ∧ j = 0)) ∧ ¬ ((k = 11 ∧ (j = 2 ∨ j = 9 ∨ j = 10 ∨ j = 11 ∨ j = 14)) ∨ (k = 45 ∧ 49 ≤ j))) (hq : ¬ (k = 11 ∧ 24 ≤ j ∧ j ≤ 26) ∨ 301 ∈ ms := by first | decide | exact Or.inl (fun z => absurd z.1 (by decide)) | exact Or.inl (fun z => absurd z.2 (by decide)) | omega) : Ok ms h0 (wI h k j v) := by
  have S : ∀ k' j', (Pk k' j' ∨ (k' = 11 ∧ j' = 11)) → mI (wI h k j v) k' j' = mI h k' j' := fun k' j' hp => by
    unfold Pk at hp
    rw [mI_wI, if_neg (by omega)]
  refine ⟨GI_w a.1 e f, fun q h62 hq' => ?_, ?_, ?_, fun k' j' hp => ?_, ?_⟩
  · have hne : q ≠ k := fun z => by
      subst z
      rcases hk with z | z
      · exact hq' z.1
      · omega
    rw [← (wI_off (h := h) (k := k) (j := j) (v := v)).1 q hne]
    exact a.2.1 q h62 hq'
  · rw [S 0 10 (by decide)]
    exact a.2.2.1
  · rw [S 11 2 (by decide)]
    exact a.2.2.2.1
  · rw [S k' j' (Or.inl hp)]
    exact a.2.2.2.2.1 k' j' hp
  · unfold Tm
    rw [S 11 11 (by decide)]
    refine ⟨a.2.2.2.2.2.1, a.2.2.2.2.2.2.1, ?_, ?_⟩
    · rcases a.2.2.2.2.2.2.2.1 with p | p
      · exact Or.inl p
      · rcases hk with z | z
        · exact Or.inr (fun q h62 => by rw [← p q h62]; funext b; exact (mI_wI h k j q b v).trans (if_neg (fun y => by have := y.1; omega)))
        · exact Or.inl z.2
    · rcases a.2.2.2.2.2.2.2.2 with p | p
      · exact Or.inl p
      · rcases hq with z | z
        · exact Or.inr (fun b h1 h2 => by rw [← p b h1 h2, mI_wI, if_neg (fun y => z ⟨y.1.symm, by omega, by omega⟩)])
        · exact Or.inl z
theorem Ok_w11 {ms : List Nat} {h0 h : mh_T} (a : Ok ms h0 h) {v : Int32} (hv : ¬ v = 4) (hk : 11 ∈ ms ∧ 300 ∈ ms) : Ok ms h0 (wI h 11 11 v) := by
  have S : ∀ k' j', Pk k' j' → mI (wI h 11 11 v) k' j' = mI h k' j' := fun k' j' hp => by
    unfold Pk at hp
    rw [mI_wI, if_neg (by omega)]
  refine ⟨GI_w a.1 (k := 11) (j := 11) (lo := -2147483648) (hi := 2147483647) (by decide) ⟨Int32.le_toInt v, Int32.toInt_le v⟩, fun q h62 hq => ?_, ?_, ?_, fun k' j' hp => ?_, Or.inl hk.2, fun _ => ?_, ?_, ?_⟩
  · have hne : q ≠ 11 := fun z => by
      subst z
      exact hq hk.1
    rw [← (wI_off (h := h) (k := 11) (j := 11) (v := v)).1 q hne]
    exact a.2.1 q h62 hq
  · rw [S 0 10 (by decide)]
    exact a.2.2.1
  · rw [S 11 2 (by decide)]
    exact a.2.2.2.1
  · rw [S k' j' hp]
    exact a.2.2.2.2.1 k' j' hp
  · rw [mI_wI, if_pos ⟨rfl, rfl⟩]
    exact hv
  · rcases a.2.2.2.2.2.2.2.1 with p | p
    · exact Or.inl p
    · exact Or.inr (fun q h62 => by rw [← p q h62]; funext b; exact (mI_wI h 11 11 q b v).trans (if_neg (fun y => by have := y.1; omega)))
  · rcases a.2.2.2.2.2.2.2.2 with p | p
    · exact Or.inl p
    · exact Or.inr (fun b h1 h2 => by rw [← p b h1 h2, mI_wI, if_neg (fun y => by have := y.2; omega)])
theorem Ok_wL {ms : List Nat} {h0 h : mh_T} (a : Ok ms h0 h) {k j : Nat} {v : Int64} (hk : k ∈ ms ∨ 62 ≤ k) : Ok ms h0 (wL h k j v) := by
  refine ⟨GI_wL a.1, fun q h62 hq => ?_, a.2.2⟩
  have hne : q ≠ k := fun z => by
    subst z
    rcases hk with z | z
    · exact hq z
    · omega
  rw [← (wL_off (h := h) (k := k) (j := j) (v := v)).2.1 q hne]
  exact a.2.1 q h62 hq
theorem Ok_wRa {ms : List Nat} {h0 h : mh_T} (a : Ok ms h0 h) {j v : Nat} (hs : shp v = (20, 5, [])) (hk : 40 ∈ ms) : Ok ms h0 (wR h 40 j v) := by
  refine ⟨GI_wRa a.1 hs, fun q h62 hq => ?_, a.2.2⟩
  rw [← (wR_off (h := h) (k := 40) (j := j) (v := v)).2.2 q (fun z => by subst z; exact hq hk)]
  exact a.2.1 q h62 hq
theorem Ok_wRr {ms : List Nat} {h0 h : mh_T} (a : Ok ms h0 h) {j v : Nat} (hs : shp v = (20, 49, []) ∧ 116 ≤ v) (hk : 41 ∈ ms) : Ok ms h0 (wR h 41 j v) := by
  refine ⟨GI_wRr a.1 hs, fun q h62 hq => ?_, a.2.2⟩
  rw [← (wR_off (h := h) (k := 41) (j := j) (v := v)).2.2 q (fun z => by subst z; exact hq hk)]
  exact a.2.1 q h62 hq
theorem Ok_cp {ms : List Nat} {h0 h : mh_T} (a : Ok ms h0 h) {k0 sp k1 dp n : Nat} (e : ∀ b, dp ≤ b → b < dp + n → rgT k1 b = rgT k0 (sp + (b - dp)) ∨ rgT k1 b = rgF) (hk : (k1 ∈ ms ∧ k1 < 62) ∨ (62 ≤ k1 ∧ 302 ∈ ms)) (hn : k1 ≠ 0 ∧ k1 ≠ 11 ∧ k1 ≠ 45 ∧ k1 ≠ 3 ∧ k1 ≠ 8) : Ok ms h0 (cpI h k0 sp k1 dp n) := by
  have S : ∀ k' j', (Pk k' j' ∨ (k' = 11 ∧ j' = 11)) → mI (cpI h k0 sp k1 dp n) k' j' = mI h k' j' := fun k' j' hp => by
    unfold Pk at hp
    rw [mI_cpI, if_neg (by omega)]
  refine ⟨GI_cp a.1 e, fun q h62 hq => ?_, ?_, ?_, fun k' j' hp => ?_, ?_⟩
  · have hne : q ≠ k1 := fun z => by
      subst z
      rcases hk with z | z
      · exact hq z.1
      · omega
    have : (cpI h k0 sp k1 dp n).1 q = h.1 q := by
      funext b
      show (if q = k1 ∧ _ then _ else h.1 q b) = _
      rw [if_neg (fun z => hne z.1)]
    rw [this]
    exact a.2.1 q h62 hq
  · rw [S 0 10 (by decide)]
    exact a.2.2.1
  · rw [S 11 2 (by decide)]
    exact a.2.2.2.1
  · rw [S k' j' (Or.inl hp)]
    exact a.2.2.2.2.1 k' j' hp
  · unfold Tm
    rw [S 11 11 (by decide)]
    refine ⟨a.2.2.2.2.2.1, a.2.2.2.2.2.2.1, ?_, ?_⟩
    · rcases a.2.2.2.2.2.2.2.1 with p | p
      · exact Or.inl p
      · rcases hk with z | z
        · exact Or.inr (fun q h62 => by rw [← p q h62]; funext b; exact (mI_cpI h k0 sp k1 dp n q b).trans (if_neg (fun y => by have := y.1; omega)))
        · exact Or.inl z.2
    · rcases a.2.2.2.2.2.2.2.2 with p | p
      · exact Or.inl p
      · exact Or.inr (fun b h1 h2 => by rw [← p b h1 h2, mI_cpI, if_neg (fun y => hn.2.1 y.1.symm)])
theorem Fr_cp {ms : List Nat} {h0 h : mh_T} (a : Fr ms h0 h) {k0 sp k1 dp n : Nat} (hk : k1 ∈ ms) : Fr ms h0 (cpI h k0 sp k1 dp n) := by
  intro q h62 hq
  have hne : q ≠ k1 := fun z => by subst z; exact hq hk
  have : (cpI h k0 sp k1 dp n).1 q = h.1 q := by
    funext b
    show (if q = k1 ∧ _ then _ else h.1 q b) = _
    rw [if_neg (fun z => hne z.1)]
  rw [this]
  exact a q h62 hq
theorem Ok_rd {ms : List Nat} {h h' : mh_T} (a : Ok ms h h') {k j : Nat} {lo hi : Int} (hk : k < 62 ∧ k ∉ ms) (f : R lo hi (mI h k j)) : R lo hi (mI h' k j) := by
  have e : mI h' k j = mI h k j := congrFun (a.2.1 k hk.1 hk.2).1 j
  rw [e]
  exact f
theorem Ok_mono {ms ms' : List Nat} {h h' : mh_T} (a : Ok ms h h') (hs : ∀ x ∈ ms, x ∈ ms') : Ok ms' h h' := ⟨a.1, fun k hk hm => a.2.1 k hk (fun z => hm (hs k z)), a.2.2.1, a.2.2.2.1, a.2.2.2.2.1, a.2.2.2.2.2.1.imp (hs 300) (fun z => z), a.2.2.2.2.2.2.1, a.2.2.2.2.2.2.2.1.imp (hs 302) (fun z => z), a.2.2.2.2.2.2.2.2.imp (hs 301) (fun z => z)⟩
theorem R_full (x : Int32) : R (-2147483648) 2147483647 x := ⟨Int32.le_toInt x, Int32.toInt_le x⟩
theorem R_w {lo hi lo' hi' : Int} {x : Int32} (f : R lo hi x) (h : lo' ≤ lo ∧ hi ≤ hi') : R lo' hi' x := ⟨Int.le_trans h.1 f.1, Int.le_trans f.2 h.2⟩
theorem bm {z : Int} (h1 : -2147483648 ≤ z) (h2 : z ≤ 2147483647) : z.bmod (2 ^ 32) = z := Int.bmod_eq_of_le (by omega) (by omega)
theorem R_add {a b c d : Int} {x y : Int32} (f : R a b x) (k : R c d y) (lo hi : Int) (h : lo ≤ a + c ∧ b + d ≤ hi ∧ -2147483648 ≤ lo ∧ hi ≤ 2147483647) : R lo hi (x + y) := by
  obtain ⟨f1, f2⟩ := f
  obtain ⟨k1, k2⟩ := k
  unfold R
  rw [Int32.toInt_add, bm (by omega) (by omega)]
  omega
theorem R_sub {a b c d : Int} {x y : Int32} (f : R a b x) (k : R c d y) (lo hi : Int) (h : lo ≤ a - d ∧ b - c ≤ hi ∧ -2147483648 ≤ lo ∧ hi ≤ 2147483647) : R lo hi (x - y) := by
  obtain ⟨f1, f2⟩ := f
  obtain ⟨k1, k2⟩ := k
  unfold R
  rw [Int32.toInt_sub, bm (by omega) (by omega)]
  omega
theorem R_mul {a b c d : Int} {x y : Int32} (f : R a b x) (k : R c d y) (lo hi : Int) (h : 0 ≤ a ∧ 0 ≤ c ∧ lo ≤ a * c ∧ b * d ≤ hi ∧ -2147483648 ≤ lo ∧ hi ≤ 2147483647) : R lo hi (x * y) := by
  obtain ⟨f1, f2⟩ := f
  obtain ⟨k1, k2⟩ := k
  obtain ⟨h1, h2, h3, h4, h5, h6⟩ := h
  have m1 : a * c ≤ x.toInt * y.toInt := Int.mul_le_mul f1 k1 h2 (by omega)
  have m2 : x.toInt * y.toInt ≤ b * d := Int.mul_le_mul f2 k2 (by omega) (by omega)
  unfold R
  rw [Int32.toInt_mul, bm (by omega) (by omega)]
  omega
theorem lt_ti {x y : Int32} (h : x < y) : x.toInt < y.toInt := Int32.lt_iff_toInt_lt.mp h
theorem le_ti {x y : Int32} (h : x ≤ y) : x.toInt ≤ y.toInt := Int32.le_iff_toInt_le.mp h
theorem nle {x y : Int32} (h : ¬ x ≤ y) : y < x := Int32.not_le.mp h
theorem nlt {x y : Int32} (h : ¬ x < y) : y ≤ x := Int32.not_lt.mp h
theorem rf_lt_l {a b c d : Int} {x y : Int32} (f : R a b x) (k : R c d y) (h : x < y) (hi : Int) (hh : d ≤ hi + 1) : R a hi x := ⟨f.1, by have := lt_ti h; have := k.2; omega⟩
theorem rf_lt_r {a b c d : Int} {x y : Int32} (f : R a b x) (k : R c d y) (h : x < y) (lo : Int) (hh : lo ≤ a + 1) : R lo d y := ⟨by have := lt_ti h; have := f.1; omega, k.2⟩
theorem rf_le_l {a b c d : Int} {x y : Int32} (f : R a b x) (k : R c d y) (h : x ≤ y) (hi : Int) (hh : d ≤ hi) : R a hi x := ⟨f.1, by have := le_ti h; have := k.2; omega⟩
theorem rf_le_r {a b c d : Int} {x y : Int32} (f : R a b x) (k : R c d y) (h : x ≤ y) (lo : Int) (hh : lo ≤ a) : R lo d y := ⟨by have := le_ti h; have := f.1; omega, k.2⟩
theorem rf_eq {x y : Int32} {c d : Int} (k : R c d y) (h : x = y) : R c d x := by rw [h]; exact k
theorem rf_eq' {x y : Int32} {c d : Int} (k : R c d x) (h : x = y) : R c d y := by rw [← h]; exact k
theorem rf_ne_lo {x y : Int32} {a b : Int} (f : R a b x) (h : ¬ x = y) (hy : y.toInt = a) (lo : Int) (hl : lo = a + 1) : R lo b x := by
  refine ⟨?_, f.2⟩
  have : x.toInt ≠ y.toInt := fun z => h (Int32.toInt_inj.mp z)
  have := f.1
  omega
theorem rf_ne_hi {x y : Int32} {a b : Int} (f : R a b x) (h : ¬ x = y) (hy : y.toInt = b) (hi : Int) (hl : hi = b - 1) : R a hi x := by
  refine ⟨f.1, ?_⟩
  have : x.toInt ≠ y.toInt := fun z => h (Int32.toInt_inj.mp z)
  have := f.2
  omega
theorem vin {lo hi : Int} {x : Int32} {n : Nat} (f : R lo hi x) (h : 0 ≤ lo ∧ hi < n) : vp_in x n := vp_in_iff.mpr ⟨Int.le_trans h.1 f.1, Int.lt_of_le_of_lt f.2 h.2⟩
theorem ix_ge {lo hi : Int} {x : Int32} (f : R lo hi x) {m : Nat} (h : (m : Int) ≤ lo) : m ≤ x.toNatClampNeg := by
  have := f.1
  show m ≤ x.toInt.toNat
  omega
theorem ix_le {lo hi : Int} {x : Int32} (f : R lo hi x) {m : Nat} (h : hi ≤ (m : Int)) : x.toNatClampNeg ≤ m := by
  have := f.2
  show x.toInt.toNat ≤ m
  omega
theorem R_z {x : Int32} (f : R 0 1 x) : x = 0 ∨ x = 1 := by
  obtain ⟨f1, f2⟩ := f
  rcases (show x.toInt = 0 ∨ x.toInt = 1 by omega) with q | q
  · exact Or.inl (Int32.toInt_inj.mp (by rw [q]; decide))
  · exact Or.inr (Int32.toInt_inj.mp (by rw [q]; decide))
theorem R_and {c d : Int} {x y : Int32} (k : R c d y) (h : 0 ≤ c) : R 0 d (x &&& y) := by
  have k1 := k.1
  have k2 := k.2
  obtain ⟨n, hn, rfl⟩ := nI_of (x := y) (fun q => by have := lt_ti q; have z : (0 : Int32).toInt = 0 := by decide
                                                     omega)
  rw [nI_toInt hn] at k1 k2
  have e : (x &&& nI n).toBitVec.toNat ≤ n := by
    have h1 : (x &&& nI n).toBitVec = x.toBitVec &&& (nI n).toBitVec := rfl
    rw [h1, BitVec.toNat_and, pk_tn (by omega)]
    exact Nat.and_le_right
  have e2 : (x &&& nI n).toInt = ((x &&& nI n).toBitVec.toNat : Int) := by
    show (x &&& nI n).toBitVec.toInt = _
    rw [BitVec.toInt_eq_toNat_of_lt (by omega)]
  unfold R
  rw [e2]
  omega
theorem R_andl {c d : Int} {x y : Int32} (k : R c d x) (h : 0 ≤ c) : R 0 d (x &&& y) := by
  rw [show x &&& y = y &&& x from Int32.and_comm ..]
  exact R_and k h
theorem R_or {a b c d : Int} {x y : Int32} (f : R a b x) (k : R c d y) (n : Nat) (hi : Int) (h : 0 ≤ a ∧ 0 ≤ c ∧ b < 2 ^ n ∧ d < 2 ^ n ∧ n ≤ 31 ∧ hi = 2 ^ n - 1) : R 0 hi (x ||| y) := by
  have f1 := f.1
  have f2 := f.2
  have k1 := k.1
  have k2 := k.2
  obtain ⟨h1, h2, h3, h4, h5, h6⟩ := h
  have z0 : (0 : Int32).toInt = 0 := by decide
  obtain ⟨p, hp, rfl⟩ := nI_of (x := x) (fun q => by have := lt_ti q; omega)
  obtain ⟨m, hm, rfl⟩ := nI_of (x := y) (fun q => by have := lt_ti q; omega)
  rw [nI_toInt hp] at f1 f2
  rw [nI_toInt hm] at k1 k2
  have hp2 : p < 2 ^ n := by have : (p : Int) < 2 ^ n := by omega
                             exact_mod_cast this
  have hm2 : m < 2 ^ n := by have : (m : Int) < 2 ^ n := by omega
                             exact_mod_cast this
  have e1 : (nI p ||| nI m).toBitVec.toNat = p ||| m := by
    have h1 : (nI p ||| nI m).toBitVec = (nI p).toBitVec ||| (nI m).toBitVec := rfl
    rw [h1, BitVec.toNat_or, pk_tn (by omega), pk_tn (by omega)]
  have e3 : p ||| m < 2 ^ n := Nat.or_lt_two_pow hp2 hm2
  have e4 : 2 ^ n ≤ 2 ^ 31 := Nat.pow_le_pow_right (by decide) h5
  have e2 : (nI p ||| nI m).toInt = ((p ||| m : Nat) : Int) := by
    show (nI p ||| nI m).toBitVec.toInt = _
    rw [BitVec.toInt_eq_toNat_of_lt (by rw [e1]; omega), e1]
  unfold R
  rw [e2, h6]
  have e5 : ((p ||| m : Nat) : Int) < 2 ^ n := by exact_mod_cast e3
  omega
theorem shl_all : ∀ n, n ≤ 30 → ((1 : Int32) <<< (nI n &&& 31)).toInt = (2 : Int) ^ n := by decide
theorem R_shl {c d : Int} {y : Int32} (k : R c d y) (lo hi : Int) (p q : Nat) (h : c = p ∧ d = q ∧ q ≤ 30 ∧ lo = 2 ^ p ∧ hi = 2 ^ q) : R lo hi (1 <<< (y &&& 31)) := by
  have k1 := k.1
  have k2 := k.2
  obtain ⟨h1, h2, h3, h4, h5⟩ := h
  have z0 : (0 : Int32).toInt = 0 := by decide
  obtain ⟨m, hm, rfl⟩ := nI_of (x := y) (fun z => by have := lt_ti z; omega)
  rw [nI_toInt hm] at k1 k2
  unfold R
  rw [shl_all m (by omega), h4, h5]
  have a1 : (2 : Nat) ^ p ≤ 2 ^ m := Nat.pow_le_pow_right (by decide) (by omega)
  have a2 : (2 : Nat) ^ m ≤ 2 ^ q := Nat.pow_le_pow_right (by decide) (by omega)
  constructor
  · exact_mod_cast a1
  · exact_mod_cast a2
theorem R_div {a b : Int} {x y : Int32} (f : R a b x) (c lo hi : Int) (hy : y.toInt = c) (h : 0 ≤ a ∧ 0 < c ∧ lo ≤ a / c ∧ b / c ≤ hi ∧ b ≤ 2147483647) : R lo hi (x / y) := by
  have f1 := f.1
  have f2 := f.2
  obtain ⟨h1, h2, h3, h4, h5⟩ := h
  have e : x.toInt.tdiv y.toInt = x.toInt / c := by rw [hy, Int.tdiv_eq_ediv_of_nonneg (by omega)]
  have m1 : a / c ≤ x.toInt / c := Int.ediv_le_ediv h2 f1
  have m2 : x.toInt / c ≤ b / c := Int.ediv_le_ediv h2 f2
  have m3 : 0 ≤ x.toInt / c := Int.ediv_nonneg (by omega) (by omega)
  have m4 : x.toInt / c ≤ x.toInt := Int.ediv_le_self _ (by omega)
  unfold R
  rw [Int32.toInt_div, e, bm (by omega) (by omega)]
  omega
theorem R_ite {c : Prop} [Decidable c] {a b : Int} {x y : Int32} (f : R a b x) (k : R a b y) : R a b (if c then x else y) := by split <;> assumption
def gap (N : Int) (x : Int32) : Nat := (N - x.toInt).toNat
theorem gap_inc {N lo hi : Int} {x : Int32} (f : R lo hi x) (h : hi < N ∧ N ≤ 2147483647) : gap N (x + 1) + 1 = gap N x := by
  have f1 := f.1
  have f2 := f.2
  have := (R_full x).1
  unfold gap
  rw [Int32.toInt_add, show (1 : Int32).toInt = 1 from by decide, bm (by omega) (by omega)]
  omega
theorem gap_le {N lo hi : Int} {x : Int32} (f : R lo hi x) {m : Nat} (h : N - lo ≤ m) : gap N x ≤ m := by
  have := f.1
  unfold gap
  omega
