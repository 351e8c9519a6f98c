/-! what the acts of the reference do: keep, did -/
/-- a row is put behind those kept; the 21st puts the oldest out -/
def psh (u : Nat) (f : Nat → Nat → Int32) (x : Nat → Int32) (i : Nat) : Nat → Int32 := if u = 20 then (if i < 19 then f (i + 1) else if i = 19 then x else f i) else if i = u then x else f i
def ac5 (a b c d e : Int32) (j : Nat) : Int32 := if j = 0 then a else if j = 1 then b else if j = 2 then c else if j = 3 then d else e
set_option maxRecDepth 100000 in
set_option maxHeartbeats 4000000 in
theorem v_keep {g : gT} {h0 : mh_T} {P : mh_T → Prop} (l0 l1 : Nat) (l2 l4 l5 l6 l7 l8 : Int32) (u : Nat) (eu : l2.toInt = (u : Int)) (u20 : u ≤ 20) (sl0 : shp l0 = (20, 980, [])) (sl1 : shp l1 = (20, 100, [])) (k0 : l0 ≠ 0 ∧ l0 ≠ 11 ∧ l0 ≠ 3 ∧ l0 ≠ 8) (k1 : l1 ≠ 0 ∧ l1 ≠ 11 ∧ l1 ≠ 3 ∧ l1 ≠ 8) (k45 : l0 ≠ 45 ∧ l1 ≠ 45) (k01 : l0 ≠ l1 ∧ l0 ≠ 48 ∧ l1 ≠ 48 ∧ l0 < 62 ∧ l1 < 62) (r0 : ∀ j, rgT l0 j = rgRowM (j % 49)) (r1 : ∀ j, rgT l1 j = (-2147483648, 2147483647)) (hG0 : GI h0) (hp : ∀ h', Ok [l0, l1] h0 h' → (∀ i j, i < 20 → j < 49 → h'.1 l0 (49 * i + j) = psh u (fun i j => h0.1 l0 (49 * i + j)) (h0.1 48) i j) → (∀ i j, i < 20 → j < 5 → h'.1 l1 (5 * i + j) = psh u (fun i j => h0.1 l1 (5 * i + j)) (ac5 l4 l5 l6 l7 l8) i j) → P h') : MCv g yX11_keep uX11_keep [.ref l0, .ref l1, .int l2, .ref 48, .int l4, .int l5, .int l6, .int l7, .int l8] h0 P := by
  have m0 : l0 ∈ [l0, l1] := List.mem_cons_self
  have m1 : l1 ∈ [l0, l1] := List.mem_cons_of_mem _ List.mem_cons_self
  have n48 : 48 ∉ [l0, l1] := fun z => by
    rcases List.mem_cons.mp z with y | y
    · exact k01.2.1 y.symm
    · exact k01.2.2.1 (List.mem_singleton.mp y).symm
  have nk1 : ∀ j, ¬ (l1 = 11 ∧ 24 ≤ j ∧ j ≤ 26) ∨ 301 ∈ [l0, l1] := fun j => Or.inl (fun z => k1.2.1 z.1)
  have nk0 : ∀ j, ¬ (l0 = 11 ∧ 24 ≤ j ∧ j ≤ 26) ∨ 301 ∈ [l0, l1] := fun j => Or.inl (fun z => k0.2.1 z.1)
  have w1k : ∀ {h : mh_T} (j : Nat) (v : Int32), Ok [l0, l1] h0 h → Ok [l0, l1] h0 (wI h l1 j v) := fun j v o => Ok_w o (k := l1) (j := j) (v := v) (r1 j) (R_full _) (Or.inl ⟨m1, k01.2.2.2.2⟩) (nt_c k1 (fun z => absurd z k45.2)) (nk1 j)
  have fin : ∀ (x : Int32) (q : Nat) (h : mh_T), x.toInt = (q : Int) → q < 20 → Ok [l0, l1] h0 h → (∀ i j, i < 20 → j < 49 → (if i = q then h0.1 48 j else h.1 l0 (49 * i + j)) = psh u (fun i j => h0.1 l0 (49 * i + j)) (h0.1 48) i j) → (∀ i j, i < 20 → j < 5 → (if i = q then ac5 l4 l5 l6 l7 l8 j else h.1 l1 (5 * i + j)) = psh u (fun i j => h0.1 l1 (5 * i + j)) (ac5 l4 l5 l6 l7 l8) i j) → MCv g yX11_copy uX11_copy [.ref 48, .int 0, .ref l0, .int (49 * x), .int 49] h (fun h2 => (vp_in (5 * x) 100) ∧ ((vp_in ((5 * x) + 1) 100) ∧ ((vp_in ((5 * x) + 2) 100) ∧ ((vp_in ((5 * x) + 3) 100) ∧ ((vp_in ((5 * x) + 4) 100) ∧ (P (wI (wI (wI (wI (wI h2 l1 (5 * x).toNatClampNeg l4) l1 ((5 * x) + 1).toNatClampNeg l5) l1 ((5 * x) + 2).toNatClampNeg l6) l1 ((5 * x) + 3).toNatClampNeg l7) l1 ((5 * x) + 4).toNatClampNeg l8))))))) := by
    intro x q h hq q20 ok tA tB
    have eq : (49 * x).toInt = 49 * q := by rw [Int32.toInt_mul, show (49 : Int32).toInt = 49 from by decide, bm (by omega) (by omega), hq]
    have e5 : (5 * x).toInt = ((5 * q : Nat) : Int) := by rw [Int32.toInt_mul, show (5 : Int32).toInt = 5 from by decide, bm (by omega) (by omega), hq]; omega
    have e51 := i_off e5 1 1 (by decide) (by omega)
    have e52 := i_off e5 2 2 (by decide) (by omega)
    have e53 := i_off e5 3 3 (by decide) (by omega)
    have e54 := i_off e5 4 4 (by decide) (by omega)
    have e48 : h.1 48 = h0.1 48 := OkC ok ⟨by decide, n48⟩
    refine t_copy (hq45 := fun z => absurd z k45.1) 48 49 0 l0 980 (49 * x) rfl sl0 (fun z => k01.2.1 z.symm) (by decide) 0 q (by decide) eq (by decide) (by omega) (by decide) (by omega) rr48 (fun j hj => ?_) ⟨k0.1, k0.2.1, k0.2.2.1, k0.2.2.2, k01.2.2.2.1⟩ ok.1 (fun h2 k2 cp => ?_)
    · rw [r0, show (49 * q + j) % 49 = j by omega]
    · have o2 : Ok [l0, l1] h0 h2 := Ok_tr ok k2 (fun y z => by rw [List.mem_singleton.mp z]; exact m0)
      have c1 : h2.1 l1 = h.1 l1 := OkC k2 ⟨k01.2.2.2.2, fun z => k01.1 (List.mem_singleton.mp z).symm⟩
      rw [i_nat e5, i_nat e51, i_nat e52, i_nat e53, i_nat e54]
      refine ⟨i_vp e5 (by omega), i_vp e51 (by omega), i_vp e52 (by omega), i_vp e53 (by omega), i_vp e54 (by omega), hp _ (w1k _ _ (w1k _ _ (w1k _ _ (w1k _ _ (w1k _ _ o2))))) (fun i j hi hj => ?_) (fun i j hi hj => ?_)⟩
      · rw [wI_o k01.1, wI_o k01.1, wI_o k01.1, wI_o k01.1, wI_o k01.1, ← tA i j hi hj]
        by_cases e : i = q
        · rw [if_pos e, e, cp.1 j hj, e48, Nat.mul_zero, Nat.zero_add]
        · rw [if_neg e]
          exact cp.2 _ (by omega)
      · rw [← tB i j hi hj, wI_i, wI_i, wI_i, wI_i, wI_i, c1]
        by_cases e : i = q
        · rw [if_pos e]
          subst e
          unfold ac5
          have : j = 0 ∨ j = 1 ∨ j = 2 ∨ j = 3 ∨ j = 4 := by omega
          rcases this with z | z | z | z | z <;> subst z
          · rw [if_neg (by omega), if_neg (by omega), if_neg (by omega), if_neg (by omega), if_pos (by omega), if_pos rfl]
          · rw [if_neg (by omega), if_neg (by omega), if_neg (by omega), if_pos (by omega), if_neg (by omega), if_pos rfl]
          · rw [if_neg (by omega), if_neg (by omega), if_pos (by omega), if_neg (by omega), if_neg (by omega), if_pos rfl]
          · rw [if_neg (by omega), if_pos (by omega), if_neg (by omega), if_neg (by omega), if_neg (by omega), if_pos rfl]
          · rw [if_pos (by omega), if_neg (by omega), if_neg (by omega), if_neg (by omega), if_neg (by omega)]
        · rw [if_neg e, if_neg (by omega), if_neg (by omega), if_neg (by omega), if_neg (by omega), if_neg (by omega)]
  have z20 : (20 : Int32).toInt = 20 := by decide
  have z95 : (95 : Int32).toInt = 95 := by decide
  have z931 : (931 : Int32).toInt = 931 := by decide
  have L40 : u = 20 → ∀ (n : Nat) (l10 : Int32) (k : Nat) (h : mh_T), Ok [l0, l1] h0 h → l10.toInt = (k : Int) → k ≤ 95 → (∀ j, h.1 l0 j = if j < 931 then h0.1 l0 (j + 49) else h0.1 l0 j) → (∀ j, h.1 l1 j = if j < k then h0.1 l1 (j + 5) else h0.1 l1 j) → 95 - k < n → ME g uX11_keep 40 [.ref l0, .ref l1, .int l2, .ref 48, .int l4, .int l5, .int l6, .int l7, .int l8, .int 20, .int l10] [] h (qV P) := by
    intro hu n
    induction n with
    | zero => intro l10 k h _ _ _ _ _ hn; exact absurd hn (Nat.not_lt_zero _)
    | succ n ih =>
      intro l10 k h ok hk hk2 hf hf1 hn
      refine r_X11_keep_40 l0 980 l1 100 l2 48 49 l4 l5 l6 l7 l8 20 l10 sl0 sl1 rfl ⟨fun c => ?_, fun c => ?_⟩
      · have c := le_ti c
        have : k = 95 := by omega
        subst this
        refine fin (20 + (-1)) 19 h (by decide) (by decide) ok (fun i j hi hj => ?_) (fun i j hi hj => ?_)
        · unfold psh
          rw [if_pos hu]
          by_cases e : i = 19
          · rw [if_pos e, if_neg (by omega), if_pos e]
          · rw [if_neg e, if_pos (by omega), hf, if_pos (by omega), show 49 * i + j + 49 = 49 * (i + 1) + j by omega]
        · unfold psh
          rw [if_pos hu]
          by_cases e : i = 19
          · rw [if_pos e, if_neg (by omega), if_pos e]
          · rw [if_neg e, if_pos (by omega), hf1, if_pos (by omega), show 5 * i + j + 5 = 5 * (i + 1) + j by omega]
      · have c := lt_ti (nle c)
        have s1 : (l10 + 5).toInt = ((k + 5 : Nat) : Int) := by rw [i_add hk (show (5 : Int32).toInt = 5 from by decide) (by omega)]; omega
        refine ⟨i_vp s1 (by omega), i_vp hk (by omega), ?_⟩
        rw [i_nat s1, i_nat hk]
        refine ih (l10 + 1) (k + 1) _ (w1k _ _ ok) (i_inc hk (by omega)) (by omega) (fun j => ?_) (fun j => ?_) (by omega)
        · rw [wI_o k01.1]
          exact hf j
        · rw [wI_i]
          by_cases e : j = k
          · rw [if_pos e, if_pos (by omega), e]
            show h.1 l1 (k + 5) = _
            rw [hf1, if_neg (by omega)]
          · rw [if_neg e, hf1]
            by_cases e2 : j < k
            · rw [if_pos e2, if_pos (by omega)]
            · rw [if_neg e2, if_neg (by omega)]
  have L12 : u = 20 → ∀ (n : Nat) (l10 : Int32) (k : Nat) (h : mh_T), Ok [l0, l1] h0 h → l10.toInt = (k : Int) → k ≤ 931 → (∀ j, h.1 l0 j = if j < k then h0.1 l0 (j + 49) else h0.1 l0 j) → h.1 l1 = h0.1 l1 → 931 - k < n → ME g uX11_keep 12 [.ref l0, .ref l1, .int l2, .ref 48, .int l4, .int l5, .int l6, .int l7, .int l8, .int 20, .int l10] [] h (qV P) := by
    intro hu n
    induction n with
    | zero => intro l10 k h _ _ _ _ _ hn; exact absurd hn (Nat.not_lt_zero _)
    | succ n ih =>
      intro l10 k h ok hk hk2 hf hl1 hn
      refine r_X11_keep_12 l0 980 l1 100 l2 48 49 l4 l5 l6 l7 l8 20 l10 sl0 sl1 rfl ⟨fun c => ?_, fun c => ?_⟩
      · have c := le_ti c
        have : k = 931 := by omega
        subst this
        exact L40 hu 96 0 0 h ok (by decide) (Nat.zero_le _) hf (fun j => by rw [if_neg (Nat.not_lt_zero _), hl1]) (by omega)
      · have c := lt_ti (nle c)
        have s1 : (l10 + 49).toInt = ((k + 49 : Nat) : Int) := by rw [i_add hk (show (49 : Int32).toInt = 49 from by decide) (by omega)]; omega
        have fv : R (rgRowM (k % 49)).1 (rgRowM (k % 49)).2 (mI h l0 (k + 49)) := by
          have := ok.1.1 l0 (k + 49)
          rw [r0, show (k + 49) % 49 = k % 49 by omega] at this
          exact this
        refine ⟨i_vp s1 (by omega), i_vp hk (by omega), ?_⟩
        rw [i_nat s1, i_nat hk]
        refine ih (l10 + 1) (k + 1) _ (Ok_w ok (k := l0) (j := k) (v := mI h l0 (k + 49)) (r0 _) fv (Or.inl ⟨m0, k01.2.2.2.1⟩) (nt_c k0 (fun z => absurd z k45.1)) (nk0 k)) (i_inc hk (by omega)) (by omega) (fun j => ?_) ?_ (by omega)
        · rw [wI_i]
          by_cases e : j = k
          · rw [if_pos e, if_pos (by omega), e]
            show h.1 l0 (k + 49) = _
            rw [hf, if_neg (by omega)]
          · rw [if_neg e, hf]
            by_cases e2 : j < k
            · rw [if_pos e2, if_pos (by omega)]
            · rw [if_neg e2, if_neg (by omega)]
        · rw [wI_o (fun z => k01.1 z.symm)]
          exact hl1
  refine e_X11_keep l0 980 l1 100 l2 48 49 l4 l5 l6 l7 l8 sl0 sl1 rfl ⟨fun c => ?_, fun c => ?_⟩
  · have n2 : u ≠ 20 := fun z => c (Int32.toInt_inj.mp (by rw [eu, z, z20]; rfl))
    refine fin l2 u h0 eu (by omega) (Ok_rf hG0) (fun i j hi hj => ?_) (fun i j hi hj => ?_)
    · unfold psh
      rw [if_neg n2]
      by_cases e : i = u
      · rw [if_pos e, if_pos e]
      · rw [if_neg e, if_neg e]
    · unfold psh
      rw [if_neg n2]
      by_cases e : i = u
      · rw [if_pos e, if_pos e]
      · rw [if_neg e, if_neg e]
  · subst c
    have hu : u = 20 := by omega
    exact L12 hu 932 0 0 h0 (Ok_rf hG0) (by decide) (Nat.zero_le _) (fun j => by rw [if_neg (Nat.not_lt_zero _)]) rfl (by omega)
/-- the kept rows keep their numbers -/
theorem TQs_psh {f f' : Nat → Int32} {x : Nat → Int32} {u : Nat} (t : TQs f) (tx : TQ x 0) (h : ∀ i j, i < 20 → j < 49 → f' (49 * i + j) = psh u (fun i j => f (49 * i + j)) x i j) : TQs f' := by
  intro p hp
  by_cases hu : u = 20
  · by_cases e : p < 19
    · refine TQ_cp (t (p + 1) (by omega)) (fun j hj => ?_)
      rw [h p j hp hj]
      unfold psh
      rw [if_pos hu, if_pos e]
    · refine TQ_cp tx (fun j hj => ?_)
      rw [h p j hp hj, Nat.zero_add]
      unfold psh
      rw [if_pos hu, if_neg e, if_pos (by omega)]
  · by_cases e : p = u
    · refine TQ_cp tx (fun j hj => ?_)
      rw [h p j hp hj, Nat.zero_add]
      unfold psh
      rw [if_neg hu, if_pos e]
    · refine TQ_cp (t p hp) (fun j hj => ?_)
      rw [h p j hp hj]
      unfold psh
      rw [if_neg hu, if_neg e]
/-- did: the table as it was is kept, with the act -/
def DD (u : Nat) (a : Nat → Int32) (h h' : mh_T) : Prop := (mI h' 11 24).toInt = (if u = 20 then 20 else (u : Int) + 1) ∧ mI h' 11 25 = 0 ∧ mI h' 11 26 = mI h 11 26 ∧ (∀ i j, i < 20 → j < 49 → h'.1 49 (49 * i + j) = psh u (fun i j => h.1 49 (49 * i + j)) (h.1 48) i j) ∧ (∀ i j, i < 20 → j < 5 → h'.1 52 (5 * i + j) = psh u (fun i j => h.1 52 (5 * i + j)) a i j)
theorem v_did {g : gT} {h : mh_T} {P : Int32 → mh_T → Prop} (l1 l2 l3 l4 l5 : Int32) (u : Nat) (eu : (mI h 11 24).toInt = (u : Int)) (hG : GI h) (t : TVs h) (hp : ∀ h', Ok [301, 11, 49, 52] h h' → (∀ j, j < 24 → mI h' 11 j = mI h 11 j) → TVs h' → DD u (ac5 l1 l2 l3 l4 l5) h h' → P 1 h') : MCi g yX11_did uX11_did [.ref 11, .int l1, .int l2, .int l3, .int l4, .int l5] h P := by
  have f24 : R 0 20 (mI h 11 24) := GI_rd hG 11 24 rfl
  have u20 : u ≤ 20 := by have := f24.2; omega
  refine e_X11_did l1 l2 l3 l4 l5 (v_keep 49 52 _ l1 l2 l3 l4 l5 u eu u20 rfl rfl (by decide) (by decide) (by decide) (by decide) (fun _ => rfl) (fun _ => rfl) hG (fun h1 k1 hr ha => ?_))
  have e11 : ∀ j, mI h1 11 j = mI h 11 j := fun j => congrFun (OkC k1 (k := 11) (by decide)) j
  have t1 : TVs h1 := by
    have e45 := OkC k1 (k := 45) (by decide)
    refine ⟨?_, ?_, TQs_psh t.2.2.1 t.2.1 hr, ?_, ?_, ?_⟩
    · rw [e45]; exact t.1
    · rw [OkC k1 (k := 48) (by decide)]; exact t.2.1
    · rw [OkC k1 (k := 50) (by decide)]; exact t.2.2.2.1
    · rw [OkC k1 (k := 51) (by decide)]; exact t.2.2.2.2.1
    · rw [e45]; exact t.2.2.2.2.2
  have o1 : Ok [301, 11, 49, 52] h h1 := Ok_mono k1 (by decide)
  have fin : ∀ v : Int32, R 0 20 v → v.toInt = (if u = 20 then 20 else (u : Int) + 1) → P 1 (wI (wI h1 11 24 v) 11 25 0) := fun v fv ev => by
    refine hp _ (Ok_w (Ok_w o1 (k := 11) (j := 24) (v := v) (lo := 0) (hi := 20) rfl fv (by decide) (by decide)) (k := 11) (j := 25) (v := 0) (lo := 0) (hi := 20) rfl ⟨by decide, by decide⟩ (by decide) (by decide)) (fun j hj => ?_) (TVs_11 (TVs_11 t1)) ⟨?_, ?_, ?_, fun i j hi hj => ?_, fun i j hi hj => ?_⟩
    · rw [mI_wI, if_neg (by omega), mI_wI, if_neg (by omega)]; exact e11 j
    · rw [mI_wI, if_neg (by decide), mI_wI, if_pos ⟨rfl, rfl⟩]; exact ev
    · rw [mI_wI, if_pos ⟨rfl, rfl⟩]
    · rw [mI_wI, if_neg (by decide), mI_wI, if_neg (by decide)]; exact e11 26
    · rw [wI_o (by decide), wI_o (by decide)]; exact hr i j hi hj
    · rw [wI_o (by decide), wI_o (by decide)]; exact ha i j hi hj
  rw [e11 24]
  refine ⟨fun ne => ?_, fun e => ?_⟩
  · have n20 : ¬ u = 20 := fun z => ne (Int32.toInt_inj.mp (by rw [eu, z]; rfl))
    have e1 : (mI h 11 24 + 1).toInt = (u : Int) + 1 := by rw [i_inc eu (by omega)]; omega
    refine fin _ ⟨by omega, by omega⟩ ?_
    rw [if_neg n20, e1]
  · have n20 : u = 20 := by rw [e] at eu; have : (20 : Int32).toInt = 20 := by decide
                            omega
    exact fin 20 ⟨by decide, by decide⟩ (by rw [if_pos n20]; rfl)
