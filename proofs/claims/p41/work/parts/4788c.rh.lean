/-! the relation of the tables and of the histories -/
def RHx (u r m : Nat) (h : mh_T) : Prop := (u + r ≤ 20 ∧ m ≤ 4) ∧ ((mI h 10 0).toInt = (u : Int) ∧ (mI h 10 1).toInt = (u : Int) + r ∧ (mI h 10 2).toInt = (m : Int)) ∧ ((mI h 11 24).toInt = (u : Int) ∧ (mI h 11 25).toInt = (r : Int) ∧ (mI h 11 26).toInt = (m : Int)) ∧ (∀ i, i < u → Rq (hrw h i) (fun j => h.1 49 (49 * i + j)) ∧ ∀ j, j < 5 → hac h i j = h.1 52 (5 * i + j)) ∧ (∀ k, k < r → Rq (hrw h (u + 1 + k)) (fun j => h.1 50 (49 * (r - 1 - k) + j)) ∧ ∀ j, j < 5 → hac h (u + k) j = h.1 53 (5 * (r - 1 - k) + j)) ∧ (0 < r → Rq (hrw h u) (h.1 45)) ∧ ∀ i, i < m → Rq (h.1 (137 + i)) (fun j => h.1 51 (49 * i + j))
def RH (h : mh_T) : Prop := Rc (tC h) (h.1 27) (h.1 45) (h.1 47) ∧ RI h ∧ (mI h 3 1 = mI h 45 50 ∧ NB h) ∧ ∃ u r m, RHx u r m h
/-- what a call of the reference leaves of the class's -/
def LC (h h' : mh_T) : Prop := tC h' = tC h ∧ h'.1 27 = h.1 27 ∧ h'.1 10 = h.1 10 ∧ h'.2.2 40 = h.2.2 40 ∧ h'.2.2 41 = h.2.2 41 ∧ H62 h h' ∧ mI h' 3 1 = mI h 3 1
/-- what a call of the class leaves of the reference's -/
def LR (h h' : mh_T) : Prop := h'.1 45 = h.1 45 ∧ h'.1 47 = h.1 47 ∧ h'.1 49 = h.1 49 ∧ h'.1 50 = h.1 50 ∧ h'.1 51 = h.1 51 ∧ h'.1 52 = h.1 52 ∧ h'.1 53 = h.1 53 ∧ mI h' 11 14 = mI h 11 14 ∧ ∀ j, 24 ≤ j → j ≤ 26 → mI h' 11 j = mI h 11 j
theorem LC_rf (h : mh_T) : LC h h := ⟨rfl, rfl, rfl, rfl, rfl, fun _ _ => rfl, rfl⟩
theorem LR_rf (h : mh_T) : LR h h := ⟨rfl, rfl, rfl, rfl, rfl, rfl, rfl, rfl, fun _ _ _ => rfl⟩
theorem LC_ok {ms : List Nat} {h h' : mh_T} (ok : Ok ms h h') (hm : 3 ∉ ms ∧ 24 ∉ ms ∧ 25 ∉ ms ∧ 26 ∉ ms ∧ 27 ∉ ms ∧ 10 ∉ ms ∧ 40 ∉ ms ∧ 41 ∉ ms ∧ 302 ∉ ms) : LC h h' := ⟨tC_ok ok ⟨hm.1, hm.2.1, hm.2.2.1, hm.2.2.2.1⟩, OkC ok ⟨by decide, hm.2.2.2.2.1⟩, OkC ok ⟨by decide, hm.2.2.2.2.2.1⟩, (ok.2.1 40 (by decide) hm.2.2.2.2.2.2.1).2.2, (ok.2.1 41 (by decide) hm.2.2.2.2.2.2.2.1).2.2, Ok_62 ok hm.2.2.2.2.2.2.2.2, ok.2.2.2.2.1 3 1 (by decide)⟩
theorem LR_ok {ms : List Nat} {h h' : mh_T} (ok : Ok ms h h') (hm : 45 ∉ ms ∧ 47 ∉ ms ∧ 49 ∉ ms ∧ 50 ∉ ms ∧ 51 ∉ ms ∧ 52 ∉ ms ∧ 53 ∉ ms ∧ 301 ∉ ms) : LR h h' := ⟨OkC ok ⟨by decide, hm.1⟩, OkC ok ⟨by decide, hm.2.1⟩, OkC ok ⟨by decide, hm.2.2.1⟩, OkC ok ⟨by decide, hm.2.2.2.1⟩, OkC ok ⟨by decide, hm.2.2.2.2.1⟩, OkC ok ⟨by decide, hm.2.2.2.2.2.1⟩, OkC ok ⟨by decide, hm.2.2.2.2.2.2.1⟩, ok.2.2.2.2.1 11 14 (by decide), Ok_24 ok hm.2.2.2.2.2.2.2⟩
theorem LC_r {h h' : mh_T} (l : LC h h') (ri : RI h) : ∀ i, i < 21 → hrw h' i = hrw h i := fun i hi => by
  have := ri.1 i hi
  show h'.1 (mR h' 41 i) = _
  rw [show mR h' 41 i = mR h 41 i from congrFun l.2.2.2.2.1 i, l.2.2.2.2.2.1 _ (by omega)]
theorem LC_a {h h' : mh_T} (l : LC h h') (hG : GI h) : ∀ i, i < 20 → hac h' i = hac h i := fun i hi => by
  have := sh5 (hG.2.1 i hi)
  show h'.1 (mR h' 40 i) = _
  rw [show mR h' 40 i = mR h 40 i from congrFun l.2.2.2.1 i, l.2.2.2.2.2.1 _ (by omega)]
theorem LC_i {h h' : mh_T} (l : LC h h') (ri : RI h) : RI h' := RI_cg l.2.2.2.1 l.2.2.2.2.1 ri
theorem NB_lr {h h' : mh_T} (l : LR h h') (b : NB h) : NB h' := by
  obtain ⟨e45, -, -, -, -, -, -, e14, e24⟩ := l
  intro z
  obtain ⟨b1, b2, b3, b4, b5⟩ := b (by rw [← e14]; exact z)
  refine ⟨?_, ?_, ?_, ?_, ?_⟩
  · show h'.1 45 50 = 0
    rw [e45]; exact b1
  · show h'.1 45 0 = 0
    rw [e45]; exact b2
  · rw [e24 24 (by decide) (by decide)]; exact b3
  · rw [e24 25 (by decide) (by decide)]; exact b4
  · rw [e24 26 (by decide) (by decide)]; exact b5
/-- a call that asks only -/
theorem RH_s {h h' : mh_T} (hG : GI h) (c : LC h h') (l : LR h h') (r : RH h) : RH h' := by
  obtain ⟨rc, ri, ⟨e31, nb⟩, u, q, m, ⟨b1, b2⟩, c1, c2, x1, x2, x3, x4⟩ := r
  have rr := LC_r c ri
  have ra := LC_a c hG
  have n := NB_lr l nb
  have i := LC_i c ri
  obtain ⟨k1, k2, k3, k4, k5, k6, k7⟩ := c
  obtain ⟨e45, e47, e49, e50, e51, e52, e53, e14, e24⟩ := l
  refine ⟨by rw [k1, k2, e45, e47]; exact rc, i, ⟨?_, n⟩, u, q, m, ⟨b1, b2⟩, ?_, ?_, fun i hi => ?_, fun k hk => ?_, fun hq => ?_, fun i hi => ?_⟩
  · rw [k7, show mI h' 45 50 = mI h 45 50 from congrFun e45 50]; exact e31
  · rw [show mI h' 10 0 = mI h 10 0 from congrFun k3 0, show mI h' 10 1 = mI h 10 1 from congrFun k3 1, show mI h' 10 2 = mI h 10 2 from congrFun k3 2]; exact c1
  · rw [e24 24 (by decide) (by decide), e24 25 (by decide) (by decide), e24 26 (by decide) (by decide)]; exact c2
  · rw [rr i (by omega), ra i (by omega), e49, e52]; exact x1 i hi
  · rw [rr (u + 1 + k) (by omega), ra (u + k) (by omega), e50, e53]; exact x2 k hk
  · rw [rr u (by omega), e45]; exact x3 hq
  · rw [k6 _ (by omega), e51]; exact x4 i hi
theorem Rq_psh {u i : Nat} {A B : Nat → Nat → Int32} {x y : Nat → Int32} (hu : u ≤ 20) (hi : i < (if u = 20 then 20 else u + 1)) (hA : ∀ i, i < u → Rq (A i) (B i)) (hx : Rq x y) : Rq (psh u A x i) (psh u B y i) := by
  unfold psh
  by_cases e : u = 20
  · rw [if_pos e] at hi
    rw [if_pos e, if_pos e]
    by_cases q : i < 19
    · rw [if_pos q, if_pos q]; exact hA _ (by omega)
    · rw [if_neg q, if_neg q, if_pos (by omega), if_pos (by omega)]; exact hx
  · rw [if_neg e] at hi
    rw [if_neg e, if_neg e]
    by_cases q : i = u
    · rw [if_pos q, if_pos q]; exact hx
    · rw [if_neg q, if_neg q]; exact hA _ (by omega)
theorem ac_psh {u i j : Nat} {A B : Nat → Nat → Int32} {x : Nat → Int32} (hu : u ≤ 20) (hi : i < (if u = 20 then 20 else u + 1)) (hA : ∀ i, i < u → A i j = B i j) : psh u A x i j = psh u B x i j := by
  unfold psh
  by_cases e : u = 20
  · rw [if_pos e] at hi
    rw [if_pos e, if_pos e]
    by_cases q : i < 19
    · rw [if_pos q, if_pos q]; exact hA _ (by omega)
    · rw [if_neg q, if_neg q, if_pos (by omega), if_pos (by omega)]
  · rw [if_neg e] at hi
    rw [if_neg e, if_neg e]
    by_cases q : i = u
    · rw [if_pos q, if_pos q]
    · rw [if_neg q, if_neg q]; exact hA _ (by omega)
/-- an act, done on both sides -/
theorem RH_act {u : Nat} {a : Nat → Int32} {h h1 h2 : mh_T} (r : RH h) (eu : (mI h 10 0).toInt = (u : Int)) (hB : ¬ mI h 11 14 = 0) (k1 : Ok msK h h1) (hc : HC u a h h1) (k2 : Ok msR h1 h2) (hd : HD u a h1 h2) (rc : Rc (tC h1) (h1.1 27) (h2.1 45) (h2.1 47)) : RH h2 := by
  obtain ⟨rc0, ri, ⟨e31, nb⟩, u', q, m, ⟨b1, b2⟩, c1, c2, x1, x2, x3, x4⟩ := r
  have : u' = u := by have := c1.1; omega
  subst this
  have lr := LR_ok k1 (by decide)
  have lc := LC_ok k2 (by decide)
  obtain ⟨a1, a2, a3, a4, a5, a6, a7⟩ := hc
  obtain ⟨d1, d2, d3, d4, d5⟩ := hd
  have rr := LC_r lc a4
  have ra := LC_a lc k1.1
  have iN := LC_i lc a4
  obtain ⟨y1, y2, y3, y4, y5, y6, y7⟩ := lc
  obtain ⟨e45, e47, e49, e50, e51, e52, e53, e14, e24⟩ := lr
  have e10 : ∀ j, mI h2 10 j = mI h1 10 j := fun j => congrFun y3 j
  have p31 : mI h1 3 1 = mI h 3 1 := k1.2.2.2.2.1 3 1 (by decide)
  have p45 : mI h2 45 50 = mI h1 45 50 := k2.2.2.2.2.1 45 50 (by decide)
  have p14 : mI h2 11 14 = mI h1 11 14 := k2.2.2.2.2.1 11 14 (by decide)
  have z0 : (0 : Int32).toInt = 0 := by decide
  have u20 : u' ≤ 20 := by omega
  refine ⟨by rw [y1, y2]; exact rc, iN, ⟨?_, fun z => absurd (by rw [← e14, ← p14]; exact z) hB⟩, (if u' = 20 then 20 else u' + 1), 0, m, ⟨by split <;> omega, b2⟩, ⟨?_, ?_, ?_⟩, ⟨?_, ?_, ?_⟩, fun i hi => ?_, fun k hk => absurd hk (Nat.not_lt_zero _), fun hq => absurd hq (Nat.lt_irrefl _), fun i hi => ?_⟩
  · rw [y7, p31, p45, show mI h1 45 50 = mI h 45 50 from congrFun e45 50]; exact e31
  · rw [e10, a1]; split <;> rfl
  · rw [e10, a2, a1]; split <;> rfl
  · rw [e10, a3]; exact c1.2.2
  · rw [d1]; split <;> rfl
  · rw [d2]; rfl
  · rw [d3, e24 26 (by decide) (by decide)]; exact c2.2.2
  · have i20 : i < 20 := by
      by_cases e : u' = 20
      · rw [if_pos e] at hi; exact hi
      · rw [if_neg e] at hi; omega
    rw [rr i (by omega), ra i i20]
    refine ⟨Rq_cg (Rq_psh (u := u') (i := i) (A := hrw h) (B := fun i j => h.1 49 (49 * i + j)) (x := tC h) (y := h.1 45) u20 hi (fun i hi => (x1 i hi).1) rc0.1) (fun j hj => a5 i j i20 hj) (fun j hj => ?_), fun j hj => ?_⟩
    · show h2.1 49 (49 * i + j) = _
      rw [d4 i j i20 hj]
      exact psh_cg (n := 49) (fun i j _ => by rw [e49]) (fun j _ => by rw [e45]) hj
    · rw [a6 i j i20 hj, d5 i j i20 hj, e52]
      exact ac_psh (A := hac h) (B := fun i j => h.1 52 (5 * i + j)) u20 hi (fun i hi => (x1 i hi).2 j hj)
  · rw [y6 _ (by omega), a7 _ (by omega), OkC k2 (k := 51) (by decide), e51]
    exact x4 i hi
theorem RH_stake {l1 l2 l3 : Int32} {h h1 h2 : mh_T} (hG : GI h) (r : RH h) (k1 : Ok [0, 27] h h1) (e1 : ∀ j, h1.1 27 j = if j = 4 * l1.toInt.toNat + l2.toInt.toNat then l3 else h.1 27 j) (k2 : Ok [300, 11, 47] h1 h2) (e2 : ∀ j, h2.1 47 j = if j = 4 * l1.toInt.toNat + l2.toInt.toNat then l3 else h1.1 47 j) : RH h2 := by
  obtain ⟨rc, ri, ⟨e31, nb⟩, u, q, m, ⟨b1, b2⟩, c1, c2, x1, x2, x3, x4⟩ := r
  have k10 : ∀ j, mI h2 10 j = mI h 10 j := fun j => by rw [show mI h2 10 j = mI h1 10 j from congrFun (OkC k2 (k := 10) (by decide)) j]; exact congrFun (OkC k1 (k := 10) (by decide)) j
  have kk : ∀ k, k < 62 → k ∉ [0, 27] → k ∉ [300, 11, 47] → h2.1 k = h.1 k := fun k hk h1 h2 => by rw [OkC k2 ⟨hk, h2⟩, OkC k1 ⟨hk, h1⟩]
  have k24 : ∀ j, 24 ≤ j → j ≤ 26 → mI h2 11 j = mI h 11 j := fun j p1 p2 => by rw [Ok_24 k2 (by decide) j p1 p2, Ok_24 k1 (by decide) j p1 p2]
  have e40 : h2.2.2 40 = h.2.2 40 := by rw [(k2.2.1 40 (by decide) (by decide)).2.2, (k1.2.1 40 (by decide) (by decide)).2.2]
  have e41 : h2.2.2 41 = h.2.2 41 := by rw [(k2.2.1 41 (by decide) (by decide)).2.2, (k1.2.1 41 (by decide) (by decide)).2.2]
  have h62 : H62 h h2 := H62_tr (Ok_62 k1 (by decide)) (Ok_62 k2 (by decide))
  have e45 := kk 45 (by decide) (by decide) (by decide)
  have tc : tC h2 = tC h := by rw [tC_ok k2 (by decide), tC_ok k1 (by decide)]
  have lcc : LC h h2 → LC h h2 := id
  have rr : ∀ i, i < 21 → hrw h2 i = hrw h i := fun i hi => by
    have := ri.1 i hi
    show h2.1 (mR h2 41 i) = _
    rw [show mR h2 41 i = mR h 41 i from congrFun e41 i, h62 _ (by omega)]
  have ra : ∀ i, i < 20 → hac h2 i = hac h i := fun i hi => by
    have := sh5 (hG.2.1 i hi)
    show h2.1 (mR h2 40 i) = _
    rw [show mR h2 40 i = mR h 40 i from congrFun e40 i, h62 _ (by omega)]
  refine ⟨?_, RI_cg e40 e41 ri, ⟨?_, ?_⟩, u, q, m, ⟨b1, b2⟩, ?_, ?_, fun i hi => ?_, fun k hk => ?_, fun hq => ?_, fun i hi => ?_⟩
  · rw [tc, e45]
    refine ⟨rc.1, fun s hs o ho => ?_⟩
    rw [OkC k2 (k := 27) (by decide), e1, e2, OkC k1 (k := 47) (by decide)]
    by_cases e : 4 * s + o = 4 * l1.toInt.toNat + l2.toInt.toNat
    · rw [if_pos e, if_pos e]
    · rw [if_neg e, if_neg e]
      exact rc.2 s hs o ho
  · rw [k2.2.2.2.2.1 3 1 (by decide), k1.2.2.2.2.1 3 1 (by decide), show mI h2 45 50 = mI h 45 50 from congrFun e45 50]; exact e31
  · intro z
    obtain ⟨n1, n2, n3, n4, n5⟩ := nb (by rw [← k1.2.2.2.2.1 11 14 (by decide), ← k2.2.2.2.2.1 11 14 (by decide)]; exact z)
    refine ⟨?_, ?_, ?_, ?_, ?_⟩
    · show h2.1 45 50 = 0
      rw [e45]; exact n1
    · show h2.1 45 0 = 0
      rw [e45]; exact n2
    · rw [k24 24 (by decide) (by decide)]; exact n3
    · rw [k24 25 (by decide) (by decide)]; exact n4
    · rw [k24 26 (by decide) (by decide)]; exact n5
  · rw [k10, k10, k10]; exact c1
  · rw [k24 24 (by decide) (by decide), k24 25 (by decide) (by decide), k24 26 (by decide) (by decide)]; exact c2
  · rw [rr i (by omega), ra i (by omega), kk 49 (by decide) (by decide) (by decide), kk 52 (by decide) (by decide) (by decide)]; exact x1 i hi
  · rw [rr (u + 1 + k) (by omega), ra (u + k) (by omega), kk 50 (by decide) (by decide) (by decide), kk 53 (by decide) (by decide) (by decide)]; exact x2 k hk
  · rw [rr u (by omega), e45]; exact x3 hq
  · rw [h62 _ (by omega), kk 51 (by decide) (by decide) (by decide)]; exact x4 i hi
theorem RH_undo {u r : Nat} {h h1 h2 : mh_T} (rh : RH h) (eu : (mI h 10 0).toInt = (u : Int)) (er : (mI h 11 25).toInt = (r : Int)) (u0 : ¬ u = 0) (k1 : Ok msK h h1) (hc : TBk u h h1) (k2 : Ok msU h1 h2) (hd : UD u r h1 h2) : RH h2 := by
  obtain ⟨rc0, ri, ⟨e31, nb⟩, u', q, m, ⟨b1, b2⟩, c1, c2, x1, x2, x3, x4⟩ := rh
  have : u' = u := by have := c1.1; omega
  subst this
  have : q = r := by have := c2.2.1; omega
  subst this
  have lr := LR_ok k1 (by decide)
  have lc := LC_ok k2 (by decide)
  obtain ⟨a1, a2, a3, a4, a5, a6, a7, a8, a9⟩ := hc
  obtain ⟨d1, d2, d3, d4, d5, d6, d7, d8, d9⟩ := hd
  have rr := LC_r lc a4
  have ra := LC_a lc k1.1
  have iN := LC_i lc a4
  obtain ⟨y1, y2, y3, y4, y5, y6, y7⟩ := lc
  obtain ⟨e45, e47, e49, e50, e51, e52, e53, e14, e24⟩ := lr
  have e10 : ∀ j, mI h2 10 j = mI h1 10 j := fun j => congrFun y3 j
  have p31 : mI h1 3 1 = mI h 3 1 := k1.2.2.2.2.1 3 1 (by decide)
  have p45 : mI h2 45 50 = mI h1 45 50 := k2.2.2.2.2.1 45 50 (by decide)
  have p14 : mI h2 11 14 = mI h1 11 14 := k2.2.2.2.2.1 11 14 (by decide)
  have tnew : ∀ j, j < 49 → tC h2 j = hrw h (u' - 1) j := fun j hj => by rw [y1]; exact a8 j hj
  have rnew : ∀ j, j < 49 → h2.1 45 j = h.1 49 (49 * (u' - 1) + j) := fun j hj => by rw [d8 j hj, e49]
  have top := Rq_cg (x1 (u' - 1) (by omega)).1 tnew rnew
  refine ⟨⟨top, fun s hs o ho => ?_⟩, iN, ⟨?_, fun z => ?_⟩, u' - 1, q + 1, m, ⟨by omega, b2⟩, ⟨?_, ?_, ?_⟩, ⟨?_, ?_, ?_⟩, fun i hi => ?_, fun k hk => ?_, fun hq => ?_, fun i hi => ?_⟩
  · have s8 : s < 8 := by have := top.2.1.2.1; unfold sn at hs; omega
    rw [y2, a9 _ (by omega), d9 _ (by omega)]
  · rw [y7, p31, p45, show mI h1 45 50 = mI h 45 50 from congrFun e45 50]; exact e31
  · have z' : mI h 11 14 = 0 := by rw [← e14, ← p14]; exact z
    have := (nb z').2.2.1
    have c := c2.1
    rw [this, i_0] at c
    omega
  · rw [e10, a1]; omega
  · rw [e10, a2, c1.2.1]; omega
  · rw [e10, a3]; exact c1.2.2
  · rw [d1]; omega
  · rw [d2]; omega
  · rw [d3, e24 26 (by decide) (by decide)]; exact c2.2.2
  · rw [rr i (by omega), ra i (by omega), a6 i (by omega)]
    refine ⟨Rq_cg (x1 i (by omega)).1 (fun j hj => ?_) (fun j hj => ?_), fun j hj => ?_⟩
    · rw [a5 i j (by omega) hj, if_neg (by omega)]
    · show h2.1 49 _ = _
      rw [d4, e49]
    · rw [d5, e52]; exact (x1 i (by omega)).2 j hj
  · rw [rr (u' - 1 + 1 + k) (by omega), ra (u' - 1 + k) (by omega), a6 (u' - 1 + k) (by omega), show u' - 1 + 1 + k = u' + k by omega, show q + 1 - 1 - k = q - k by omega]
    by_cases ek : k = 0
    · subst ek
      refine ⟨Rq_cg rc0.1 (fun j hj => ?_) (fun j hj => ?_), fun j hj => ?_⟩
      · rw [a5 _ j (by omega) hj, if_pos (by omega)]
      · show h2.1 50 (49 * (q - 0) + j) = _
        rw [Nat.sub_zero, d6 q j (by omega) hj, if_pos rfl, e45]
      · rw [Nat.sub_zero, Nat.add_zero, d7 q j (by omega) hj, if_pos rfl, e52]
        exact (x1 (u' - 1) (by omega)).2 j hj
    · have xk := x2 (k - 1) (by omega)
      rw [show u' + 1 + (k - 1) = u' + k by omega, show q - 1 - (k - 1) = q - k by omega, show u' + (k - 1) = u' - 1 + k by omega] at xk
      refine ⟨Rq_cg xk.1 (fun j hj => ?_) (fun j hj => ?_), fun j hj => ?_⟩
      · rw [a5 _ j (by omega) hj, if_neg (by omega)]
      · show h2.1 50 (49 * (q - k) + j) = _
        rw [d6 (q - k) j (by omega) hj, if_neg (by omega), e50]
      · rw [d7 (q - k) j (by omega) hj, if_neg (by omega), e53]
        exact xk.2 j hj
  · rw [rr (u' - 1) (by omega)]
    refine Rq_cg (x1 (u' - 1) (by omega)).1 (fun j hj => ?_) rnew
    rw [a5 _ j (by omega) hj, if_neg (by omega)]
  · rw [y6 _ (by omega), a7 _ (by omega), OkC k2 (k := 51) (by decide), e51]
    exact x4 i hi
theorem RH_redo {u r : Nat} {h h1 h2 : mh_T} (hG : GI h) (rh : RH h) (eu : (mI h 10 0).toInt = (u : Int)) (er : (mI h 11 25).toInt = (r : Int)) (r0 : ¬ r = 0) (k1 : Ok msK h h1) (f1 : (mI h1 10 0).toInt = (u : Int) + 1) (f2 : mI h1 10 1 = mI h 10 1) (hc : RD (hrw h (u + 1)) h h1) (k2 : Ok msU h1 h2) (hd : UR u r h1 h2) : RH h2 := by
  obtain ⟨rc0, ri, ⟨e31, nb⟩, u', q, m, ⟨b1, b2⟩, c1, c2, x1, x2, x3, x4⟩ := rh
  have : u' = u := by have := c1.1; omega
  subst this
  have : q = r := by have := c2.2.1; omega
  subst this
  have lr := LR_ok k1 (by decide)
  have lc := LC_ok k2 (by decide)
  obtain ⟨a3, a4, a5, a6, a7, a8, a9⟩ := hc
  obtain ⟨d1, d2, d3, d4, d5, d6, d7, d8, d9⟩ := hd
  have rr := LC_r lc a4
  have ra := LC_a lc k1.1
  have iN := LC_i lc a4
  obtain ⟨y1, y2, y3, y4, y5, y6, y7⟩ := lc
  obtain ⟨e45, e47, e49, e50, e51, e52, e53, e14, e24⟩ := lr
  have e10 : ∀ j, mI h2 10 j = mI h1 10 j := fun j => congrFun y3 j
  have p31 : mI h1 3 1 = mI h 3 1 := k1.2.2.2.2.1 3 1 (by decide)
  have p45 : mI h2 45 50 = mI h1 45 50 := k2.2.2.2.2.1 45 50 (by decide)
  have p14 : mI h2 11 14 = mI h1 11 14 := k2.2.2.2.2.1 11 14 (by decide)
  have xt := x2 0 (by omega)
  rw [Nat.add_zero, Nat.add_zero, Nat.sub_zero] at xt
  have tnew : ∀ j, j < 49 → tC h2 j = hrw h (u' + 1) j := fun j hj => by rw [y1]; exact a8 j hj
  have rnew : ∀ j, j < 49 → h2.1 45 j = h.1 50 (49 * (q - 1) + j) := fun j hj => by rw [d8 j hj, e50]
  have top := Rq_cg xt.1 tnew rnew
  refine ⟨⟨top, fun s hs o ho => ?_⟩, iN, ⟨?_, fun z => ?_⟩, u' + 1, q - 1, m, ⟨by omega, b2⟩, ⟨?_, ?_, ?_⟩, ⟨?_, ?_, ?_⟩, fun i hi => ?_, fun k hk => ?_, fun hq => ?_, fun i hi => ?_⟩
  · have s8 : s < 8 := by have := top.2.1.2.1; unfold sn at hs; omega
    rw [y2, a9 _ (by omega), d9 _ (by omega)]
  · rw [y7, p31, p45, show mI h1 45 50 = mI h 45 50 from congrFun e45 50]; exact e31
  · have z' : mI h 11 14 = 0 := by rw [← e14, ← p14]; exact z
    have := (nb z').2.2.2.1
    have c := c2.2.1
    rw [this, i_0] at c
    omega
  · rw [e10, f1]; omega
  · rw [e10, f2, c1.2.1]; omega
  · rw [e10, a3]; exact c1.2.2
  · rw [d1]; omega
  · rw [d2]; omega
  · rw [d3, e24 26 (by decide) (by decide)]; exact c2.2.2
  · rw [rr i (by omega), ra i (by omega), a5 i (by omega), a6 i (by omega)]
    by_cases e : i = u'
    · subst e
      refine ⟨Rq_cg (x3 (by omega)) (fun j hj => rfl) (fun j hj => ?_), fun j hj => ?_⟩
      · show h2.1 49 (49 * i + j) = _
        rw [d6 i j (by omega) hj, if_pos rfl, e45]
      · rw [d7 i j (by omega) hj, if_pos rfl, e53]
        exact xt.2 j hj
    · refine ⟨Rq_cg (x1 i (by omega)).1 (fun j hj => rfl) (fun j hj => ?_), fun j hj => ?_⟩
      · show h2.1 49 (49 * i + j) = _
        rw [d6 i j (by omega) hj, if_neg e, e49]
      · rw [d7 i j (by omega) hj, if_neg e, e52]
        exact (x1 i (by omega)).2 j hj
  · rw [rr (u' + 1 + 1 + k) (by omega), ra (u' + 1 + k) (by omega), a5 (u' + 1 + 1 + k) (by omega), a6 (u' + 1 + k) (by omega)]
    have xk := x2 (k + 1) (by omega)
    rw [show u' + 1 + (k + 1) = u' + 1 + 1 + k by omega, show q - 1 - (k + 1) = q - 1 - 1 - k by omega, show u' + (k + 1) = u' + 1 + k by omega] at xk
    rw [d4, d5, e50, e53]
    exact xk
  · rw [rr (u' + 1) (by omega), a5 (u' + 1) (by omega)]
    exact Rq_cg xt.1 (fun _ _ => rfl) rnew
  · rw [y6 _ (by omega), a7 _ (by omega), OkC k2 (k := 51) (by decide), e51]
    exact x4 i hi
theorem RH_back {l : Nat} {h h1 h2 : mh_T} (rh : RH h) (hl : (l : Int) < (mI h 10 2).toInt) (k1 : Ok msK h h1) (f1 : mI h1 10 0 = 0) (f2 : mI h1 10 1 = 0) (hc : RD (h.1 (137 + l)) h h1) (k2 : Ok [301, 300, 11, 45, 47] h1 h2) (hd : BD l h1 h2) : RH h2 := by
  obtain ⟨rc0, ri, ⟨e31, nb⟩, u, q, m, ⟨b1, b2⟩, c1, c2, x1, x2, x3, x4⟩ := rh
  have lr := LR_ok k1 (by decide)
  have lc := LC_ok k2 (by decide)
  obtain ⟨a3, a4, a5, a6, a7, a8, a9⟩ := hc
  obtain ⟨d1, d2, d3, d8, d9⟩ := hd
  have iN := LC_i lc a4
  obtain ⟨y1, y2, y3, y4, y5, y6, y7⟩ := lc
  obtain ⟨e45, e47, e49, e50, e51, e52, e53, e14, e24⟩ := lr
  have e10 : ∀ j, mI h2 10 j = mI h1 10 j := fun j => congrFun y3 j
  have p31 : mI h1 3 1 = mI h 3 1 := k1.2.2.2.2.1 3 1 (by decide)
  have p45 : mI h2 45 50 = mI h1 45 50 := k2.2.2.2.2.1 45 50 (by decide)
  have p14 : mI h2 11 14 = mI h1 11 14 := k2.2.2.2.2.1 11 14 (by decide)
  have lm : l < m := by have := c1.2.2; omega
  have tnew : ∀ j, j < 49 → tC h2 j = h.1 (137 + l) j := fun j hj => by rw [y1]; exact a8 j hj
  have rnew : ∀ j, j < 49 → h2.1 45 j = h.1 51 (49 * l + j) := fun j hj => by rw [d8 j hj, e51]
  have top := Rq_cg (x4 l lm) tnew rnew
  refine ⟨⟨top, fun s hs o ho => ?_⟩, iN, ⟨?_, fun z => ?_⟩, 0, 0, m, ⟨by omega, b2⟩, ⟨?_, ?_, ?_⟩, ⟨?_, ?_, ?_⟩, fun i hi => absurd hi (Nat.not_lt_zero _), fun k hk => absurd hk (Nat.not_lt_zero _), fun hq => absurd hq (Nat.lt_irrefl _), fun i hi => ?_⟩
  · have s8 : s < 8 := by have := top.2.1.2.1; unfold sn at hs; omega
    rw [y2, a9 _ (by omega), d9 _ (by omega)]
  · rw [y7, p31, p45, show mI h1 45 50 = mI h 45 50 from congrFun e45 50]; exact e31
  · have z' : mI h 11 14 = 0 := by rw [← e14, ← p14]; exact z
    have := (nb z').2.2.2.2
    have c := c2.2.2
    rw [this, i_0] at c
    omega
  · rw [e10, f1]; rfl
  · rw [e10, f2]; rfl
  · rw [e10, a3]; exact c1.2.2
  · rw [d1]; rfl
  · rw [d2]; rfl
  · rw [d3, e24 26 (by decide) (by decide)]; exact c2.2.2
  · rw [y6 _ (by omega), a7 _ (by omega), OkC k2 (k := 51) (by decide), e51]
    exact x4 i hi
theorem RH_mark {m : Nat} {h h1 h2 : mh_T} (hG : GI h) (rh : RH h) (em : (mI h 10 2).toInt = (m : Int)) (hB : ¬ mI h 11 14 = 0) (m4 : ¬ m = 4) (k1 : Ok [0, 10, 302] h h1) (hc : MK m h h1) (k2 : Ok [301, 300, 11, 51] h1 h2) (hd : MD m h1 h2) : RH h2 := by
  obtain ⟨rc0, ri, ⟨e31, nb⟩, u, q, m', ⟨b1, b2⟩, c1, c2, x1, x2, x3, x4⟩ := rh
  have : m' = m := by have := c1.2.2; omega
  subst this
  have lr := LR_ok k1 (by decide)
  have lc := LC_ok k2 (by decide)
  obtain ⟨a1, a2, a3, a4, a5, a6⟩ := hc
  obtain ⟨d1, d2, d3, d4⟩ := hd
  have ri1 : RI h1 := RI_cg (by rw [a4]) (by rw [a4]) ri
  have rr := LC_r lc ri1
  have ra := LC_a lc k1.1
  have iN := LC_i lc ri1
  obtain ⟨y1, y2, y3, y4, y5, y6, y7⟩ := lc
  obtain ⟨e45, e47, e49, e50, e51, e52, e53, e14, e24⟩ := lr
  have e10 : ∀ j, mI h2 10 j = mI h1 10 j := fun j => congrFun y3 j
  have p31 : mI h1 3 1 = mI h 3 1 := k1.2.2.2.2.1 3 1 (by decide)
  have p14 : mI h2 11 14 = mI h1 11 14 := k2.2.2.2.2.1 11 14 (by decide)
  have f45 : h2.1 45 = h.1 45 := by rw [OkC k2 (k := 45) (by decide), e45]
  have tc : tC h2 = tC h := by rw [y1, tC_ok k1 (by decide)]
  have r1 : ∀ i, i < 21 → hrw h1 i = hrw h i := fun i hi => by
    have := ri.1 i hi
    show h1.1 (mR h1 41 i) = _
    rw [show mR h1 41 i = mR h 41 i by show h1.2.2 41 i = h.2.2 41 i; rw [a4], a5 _ (by omega) (by omega)]
  have r2 : ∀ i, i < 20 → hac h1 i = hac h i := fun i hi => by
    have := sh5 (hG.2.1 i hi)
    show h1.1 (mR h1 40 i) = _
    rw [show mR h1 40 i = mR h 40 i by show h1.2.2 40 i = h.2.2 40 i; rw [a4], a5 _ (by omega) (by omega)]
  refine ⟨?_, iN, ⟨?_, fun z => absurd (by rw [← e14, ← p14]; exact z) hB⟩, u, q, m' + 1, ⟨b1, by omega⟩, ⟨?_, ?_, ?_⟩, ⟨?_, ?_, ?_⟩, fun i hi => ?_, fun k hk => ?_, fun hq => ?_, fun i hi => ?_⟩
  · rw [tc, f45, y2, OkC k1 (k := 27) (by decide), OkC k2 (k := 47) (by decide), e47]; exact rc0
  · rw [y7, p31, show mI h2 45 50 = mI h 45 50 from congrFun f45 50]; exact e31
  · rw [e10, a2]; exact c1.1
  · rw [e10, a3]; exact c1.2.1
  · rw [e10, a1]; omega
  · rw [d2, e24 24 (by decide) (by decide)]; exact c2.1
  · rw [d3, e24 25 (by decide) (by decide)]; exact c2.2.1
  · rw [d1]; omega
  · rw [rr i (by omega), ra i (by omega), r1 i (by omega), r2 i (by omega), OkC k2 (k := 49) (by decide), OkC k2 (k := 52) (by decide), e49, e52]; exact x1 i hi
  · rw [rr (u + 1 + k) (by omega), ra (u + k) (by omega), r1 (u + 1 + k) (by omega), r2 (u + k) (by omega), OkC k2 (k := 50) (by decide), OkC k2 (k := 53) (by decide), e50, e53]; exact x2 k hk
  · rw [rr u (by omega), r1 u (by omega), f45]; exact x3 hq
  · rw [y6 _ (by omega)]
    by_cases e : i = m'
    · subst e
      refine Rq_cg rc0.1 (fun j hj => a6 j hj) (fun j hj => ?_)
      show h2.1 51 (49 * i + j) = _
      rw [d4 i j (by omega) hj, if_pos rfl, e45]
    · refine Rq_cg (x4 i (by omega)) (fun j hj => ?_) (fun j hj => ?_)
      · rw [a5 _ (by omega) (by omega)]
      · show h2.1 51 (49 * i + j) = _
        rw [d4 i j (by omega) hj, if_neg e, e51]
