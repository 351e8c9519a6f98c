/-- the class's table just after a book, and its history -/
def Tb (f : Nat → Int32) (h : mh_T) : Prop := mI h 3 2 = f 0 ∧ (∀ s : Nat, s < 8 → (s : Int) < (f 0).toInt → h.1 24 s = f (1 + s) ∧ h.1 25 s = f (9 + s)) ∧ (∀ i, i < 32 → h.1 26 i = f (17 + i)) ∧ (∀ i, i < 32 → h.1 27 i = 0) ∧ mI h 10 0 = 0 ∧ mI h 10 1 = 0 ∧ mI h 10 2 = 0
theorem Ok_62 {ms : List Nat} {h h' : mh_T} (ok : Ok ms h h') (hm : 302 ∉ ms) : H62 h h' := by
  rcases ok.2.2.2.2.2.2.2.1 with z | z
  · exact absurd z hm
  · exact z
theorem Ok_24 {ms : List Nat} {h h' : mh_T} (ok : Ok ms h h') (hm : 301 ∉ ms) : ∀ j, 24 ≤ j → j ≤ 26 → mI h' 11 j = mI h 11 j := by
  rcases ok.2.2.2.2.2.2.2.2 with z | z
  · exact absurd z hm
  · exact z
abbrev msD : List Nat := [0, 1, 2, 3, 4, 5, 6, 7, 8, 9, 10, 13, 14, 15, 16, 17, 18, 19, 20, 21, 22, 23, 24, 25, 26, 27, 28, 29, 30, 31, 32, 33, 34, 35, 36, 37, 38, 39, 302]
/-- the class's book: what it answers, what stays -/
theorem s_X4_open' {g : gT} {h : mh_T} {P : mh_T → Prop} (hG : GI h) (hp : ∀ h', Ok [10] h h' → (mI h' 10 0 = 0 ∧ mI h' 10 1 = 0 ∧ mI h' 10 2 = 0) → P h') : MCv g yX4_open uX4_open [.ref 10] h P :=
  e_X4_open (hp _ (Ok_w (Ok_w (Ok_w (Ok_rf hG) (k := 10) (j := 0) (v := 0) (lo := 0) (hi := 20) rfl ⟨by decide, by decide⟩ (by decide) (by decide)) (k := 10) (j := 1) (v := 0) (lo := 0) (hi := 20) rfl ⟨by decide, by decide⟩ (by decide) (by decide)) (k := 10) (j := 2) (v := 0) (lo := 0) (hi := 4) rfl ⟨by decide, by decide⟩ (by decide) (by decide)) ⟨by rw [mI_wI, if_neg (by decide), mI_wI, if_neg (by decide), mI_wI, if_pos ⟨rfl, rfl⟩], by rw [mI_wI, if_neg (by decide), mI_wI, if_pos ⟨rfl, rfl⟩], by rw [mI_wI, if_pos ⟨rfl, rfl⟩]⟩)
theorem c_book {g : gT} {h : mh_T} {P : Int32 → mh_T → Prop} {T : Nat → Int32} (l1 : Int32) (hG : GI h) (hT : ∀ j : Nat, (j : Int) < (mI h 0 10).toInt → mI h 12 j = T j) (hn : ¬ (0 ≤ l1.toInt ∧ l1.toInt ≤ (mI h 0 10).toInt) → P (-1) (wI h 0 11 2)) (hs : ∀ (n e : Nat) (f : Nat → Int32) (h' : mh_T), l1.toInt = (n : Int) → (n : Int) ≤ (mI h 0 10).toInt → rx_book T n = .inr ((), e, f) → GI h' → Fr msD h h' → mI h' 0 10 = 0 ∧ mI h' 0 11 = 0 ∧ mI h' 0 12 = 0 → (mI h' 3 0 = f 49 ∧ mI h' 3 1 = f 50 ∧ mI h' 8 0 = f 85 ∧ ∀ i j : Nat, (i : Int) < (f 85).toInt → (j : Int) < (f 85).toInt → ¬ j = i → (bt (mI h' 32 i) j = true ↔ dtk (fun q => f (86 + q)) i j 4 = 0)) → LF f (f 52).toInt.toNat (f 51).toInt.toNat h' → Tb f h' → P (f 50) h') (hx : ∀ (n : Nat) (w : Int32) (p : Nat) (h' : mh_T), l1.toInt = (n : Int) → (n : Int) ≤ (mI h 0 10).toInt → rx_book T n = .inl (w, p) → GI h' → Fr msD h h' → mI h' 0 10 = 0 ∧ mI h' 0 11 = 4 ∧ mI h' 0 12 = w → (mI h' 0 13).toInt = (p : Int) → (h'.1 3 = h.1 3 ∧ h'.1 8 = h.1 8 ∧ h'.1 32 = h.1 32 ∧ h'.1 7 = h.1 7 ∧ h'.1 31 = h.1 31) → (Fr (0 :: cms) h h' ∧ H62 h h') → P (-1) h') : MCi g yX10_book uX10_book [.ref 0, .int l1] h P := by
  have z0 : (0 : Int32).toInt = 0 := by decide
  have f0 : R 0 900 (mI h 0 10) := GI_rd hG 0 10 (by decide)
  refine e_X10_book l1 ⟨fun c => e_X10_refused 2 (hn (fun z => by have := lt_ti c; omega)), fun c => ⟨fun c2 => ?_, fun c2 => e_X10_refused 2 (hn (fun z => by have := lt_ti (nle c2); omega))⟩⟩
  have a1 := le_ti (nlt c)
  have a2 := le_ti c2
  obtain ⟨n, en⟩ : ∃ n : Nat, l1.toInt = (n : Int) := ⟨l1.toInt.toNat, by omega⟩
  have n9 : n ≤ 900 := by have := f0.2; omega
  have g0 : GI (wI h 0 10 0) := GI_w hG (k := 0) (j := 10) (lo := 0) (hi := 900) (by decide) ⟨by decide, by decide⟩
  have fr1 : Fr msD h (wI h 0 10 0) := Fr_w (Fr_rf h) (by decide)
  have fr1x : Fr (0 :: cms) h (wI h 0 10 0) := Fr_w (Fr_rf h) (by decide)
  have e0 : mI (wI h 0 10 0) 0 10 = 0 := by rw [mI_wI, if_pos ⟨rfl, rfl⟩]
  have t12 : ∀ j, j < n → mI (wI h 0 10 0) 12 j = T j := fun j hj => by
    rw [mI_wI, if_neg (fun z => absurd z.1 (by decide))]
    exact hT j (by omega)
  have h62 : H62 h (wI h 0 10 0) := H62_w (fun _ _ => rfl) (by decide)
  generalize wI h 0 10 0 = h1 at g0 fr1 fr1x e0 t12 h62
  refine c_read l1 g0 en n9 t12 (fun h5 cz => ?_)
  have e12 : mI (wI h5 0 12 (mI h5 1 1)) 0 12 = mI h5 1 1 := by rw [mI_wI, if_pos ⟨rfl, rfl⟩]
  have e10 : mI (wI h5 0 12 (mI h5 1 1)) 0 10 = mI h5 0 10 := by rw [mI_wI, if_neg (by decide)]
  rw [e12]
  rcases cz with ⟨e, f, eo, cs⟩ | ⟨w, p, eo, cx⟩
  · have c11 : mI h5 1 1 = 0 := cs.2.2.2.2.2.2.1
    have c21 : mI h5 2 1 = f 50 := cs.2.2.2.2.1.1.2.1
    have ok5 : Ok msD h1 h5 := Ok_mono cs.1 (by decide)
    refine ⟨fun _ => ?_, fun z => absurd c11 z⟩
    have g6 : GI (wI h5 0 12 (mI h5 1 1)) := GI_w ok5.1 (k := 0) (j := 12) (lo := -2147483648) (hi := 2147483647) (by decide) (R_full _)
    have fr6 : Fr msD h (wI h5 0 12 (mI h5 1 1)) := Fr_w (Fr_tr fr1 ok5.2.1) (by decide)
    have v10 : mI (wI h5 0 12 (mI h5 1 1)) 0 10 = 0 := e10.trans (ok5.2.2.1.trans e0)
    have v12 : mI (wI h5 0 12 (mI h5 1 1)) 0 12 = 0 := e12.trans c11
    have v21 : mI (wI h5 0 12 (mI h5 1 1)) 2 1 = f 50 := by rw [mI_wI, if_neg (by decide)]; exact c21
    have v20 : mI (wI h5 0 12 (mI h5 1 1)) 2 0 = f 49 := by rw [mI_wI, if_neg (by decide)]; exact cs.2.2.2.2.1.1.1
    have w25 : mI (wI h5 0 12 (mI h5 1 1)) 2 5 = f 85 := by rw [mI_wI, if_neg (by decide)]; exact cs.2.2.2.2.1.1.2.2.2.2.2.1
    have w24 : mI (wI h5 0 12 (mI h5 1 1)) 2 4 = f 52 := by rw [mI_wI, if_neg (by decide)]; exact cs.2.2.2.2.1.1.2.2.2.2.1
    have w22 : mI (wI h5 0 12 (mI h5 1 1)) 2 2 = f 51 := by rw [mI_wI, if_neg (by decide)]; exact cs.2.2.2.2.1.1.2.2.1
    have wal : ∀ l : Nat, (l : Int) < (f 52).toInt → mI (wI h5 0 12 (mI h5 1 1)) 19 l = f (77 + l) ∧ Lp (mI (wI h5 0 12 (mI h5 1 1)) 18 l) (f (53 + 3 * l)) (f (54 + 3 * l)) (f (55 + 3 * l)) := fun l hl => by rw [mI_wI, if_neg (fun z => absurd z.1 (by decide)), mI_wI, if_neg (fun z => absurd z.1 (by decide))]; exact cs.2.2.2.2.2.2.2.2.2.2.1 l hl
    have w20 : ∀ i : Nat, (i : Int) < 4 * (f 85).toInt → mI (wI h5 0 12 (mI h5 1 1)) 20 i = f (86 + i) := fun i hi => by rw [mI_wI, if_neg (fun z => absurd z.1 (by decide))]; exact cs.2.2.2.2.2.2.2.2.2.1 i hi
    have w23 : mI (wI h5 0 12 (mI h5 1 1)) 2 3 = f 0 := by rw [mI_wI, if_neg (by decide)]; exact cs.2.2.2.2.1.1.2.2.2.1
    have w15 : ∀ s : Nat, (s : Int) < (f 0).toInt → mI (wI h5 0 12 (mI h5 1 1)) 15 s = f (1 + s) ∧ mI (wI h5 0 12 (mI h5 1 1)) 16 s = f (9 + s) := fun s hs => by rw [mI_wI, if_neg (fun z => absurd z.1 (by decide)), mI_wI, if_neg (fun z => absurd z.1 (by decide))]; exact cs.2.2.2.2.2.2.2.1 s hs
    have w17 : ∀ i, i < 32 → mI (wI h5 0 12 (mI h5 1 1)) 17 i = f (17 + i) := fun i hi => by rw [mI_wI, if_neg (fun z => absurd z.1 (by decide))]; exact cs.2.2.2.2.2.2.2.2.1 i hi
    generalize wI h5 0 12 (mI h5 1 1) = h6 at g6 fr6 v10 v12 v21 v20 w25 w20 w24 w22 wal w23 w15 w17
    refine v_X8_open g6 (fun h7 g7 fr7 v7 => ?_)
    have f7 : ∀ k j, k < 62 → k ∉ [3, 24, 25, 26, 27] → mI h7 k j = mI h6 k j := fun k j hk hm => congrFun (fr7 k hk hm).1 j
    have c52 : mI h7 2 4 = f 52 := by rw [f7 2 4 (by decide) (by decide), w24]
    have c51 : mI h7 2 2 = f 51 := by rw [f7 2 2 (by decide) (by decide), w22]
    obtain ⟨n5, en5, n50, n58⟩ := i_R (show R 0 8 (f 52) by rw [← c52]; exact GI_rd g7 2 4 (by decide)) (by decide)
    obtain ⟨m5, em5, m50, m59⟩ := i_R (show R 0 9 (f 51) by rw [← c51]; exact GI_rd g7 2 2 (by decide)) (by decide)
    refine v_X5_openL (f := f) (n := n5) (m := m5) g7 (by rw [c51]; exact em5) (by omega) (by rw [c52]; exact en5) (by omega) (fun l hl => ?_) (fun h8 g8 fr8' lf => ?_)
    · rw [f7 19 l (by decide) (by decide), f7 18 l (by decide) (by decide)]
      exact wal l (by omega)
    have c85 : mI h8 2 5 = f 85 := by
      rw [show mI h8 2 5 = mI h7 2 5 from congrFun (fr8' 2 (by decide) (by decide)).1 5, f7 2 5 (by decide) (by decide), w25]
    have r85 : R 0 18 (f 85) := by rw [← c85]; exact GI_rd g8 2 5 (by decide)
    obtain ⟨c, ec, c0, c18⟩ := i_R r85 (by decide)
    refine v_X3_open (c := c) g8 (by rw [c85]; exact ec) (by omega) (fun h9 g9 fr9 v80 v32 => ?_)
    refine s_X9_open g9 (fun h10 k10 => ?_)
    refine s_X4_open' k10.1 (fun h11 k11 k110 => ?_)
    have fr8 : Fr msD h h8 := Fr_t2 (Fr_t2 fr6 fr7 (by decide)) fr8' (by decide)
    have g78 : ∀ k j, k < 62 → k ∉ [7, 31] → mI h8 k j = mI h7 k j := fun k j hk hm => congrFun (fr8' k hk hm).1 j
    have fr11 : Fr msD h h11 := Fr_t2 (Fr_t2 (Fr_t2 fr8 fr9 (by decide)) k10.2.1 (by decide)) k11.2.1 (by decide)
    have z0 : ∀ j, mI h11 0 j = mI h6 0 j := fun j => by
      rw [Ok_eq k11 (by decide), Ok_eq k10 (by decide), show mI h9 0 j = mI h8 0 j from congrFun (fr9 0 (by decide) (by decide)).1 j, g78 0 j (by decide) (by decide), show mI h7 0 j = mI h6 0 j from congrFun (fr7 0 (by decide) (by decide)).1 j]
    have z3 : ∀ j, mI h11 3 j = mI h7 3 j := fun j => by
      rw [Ok_eq k11 (by decide), Ok_eq k10 (by decide), show mI h9 3 j = mI h8 3 j from congrFun (fr9 3 (by decide) (by decide)).1 j, g78 3 j (by decide) (by decide)]
    have z8 : ∀ j, mI h11 8 j = mI h9 8 j := fun j => by rw [Ok_eq k11 (by decide), Ok_eq k10 (by decide)]
    have z7 : ∀ j, mI h11 7 j = mI h8 7 j := fun j => by rw [Ok_eq k11 (by decide), Ok_eq k10 (by decide), show mI h9 7 j = mI h8 7 j from congrFun (fr9 7 (by decide) (by decide)).1 j]
    have n58' : n5 ≤ 8 := by omega
    have zt : ∀ k, (k = 24 ∨ k = 25 ∨ k = 26 ∨ k = 27) → ∀ j, mI h11 k j = mI h7 k j := fun k hk j => by
      have k62 : k < 62 := by omega
      have e1 := congrFun (k11.2.1 k k62 (by rcases hk with z | z | z | z <;> subst z <;> decide)).1 j
      have e2 := congrFun (k10.2.1 k k62 (by rcases hk with z | z | z | z <;> subst z <;> decide)).1 j
      have e3 := congrFun (fr9 k k62 (by rcases hk with z | z | z | z <;> subst z <;> decide)).1 j
      have e4 := congrFun (fr8' k k62 (by rcases hk with z | z | z | z <;> subst z <;> decide)).1 j
      exact e1.trans (e2.trans (e3.trans e4))
    have z31 : ∀ j, mI h11 31 j = mI h8 31 j := fun j => by rw [Ok_eq k11 (by decide), Ok_eq k10 (by decide), show mI h9 31 j = mI h8 31 j from congrFun (fr9 31 (by decide) (by decide)).1 j]
    have z32 : ∀ j, mI h11 32 j = mI h9 32 j := fun j => by rw [Ok_eq k11 (by decide), Ok_eq k10 (by decide)]
    have z20 : ∀ j, mI h8 20 j = mI h6 20 j := fun j => by rw [g78 20 j (by decide) (by decide), show mI h7 20 j = mI h6 20 j from congrFun (fr7 20 (by decide) (by decide)).1 j]
    rw [show mI h11 3 1 = f 50 from by rw [z3, v7.2.1, v21]]
    have o : ∀ k j, ¬ (k = 0 ∧ j = 11) → mI (wI h11 0 11 0) k j = mI h11 k j := fun k j hk => by rw [mI_wI, if_neg hk]
    refine e_X10_told _ (hs n e f _ en (by omega) eo (GI_w k11.1 (k := 0) (j := 11) (lo := -2147483648) (hi := 2147483647) (by decide) (R_full _)) (Fr_w fr11 (by decide)) ⟨?_, ?_, ?_⟩ ⟨?_, ?_, ?_, fun a b ha hb hab => ?_⟩ ?_ ⟨?_, fun s h8' hs' => ⟨?_, ?_⟩, fun i hi => ?_, fun i hi => ?_, ?_, ?_, ?_⟩)
    · rw [o 0 10 (by decide), z0]; exact v10
    · rw [mI_wI, if_pos ⟨rfl, rfl⟩]
    · rw [o 0 12 (by decide), z0]; exact v12
    · rw [o 3 0 (by decide), z3, v7.1]; exact v20
    · rw [o 3 1 (by decide), z3, v7.2.1]; exact v21
    · rw [o 8 0 (by decide), z8, v80]; exact c85
    · rw [o 32 a (fun z => absurd z.1 (by decide)), z32, v32 a b (by omega) (by omega) hab, dtk_cg (y := fun q => f (86 + q)) 4 (Nat.le_refl _) (fun q hq => ⟨?_, ?_⟩)]
      · show mI h8 20 (4 * a + q) = f (86 + (4 * a + q))
        rw [z20]
        exact w20 _ (by omega)
      · show mI h8 20 (4 * b + q) = f (86 + (4 * b + q))
        rw [z20]
        exact w20 _ (by omega)
    · rw [en5, em5, Int.toNat_natCast, Int.toNat_natCast]
      refine LF_cg n58' (fun _ _ _ => rfl) ?_ ?_ lf
      · funext j
        exact (o 7 j (fun z => absurd z.1 (by decide))).trans (z7 j)
      · funext j
        exact (o 31 j (fun z => absurd z.1 (by decide))).trans (z31 j)
    · rw [o 3 2 (by decide), z3, v7.2.2.1]; exact w23
    · exact (o 24 s (fun z => absurd z.1 (by decide))).trans ((zt 24 (by decide) s).trans ((v7.2.2.2.1 s h8').trans (w15 s hs').1))
    · exact (o 25 s (fun z => absurd z.1 (by decide))).trans ((zt 25 (by decide) s).trans ((v7.2.2.2.2.1 s h8').trans (w15 s hs').2))
    · exact (o 26 i (fun z => absurd z.1 (by decide))).trans ((zt 26 (by decide) i).trans ((v7.2.2.2.2.2.1 i hi).trans (w17 i hi)))
    · exact (o 27 i (fun z => absurd z.1 (by decide))).trans ((zt 27 (by decide) i).trans (v7.2.2.2.2.2.2 i hi))
    · rw [o 10 0 (by decide)]; exact k110.1
    · rw [o 10 1 (by decide)]; exact k110.2.1
    · rw [o 10 2 (by decide)]; exact k110.2.2
  · have c11 : mI h5 1 1 = w := cx.2.1
    have ok5 : Ok msD h1 h5 := Ok_mono cx.1 (by decide)
    refine ⟨fun z => absurd (c11.symm.trans z) cx.2.2.2, fun _ => ?_⟩
    have g6 : GI (wI h5 0 12 (mI h5 1 1)) := GI_w ok5.1 (k := 0) (j := 12) (lo := -2147483648) (hi := 2147483647) (by decide) (R_full _)
    have fr6 : Fr msD h (wI h5 0 12 (mI h5 1 1)) := Fr_w (Fr_tr fr1 ok5.2.1) (by decide)
    have v10 : mI (wI h5 0 12 (mI h5 1 1)) 0 10 = 0 := e10.trans (ok5.2.2.1.trans e0)
    have v12 : mI (wI h5 0 12 (mI h5 1 1)) 0 12 = w := e12.trans c11
    have v2 : (mI (wI h5 0 12 (mI h5 1 1)) 1 2).toInt = (p : Int) := by rw [mI_wI, if_neg (by decide)]; exact cx.2.2.1
    have fx : Fr (0 :: cms) h (wI h5 0 12 (mI h5 1 1)) := Fr_w (Fr_t2 fr1x cx.1.2.1 (by decide)) (by decide)
    have h62x : H62 h (wI h5 0 12 (mI h5 1 1)) := H62_w (H62_tr h62 (Ok_62 cx.1 (by decide))) (by decide)
    generalize wI h5 0 12 (mI h5 1 1) = h6 at g6 fr6 v10 v12 v2 fx h62x
    have fy : Fr (0 :: cms) h (wI (wI h6 0 13 (mI h6 1 2)) 0 11 4) := Fr_w (Fr_w fx (by decide)) (by decide)
    have fc : ∀ k, k < 62 → k ∉ (0 :: cms) → True → (wI (wI h6 0 13 (mI h6 1 2)) 0 11 4).1 k = h.1 k := fun k hk hm _ => (fy k hk hm).1
    have g8 : GI (wI (wI h6 0 13 (mI h6 1 2)) 0 11 4) := GI_w (GI_w g6 (k := 0) (j := 13) (lo := -2147483648) (hi := 2147483647) (by decide) (R_full _)) (k := 0) (j := 11) (lo := -2147483648) (hi := 2147483647) (by decide) (R_full _)
    refine e_X10_refused 4 (hx n w p _ en (by omega) eo g8 (Fr_w (Fr_w fr6 (by decide)) (by decide)) ⟨?_, ?_, ?_⟩ ?_ ⟨fc 3 (by decide) (by decide) trivial, fc 8 (by decide) (by decide) trivial, fc 32 (by decide) (by decide) trivial, fc 7 (by decide) (by decide) trivial, fc 31 (by decide) (by decide) trivial⟩ ⟨fy, H62_w (H62_w h62x (by decide)) (by decide)⟩)
    · rw [mI_wI, if_neg (by decide), mI_wI, if_neg (by decide)]; exact v10
    · rw [mI_wI, if_pos ⟨rfl, rfl⟩]
    · rw [mI_wI, if_neg (by decide), mI_wI, if_neg (by decide)]; exact v12
    · rw [mI_wI, if_neg (by decide), mI_wI, if_pos ⟨rfl, rfl⟩]; exact v2
