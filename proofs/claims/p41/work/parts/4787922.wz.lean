theorem shl_n {n : Nat} (h : n ≤ 30) : ((1 : Int32) <<< (Int32.ofNat n &&& 31)).toInt = (2 : Int) ^ n := shl_all n h
theorem slb_R {f : Nat → Int32} {v : Int32} : ∀ k, k ≤ 8 → R 0 255 (slb f v k)
  | 0, _ => show R 0 255 (0 : Int32) from ⟨by decide, by decide⟩
  | k + 1, hk => by
    show R 0 255 (if lnc f v k then slb f v k ||| (1 <<< (Int32.ofNat k &&& 31)) else slb f v k)
    split
    · have e := shl_n (n := k) (by omega)
      have b : (2 : Int) ^ k ≤ 128 := by
        rcases (show k = 0 ∨ k = 1 ∨ k = 2 ∨ k = 3 ∨ k = 4 ∨ k = 5 ∨ k = 6 ∨ k = 7 by omega) with q | q | q | q | q | q | q | q <;> subst q <;> decide
      have b0 : (0 : Int) ≤ 2 ^ k := by
        rcases (show k = 0 ∨ k = 1 ∨ k = 2 ∨ k = 3 ∨ k = 4 ∨ k = 5 ∨ k = 6 ∨ k = 7 by omega) with q | q | q | q | q | q | q | q <;> subst q <;> decide
      exact R_or (slb_R k (by omega)) (c := 0) (d := 128) ⟨by omega, by omega⟩ 8 255 (by decide)
    · exact slb_R k (by omega)
theorem v_soLines {g : gT} {h : mh_T} {P : Int32 → mh_T → Prop} {f : Nat → Int32} {n vn : Nat} (l2 : Int32) (ev : l2.toInt = (vn : Int)) (hv : vn < 512) (en : (mI h 7 1).toInt = (n : Int)) (hn : n ≤ 8) (hl : ∀ l : Nat, l < n → mI h 19 l = f (77 + l) ∧ Lp (mI h 18 l) (f (53 + 3 * l)) (f (54 + 3 * l)) (f (55 + 3 * l))) (hp : P (slb f l2 n) h) : MCi g yX5_soLines uX5_soLines [.ref 7, .ref 2, .int l2] h P := by
  have L : ∀ (m : Nat) (l3 l4 : Int32) (k : Nat), l4.toInt = (k : Int) → k ≤ n → n - k < m → l3 = slb f l2 k → ME g uX5_soLines 5 [.ref 7, .ref 2, .int l2, .int l3, .int l4] [] h (qI P) := by
    intro m
    induction m with
    | zero => intro l3 l4 k _ _ hm; exact absurd hm (Nat.not_lt_zero _)
    | succ m ih =>
      intro l3 l4 k e4 hk hm e3
      refine r_X5_soLines_5 l2 l3 l4 ⟨fun z => ?_, fun z => ?_⟩
      · rw [i_le, en, e4] at z
        have : k = n := by omega
        subst this
        rw [e3]
        exact hp
      · rw [i_le, en, e4] at z
        have v8 := i_vp (n := 8) e4 (by omega)
        obtain ⟨l19, lp⟩ := hl k (by omega)
        refine ⟨v8, v_bitCount _ ⟨v8, ?_⟩⟩
        rw [i_nat e4, bc_rs ev hv lp, l19]
        have ec : (rs f l2 k - rs f l2 k / 2 * 2 = f (77 + k)) ↔ lnc f l2 k := Iff.rfl
        have e4' := i_inc e4 (by omega)
        refine ⟨fun y => ih l3 (l4 + 1) (k + 1) e4' (by omega) (by omega) ?_, fun y x7 ex => ih x7 (l4 + 1) (k + 1) e4' (by omega) (by omega) ?_⟩
        · show l3 = (if lnc f l2 k then _ else _)
          rw [if_neg (fun q => y (ec.mpr q))]
          exact e3
        · show x7 = (if lnc f l2 k then _ else _)
          rw [if_pos (ec.mp y), ex, e3, i_of e4 (by omega)]
  exact e_X5_soLines l2 (L (n + 1) 0 0 0 (by decide) (Nat.zero_le _) (by omega) rfl)
theorem v_X5_open {g : gT} {h : mh_T} {P : mh_T → Prop} {f : Nat → Int32} {n m : Nat} (hG : GI h) (em : (mI h 2 2).toInt = (m : Int)) (hm9 : m ≤ 9) (en : (mI h 2 4).toInt = (n : Int)) (hn : n ≤ 8) (hl : ∀ l : Nat, l < n → mI h 19 l = f (77 + l) ∧ Lp (mI h 18 l) (f (53 + 3 * l)) (f (54 + 3 * l)) (f (55 + 3 * l))) (hp : ∀ h', GI h' → Fr [7, 31] h h' → mI h' 7 0 = mI h 2 2 → mI h' 7 1 = mI h 2 4 → mI h' 7 2 = wyc f n (2 ^ m) → P h') : MCv g yX5_open uX5_open [.ref 7, .ref 2] h P := by
  refine e_X5_open (fun x1 ex => ?_)
  have q1 : mI (wI h 7 0 (mI h 2 2)) 2 4 = mI h 2 4 := by rw [mI_wI, if_neg (by decide)]
  rw [q1] at ex ⊢
  have g0 : GI (wI (wI (wI (wI (wI h 7 0 (mI h 2 2)) 7 1 (mI h 2 4)) 7 2 0) 7 3 0) 7 4 0) := GI_w (GI_w (GI_w (GI_w (GI_w hG (k := 7) (j := 0) (lo := 0) (hi := 9) (by decide) (GI_rd hG 2 2 (by decide))) (k := 7) (j := 1) (lo := 0) (hi := 8) (by decide) (GI_rd hG 2 4 (by decide))) (k := 7) (j := 2) (lo := -2147483648) (hi := 2147483647) (by decide) (R_full _)) (k := 7) (j := 3) (lo := -2147483648) (hi := 2147483647) (by decide) (R_full _)) (k := 7) (j := 4) (lo := -2147483648) (hi := 2147483647) (by decide) (R_full _)
  have r0 : Fr [7, 31] h (wI (wI (wI (wI (wI h 7 0 (mI h 2 2)) 7 1 (mI h 2 4)) 7 2 0) 7 3 0) 7 4 0) := Fr_w (Fr_w (Fr_w (Fr_w (Fr_w (Fr_rf h) (by decide)) (by decide)) (by decide)) (by decide)) (by decide)
  have v0 : mI (wI (wI (wI (wI (wI h 7 0 (mI h 2 2)) 7 1 (mI h 2 4)) 7 2 0) 7 3 0) 7 4 0) 7 0 = mI h 2 2 := by
    rw [mI_wI, if_neg (by decide), mI_wI, if_neg (by decide), mI_wI, if_neg (by decide), mI_wI, if_neg (by decide), mI_wI, if_pos ⟨rfl, rfl⟩]
  have v1 : mI (wI (wI (wI (wI (wI h 7 0 (mI h 2 2)) 7 1 (mI h 2 4)) 7 2 0) 7 3 0) 7 4 0) 7 1 = mI h 2 4 := by
    rw [mI_wI, if_neg (by decide), mI_wI, if_neg (by decide), mI_wI, if_neg (by decide), mI_wI, if_pos ⟨rfl, rfl⟩]
  have v2 : mI (wI (wI (wI (wI (wI h 7 0 (mI h 2 2)) 7 1 (mI h 2 4)) 7 2 0) 7 3 0) 7 4 0) 7 2 = 0 := by
    rw [mI_wI, if_neg (by decide), mI_wI, if_neg (by decide), mI_wI, if_pos ⟨rfl, rfl⟩]
  rw [v1, i_of en (by omega)] at ex
  generalize wI (wI (wI (wI (wI h 7 0 (mI h 2 2)) 7 1 (mI h 2 4)) 7 2 0) 7 3 0) 7 4 0 = h0 at g0 r0 v0 v1 v2
  have p8 : ((1 : Int32) <<< (Int32.ofNat n &&& 31)).toInt = (2 : Int) ^ n := shl_n (by omega)
  have n2 : (1 : Int) ≤ 2 ^ n ∧ (2 : Int) ^ n ≤ 256 := by
    rcases (show n = 0 ∨ n = 1 ∨ n = 2 ∨ n = 3 ∨ n = 4 ∨ n = 5 ∨ n = 6 ∨ n = 7 ∨ n = 8 by omega) with q | q | q | q | q | q | q | q | q <;> subst q <;> decide
  have ex1 : x1.toInt = (2 : Int) ^ n - 1 := by rw [ex]; exact i_sub p8 (by decide) (by omega)
  have m2 : ((2 ^ m : Nat) : Int) = (2 : Int) ^ m ∧ 2 ^ m ≤ 512 := by
    rcases (show m = 0 ∨ m = 1 ∨ m = 2 ∨ m = 3 ∨ m = 4 ∨ m = 5 ∨ m = 6 ∨ m = 7 ∨ m = 8 ∨ m = 9 by omega) with q | q | q | q | q | q | q | q | q | q <;> subst q <;> decide
  have pm : ∀ {k : mh_T}, mI k 7 0 = mI h 2 2 → ((1 : Int32) <<< ((mI k 7 0) &&& 31)).toInt = ((2 ^ m : Nat) : Int) := fun e => by
    rw [e, i_of em (by omega), shl_n (by omega), m2.1]
  have B : ∀ (q : Nat) (l3 : Int32) (v : Nat) (k : mh_T), l3.toInt = (v : Int) → v ≤ 2 ^ m → 2 ^ m - v < q → GI k → Fr [7, 31] h k → mI k 7 0 = mI h 2 2 → mI k 7 1 = mI h 2 4 → mI k 7 2 = wyc f n v → ME g uX5_open 62 [.ref 7, .ref 2, .int x1, .int l3, .retAddr 0] [] k (qV P) := by
    intro q
    induction q with
    | zero => intro l3 v k _ _ hq; exact absurd hq (Nat.not_lt_zero _)
    | succ q ih =>
      intro l3 v k e3 hv hq kG kF k0 k1 k2
      refine r_X5_open_62 x1 l3 ⟨fun z => ?_, fun z => ?_⟩
      · rw [i_le, pm k0, e3] at z
        have : v = 2 ^ m := by omega
        subst this
        refine s_X5_spread kG (fun h2 o2 => hp h2 o2.1 (Fr_t2 kF o2.2.1 (by decide)) ?_ ?_ ?_)
        · rw [Ok_eq o2 (by decide)]; exact k0
        · rw [Ok_eq o2 (by decide)]; exact k1
        · rw [Ok_eq o2 (by decide)]; exact k2
      · rw [i_le, pm k0, e3] at z
        refine v_soLines (f := f) (n := n) l3 e3 (by omega) (by rw [k1]; exact en) hn (fun l hl' => ?_) ?_
        · rw [show mI k 19 l = mI h 19 l from congrFun (kF 19 (by decide) (by decide)).1 l, show mI k 18 l = mI h 18 l from congrFun (kF 18 (by decide) (by decide)).1 l]
          exact hl l hl'
        · have sr := slb_R (f := f) (v := l3) n hn
          have e3' := i_inc e3 (by omega)
          have ev : l3 = Int32.ofNat v := i_of e3 (by omega)
          refine ⟨vin sr (by decide), fun y => ?_, fun y => ?_⟩
          · refine ih (l3 + 1) (v + 1) _ e3' (by omega) (by omega) (GI_w kG (k := 31) (lo := 0) (hi := 1) rfl ⟨by decide, by decide⟩) (Fr_w kF (by decide)) ?_ ?_ ?_
            · rw [mI_wI, if_neg (fun w => absurd w.1 (by decide))]; exact k0
            · rw [mI_wI, if_neg (fun w => absurd w.1 (by decide))]; exact k1
            · rw [mI_wI, if_neg (fun w => absurd w.1 (by decide)), k2]
              show _ = (if slb f (Int32.ofNat v) n = (1 <<< (Int32.ofNat n &&& 31)) - 1 then _ else _)
              rw [← ev, ← ex, if_neg y]
          · refine ih (l3 + 1) (v + 1) _ e3' (by omega) (by omega) (GI_w (GI_w (GI_w (GI_w kG (k := 31) (lo := 0) (hi := 1) rfl ⟨by decide, by decide⟩) (k := 7) (j := 2) (lo := -2147483648) (hi := 2147483647) (by decide) (R_full _)) (k := 7) (j := 3) (lo := -2147483648) (hi := 2147483647) (by decide) (R_full _)) (k := 7) (j := 4) (lo := -2147483648) (hi := 2147483647) (by decide) (R_full _)) (Fr_w (Fr_w (Fr_w (Fr_w kF (by decide)) (by decide)) (by decide)) (by decide)) ?_ ?_ ?_
            · rw [mI_wI, if_neg (by decide), mI_wI, if_neg (by decide), mI_wI, if_neg (by decide), mI_wI, if_neg (fun w => absurd w.1 (by decide))]; exact k0
            · rw [mI_wI, if_neg (by decide), mI_wI, if_neg (by decide), mI_wI, if_neg (by decide), mI_wI, if_neg (fun w => absurd w.1 (by decide))]; exact k1
            · rw [mI_wI, if_neg (by decide), mI_wI, if_neg (by decide), mI_wI, if_pos ⟨rfl, rfl⟩, mI_wI, if_neg (fun w => absurd w.1 (by decide)), k2]
              show _ = (if slb f (Int32.ofNat v) n = (1 <<< (Int32.ofNat n &&& 31)) - 1 then _ else _)
              rw [← ev, ← ex, if_pos y]
  have A : ∀ (q : Nat) (l3 : Int32) (v : Nat) (k : mh_T), l3.toInt = (v : Int) → v ≤ 256 → 256 - v < q → Ok [31] h0 k → ME g uX5_open 42 [.ref 7, .ref 2, .int x1, .int l3, .retAddr 0] [] k (qV P) := by
    intro q
    induction q with
    | zero => intro l3 v k _ _ hq; exact absurd hq (Nat.not_lt_zero _)
    | succ q ih =>
      intro l3 v k e3 hv hq ok
      refine r_X5_open_42 x1 l3 ⟨fun z => ?_, fun z => ?_⟩
      · refine B (2 ^ m + 1) 0 0 k (by decide) (Nat.zero_le _) (Nat.lt_succ_of_le (Nat.sub_le _ _)) ok.1 (Fr_t2 r0 ok.2.1 (by decide)) ?_ ?_ ?_
        · rw [Ok_eq ok (by decide)]; exact v0
        · rw [Ok_eq ok (by decide)]; exact v1
        · rw [Ok_eq ok (by decide)]; exact v2
      · rw [i_lt, ex1, e3] at z
        rw [i_nat e3]
        exact ⟨i_vp e3 (by omega), ih (l3 + 1) (v + 1) _ (i_inc e3 (by omega)) (by omega) (by omega) (Ok_w ok (k := 31) (lo := 0) (hi := 1) rfl ⟨by decide, by decide⟩ (by decide) (nt_k (by decide)))⟩
  exact A 257 0 0 h0 (by decide) (Nat.zero_le _) (by omega) (Ok_rf g0)
theorem w_linesBy {g : gT} {h : mh_T} {P : Int32 → mh_T → Prop} {n : Nat} (l1 : Int32) (en : (mI h 45 52).toInt = (n : Int)) (hn : n ≤ 8) (hp : P (slb (fun j => mI h 45 j) l1 n) h) : MCi g yX11_linesBy uX11_linesBy [.ref 11, .int l1] h P := by
  have i3 : (3 : Int32).toInt = 3 := by decide
  have n52 : Int32.toNatClampNeg 52 = 52 := by decide
  have L : ∀ (m : Nat) (l2 l3 : Int32) (k : Nat), l3.toInt = (k : Int) → k ≤ n → n - k < m → l2 = slb (fun j => mI h 45 j) l1 k → ME g uX11_linesBy 4 [.ref 11, .int l1, .int l2, .int l3, .retAddr 0, .retAddr 0] [] h (qI P) := by
    intro m
    induction m with
    | zero => intro l2 l3 k _ _ hm; exact absurd hm (Nat.not_lt_zero _)
    | succ m ih =>
      intro l2 l3 k e3 hk hm e2
      refine r_X11_linesBy_4 l1 l2 l3 ⟨fun z => ?_, fun z => ?_⟩
      · rw [n52, i_le, en, e3] at z
        have : k = n := by omega
        subst this
        rw [e2]
        exact hp
      · rw [n52, i_le, en, e3] at z
        have ix : ∀ (l5 : Int32) (q : Nat), l5.toInt = (q : Int) → q < 3 → ((53 + (3 * l3)) + l5).toInt = ((53 + 3 * k + q : Nat) : Int) := fun l5 q e5 hq => by
          have a : (3 * l3).toInt = 3 * (k : Int) := by rw [Int32.toInt_mul, e3, i3, bm (by omega) (by omega)]
          have b : (53 + (3 * l3)).toInt = 53 + 3 * (k : Int) := i_add (by decide) a (by omega)
          rw [i_add b e5 (by omega)]
          omega
        have st : ∀ (l4 l5 : Int32) (q : Nat), l5.toInt = (q : Int) → q < 3 → ME g uX11_linesBy 21 [.ref 11, .int l1, .int l2, .int l3, .int (l4 + bv l1 (mI h 45 (53 + 3 * k + q))), .int (l5 + 1)] [] h (qI P) → ME g uX11_linesBy 21 [.ref 11, .int l1, .int l2, .int l3, .int l4, .int l5] [] h (qI P) := fun l4 l5 q e5 hq nx => by
          refine r_X11_linesBy_21 l1 l2 l3 l4 l5 ⟨fun y => ?_, fun y => ⟨i_vp (ix l5 q e5 hq) (by omega), fun x7 ex => ?_⟩⟩
          · rw [i_le, i3, e5] at y
            omega
          · rw [i_nat (ix l5 q e5 hq)] at ex
            rw [ex]
            exact nx
        refine st 0 0 0 (by decide) (by decide) (st _ _ 1 (by decide) (by decide) (st _ _ 2 (by decide) (by decide) ?_))
        have i77 := i_1p (c := 77) (d := 77) e3 (by decide) (by omega) (by decide)
        have e3' := i_inc e3 (by omega)
        have er : ((0 + bv l1 (mI h 45 (53 + 3 * k + 0))) + bv l1 (mI h 45 (53 + 3 * k + 1))) + bv l1 (mI h 45 (53 + 3 * k + 2)) = rs (fun j => mI h 45 j) l1 k := by
          unfold rs
          rw [show 53 + 3 * k + 0 = 53 + 3 * k by omega, show 53 + 3 * k + 1 = 54 + 3 * k by omega, show 53 + 3 * k + 2 = 55 + 3 * k by omega]
        rw [er]
        refine r_X11_linesBy_21 l1 l2 l3 _ _ ⟨fun _ => ⟨i_vp i77 (by omega), ?_⟩, fun y => absurd (by decide) y⟩
        rw [i_nat i77]
        have ec : (rs (fun j => mI h 45 j) l1 k - rs (fun j => mI h 45 j) l1 k / 2 * 2 = mI h 45 (77 + k)) ↔ lnc (fun j => mI h 45 j) l1 k := Iff.rfl
        refine ⟨fun y x4 ex => ih x4 (l3 + 1) (k + 1) e3' (by omega) (by omega) ?_, fun y x5 ex => ih x5 (l3 + 1) (k + 1) e3' (by omega) (by omega) ?_⟩
        · show x4 = (if lnc (fun j => mI h 45 j) l1 k then _ else _)
          rw [if_neg (fun q => y (ec.mpr q)), ex, Int32.or_zero]
          exact e2
        · show x5 = (if lnc (fun j => mI h 45 j) l1 k then _ else _)
          rw [if_pos (ec.mp y), ex, e2, i_of e3 (by omega)]
  exact e_X11_linesBy l1 (L (n + 1) 0 0 0 (by decide) (Nat.zero_le _) (by omega) rfl)
theorem w_ways_L {g : gT} {h : mh_T} {P : Int32 → mh_T → Prop} {n m : Nat} (en : (mI h 45 52).toInt = (n : Int)) (hn : n ≤ 8) (em : (mI h 45 51).toInt = (m : Int)) (hm9 : m ≤ 9) (hp : P (wyc (fun j => mI h 45 j) n (2 ^ m)) h) : ME g uX11_ways 21 [.ref 11, .int 0, .int 0] [] h (qI P) := by
  have n51 : Int32.toNatClampNeg 51 = 51 := by decide
  have n52 : Int32.toNatClampNeg 52 = 52 := by decide
  have m2 : ((2 ^ m : Nat) : Int) = (2 : Int) ^ m ∧ 2 ^ m ≤ 512 := by
    rcases (show m = 0 ∨ m = 1 ∨ m = 2 ∨ m = 3 ∨ m = 4 ∨ m = 5 ∨ m = 6 ∨ m = 7 ∨ m = 8 ∨ m = 9 by omega) with q | q | q | q | q | q | q | q | q | q <;> subst q <;> decide
  have pm : ((1 : Int32) <<< ((mI h 45 51) &&& 31)).toInt = ((2 ^ m : Nat) : Int) := by rw [i_of em (by omega), shl_n (by omega), m2.1]
  have L : ∀ (q : Nat) (l1 l2 : Int32) (v : Nat), l2.toInt = (v : Int) → v ≤ 2 ^ m → 2 ^ m - v < q → l1 = wyc (fun j => mI h 45 j) n v → ME g uX11_ways 21 [.ref 11, .int l1, .int l2] [] h (qI P) := by
    intro q
    induction q with
    | zero => intro l1 l2 v _ _ hq; exact absurd hq (Nat.not_lt_zero _)
    | succ q ih =>
      intro l1 l2 v e2 hv hq e1
      refine r_X11_ways_21 l1 l2 ⟨fun z => ?_, fun z => ?_⟩
      · rw [n51, i_le, pm, e2] at z
        have : v = 2 ^ m := by omega
        subst this
        rw [e1]
        exact hp
      · rw [n51, i_le, pm, e2] at z
        refine w_linesBy l2 en hn (e_X11_allLines ?_)
        rw [n52]
        have ev : l2 = Int32.ofNat v := i_of e2 (by omega)
        have e2' := i_inc e2 (by omega)
        refine ⟨fun y x7 ex => ih x7 (l2 + 1) (v + 1) e2' (by omega) (by omega) ?_, fun y x8 ex => ih x8 (l2 + 1) (v + 1) e2' (by omega) (by omega) ?_⟩
        · show x7 = (if slb (fun j => mI h 45 j) (Int32.ofNat v) n = (1 <<< (Int32.ofNat n &&& 31)) - 1 then _ else _)
          rw [← ev, ← i_of en (by omega), if_neg y, ex, Int32.add_zero]
          exact e1
        · show x8 = (if slb (fun j => mI h 45 j) (Int32.ofNat v) n = (1 <<< (Int32.ofNat n &&& 31)) - 1 then _ else _)
          rw [← ev, ← i_of en (by omega), if_pos y, ex, e1]
  exact L (2 ^ m + 1) 0 0 0 (by decide) (Nat.zero_le _) (Nat.lt_succ_of_le (Nat.sub_le _ _)) rfl
