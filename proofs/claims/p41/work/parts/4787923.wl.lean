/-! LINES: sets of lines as bits -/
def An (n : Nat) : Int32 := (1 <<< (Int32.ofNat n &&& 31)) - 1
abbrev sv (f : Nat → Int32) (n v : Nat) : Int32 := slb f (Int32.ofNat v) n
def clr (b t : Nat) : Nat := if bt (Int32.ofNat b) t = true then b - 2 ^ t else b
set_option maxRecDepth 100000 in
theorem clr_n : ∀ b, b < 256 → ∀ t, t < 8 → (Int32.ofNat b &&& ((1 <<< (Int32.ofNat t &&& 31)) ^^^ (-1))).toInt = (clr b t : Int) ∧ clr b t ≤ b := by decide +kernel
set_option maxRecDepth 100000 in
theorem clr_b : ∀ b, b < 256 → ∀ t, t < 8 → ∀ i, i < 8 → bt (Int32.ofNat (clr b t)) i = (bt (Int32.ofNat b) i && !(i == t)) := by decide +kernel
def V8 (g : Nat → Bool) : Nat := (g 0).toNat + 2 * (g 1).toNat + 4 * (g 2).toNat + 8 * (g 3).toNat + 16 * (g 4).toNat + 32 * (g 5).toNat + 64 * (g 6).toNat + 128 * (g 7).toNat
set_option maxRecDepth 100000 in
theorem v8_n : ∀ a, a < 256 → V8 (bt (Int32.ofNat a)) = a := by decide +kernel
theorem bx {a b : Nat} (ha : a < 256) (hb : b < 256) (h : ∀ i, i < 8 → bt (Int32.ofNat a) i = bt (Int32.ofNat b) i) : a = b := by
  rw [← v8_n a ha, ← v8_n b hb]
  unfold V8
  rw [h 0 (by decide), h 1 (by decide), h 2 (by decide), h 3 (by decide), h 4 (by decide), h 5 (by decide), h 6 (by decide), h 7 (by decide)]
theorem p2n {n : Nat} (hn : n ≤ 8) : 1 ≤ 2 ^ n ∧ 2 ^ n ≤ 256 ∧ ((2 ^ n : Nat) : Int) = (2 : Int) ^ n := by
  rcases (show n = 0 ∨ n = 1 ∨ n = 2 ∨ n = 3 ∨ n = 4 ∨ n = 5 ∨ n = 6 ∨ n = 7 ∨ n = 8 by omega) with q | q | q | q | q | q | q | q | q <;> subst q <;> decide
theorem slb_lt {f : Nat → Int32} {v : Int32} : ∀ k, k ≤ 8 → 0 ≤ (slb f v k).toInt ∧ (slb f v k).toInt < (2 : Int) ^ k
  | 0, _ => show 0 ≤ (0 : Int32).toInt ∧ (0 : Int32).toInt < (2 : Int) ^ 0 from by decide
  | k + 1, hk => by
    have ih := slb_lt (f := f) (v := v) k (by omega)
    have e := shl_n (n := k) (by omega)
    show 0 ≤ (if lnc f v k then slb f v k ||| (1 <<< (Int32.ofNat k &&& 31)) else slb f v k).toInt ∧ (if lnc f v k then slb f v k ||| (1 <<< (Int32.ofNat k &&& 31)) else slb f v k).toInt < (2 : Int) ^ (k + 1)
    split
    · have P : ∀ (x y : Int32), 0 ≤ x.toInt ∧ x.toInt < (2 : Int) ^ k → y.toInt = (2 : Int) ^ k → 0 ≤ (x ||| y).toInt ∧ (x ||| y).toInt < (2 : Int) ^ (k + 1) := fun x y hx hy => by
        have r : R 0 (2 ^ (k + 1) - 1) (x ||| y) := by
          rcases (show k = 0 ∨ k = 1 ∨ k = 2 ∨ k = 3 ∨ k = 4 ∨ k = 5 ∨ k = 6 ∨ k = 7 by omega) with q | q | q | q | q | q | q | q <;> subst q
          · exact R_or (a := 0) (b := 0) (c := 0) (d := 1) ⟨hx.1, by have := hx.2; omega⟩ ⟨by omega, by omega⟩ 1 _ (by decide)
          · exact R_or (a := 0) (b := 1) (c := 0) (d := 2) ⟨hx.1, by have := hx.2; omega⟩ ⟨by omega, by omega⟩ 2 _ (by decide)
          · exact R_or (a := 0) (b := 3) (c := 0) (d := 4) ⟨hx.1, by have := hx.2; omega⟩ ⟨by omega, by omega⟩ 3 _ (by decide)
          · exact R_or (a := 0) (b := 7) (c := 0) (d := 8) ⟨hx.1, by have := hx.2; omega⟩ ⟨by omega, by omega⟩ 4 _ (by decide)
          · exact R_or (a := 0) (b := 15) (c := 0) (d := 16) ⟨hx.1, by have := hx.2; omega⟩ ⟨by omega, by omega⟩ 5 _ (by decide)
          · exact R_or (a := 0) (b := 31) (c := 0) (d := 32) ⟨hx.1, by have := hx.2; omega⟩ ⟨by omega, by omega⟩ 6 _ (by decide)
          · exact R_or (a := 0) (b := 63) (c := 0) (d := 64) ⟨hx.1, by have := hx.2; omega⟩ ⟨by omega, by omega⟩ 7 _ (by decide)
          · exact R_or (a := 0) (b := 127) (c := 0) (d := 128) ⟨hx.1, by have := hx.2; omega⟩ ⟨by omega, by omega⟩ 8 _ (by decide)
        exact ⟨r.1, by have := r.2; omega⟩
      exact P _ _ ih e
    · have : (2 : Int) ^ (k + 1) = 2 ^ k * 2 := Int.pow_succ 2 k
      exact ⟨ih.1, by omega⟩
theorem sv_nat {f : Nat → Int32} {v : Int32} {n : Nat} (hn : n ≤ 8) : ∃ w : Nat, (slb f v n).toInt = (w : Int) ∧ w < 2 ^ n ∧ slb f v n = Int32.ofNat w := by
  have a := slb_lt (f := f) (v := v) n hn
  have p := p2n hn
  refine ⟨(slb f v n).toInt.toNat, by omega, by omega, i_of (by omega) (by omega)⟩
theorem bt_or2 {x y : Int32} {t : Nat} : bt (x ||| y) t = (bt x t || bt y t) := by
  unfold bt
  rw [Int32.toBitVec_or, BitVec.getLsbD_or]
theorem bt_not {x : Int32} {t : Nat} (ht : t < 32) : bt (x ^^^ (-1)) t = !bt x t := by
  unfold bt
  rw [Int32.toBitVec_xor, BitVec.getLsbD_xor, show (-1 : Int32).toBitVec = BitVec.allOnes 32 from by decide, BitVec.getLsbD_allOnes, decide_eq_true ht, Bool.xor_true]
theorem bt_ex {x y : Int32} (h : ∀ t, t < 32 → bt x t = bt y t) : x = y := Int32.toBitVec_inj.mp (BitVec.eq_of_getLsbD_eq (fun t ht => h t ht))
theorem bt_zr {t : Nat} : bt 0 t = false := by
  unfold bt
  rw [show (0 : Int32).toBitVec = 0#32 from by decide, BitVec.getLsbD_zero]
theorem bt_hi {a t : Nat} (ha : a < 256) (ht : 8 ≤ t) : bt (Int32.ofNat a) t = false := by
  show (BitVec.ofNat 32 a).getLsbD t = false
  rw [BitVec.getLsbD_ofNat]
  have : a.testBit t = false := Nat.testBit_lt_two_pow (Nat.lt_of_lt_of_le ha (Nat.pow_le_pow_right (n := 2) (by decide) ht))
  rw [this, Bool.and_false]
theorem bt_lo {a n t : Nat} (hn : n ≤ 8) (ha : a < 256) (h : a < 2 ^ n) (ht : ¬ t < n) : bt (Int32.ofNat a) t = false := by
  show (BitVec.ofNat 32 a).getLsbD t = false
  rw [BitVec.getLsbD_ofNat]
  have : a.testBit t = false := Nat.testBit_lt_two_pow (Nat.lt_of_lt_of_le h (Nat.pow_le_pow_right (n := 2) (by decide) (by omega)))
  rw [this, Bool.and_false]
/-- all of x is in y -/
theorem sub_0 {x y : Int32} : (x &&& (y ^^^ (-1))) = 0 ↔ ∀ t, t < 32 → bt x t = true → bt y t = true := by
  constructor
  · intro h t ht hx
    have e : bt (x &&& (y ^^^ (-1))) t = false := by rw [h]; exact bt_zr
    rw [bt_and, bt_not ht, hx, Bool.true_and] at e
    cases q : bt y t
    · rw [q] at e; cases e
    · rfl
  · intro h
    refine bt_ex (fun t ht => ?_)
    rw [bt_and, bt_not ht, bt_zr]
    cases q : bt x t
    · rfl
    · rw [h t ht q]; rfl
/-- what a closed family holds, it holds with less -/
theorem pth_h {H : Nat → Prop} {n : Nat} (hn : n ≤ 8) (c : ∀ s, s < 2 ^ n → H s → ∀ t, t < 8 → H (clr s t)) {s s' : Nat} (hs : s < 2 ^ n) (hs' : s' < 2 ^ n) (sub : ∀ t, t < 8 → bt (Int32.ofNat s) t = true → bt (Int32.ofNat s') t = true) (h : H s') : H s := by
  have p := p2n hn
  have A : ∀ t, t ≤ 8 → ∃ x, x < 2 ^ n ∧ H x ∧ ∀ i, i < 8 → bt (Int32.ofNat x) i = if i < t then bt (Int32.ofNat s) i else bt (Int32.ofNat s') i := by
    intro t
    induction t with
    | zero => intro _; exact ⟨s', hs', h, fun i _ => by rw [if_neg (Nat.not_lt_zero _)]⟩
    | succ t ih =>
      intro ht
      obtain ⟨x, x1, x2, x3⟩ := ih (by omega)
      by_cases q : bt (Int32.ofNat s) t = true
      · refine ⟨x, x1, x2, fun i hi => ?_⟩
        rw [x3 i hi]
        by_cases e : i = t
        · subst e
          rw [if_neg (by omega), if_pos (by omega), q, sub i hi q]
        · by_cases l : i < t
          · rw [if_pos l, if_pos (by omega)]
          · rw [if_neg l, if_neg (by omega)]
      · have cn := clr_n x (by omega) t (by omega)
        refine ⟨clr x t, by omega, c x x1 x2 t (by omega), fun i hi => ?_⟩
        rw [clr_b x (by omega) t (by omega) i hi, x3 i hi]
        by_cases e : i = t
        · subst e
          rw [if_neg (by omega), if_pos (by omega), beq_self_eq_true, Bool.not_true, Bool.and_false]
          exact (Bool.eq_false_iff.mpr q).symm
        · rw [beq_false_of_ne e, Bool.not_false, Bool.and_true]
          by_cases l : i < t
          · rw [if_pos l, if_pos (by omega)]
          · rw [if_neg l, if_neg (by omega)]
  obtain ⟨x, x1, x2, x3⟩ := A 8 (by omega)
  have : x = s := bx (by omega) (by omega) (fun i hi => by rw [x3 i hi, if_pos hi])
  rw [← this]
  exact x2
abbrev sbs (s s' : Nat) : Prop := ∀ t, t < 8 → bt (Int32.ofNat s) t = true → bt (Int32.ofNat s') t = true
theorem clr_sbs {b t : Nat} (hb : b < 256) (ht : t < 8) : sbs (clr b t) b := fun i hi h => by
  rw [clr_b b hb t ht i hi] at h
  exact (Bool.and_eq_true_iff.mp h).1
theorem v_spread {g : gT} {h : mh_T} {P : mh_T → Prop} {n : Nat} {E : Nat → Prop} (hG : GI h) (en : (mI h 7 1).toInt = (n : Int)) (hn : n ≤ 8) (hE : ∀ s, s < 2 ^ n → (¬ mI h 31 s = 0 ↔ E s)) (hp : ∀ h', Ok [31] h h' → (∀ s, s < 2 ^ n → (¬ mI h' 31 s = 0 ↔ ∃ s', s' < 2 ^ n ∧ E s' ∧ sbs s s')) → P h') : MCv g yX5_spread uX5_spread [.ref 7] h P := by
  have p := p2n hn
  have z0 : (0 : Int32).toInt = 0 := by decide
  have z1 : ¬ (1 : Int32) = 0 := by decide
  have B : ∀ (b : Nat) (l1 : Int32) (k : mh_T), l1.toInt = (b : Int) → b < 2 ^ n → Ok [31] h k → (∀ s, s < 2 ^ n → ¬ mI k 31 s = 0 → ∃ s', s' < 2 ^ n ∧ E s' ∧ sbs s s') → (∀ s, s < 2 ^ n → E s → ¬ mI k 31 s = 0) → (∀ s, s < 2 ^ n → b < s → ¬ mI k 31 s = 0 → ∀ t, t < n → ¬ mI k 31 (clr s t) = 0) → ME g uX5_spread 9 [.ref 7, .int l1, .retAddr 0] [] k (qV P) := by
    intro b
    induction b with
    | zero =>
      intro l1 k e1 hb ok i1 i2 i3
      refine r_X5_spread_9 l1 ⟨fun _ => hp k ok (fun s hs => ⟨i1 s hs, fun ⟨s', h1, h2, h3⟩ => ?_⟩), fun z => absurd (by rw [i_le, z0, e1]; omega) z⟩
      refine pth_h (H := fun s => ¬ mI k 31 s = 0) hn (fun x hx hh t ht => ?_) hs h1 h3 (i2 s' h1 h2)
      by_cases q : bt (Int32.ofNat x) t = true
      · by_cases y : t < n
        · by_cases w : x = 0
          · subst w
            have : clr 0 t = 0 := by have := (clr_n 0 (by omega) t ht).2; omega
            rw [this]
            exact hh
          · exact i3 x hx (by omega) hh t y
        · exact absurd (bt_lo (by omega) (by omega) hx y) (by rw [q]; decide)
      · unfold clr
        rw [if_neg q]
        exact hh
    | succ b ih =>
      intro l1 k e1 hb ok i1 i2 i3
      refine r_X5_spread_9 l1 ⟨fun z => by rw [i_le, z0, e1] at z; omega, fun _ => ?_⟩
      have ed : (l1 + (-1)).toInt = (b : Int) := by rw [i_add e1 (show (-1 : Int32).toInt = -1 by decide) (by omega)]; omega
      have L : ∀ (q : Nat) (l2 : Int32) (c : Nat) (k : mh_T), l2.toInt = (c : Int) → c ≤ n → n - c < q → Ok [31] h k → (∀ s, s < 2 ^ n → ¬ mI k 31 s = 0 → ∃ s', s' < 2 ^ n ∧ E s' ∧ sbs s s') → (∀ s, s < 2 ^ n → E s → ¬ mI k 31 s = 0) → (∀ s, s < 2 ^ n → b + 1 < s → ¬ mI k 31 s = 0 → ∀ t, t < n → ¬ mI k 31 (clr s t) = 0) → (∀ t, t < c → ¬ mI k 31 (clr (b + 1) t) = 0) → ME g uX5_spread 15 [.ref 7, .int l1, .int l2] [] k (qV P) := by
        intro q
        induction q with
        | zero => intro l2 c k _ _ hq; exact absurd hq (Nat.not_lt_zero _)
        | succ q ih2 =>
          intro l2 c k e2 hc hq ok i1 i2 i3 i4
          have e7 : mI k 7 1 = mI h 7 1 := Ok_eq ok (by decide)
          refine r_X5_spread_15 l1 l2 ⟨i_vp e1 (by omega), ?_⟩
          rw [i_nat e1, e7]
          refine ⟨fun z => ih _ k ed (by omega) ok i1 i2 (fun s hs hb' hh t ht => ?_), fun z => ⟨fun y => ih _ k ed (by omega) ok i1 i2 (fun s hs hb' hh t ht => ?_), fun y => ?_⟩⟩
          · by_cases w : s = b + 1
            · subst w; exact absurd z hh
            · exact i3 s hs (by omega) hh t ht
          · rw [i_le, en, e2] at y
            by_cases w : s = b + 1
            · subst w; exact i4 t (by omega)
            · exact i3 s hs (by omega) hh t ht
          · rw [i_le, en, e2] at y
            have cn := clr_n (b + 1) (by omega) c (by omega)
            rw [← i_of e1 (by omega), ← i_of e2 (by omega)] at cn
            have m : ∀ s, ¬ mI k 31 s = 0 → ¬ mI (wI k 31 (clr (b + 1) c) 1) 31 s = 0 := fun s hs => by
              rw [mI_wI]
              split
              · exact z1
              · exact hs
            refine ⟨i_vp cn.1 (by omega), ?_⟩
            rw [i_nat cn.1]
            refine ih2 (l2 + 1) (c + 1) _ (i_inc e2 (by omega)) (by omega) (by omega) (Ok_w ok (k := 31) (lo := 0) (hi := 1) rfl ⟨by decide, by decide⟩ (by decide) (nt_k (by decide))) (fun s hs hh => ?_) (fun s hs hh => m s (i2 s hs hh)) (fun s hs hb' hh t ht => m _ (i3 s hs hb' ?_ t ht)) (fun t ht => ?_)
            · by_cases w : s = clr (b + 1) c
              · obtain ⟨s', a1, a2, a3⟩ := i1 (b + 1) hb z
                subst w
                exact ⟨s', a1, a2, fun t ht hx => a3 t ht (clr_sbs (by omega) (by omega) t ht hx)⟩
              · rw [mI_wI, if_neg (fun x => w x.2)] at hh
                exact i1 s hs hh
            · rw [mI_wI, if_neg (fun x => by have := x.2; omega)] at hh
              exact hh
            · by_cases w : t = c
              · subst w
                rw [mI_wI, if_pos ⟨rfl, rfl⟩]
                exact z1
              · exact m _ (i4 t (by omega))
      exact L (n + 1) 0 0 k (by decide) (Nat.zero_le _) (by omega) ok i1 i2 i3 (fun t ht => absurd ht (Nat.not_lt_zero _))
  refine e_X5_spread (fun x1 ex => ?_)
  have ex1 : x1.toInt = ((2 ^ n - 1 : Nat) : Int) := by
    rw [ex, i_of en (by omega), i_sub (shl_n (n := n) (by omega)) (show (1 : Int32).toInt = 1 by decide) (by omega)]
    omega
  exact B (2 ^ n - 1) x1 h ex1 (by omega) (Ok_rf hG) (fun s hs hh => ⟨s, hs, (hE s hs).mp hh, fun _ _ q => q⟩) (fun s hs hh => (hE s hs).mpr hh) (fun s hs hb => absurd hb (by omega))
