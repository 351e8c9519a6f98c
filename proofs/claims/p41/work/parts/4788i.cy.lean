/-! cycles: what is a ring -/
theorem bt_ano (x y : Int32) (t : Nat) : bt (x &&& y) t = (bt x t && bt y t) := by
  unfold bt
  rw [Int32.toBitVec_and, BitVec.getLsbD_and]
theorem bt_oro (x y : Int32) (t : Nat) : bt (x ||| y) t = (bt x t || bt y t) := by
  unfold bt
  rw [Int32.toBitVec_or, BitVec.getLsbD_or]
theorem bt_ext2 {x y : Int32} (h : ∀ t, bt x t = bt y t) : x = y := by
  apply Int32.toBitVec_inj.mp
  apply BitVec.eq_of_getLsbD_eq
  intro i _
  exact h i
theorem and_nul {x y : Int32} : (x &&& y) = 0 ↔ ∀ t, ¬ (bt x t = true ∧ bt y t = true) := by
  rw [bt_nul]
  constructor
  · intro q t ⟨a, b⟩
    have := q t
    rw [bt_ano, a, b] at this
    cases this
  · intro q t
    rw [bt_ano]
    cases a : bt x t <;> cases b : bt y t <;> first | rfl | exact absurd ⟨a, b⟩ (q t)
theorem or_nul {x y : Int32} : (x ||| y) = 0 ↔ x = 0 ∧ y = 0 := by
  rw [bt_nul, bt_nul, bt_nul]
  constructor
  · intro q
    refine ⟨fun t => ?_, fun t => ?_⟩
    · have := q t
      rw [bt_oro] at this
      cases a : bt x t
      · rfl
      · rw [a] at this; cases this
    · have := q t
      rw [bt_oro] at this
      cases b : bt y t
      · rfl
      · rw [b, Bool.or_true] at this; cases this
  · intro ⟨q1, q2⟩ t
    rw [bt_oro, q1 t, q2 t]
    rfl
/-- the looks of a set, as bits -/
def lo (a : Nat → Int32) (s : Nat) : Int32 := (1 <<< (a (1 + s) &&& 31)) ||| (1 <<< (a (9 + s) &&& 31))
theorem lo_cg {a b : Nat → Int32} {s : Nat} (e : sE a s b s) : lo a s = lo b s := by
  unfold lo
  rw [e.1, e.2.1]
def hB (l : Int32) (s : Nat) : Bool := decide (¬ bv l (Int32.ofNat s) = 0)
theorem bv_01 (v x : Int32) : bv v x = 0 ∨ bv v x = 1 := by
  have f := bv01 v x
  have f1 := f.1
  have f2 := f.2
  by_cases h : (bv v x).toInt = 0
  · exact Or.inl (Int32.toInt_inj.mp (by rw [h]; decide))
  · exact Or.inr (Int32.toInt_inj.mp (by rw [show (1 : Int32).toInt = 1 from by decide]; omega))
def oF (E : Nat → Int32) (B : Nat → Bool) : Nat → Int32
  | 0 => 0
  | s + 1 => if B s = true then oF E B s ||| E s else oF E B s
def tF (E : Nat → Int32) (B : Nat → Bool) : Nat → Int32
  | 0 => 0
  | s + 1 => if B s = true then tF E B s ||| (oF E B s &&& E s) else tF E B s
def hF (E : Nat → Int32) (B : Nat → Bool) : Nat → Int32
  | 0 => 0
  | s + 1 => if B s = true then hF E B s ||| (tF E B s &&& E s) else hF E B s
def lF (E : Nat → Int32) (B : Nat → Bool) : Nat → Int32
  | 0 => 0
  | s + 1 => if B s = true then E s else lF E B s
theorem hF_0 {E : Nat → Int32} {B : Nat → Bool} : ∀ n, hF E B n = 0 ↔ ∀ s, s < n → B s = true → (tF E B s &&& E s) = 0
  | 0 => ⟨fun _ s hs => absurd hs (Nat.not_lt_zero _), fun _ => rfl⟩
  | n + 1 => by
    show (if B n = true then hF E B n ||| (tF E B n &&& E n) else hF E B n) = 0 ↔ _
    by_cases b : B n = true
    · rw [if_pos b, or_nul, hF_0 n]
      constructor
      · rintro ⟨q1, q2⟩ s hs hb
        by_cases e : s = n
        · rw [e]; exact q2
        · exact q1 s (by omega) hb
      · intro q
        exact ⟨fun s hs hb => q s (by omega) hb, q n (by omega) b⟩
    · rw [if_neg b, hF_0 n]
      constructor
      · intro q s hs hb
        by_cases e : s = n
        · rw [e] at hb; exact absurd hb b
        · exact q s (by omega) hb
      · intro q s hs hb
        exact q s (by omega) hb
theorem oF_bt {E : Nat → Int32} {B : Nat → Bool} : ∀ n t, bt (oF E B n) t = true ↔ ∃ s, s < n ∧ B s = true ∧ bt (E s) t = true
  | 0, t => by
    constructor
    · intro z
      rw [show oF E B 0 = 0 from rfl, (bt_nul (x := 0)).mp rfl t] at z
      cases z
    · rintro ⟨s, hs, -⟩; omega
  | n + 1, t => by
    show bt (if B n = true then oF E B n ||| E n else oF E B n) t = true ↔ _
    by_cases b : B n = true
    · rw [if_pos b, bt_oro, Bool.or_eq_true, oF_bt n t]
      constructor
      · rintro (⟨s, h1, h2, h3⟩ | q)
        · exact ⟨s, by omega, h2, h3⟩
        · exact ⟨n, by omega, b, q⟩
      · rintro ⟨s, h1, h2, h3⟩
        by_cases e : s = n
        · rw [e] at h3; exact Or.inr h3
        · exact Or.inl ⟨s, by omega, h2, h3⟩
    · rw [if_neg b, oF_bt n t]
      constructor
      · rintro ⟨s, h1, h2, h3⟩; exact ⟨s, by omega, h2, h3⟩
      · rintro ⟨s, h1, h2, h3⟩
        by_cases e : s = n
        · rw [e] at h2; exact absurd h2 b
        · exact ⟨s, by omega, h2, h3⟩
theorem lF_s {E : Nat → Int32} {B : Nat → Bool} : ∀ n, (∃ s, s < n ∧ B s = true) → ∃ s, s < n ∧ B s = true ∧ lF E B n = E s
  | 0, ⟨s, hs, _⟩ => absurd hs (Nat.not_lt_zero _)
  | n + 1, ⟨s, hs, hb⟩ => by
    by_cases b : B n = true
    · exact ⟨n, by omega, b, by show (if B n = true then E n else lF E B n) = E n; rw [if_pos b]⟩
    · have : s ≠ n := fun e => b (by rw [← e]; exact hb)
      obtain ⟨q, h1, h2, h3⟩ := lF_s n ⟨s, by omega, hb⟩
      exact ⟨q, by omega, h2, by show (if B n = true then E n else lF E B n) = E q; rw [if_neg b]; exact h3⟩
/-- a round: what hangs on what is reached is reached -/
def rdF (E : Nat → Int32) (B : Nat → Bool) (x : Int32) : Nat → Int32
  | 0 => x
  | s + 1 => if B s = true then (if (E s &&& rdF E B x s) = 0 then rdF E B x s else rdF E B x s ||| E s) else rdF E B x s
def sbx (x y : Int32) : Prop := ∀ t, bt x t = true → bt y t = true
theorem rd_mono {E : Nat → Int32} {B : Nat → Bool} {x : Int32} {j : Nat} : ∀ n, j ≤ n → sbx (rdF E B x j) (rdF E B x n)
  | 0, h => by
    have : j = 0 := by omega
    rw [this]
    exact fun _ q => q
  | n + 1, h => by
    by_cases e : j = n + 1
    · rw [e]; exact fun _ q => q
    · have i := rd_mono (E := E) (B := B) (x := x) n (by omega : j ≤ n)
      intro t q
      have i := i t q
      show bt (if B n = true then (if (E n &&& rdF E B x n) = 0 then rdF E B x n else rdF E B x n ||| E n) else rdF E B x n) t = true
      split
      · split
        · exact i
        · rw [bt_oro, i]; rfl
      · exact i
def cloP (E : Nat → Int32) (B : Nat → Bool) (n : Nat) (p : Nat → Prop) : Prop := ∀ s, s < n → B s = true → (∃ t, bt (E s) t = true ∧ p t) → ∀ t, bt (E s) t = true → p t
theorem sub_eq {x y : Int32} (a : sbx x y) (b : sbx y x) : x = y := bt_ext2 (fun t => by
  cases h : bt x t
  · cases k : bt y t
    · rfl
    · rw [b t k] at h; cases h
  · rw [a t h])
/-- a round that adds nothing: what is reached is closed -/
theorem rd_fix {E : Nat → Int32} {B : Nat → Bool} {x : Int32} {n : Nat} (h : rdF E B x n = x) : cloP E B n (fun t => bt x t = true) := by
  intro s hs hb ⟨t, t1, t2⟩ u hu
  have m1 := rd_mono (E := E) (B := B) (x := x) (j := s) n (by omega)
  have m0 := rd_mono (E := E) (B := B) (x := x) (j := 0) s (Nat.zero_le _)
  have e : rdF E B x s = x := sub_eq (by rw [h] at m1; exact m1) m0
  have m2 := rd_mono (E := E) (B := B) (x := x) (j := s + 1) n (by omega)
  rw [h] at m2
  refine m2 u ?_
  show bt (if B s = true then (if (E s &&& rdF E B x s) = 0 then rdF E B x s else rdF E B x s ||| E s) else rdF E B x s) u = true
  rw [if_pos hb, e, if_neg (fun z => and_nul.mp z t ⟨t1, t2⟩), bt_oro, hu, Bool.or_true]
/-- a round stays within what is closed -/
theorem rd_min {E : Nat → Int32} {B : Nat → Bool} {x : Int32} {N : Nat} {p : Nat → Prop} (c : cloP E B N p) (h : ∀ t, bt x t = true → p t) : ∀ n, n ≤ N → ∀ t, bt (rdF E B x n) t = true → p t
  | 0, _, t, q => h t q
  | n + 1, hn, t, q => by
    have i := rd_min c h n (by omega)
    have q : bt (if B n = true then (if (E n &&& rdF E B x n) = 0 then rdF E B x n else rdF E B x n ||| E n) else rdF E B x n) t = true := q
    split at q
    · rename_i b
      split at q
      · exact i t q
      · rename_i z
        rw [bt_oro, Bool.or_eq_true] at q
        rcases q with q | q
        · exact i t q
        · refine c n (by omega) b ?_ t q
          by_cases w : ∃ u, bt (E n) u = true ∧ p u
          · exact w
          · exact absurd (and_nul.mpr (fun u v => w ⟨u, v.1, i u v.2⟩)) z
    · exact i t q
/-- connected, from any start -/
theorem conn_iff {E : Nat → Int32} {B : Nat → Bool} {n : Nat} {X Y o x0 y0 : Int32} (ho : ∀ t, bt o t = true ↔ ∃ s, s < n ∧ B s = true ∧ bt (E s) t = true) (cX : cloP E B n (fun t => bt X t = true)) (mX : ∀ p : Nat → Prop, cloP E B n p → (∀ t, bt x0 t = true → p t) → ∀ t, bt X t = true → p t) (cY : cloP E B n (fun t => bt Y t = true)) (mY : ∀ p : Nat → Prop, cloP E B n p → (∀ t, bt y0 t = true → p t) → ∀ t, bt Y t = true → p t) (sX : sbx X o) (sY : sbx Y o) (nx : ∀ p : Nat → Prop, cloP E B n p → (∀ t, bt x0 t = true → p t) ∨ (∀ t, bt x0 t = true → bt o t = true ∧ ¬ p t)) (ny : ∀ p : Nat → Prop, cloP E B n p → (∀ t, bt y0 t = true → p t) ∨ (∀ t, bt y0 t = true → bt o t = true ∧ ¬ p t)) (eX : ∃ t, bt X t = true) (eY : ∃ t, bt Y t = true) : X = o ↔ Y = o := by
  have key : ∀ (X Y x0 : Int32), sbx Y o → cloP E B n (fun t => bt Y t = true) → (∀ p : Nat → Prop, cloP E B n p → (∀ t, bt x0 t = true → p t) → ∀ t, bt X t = true → p t) → (∀ p : Nat → Prop, cloP E B n p → (∀ t, bt x0 t = true → p t) ∨ (∀ t, bt x0 t = true → bt o t = true ∧ ¬ p t)) → X = o → (∃ t, bt Y t = true) → Y = o := by
    intro X Y x0 sY cY mX nx e ⟨w, hw⟩
    refine sub_eq sY (fun t ht => ?_)
    have cc : cloP E B n (fun t => bt o t = true ∧ ¬ bt Y t = true) := by
      rintro s hs hb ⟨u, u1, u2, u3⟩ v hv
      refine ⟨(ho v).mpr ⟨s, hs, hb, hv⟩, fun z => u3 (cY s hs hb ⟨v, hv, z⟩ u u1)⟩
    rcases nx _ cY with q | q
    · have := mX _ cY q t (by rw [e]; exact ht)
      exact this
    · have := (mX _ cc q w (by rw [e]; exact sY w hw)).2
      exact absurd hw this
  exact ⟨fun e => key X Y x0 sY cY mX nx e eY, fun e => key Y X y0 sX cX mY ny e eX⟩
theorem cN_lt {p q : Nat → Bool} : ∀ n, (∀ k, k < n → p k = true → q k = true) → (∃ j, j < n ∧ q j = true ∧ ¬ p j = true) → cN p n < cN q n
  | 0, _, ⟨j, hj, _⟩ => absurd hj (Nat.not_lt_zero _)
  | n + 1, h, ⟨j, hj, q1, q2⟩ => by
    show cN p n + (if p n = true then 1 else 0) < cN q n + (if q n = true then 1 else 0)
    have le : cN p n ≤ cN q n := by
      have : ∀ m, m ≤ n → cN p m ≤ cN q m := by
        intro m
        induction m with
        | zero => intro _; exact Nat.le_refl _
        | succ m im =>
          intro hm
          have i := im (by omega)
          show cN p m + (if p m = true then 1 else 0) ≤ cN q m + (if q m = true then 1 else 0)
          by_cases a : p m = true
          · rw [if_pos a, if_pos (h m (by omega) a)]; omega
          · rw [if_neg a]; omega
      exact this n (Nat.le_refl _)
    by_cases e : j = n
    · rw [← e, if_neg q2, if_pos q1]
      rw [e] at *
      omega
    · have i := cN_lt n (fun k hk => h k (by omega)) ⟨j, by omega, q1, q2⟩
      by_cases a : p n = true
      · rw [if_pos a, if_pos (h n (by omega) a)]; omega
      · rw [if_neg a]; omega
def w6 (x : Int32) : Prop := ∀ t, 6 ≤ t → bt x t = false
abbrev cb (x : Int32) : Nat := cN (fun t => bt x t) 6
theorem cb_lt {x y : Int32} (wy : w6 y) (s : sbx x y) (ne : ¬ y = x) : cb x < cb y := by
  refine cN_lt 6 (fun k _ h => s k h) ?_
  by_cases h : ∃ j, j < 6 ∧ bt y j = true ∧ ¬ bt x j = true
  · exact h
  · refine absurd (sub_eq (fun t ht => ?_) s) ne
    by_cases t6 : t < 6
    · by_cases b : bt x t = true
      · exact b
      · exact absurd ⟨t, t6, ht, b⟩ h
    · rw [wy t (by omega)] at ht; cases ht
def itR (E : Nat → Int32) (B : Nat → Bool) (n : Nat) (x : Int32) : Nat → Int32
  | 0 => x
  | k + 1 => rdF E B (itR E B n x k) n
theorem rd_w6 {E : Nat → Int32} {B : Nat → Bool} {x : Int32} {N : Nat} (hE : ∀ s, s < N → B s = true → w6 (E s)) (hx : w6 x) : ∀ n, n ≤ N → w6 (rdF E B x n)
  | 0, _ => hx
  | n + 1, hn => by
    have i := rd_w6 hE hx n (by omega)
    intro t ht
    show bt (if B n = true then (if (E n &&& rdF E B x n) = 0 then rdF E B x n else rdF E B x n ||| E n) else rdF E B x n) t = false
    split
    · rename_i b
      split
      · exact i t ht
      · rw [bt_oro, i t ht, hE n (by omega) b t ht]; rfl
    · exact i t ht
theorem it_w6 {E : Nat → Int32} {B : Nat → Bool} {n : Nat} {x : Int32} (hE : ∀ s, s < n → B s = true → w6 (E s)) (hx : w6 x) : ∀ k, w6 (itR E B n x k)
  | 0 => hx
  | k + 1 => rd_w6 hE (it_w6 hE hx k) n (Nat.le_refl _)
theorem it_fix {E : Nat → Int32} {B : Nat → Bool} {n : Nat} {x : Int32} (hE : ∀ s, s < n → B s = true → w6 (E s)) (hx : w6 x) : rdF E B (itR E B n x 8) n = itR E B n x 8 := by
  have L : ∀ k, rdF E B (itR E B n x k) n = itR E B n x k ∨ k ≤ cb (itR E B n x k) := by
    intro k
    induction k with
    | zero => exact Or.inr (Nat.zero_le _)
    | succ k ih =>
      rcases ih with h | h
      · exact Or.inl (by show rdF E B (rdF E B (itR E B n x k) n) n = rdF E B (itR E B n x k) n; rw [h, h])
      · by_cases f : rdF E B (itR E B n x k) n = itR E B n x k
        · exact Or.inl (by show rdF E B (rdF E B (itR E B n x k) n) n = rdF E B (itR E B n x k) n; rw [f, f])
        · refine Or.inr ?_
          have := cb_lt (x := itR E B n x k) (y := itR E B n x (k + 1)) (it_w6 hE hx (k + 1)) (rd_mono (j := 0) n (Nat.zero_le _)) f
          omega
  rcases L 8 with h | h
  · exact h
  · have h2 := cN_le (fun t => bt (itR E B n x 8) t) 6
    have h' : 8 ≤ cN (fun t => bt (itR E B n x 8) t) 6 := h
    omega
theorem it_min {E : Nat → Int32} {B : Nat → Bool} {n : Nat} {x : Int32} {p : Nat → Prop} (c : cloP E B n p) (h : ∀ t, bt x t = true → p t) : ∀ k t, bt (itR E B n x k) t = true → p t
  | 0, t, q => h t q
  | k + 1, t, q => rd_min c (it_min c h k) n (Nat.le_refl _) t q
theorem it_sub {E : Nat → Int32} {B : Nat → Bool} {n : Nat} {x : Int32} : ∀ k, sbx x (itR E B n x k)
  | 0 => fun _ q => q
  | k + 1 => fun t q => rd_mono (E := E) (B := B) (x := itR E B n x k) (j := 0) n (Nat.zero_le _) t (it_sub k t q)
/-- the least bit -/
theorem low_all : ∀ v, v < 64 → 0 < v → ∃ t, t < 6 ∧ bt (Int32.ofNat v) t = true ∧ (Int32.ofNat v &&& (-Int32.ofNat v)) = Int32.ofNat (2 ^ t) := by decide
theorem pow_bt : ∀ t, t < 6 → ∀ q, q < 32 → bt (Int32.ofNat (2 ^ t)) q = decide (q = t) := by decide
theorem low_bit {o : Int32} (w : w6 o) (h : ¬ o = 0) : ∃ t, bt o t = true ∧ ∀ q, bt (o &&& (-o)) q = true ↔ q = t := by
  have e : o = o &&& 63 := bt_ext2 (fun t => by
    rw [bt_ano]
    by_cases t6 : t < 6
    · have : ∀ t, t < 6 → bt 63 t = true := by decide
      rw [this t t6, Bool.and_true]
    · rw [w t (by omega), Bool.false_and])
  have r : R 0 63 o := by rw [e]; exact R_and (show R 63 63 63 from ⟨by decide, by decide⟩) (by decide)
  obtain ⟨v, ev, -, hv⟩ := i_R r (by decide)
  have eo := i_of ev (by omega)
  have v0 : 0 < v := by
    by_cases z : v = 0
    · rw [z] at ev; exact absurd (Int32.toInt_inj.mp (by rw [ev]; decide)) h
    · omega
  obtain ⟨t, t6, t1, t2⟩ := low_all v (by omega) v0
  rw [eo]
  refine ⟨t, t1, fun q => ?_⟩
  rw [t2]
  by_cases q32 : q < 32
  · rw [pow_bt t t6 q q32, decide_eq_true_iff]
  · constructor
    · intro z
      unfold bt at z
      rw [BitVec.getLsbD_of_ge _ _ (by omega)] at z
      cases z
    · intro z; omega
