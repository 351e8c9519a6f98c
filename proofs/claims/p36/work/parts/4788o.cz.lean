/-! cycles: excessOf -/
/-! cycles: greatest, widest -/
/-! a bit more -/
def bs (acc : Int32) (v : Nat) : Int32 := acc ||| (1 <<< (Int32.ofNat v &&& 31))
theorem bs_e {acc l : Int32} {v : Nat} (e : l.toInt = (v : Int)) (hv : v < 2147483648) : acc ||| (1 <<< (l &&& 31)) = bs acc v := by rw [i_of e hv]; rfl
theorem bs_bt (acc : Int32) {v : Nat} (hv : v < 32) (t : Nat) : bt (bs acc v) t = (bt acc t || decide (v = t)) := bt_orA (Int32.toInt_ofNat_of_lt (by omega)) hv t
/-! runs and a machine that tells them: the plain search, and what a blame says -/
/-- the machine (a: what it tells, t: where it goes, by pairs of a state and a look) tells k steps from i on, from s on -/
def tl (lk : Nat → Nat) (td : Nat → Int32) (en : Nat → Bool) (a : Nat → Int32) (t : Nat → Nat) : Nat → Nat → Nat → Prop
  | 0, _, _ => True
  | k + 1, i, s => a (6 * s + lk i) = td i ∧ tl lk td en a t k (i + 1) (if en i = true then 0 else t (6 * s + lk i))
abbrev gmT := Nat → Option (Int32 × Nat)
def gu (g : gmT) (p : Nat) (v : Int32 × Nat) : gmT := fun q => if q = p then some v else g q
theorem gu_p (g : gmT) (p : Nat) (v : Int32 × Nat) : gu g p v p = some v := if_pos rfl
theorem gu_q {g : gmT} {p q : Nat} (v : Int32 × Nat) (h : ¬ q = p) : gu g p v q = g q := if_neg h
def ft (f : Nat → Option gmT) : Nat → Nat → Option gmT
  | 0, _ => none
  | c + 1, x => match f x with
    | some v => some v
    | none => ft f c (x + 1)
theorem ft_s {f : Nat → Option gmT} {c x : Nat} {v : gmT} (h : f x = some v) : ft f (c + 1) x = some v := by
  unfold ft
  rw [h]
theorem ft_n {f : Nat → Option gmT} {c x : Nat} (h : f x = none) : ft f (c + 1) x = ft f c (x + 1) := by
  show (match f x with
    | some v => some v
    | none => ft f c (x + 1)) = _
  rw [h]
theorem ft_0 {f : Nat → Option gmT} : ∀ (c x : Nat), (∀ y, x ≤ y → y < x + c → f y = none) → ft f c x = none
  | 0, _, _ => rfl
  | c + 1, x, h => by rw [ft_n (h x (Nat.le_refl x) (by omega)), ft_0 c (x + 1) (fun y h1 h2 => h y (by omega) (by omega))]
/-- the first that goes -/
theorem ft_1 {f : Nat → Option gmT} {v : gmT} {y : Nat} : ∀ (c x : Nat), x ≤ y → y < x + c → (∀ z, x ≤ z → z < y → f z = none) → f y = some v → ft f c x = some v
  | 0, _, h1, h2, _, _ => by omega
  | c + 1, x, h1, h2, h3, h4 => by
    by_cases e : x = y
    · rw [e]; exact ft_s h4
    · rw [ft_n (h3 x (Nat.le_refl x) (by omega))]
      exact ft_1 c (x + 1) (by omega) (by omega) (fun z z1 z2 => h3 z (by omega) z2) h4
theorem ft_e {f : Nat → Option gmT} {v : gmT} : ∀ (c x : Nat), ft f c x = some v → ∃ y, x ≤ y ∧ y < x + c ∧ f y = some v
  | 0, _, h => by cases h
  | c + 1, x, h => by
    cases e : f x with
    | some w =>
      rw [ft_s e] at h
      exact ⟨x, Nat.le_refl x, by omega, by rw [e]; exact h⟩
    | none =>
      rw [ft_n e] at h
      obtain ⟨y, h1, h2, h3⟩ := ft_e c (x + 1) h
      exact ⟨y, by omega, by omega, h3⟩
/-- the plain search: the first machine of m states, the least going on first -/
def rfM (lk : Nat → Nat) (td : Nat → Int32) (en : Nat → Bool) (m : Nat) : Nat → Nat → Nat → gmT → Option gmT
  | 0, _, _, g => some g
  | k + 1, i, s, g => match g (6 * s + lk i) with
    | some v => if v.1 = td i then rfM lk td en m k (i + 1) (if en i = true then 0 else v.2) g else none
    | none => ft (fun x => rfM lk td en m k (i + 1) (if en i = true then 0 else x) (gu g (6 * s + lk i) (td i, x))) m 0
theorem rf_s {lk : Nat → Nat} {td : Nat → Int32} {en : Nat → Bool} {m k i s : Nat} {g : gmT} {v : Int32 × Nat} (h : g (6 * s + lk i) = some v) : rfM lk td en m (k + 1) i s g = if v.1 = td i then rfM lk td en m k (i + 1) (if en i = true then 0 else v.2) g else none := by
  show (match g (6 * s + lk i) with
    | some v => if v.1 = td i then rfM lk td en m k (i + 1) (if en i = true then 0 else v.2) g else none
    | none => ft (fun x => rfM lk td en m k (i + 1) (if en i = true then 0 else x) (gu g (6 * s + lk i) (td i, x))) m 0) = _
  rw [h]
theorem rf_n {lk : Nat → Nat} {td : Nat → Int32} {en : Nat → Bool} {m k i s : Nat} {g : gmT} (h : g (6 * s + lk i) = none) : rfM lk td en m (k + 1) i s g = ft (fun x => rfM lk td en m k (i + 1) (if en i = true then 0 else x) (gu g (6 * s + lk i) (td i, x))) m 0 := by
  show (match g (6 * s + lk i) with
    | some v => if v.1 = td i then rfM lk td en m k (i + 1) (if en i = true then 0 else v.2) g else none
    | none => ft (fun x => rfM lk td en m k (i + 1) (if en i = true then 0 else x) (gu g (6 * s + lk i) (td i, x))) m 0) = _
  rw [h]
/-- the machine goes on as g says -/
def exG (g : gmT) (a : Nat → Int32) (t : Nat → Nat) : Prop := ∀ p v, g p = some v → a p = v.1 ∧ t p = v.2
def lesG (g g' : gmT) : Prop := ∀ p v, g p = some v → g' p = some v
def bdG (m : Nat) (g : gmT) : Prop := ∀ p v, g p = some v → v.2 < m
theorem les_gu {g : gmT} {p : Nat} (v : Int32 × Nat) (h : g p = none) : lesG g (gu g p v) := fun q w hq => by
  by_cases e : q = p
  · rw [e, h] at hq; cases hq
  · rw [gu_q v e]; exact hq
theorem bd_gu {m : Nat} {g : gmT} {p : Nat} {v : Int32 × Nat} (h : bdG m g) (hv : v.2 < m) : bdG m (gu g p v) := fun q w hq => by
  by_cases e : q = p
  · rw [e, gu_p] at hq
    rw [← Option.some.inj hq]
    exact hv
  · rw [gu_q v e] at hq; exact h q w hq
theorem rf_ok {lk : Nat → Nat} {td : Nat → Int32} {en : Nat → Bool} {m : Nat} : ∀ (k i s : Nat) (g g' : gmT), bdG m g → rfM lk td en m k i s g = some g' → lesG g g' ∧ bdG m g' ∧ ∀ a t, exG g' a t → tl lk td en a t k i s
  | 0, _, _, g, g', hb, h => by
    have e : g = g' := Option.some.inj h
    rw [← e]
    exact ⟨fun _ _ q => q, hb, fun _ _ _ => trivial⟩
  | k + 1, i, s, g, g', hb, h => by
    cases e : g (6 * s + lk i) with
    | some v =>
      rw [rf_s e] at h
      by_cases y : v.1 = td i
      · rw [if_pos y] at h
        obtain ⟨a1, a2, a3⟩ := rf_ok k (i + 1) _ g g' hb h
        refine ⟨a1, a2, fun a t ex => ?_⟩
        have x := ex _ v (a1 _ v e)
        refine ⟨x.1.trans y, ?_⟩
        rw [x.2]
        exact a3 a t ex
      · rw [if_neg y] at h; cases h
    | none =>
      rw [rf_n e] at h
      obtain ⟨x, -, x2, x3⟩ := ft_e _ _ h
      obtain ⟨a1, a2, a3⟩ := rf_ok k (i + 1) _ _ g' (bd_gu (v := (td i, x)) hb (show x < m by omega)) x3
      refine ⟨fun p v hp => a1 p v (les_gu (td i, x) e p v hp), a2, fun a t ex => ?_⟩
      have y := ex _ (td i, x) (a1 _ _ (gu_p g _ _))
      refine ⟨y.1, ?_⟩
      rw [y.2]
      exact a3 a t ex
/-- what g says is enough for all that is told ahead of here -/
def pfG (lk : Nat → Nat) (td : Nat → Int32) (en : Nat → Bool) (N k i s : Nat) (g : gmT) : Prop := ∀ a t, exG g a t → tl lk td en a t k i s → tl lk td en a t N 0 0
/-- no machine that goes on so at the pairs B tells all -/
def bpG (lk : Nat → Nat) (td : Nat → Int32) (en : Nat → Bool) (m N : Nat) (g : gmT) (B : Int32) : Prop := (∀ p, bt B p = true → ∃ v, g p = some v) ∧ ∀ a t, (∀ p, t p < m) → (∀ p v, bt B p = true → g p = some v → t p = v.2) → ¬ tl lk td en a t N 0 0
def toA (g : gmT) (p : Nat) : Int32 := match g p with
  | some v => v.1
  | none => 0
def toT (g : gmT) (p : Nat) : Nat := match g p with
  | some v => v.2
  | none => 0
theorem exG_to (g : gmT) : exG g (toA g) (toT g) := fun p v h => by
  unfold toA toT
  rw [h]
  exact ⟨rfl, rfl⟩
theorem toT_lt {m : Nat} {g : gmT} (hm : 0 < m) (hb : bdG m g) (p : Nat) : toT g p < m := by
  cases e : g p with
  | some v =>
    have : toT g p = v.2 := by unfold toT; rw [e]
    rw [this]
    exact hb p v e
  | none =>
    have : toT g p = 0 := by unfold toT; rw [e]
    rw [this]
    exact hm
/-- then the plain search finds none either -/
theorem bp_rf {lk : Nat → Nat} {td : Nat → Int32} {en : Nat → Bool} {m N k i s : Nat} {g : gmT} {B : Int32} (hm : 0 < m) (hb : bdG m g) (bp : bpG lk td en m N g B) (pf : pfG lk td en N k i s g) : rfM lk td en m k i s g = none := by
  cases e : rfM lk td en m k i s g with
  | none => rfl
  | some g' =>
    obtain ⟨a1, a2, a3⟩ := rf_ok k i s g g' hb e
    have ex := exG_to g'
    have exg : exG g (toA g') (toT g') := fun p v h => ex p v (a1 p v h)
    exact absurd (pf _ _ exg (a3 _ _ ex)) (bp.2 _ _ (toT_lt hm a2) (fun p v _ h => (exg p v h).2))
/-- a machine that tells all is somewhere at each step, and in state 0 where a run begins -/
theorem tl_at {lk : Nat → Nat} {td : Nat → Int32} {en : Nat → Bool} {a : Nat → Int32} {t : Nat → Nat} {N : Nat} (h : tl lk td en a t N 0 0) : ∀ i k, i + k = N → ∃ s, tl lk td en a t k i s ∧ ((i = 0 ∨ en (i - 1) = true) → s = 0)
  | 0, k, e => ⟨0, by rw [show k = N by omega]; exact h, fun _ => rfl⟩
  | i + 1, k, e => by
    obtain ⟨s, h1, -⟩ := tl_at h i (k + 1) (by omega)
    refine ⟨_, h1.2, fun q => ?_⟩
    have q : en i = true := q.resolve_left (by omega)
    rw [if_pos q]
/-- who goes on as now at the pairs of the path is here now, if he tells all -/
def ptG (lk : Nat → Nat) (td : Nat → Int32) (en : Nat → Bool) (N k i s : Nat) (g : gmT) (path : Int32) : Prop := (∀ p, bt path p = true → ∃ v, g p = some v) ∧ ∀ a t, (∀ p v, bt path p = true → g p = some v → t p = v.2) → tl lk td en a t N 0 0 → tl lk td en a t k i s
/-- who goes on as now at the pairs of p's reason tells to p as now, if he tells all -/
def rpG (lk : Nat → Nat) (td : Nat → Int32) (en : Nat → Bool) (N : Nat) (g : gmT) (rs : Nat → Int32) : Prop := ∀ p v, g p = some v → (∀ q, bt (rs p) q = true → ∃ w, g q = some w) ∧ ∀ a t, (∀ q w, bt (rs p) q = true → g q = some w → t q = w.2) → tl lk td en a t N 0 0 → a p = v.1
/-- what was told to this pair was something else -/
theorem bp_no {lk : Nat → Nat} {td : Nat → Int32} {en : Nat → Bool} {m N k i s : Nat} {g : gmT} {path : Int32} {rs : Nat → Int32} {v : Int32 × Nat} (pt : ptG lk td en N (k + 1) i s g path) (rp : rpG lk td en N g rs) (e : g (6 * s + lk i) = some v) (ne : ¬ v.1 = td i) : bpG lk td en m N g (path ||| rs (6 * s + lk i)) := by
  refine ⟨fun p hp => ?_, fun a t _ ag all => ?_⟩
  · rw [bt_or2, Bool.or_eq_true] at hp
    rcases hp with x | x
    · exact pt.1 p x
    · exact (rp _ v e).1 p x
  · have x := pt.2 a t (fun p w hp hw => ag p w (by rw [bt_or2, hp]; rfl) hw) all
    have y := (rp _ v e).2 a t (fun p w hp hw => ag p w (by rw [bt_or2, hp, Bool.or_true]) hw) all
    exact ne (y.symm.trans x.1)
theorem pt_les {lk : Nat → Nat} {td : Nat → Int32} {en : Nat → Bool} {N k i s : Nat} {g g' : gmT} {path : Int32} (l : lesG g g') (pt : ptG lk td en N k i s g path) : ptG lk td en N k i s g' path := by
  refine ⟨fun p hp => ?_, fun a t ag all => pt.2 a t (fun p v hp hv => ag p v hp (l p v hv)) all⟩
  obtain ⟨v, hv⟩ := pt.1 p hp
  exact ⟨v, l p v hv⟩
/-- one step on in the same run -/
theorem pt_on {lk : Nat → Nat} {td : Nat → Int32} {en : Nat → Bool} {N k i s : Nat} {g : gmT} {path : Int32} {v : Int32 × Nat} (hp18 : 6 * s + lk i < 32) (pt : ptG lk td en N (k + 1) i s g path) (e : g (6 * s + lk i) = some v) (he : ¬ en i = true) : ptG lk td en N k (i + 1) v.2 g (bs path (6 * s + lk i)) := by
  refine ⟨fun p hp => ?_, fun a t ag all => ?_⟩
  · rw [bs_bt path hp18, Bool.or_eq_true] at hp
    rcases hp with x | x
    · exact pt.1 p x
    · rw [← of_decide_eq_true x]; exact ⟨v, e⟩
  · have x := pt.2 a t (fun p w hp hw => ag p w (by rw [bs_bt path hp18, hp]; rfl) hw) all
    have y := x.2
    rw [if_neg he, ag _ v (by rw [bs_bt path hp18, decide_eq_true rfl, Bool.or_true]) e] at y
    exact y
/-- the next run begins -/
theorem pt_run {lk : Nat → Nat} {td : Nat → Int32} {en : Nat → Bool} {N k i : Nat} {g : gmT} (hN : i + 1 + k = N) (he : en i = true) : ptG lk td en N k (i + 1) 0 g 0 := by
  refine ⟨fun p hp => (by rw [bt_zr] at hp; cases hp), fun a t _ all => ?_⟩
  obtain ⟨s, h1, h2⟩ := tl_at all (i + 1) k hN
  rw [← h2 (Or.inr he)]
  exact h1
theorem rp_gu {lk : Nat → Nat} {td : Nat → Int32} {en : Nat → Bool} {N k i s : Nat} {g : gmT} {path : Int32} {rs rs' : Nat → Int32} (x : Nat) (pt : ptG lk td en N (k + 1) i s g path) (rp : rpG lk td en N g rs) (e : g (6 * s + lk i) = none) (h1 : rs' (6 * s + lk i) = path) (h2 : ∀ p v, g p = some v → rs' p = rs p) : rpG lk td en N (gu g (6 * s + lk i) (td i, x)) rs' := fun p v hv => by
  have l := les_gu (td i, x) e
  by_cases q : p = 6 * s + lk i
  · rw [q] at hv ⊢
    rw [gu_p] at hv
    rw [h1, ← Option.some.inj hv]
    refine ⟨fun r hr => ?_, fun a t ag all => ?_⟩
    · obtain ⟨w, hw⟩ := pt.1 r hr
      exact ⟨w, l r w hw⟩
    · exact (pt.2 a t (fun r w hr hw => ag r w hr (l r w hw)) all).1
  · rw [gu_q _ q] at hv
    rw [h2 p v hv]
    obtain ⟨y1, y2⟩ := rp p v hv
    refine ⟨fun r hr => ?_, fun a t ag all => y2 a t (fun r w hr hw => ag r w hr (l r w hw)) all⟩
    obtain ⟨w, hw⟩ := y1 r hr
    exact ⟨w, l r w hw⟩
theorem pf_s {lk : Nat → Nat} {td : Nat → Int32} {en : Nat → Bool} {N k i s : Nat} {g : gmT} {v : Int32 × Nat} (pf : pfG lk td en N (k + 1) i s g) (e : g (6 * s + lk i) = some v) (y : v.1 = td i) : pfG lk td en N k (i + 1) (if en i = true then 0 else v.2) g := fun a t ex r => pf a t ex ⟨(ex _ v e).1.trans y, by rw [(ex _ v e).2]; exact r⟩
theorem pf_n {lk : Nat → Nat} {td : Nat → Int32} {en : Nat → Bool} {N k i s : Nat} {g : gmT} (x : Nat) (pf : pfG lk td en N (k + 1) i s g) (e : g (6 * s + lk i) = none) : pfG lk td en N k (i + 1) (if en i = true then 0 else x) (gu g (6 * s + lk i) (td i, x)) := fun a t ex r => by
  have y := ex _ (td i, x) (gu_p g _ _)
  exact pf a t (fun p v h => ex p v (les_gu (td i, x) e p v h)) ⟨y.1, by rw [y.2]; exact r⟩
/-! of states not gone to as yet one is as good as another -/
def sw (u v s : Nat) : Nat := if s = u then v else if s = v then u else s
theorem sw_lt {u v s m : Nat} (hu : u < m) (hv : v < m) (hs : s < m) : sw u v s < m := by
  unfold sw
  split
  · exact hv
  · split
    · exact hu
    · exact hs
theorem sw_sw (u v s : Nat) : sw u v (sw u v s) = s := by
  unfold sw
  by_cases a : s = u
  · rw [if_pos a]
    by_cases b : v = u
    · rw [if_pos b]; omega
    · rw [if_neg b, if_pos rfl]; omega
  · rw [if_neg a]
    by_cases b : s = v
    · rw [if_pos b, if_pos rfl]; omega
    · rw [if_neg b, if_neg a, if_neg b]
theorem sw_id {u v s : Nat} (hu : ¬ s = u) (hv : ¬ s = v) : sw u v s = s := by
  unfold sw
  rw [if_neg hu, if_neg hv]
def swA (u v : Nat) (a : Nat → Int32) (p : Nat) : Int32 := a (6 * sw u v (p / 6) + p % 6)
def swT (u v : Nat) (t : Nat → Nat) (p : Nat) : Nat := sw u v (t (6 * sw u v (p / 6) + p % 6))
theorem tl_sw {lk : Nat → Nat} {td : Nat → Int32} {en : Nat → Bool} {a : Nat → Int32} {t : Nat → Nat} {u v : Nat} (hl : ∀ i, lk i < 6) (hu : ¬ 0 = u) (hv : ¬ 0 = v) : ∀ (k i s : Nat), tl lk td en a t k i s → tl lk td en (swA u v a) (swT u v t) k i (sw u v s)
  | 0, _, _, _ => trivial
  | k + 1, i, s, h => by
    have l := hl i
    have e : 6 * sw u v ((6 * sw u v s + lk i) / 6) + (6 * sw u v s + lk i) % 6 = 6 * s + lk i := by
      rw [show (6 * sw u v s + lk i) / 6 = sw u v s by omega, show (6 * sw u v s + lk i) % 6 = lk i by omega, sw_sw]
    refine ⟨?_, ?_⟩
    · unfold swA
      rw [e]
      exact h.1
    · have ih := tl_sw (a := a) (t := t) hl hu hv k (i + 1) _ h.2
      have es : (if en i = true then 0 else swT u v t (6 * sw u v s + lk i)) = sw u v (if en i = true then 0 else t (6 * s + lk i)) := by
        by_cases y : en i = true
        · rw [if_pos y, if_pos y, sw_id hu hv]
        · rw [if_neg y, if_neg y]
          unfold swT
          rw [e]
      rw [es]
      exact ih
/-- all states gone to as yet are at most hi -/
def hiG (hi : Nat) (g : gmT) : Prop := ∀ p v, g p = some v → p / 6 ≤ hi ∧ v.2 ≤ hi
/-- the going ons up to hi + 1 were all gone through -/
theorem bp_end {lk : Nat → Nat} {td : Nat → Int32} {en : Nat → Bool} {m N i s hi : Nat} {g : gmT} {B : Int32} (hl : ∀ i, lk i < 6) (hs : s ≤ hi) (hg : hiG hi g) (hd : ∀ p, bt B p = true → ∃ v, g p = some v) (hx : ∀ x, x < m → x ≤ hi + 1 → ∀ a t, (∀ p, t p < m) → (∀ p v, bt B p = true → g p = some v → t p = v.2) → t (6 * s + lk i) = x → ¬ tl lk td en a t N 0 0) : bpG lk td en m N g B := by
  refine ⟨hd, fun a t hm ag all => ?_⟩
  by_cases c : t (6 * s + lk i) ≤ hi + 1
  · exact hx _ (hm _) c a t hm ag rfl all
  · have tm := hm (6 * s + lk i)
    have l := hl i
    generalize hx0 : t (6 * s + lk i) = x at c tm
    have all' := tl_sw (u := hi + 1) (v := x) hl (by omega) (by omega) N 0 0 all
    rw [sw_id (u := hi + 1) (v := x) (s := 0) (by omega) (by omega)] at all'
    refine hx (hi + 1) (by omega) (Nat.le_refl _) _ _ (fun p => ?_) (fun p v hp hv => ?_) ?_ all'
    · exact sw_lt (by omega) tm (hm _)
    · obtain ⟨b1, b2⟩ := hg p v hv
      unfold swT
      rw [sw_id (s := p / 6) (by omega) (by omega), show 6 * (p / 6) + p % 6 = p by omega, ag p v hp hv, sw_id (by omega) (by omega)]
    · unfold swT
      rw [show (6 * s + lk i) / 6 = s by omega, show (6 * s + lk i) % 6 = lk i by omega, sw_id (s := s) (by omega) (by omega), hx0]
      unfold sw
      by_cases y : x = hi + 1
      · omega
      · rw [if_neg y, if_pos rfl]
/-! the class's machine -/
/-- what is chosen of the machine as yet stands in the cells -/
def GH (G : gmT) (h : mh_T) : Prop := ∀ p, (∀ v, G p = some v → p < 18 ∧ 0 ≤ v.1.toInt ∧ mI h 37 p = v.1 ∧ (mI h 38 p).toInt = (v.2 : Int)) ∧ (p < 18 → G p = none → mI h 37 p = -2 ∧ mI h 38 p = -2)
/-- the steps of all runs, the states that there are -/
def TSm (N m : Nat) (lk : Nat → Nat) (td : Nat → Int32) (en : Nat → Bool) (h : mh_T) : Prop := ((mI h 9 2).toInt = (N : Int) ∧ N ≤ 24 ∧ (mI h 9 1).toInt = (m : Int) ∧ 0 < m ∧ m ≤ 3) ∧ (∀ i, (mI h 34 i).toInt = (lk i : Int) ∧ lk i < 6) ∧ ∀ i, mI h 35 i = td i ∧ 0 ≤ (td i).toInt ∧ (en i = true ↔ ¬ mI h 36 i = 0)
def TLs (g : gT) (lk : Nat → Nat) (td : Nat → Int32) (en : Nat → Bool) (m N : Nat) (h0 : mh_T) (k : Nat) : Prop := ∀ (K i s hi : Nat) (l1 l2 l3 l4 : Int32) (G : gmT) (h : mh_T) (P : Int32 → mh_T → Prop), 2 * k + 1 ≤ K → l1.toInt = (i : Int) → i + k = N → l2.toInt = (s : Int) → s ≤ hi → l4.toInt = (hi : Int) → hi < m → Ok [37, 38, 39] h0 h → GH G h → bdG m G → hiG hi G → rpG lk td en N G (fun p => mI h 39 p) → ptG lk td en N k i s G l3 → pfG lk td en N k i s G → (∀ h' G', Ok [37, 38, 39] h0 h' → GH G' h' → rfM lk td en m k i s G = some G' → P (-1) h') → (∀ r h', Ok [37, 38, 39] h0 h' → GH G h' → (∀ p v, G p = some v → mI h' 39 p = mI h 39 p) → bpG lk td en m N G r → P r h') → MCi g yX9_tell (uX9_tell K) [.ref 9, .int l1, .int l2, .int l3, .int l4] h P
theorem v_tellOn {g : gT} {lk : Nat → Nat} {td : Nat → Int32} {en : Nat → Bool} {m N : Nat} {h0 : mh_T} (ts : TSm N m lk td en h0) {k : Nat} (ih : TLs g lk td en m N h0 k) (K i s hi : Nat) (l1 l2 l3 l4 : Int32) (G : gmT) (h : mh_T) (P : Int32 → mh_T → Prop) (v : Int32 × Nat) (hK : 2 * k + 1 ≤ K) (e1 : l1.toInt = (i : Int)) (iN : i + (k + 1) = N) (e2 : l2.toInt = ((6 * s + lk i : Nat) : Int)) (e : G (6 * s + lk i) = some v) (hv : v.2 ≤ hi) (e4 : l4.toInt = (hi : Int)) (him : hi < m) (ok : Ok [37, 38, 39] h0 h) (gh : GH G h) (bd : bdG m G) (hg : hiG hi G) (rp : rpG lk td en N G (fun p => mI h 39 p)) (pt : ptG lk td en N (k + 1) i s G l3) (pf : pfG lk td en N k (i + 1) (if en i = true then 0 else v.2) G) (hs : ∀ h' G', Ok [37, 38, 39] h0 h' → GH G' h' → rfM lk td en m k (i + 1) (if en i = true then 0 else v.2) G = some G' → P (-1) h') (hf : ∀ r h', Ok [37, 38, 39] h0 h' → GH G h' → (∀ p v, G p = some v → mI h' 39 p = mI h 39 p) → bpG lk td en m N G r → P r h') : MCi g yX9_tellOn (uX9_tellOn (K + 1)) [.ref 9, .int l1, .int l2, .int l3, .int l4] h P := by
  have N24 := ts.1.2.1
  have gv := (gh _).1 v e
  have p18 := gv.1
  have e36 : mI h 36 i = mI h0 36 i := Ok_eq ok (by decide)
  have e1' := i_inc e1 (by omega)
  refine e_X9_tellOn l1 l2 l3 l4 ⟨i_vp e1 (by omega), fun c => ⟨i_vp e2 p18, ?_⟩, fun c => ?_⟩
  · rw [i_nat e1, e36] at c
    have ne : ¬ en i = true := fun z => (ts.2.2 i).2.2.mp z c
    rw [if_neg ne] at pf hs
    rw [i_nat e2, bs_e e2 (by omega)]
    exact ih K (i + 1) v.2 hi (l1 + 1) _ _ l4 G h P hK e1' (by omega) gv.2.2.2 hv e4 him ok gh bd hg rp (pt_on (by omega) pt e ne) pf hs hf
  · rw [i_nat e1, e36] at c
    have he : en i = true := (ts.2.2 i).2.2.mpr c
    rw [if_pos he] at pf hs
    exact ih K (i + 1) 0 hi (l1 + 1) 0 0 l4 G h P hK e1' (by omega) (by decide) (Nat.zero_le _) e4 him ok gh bd hg rp (pt_run (by omega) he) pf hs hf
set_option maxHeartbeats 8000000 in
theorem v_tell {g : gT} {lk : Nat → Nat} {td : Nat → Int32} {en : Nat → Bool} {m N : Nat} {h0 : mh_T} (ts : TSm N m lk td en h0) : ∀ k, TLs g lk td en m N h0 k := by
  obtain ⟨⟨tN, N24, tm, m0, m3⟩, tlk, ttd⟩ := ts
  have ts : TSm N m lk td en h0 := ⟨⟨tN, N24, tm, m0, m3⟩, tlk, ttd⟩
  intro k
  induction k with
  | zero =>
    intro K i s hi l1 l2 l3 l4 G h P hK e1 iN e2 shi e4 him ok gh bd hg rp pt pf hs hf
    obtain ⟨K, rfl⟩ : ∃ q, K = q + 1 := ⟨K - 1, by omega⟩
    have e92 : (mI h 9 2).toInt = (N : Int) := by rw [Ok_eq ok (by decide)]; exact tN
    refine e_X9_tell l1 l2 l3 l4 ⟨fun c => ?_, fun c => hs h G ok gh rfl⟩
    have c := i_lt.mp c
    rw [e1, e92] at c
    omega
  | succ k ih =>
    intro K i s hi l1 l2 l3 l4 G h P hK e1 iN e2 shi e4 him ok gh bd hg rp pt pf hs hf
    obtain ⟨K, rfl⟩ : ∃ q, K = q + 1 := ⟨K - 1, by omega⟩
    obtain ⟨K, rfl⟩ : ∃ q, K = q + 1 := ⟨K - 1, by omega⟩
    have e92 : (mI h 9 2).toInt = (N : Int) := by rw [Ok_eq ok (by decide)]; exact tN
    have e91 : (mI h 9 1).toInt = (m : Int) := by rw [Ok_eq ok (by decide)]; exact tm
    have e34 : (mI h 34 i).toInt = (lk i : Int) := by rw [show mI h 34 i = mI h0 34 i from Ok_eq ok (by decide)]; exact (tlk i).1
    have e35 : mI h 35 i = td i := by rw [show mI h 35 i = mI h0 35 i from Ok_eq ok (by decide)]; exact (ttd i).1
    have td0 := (ttd i).2.1
    have l6 := (tlk i).2
    have hl : ∀ i, lk i < 6 := fun i => (tlk i).2
    have p18 : 6 * s + lk i < 18 := by omega
    have z0 : (0 : Int32).toInt = 0 := by decide
    refine e_X9_tell l1 l2 l3 l4 ⟨fun _ => ⟨i_vp e1 (by omega), fun x3 e3 => ?_⟩, fun c => absurd (i_lt.mpr (by rw [e1, e92]; omega)) c⟩
    have em : (6 * l2).toInt = ((6 * s : Nat) : Int) := by
      rw [Int32.toInt_mul, show (6 : Int32).toInt = 6 from by decide, e2, bm (by omega) (by omega)]
      omega
    have ep : x3.toInt = ((6 * s + lk i : Nat) : Int) := by
      rw [e3, i_nat e1, i_add em e34 (by omega)]
      omega
    have vp : vp_in x3 18 := i_vp ep p18
    have v1 : vp_in l1 24 := i_vp e1 (by omega)
    rw [i_nat ep, i_nat e1, e35]
    cases e : G (6 * s + lk i) with
    | some v =>
      have gv := (gh _).1 v e
      rw [gv.2.2.1]
      refine ⟨vp, fun c => ?_, fun _ => ⟨vp, v1, fun c3 => ?_, fun c3 => ⟨vp, ?_⟩⟩⟩
      · have c := i_lt.mp c
        rw [z0] at c
        have := gv.2.1
        omega
      · exact v_tellOn ts ih K i s hi l1 x3 l3 l4 G h _ v (by omega) e1 (by omega) ep e (hg _ v e).2 e4 him ok gh bd hg rp pt (pf_s pf e c3) (fun h' G' o g' r => hs h' G' o g' (by rw [rf_s e, if_pos c3]; exact r)) hf
      · exact hf _ h ok gh (fun _ _ _ => rfl) (bp_no pt rp e c3)
    | none =>
      have gn := (gh _).2 p18 e
      refine ⟨vp, fun _ => ⟨v1, vp, vp, fun x9 e9 => ?_⟩, fun c => absurd (i_lt.mpr (by rw [gn.1]; decide)) c⟩
      have ne9 : ∀ (h : mh_T) (k j : Nat) (v : Int32), ¬ k = 9 → mI (wI h k j v) 9 1 = mI h 9 1 := fun h k j v hk => by rw [mI_wI, if_neg (fun z => hk z.1.symm)]
      rw [ne9 _ _ _ _ (by decide), ne9 _ _ _ _ (by decide)] at e9
      have em1 : (mI h 9 1 - 1).toInt = (m : Int) - 1 := i_sub e91 (show (1 : Int32).toInt = 1 from by decide) (by omega)
      have e41 := i_inc e4 (by omega)
      have ex9 : x9.toInt ≤ (m : Int) - 1 ∧ (x9.toInt = (hi : Int) + 1 ∨ (x9.toInt = (m : Int) - 1 ∧ (m : Int) - 1 ≤ (hi : Int) + 1)) := by
        by_cases c : l4 + 1 < mI h 9 1 - 1
        · rw [e9, if_pos c]
          have c := i_lt.mp c
          rw [e41, em1] at c
          rw [e41]
          exact ⟨by omega, Or.inl (by omega)⟩
        · rw [e9, if_neg c]
          have c := i_le.mp (nlt c)
          rw [e41, em1] at c
          rw [em1]
          exact ⟨by omega, Or.inr ⟨rfl, by omega⟩⟩
      -- the loop over the states
      have L : ∀ (n : Nat) (l6 l7 l9 : Int32) (x : Nat) (k1 : mh_T), l9.toInt = (x : Int) → x ≤ m → m - x < n → Ok [37, 38, 39] h0 k1 → (∀ q, ¬ q = 6 * s + lk i → (∀ v, G q = some v → q < 18 ∧ 0 ≤ v.1.toInt ∧ mI k1 37 q = v.1 ∧ (mI k1 38 q).toInt = (v.2 : Int)) ∧ (q < 18 → G q = none → mI k1 37 q = -2 ∧ mI k1 38 q = -2)) → mI k1 37 (6 * s + lk i) = td i → (∀ q v, G q = some v → mI k1 39 q = mI h 39 q) → mI k1 39 (6 * s + lk i) = l3 → (∀ q, bt l6 q = true → ∃ v, G q = some v) → ((l7 = 1 ∧ ∀ y, y < x → rfM lk td en m k (i + 1) (if en i = true then 0 else y) (gu G (6 * s + lk i) (td i, y)) = none ∧ ∀ a t, (∀ p, t p < m) → (∀ p v, bt l6 p = true → G p = some v → t p = v.2) → t (6 * s + lk i) = y → ¬ tl lk td en a t N 0 0) ∨ (l7 = 0 ∧ bpG lk td en m N G l6)) → ME g (uX9_tell (K + 1 + 1)) 115 [.ref 9, .int l1, .int l2, .int l3, .int l4, .int x3, .int l6, .int l7, .int x9, .int l9, .retAddr 0] [] k1 (qI P) := by
        intro n
        induction n with
        | zero => intro _ _ _ _ _ _ _ hn; exact absurd hn (Nat.not_lt_zero _)
        | succ n ihn =>
          intro l6 l7 l9 x k1 e9' hx hn ok1 gx g37 r39 p39 hd inv
          have fin : bpG lk td en m N G l6 → P l6 (wI (wI k1 37 (6 * s + lk i) (-2)) 38 (6 * s + lk i) (-2)) := fun bp => by
            have q1 := Ok_w ok1 (k := 37) (j := 6 * s + lk i) (v := -2) (lo := -2) (hi := 1) rfl ⟨by decide, by decide⟩ (by decide) (nt_k (by decide))
            have q2 := Ok_w q1 (k := 38) (j := 6 * s + lk i) (v := -2) (lo := -2) (hi := 2) rfl ⟨by decide, by decide⟩ (by decide) (nt_k (by decide))
            refine hf l6 _ q2 (fun q => ?_) (fun q v hq => ?_) bp
            · have a37 : mI (wI (wI k1 37 (6 * s + lk i) (-2)) 38 (6 * s + lk i) (-2)) 37 q = if q = 6 * s + lk i then -2 else mI k1 37 q := by
                rw [mI_wI, if_neg (fun z => absurd z.1 (by decide)), mI_wI]
                by_cases w : q = 6 * s + lk i
                · rw [if_pos ⟨rfl, w⟩, if_pos w]
                · rw [if_neg (fun z => w z.2), if_neg w]
              have a38 : mI (wI (wI k1 37 (6 * s + lk i) (-2)) 38 (6 * s + lk i) (-2)) 38 q = if q = 6 * s + lk i then -2 else mI k1 38 q := by
                rw [mI_wI]
                by_cases w : q = 6 * s + lk i
                · rw [if_pos ⟨rfl, w⟩, if_pos w]
                · rw [if_neg (fun z => w z.2), if_neg w, mI_wI, if_neg (fun z => absurd z.1 (by decide))]
              rw [a37, a38]
              by_cases w : q = 6 * s + lk i
              · rw [if_pos w, if_pos w]
                exact ⟨fun v hv => (by rw [w, e] at hv; cases hv), fun _ _ => ⟨rfl, rfl⟩⟩
              · rw [if_neg w, if_neg w]
                exact gx q w
            · rw [mI_wI, if_neg (fun z => absurd z.1 (by decide)), mI_wI, if_neg (fun z => absurd z.1 (by decide))]
              exact r39 q v hq
          refine r_X9_tell_115 l1 l2 l3 l4 x3 l6 l7 x9 l9 ⟨fun z => ⟨vp, vp, ?_⟩, fun z => ⟨fun c => ⟨vp, vp, ?_⟩, fun c => ⟨vp, ?_⟩⟩⟩
          · rw [i_nat ep]
            rcases inv with ⟨i1, -⟩ | ⟨-, i2⟩
            · rw [i1] at z; exact absurd z (by decide)
            · exact fin i2
          · rw [i_nat ep]
            have c := i_lt.mp c
            rw [e9'] at c
            rcases inv with ⟨-, i2⟩ | ⟨i1, -⟩
            · refine fin (bp_end (i := i) (s := s) (hi := hi) hl shi hg hd (fun y hy hyh a t tm' ag ty => (i2 y ?_).2 a t tm' ag ty))
              rcases ex9.2 with q | ⟨q, -⟩ <;> omega
            · exact absurd i1 z
          · rw [i_nat ep]
            have c := i_le.mp (nlt c)
            rw [e9'] at c
            have xm : x < m := by have := ex9.1; omega
            have i2 := (inv.resolve_right (fun w => z w.1)).2
            have q1 := Ok_w ok1 (k := 38) (j := 6 * s + lk i) (v := l9) (lo := -2) (hi := 2) rfl ⟨by omega, by omega⟩ (by decide) (nt_k (by decide))
            have a37 : ∀ q, mI (wI k1 38 (6 * s + lk i) l9) 37 q = mI k1 37 q := fun q => by rw [mI_wI, if_neg (fun z => absurd z.1 (by decide))]
            have a39 : ∀ q, mI (wI k1 38 (6 * s + lk i) l9) 39 q = mI k1 39 q := fun q => by rw [mI_wI, if_neg (fun z => absurd z.1 (by decide))]
            have a38 : ∀ q, mI (wI k1 38 (6 * s + lk i) l9) 38 q = if q = 6 * s + lk i then l9 else mI k1 38 q := fun q => by
              rw [mI_wI]
              by_cases w : q = 6 * s + lk i
              · rw [if_pos ⟨rfl, w⟩, if_pos w]
              · rw [if_neg (fun z => w z.2), if_neg w]
            generalize wI k1 38 (6 * s + lk i) l9 = k2 at q1 a37 a38 a39 ⊢
            have gh2 : GH (gu G (6 * s + lk i) (td i, x)) k2 := fun q => by
              by_cases w : q = 6 * s + lk i
              · refine ⟨fun v hv => ?_, fun _ hv => ?_⟩
                · rw [w, gu_p] at hv
                  rw [← Option.some.inj hv, a37, a38, if_pos w, w]
                  exact ⟨p18, td0, g37, e9'⟩
                · rw [w, gu_p] at hv; cases hv
              · rw [gu_q _ w, a37, a38, if_neg w]
                exact gx q w
            have bd2 := bd_gu (p := 6 * s + lk i) (v := (td i, x)) bd xm
            have les := les_gu (td i, x) e
            have e4' : (if l4 < l9 then l9 else l4).toInt = ((max hi x : Nat) : Int) := by
              by_cases w : l4 < l9
              · rw [if_pos w, e9']
                have w := i_lt.mp w
                rw [e4, e9'] at w
                rw [Nat.max_eq_right (by omega)]
              · rw [if_neg w, e4]
                have w := i_le.mp (nlt w)
                rw [e4, e9'] at w
                rw [Nat.max_eq_left (by omega)]
            have hg2 : hiG (max hi x) (gu G (6 * s + lk i) (td i, x)) := fun q v hq => by
              have m1 : hi ≤ max hi x := Nat.le_max_left _ _
              have m2 : x ≤ max hi x := Nat.le_max_right _ _
              by_cases w : q = 6 * s + lk i
              · rw [w, gu_p] at hq
                rw [← Option.some.inj hq, w]
                exact ⟨by omega, m2⟩
              · rw [gu_q _ w] at hq
                have := hg q v hq
                exact ⟨by omega, by omega⟩
            have pf2 := pf_n x pf e
            refine v_tellOn ts ih K i s (max hi x) l1 x3 l3 _ (gu G (6 * s + lk i) (td i, x)) k2 _ (td i, x) (by omega) e1 (by omega) ep (gu_p _ _ _) (Nat.le_max_right _ _) e4' (Nat.max_lt.mpr ⟨him, xm⟩) q1 gh2 bd2 hg2 (rp_gu x pt rp e (by show mI k2 39 _ = l3; rw [a39]; exact p39) (fun q v hq => by show mI k2 39 q = mI h 39 q; rw [a39]; exact r39 q v hq)) (pt_les les pt) pf2 (fun h' G' o g' r => ⟨fun w => absurd rfl w, fun _ => hs h' G' o g' ?_⟩) (fun r h8 o8 gh8 rs8 bp8 => ?_)
            · rw [rf_n e]
              exact ft_1 m 0 (Nat.zero_le _) (by omega) (fun y _ hy => (i2 y hy).1) r
            · have e9n := i_inc e9' (by omega)
              have gx8 : ∀ q, ¬ q = 6 * s + lk i → (∀ v, G q = some v → q < 18 ∧ 0 ≤ v.1.toInt ∧ mI h8 37 q = v.1 ∧ (mI h8 38 q).toInt = (v.2 : Int)) ∧ (q < 18 → G q = none → mI h8 37 q = -2 ∧ mI h8 38 q = -2) := fun q w => by
                have := gh8 q
                rw [gu_q _ w] at this
                exact this
              have g8 : mI h8 37 (6 * s + lk i) = td i := ((gh8 _).1 _ (gu_p _ _ _)).2.2.1
              have r8 : ∀ q v, G q = some v → mI h8 39 q = mI h 39 q := fun q v hq => by rw [rs8 q v (les q v hq), a39]; exact r39 q v hq
              have p8 : mI h8 39 (6 * s + lk i) = l3 := by rw [rs8 _ _ (gu_p _ _ _), a39]; exact p39
              have dm : ∀ q, ¬ q = 6 * s + lk i → bt r q = true → ∃ v, G q = some v := fun q w hq => by
                obtain ⟨v, hv⟩ := bp8.1 q hq
                rw [gu_q _ w] at hv
                exact ⟨v, hv⟩
              refine ⟨fun _ => ?_, fun w => ?_⟩
              · rw [bt_s18 ep (by omega)]
                by_cases w : bt r (6 * s + lk i) = true
                · rw [if_pos w]
                  refine ⟨fun z => absurd z (by decide), fun _ x14 e14 => ?_⟩
                  have b14 : ∀ q, bt x14 q = (bt l6 q || (bt r q && !decide (6 * s + lk i = q))) := fun q => by rw [e14, bt_or2, bt_clr ep (by omega)]
                  refine ihn x14 1 (l9 + 1) (x + 1) h8 e9n (by omega) (by omega) o8 gx8 g8 r8 p8 (fun q hq => ?_) (Or.inl ⟨rfl, fun y hy => ?_⟩)
                  · rw [b14, Bool.or_eq_true, Bool.and_eq_true] at hq
                    rcases hq with u | ⟨u1, u2⟩
                    · exact hd q u
                    · refine dm q (fun c => ?_) u1
                      rw [c, decide_eq_true rfl] at u2
                      cases u2
                  · by_cases ey : y = x
                    · rw [ey]
                      refine ⟨bp_rf m0 bd2 bp8 pf2, fun a t tm' ag ty => bp8.2 a t tm' (fun q v hq hv => ?_)⟩
                      by_cases c : q = 6 * s + lk i
                      · rw [c, gu_p] at hv
                        rw [← Option.some.inj hv, c]
                        exact ty
                      · rw [gu_q _ c] at hv
                        exact ag q v (by rw [b14, hq, decide_eq_false (fun z => c z.symm)]; cases bt l6 q <;> rfl) hv
                    · obtain ⟨j1, j2⟩ := i2 y (by omega)
                      exact ⟨j1, fun a t tm' ag ty => j2 a t tm' (fun q v hq hv => ag q v (by rw [b14, hq]; rfl) hv) ty⟩
                · rw [if_neg w]
                  refine ⟨fun _ => ?_, fun z => absurd rfl z⟩
                  have nq : ∀ q, bt r q = true → ¬ q = 6 * s + lk i := fun q hq c => w (by rw [← c]; exact hq)
                  refine ihn r 0 (l9 + 1) (x + 1) h8 e9n (by omega) (by omega) o8 gx8 g8 r8 p8 (fun q hq => dm q (nq q hq) hq) (Or.inr ⟨rfl, fun q hq => dm q (nq q hq) hq, fun a t tm' ag => bp8.2 a t tm' (fun q v hq hv => ?_)⟩)
                  rw [gu_q _ (nq q hq)] at hv
                  exact ag q v hq hv
              · obtain ⟨v, hv⟩ := bp8.1 31 (by rw [w]; decide)
                exact absurd ((gh8 31).1 v hv).1 (by decide)
      have o1 := Ok_w ok (k := 37) (j := 6 * s + lk i) (v := td i) (lo := -2) (hi := 1) rfl (by rw [← e35]; exact R_w (GI_rd ok.1 35 i (lo := 0) (hi := 1) rfl) (by decide)) (by decide) (nt_k (by decide))
      have o2 := Ok_w o1 (k := 39) (j := 6 * s + lk i) (v := l3) (lo := -2147483648) (hi := 2147483647) rfl (R_full _) (by decide) (nt_k (by decide))
      refine L (m + 1) 0 1 0 0 _ (by decide) (Nat.zero_le _) (by omega) o2 (fun q w => ?_) ?_ (fun q v hq => ?_) ?_ (fun q hq => by rw [bt_zr] at hq; cases hq) (Or.inl ⟨rfl, fun y hy => absurd hy (Nat.not_lt_zero y)⟩)
      · rw [mI_wI, if_neg (fun z => absurd z.1 (by decide)), mI_wI, if_neg (fun z => w z.2), mI_wI, if_neg (fun z => absurd z.1 (by decide)), mI_wI, if_neg (fun z => absurd z.1 (by decide))]
        exact gh q
      · rw [mI_wI, if_neg (fun z => absurd z.1 (by decide)), mI_wI, if_pos ⟨rfl, rfl⟩]
      · rw [mI_wI, if_neg (fun z => by have c : q = 6 * s + lk i := z.2; rw [c, e] at hq; cases hq), mI_wI, if_neg (fun z => absurd z.1 (by decide))]
      · rw [mI_wI, if_pos ⟨rfl, rfl⟩]
/-! the reference's machine -/
def GJ (G : gmT) (h : mh_T) : Prop := ∀ p, (∀ v, G p = some v → p < 18 ∧ ¬ v.1 = 2 ∧ mI h 59 p = v.1 ∧ (mI h 60 p).toInt = (v.2 : Int)) ∧ (p < 18 → G p = none → mI h 59 p = 2 ∧ mI h 60 p = -1)
/-- the runs of a text (n runs, of ln steps each, off ahead of each) are these steps -/
def RS (n : Nat) (ln off : Nat → Nat) (N : Nat) (lk : Nat → Nat) (td : Nat → Int32) (en : Nat → Bool) (f : Nat → Int32) : Prop := ((f 158).toInt = (n : Int) ∧ n ≤ 4 ∧ off n = N) ∧ ∀ r, r < n → ((f (159 + r)).toInt = (ln r : Int) ∧ 1 ≤ ln r ∧ ln r ≤ 6 ∧ off (r + 1) = off r + ln r) ∧ ∀ j, j < ln r → (f (163 + 6 * r + j)).toInt = (lk (off r + j) : Int) ∧ lk (off r + j) < 6 ∧ f (187 + 6 * r + j) = td (off r + j) ∧ (0 ≤ (td (off r + j)).toInt ∧ (td (off r + j)).toInt ≤ 1) ∧ (en (off r + j) = true ↔ j + 1 = ln r)
set_option maxHeartbeats 8000000 in
theorem w_tellsAll {g : gT} {n : Nat} {ln off : Nat → Nat} {N m : Nat} {lk : Nat → Nat} {td : Nat → Int32} {en : Nat → Bool} {h0 : mh_T} (rs : RS n ln off N lk td en (fun q => mI h0 45 q)) (m3 : m ≤ 3) : ∀ (M K r j q k s : Nat) (l1 l2 l3 l4 : Int32) (G : gmT) (h : mh_T) (P : Int32 → mh_T → Prop), M + 1 ≤ K → 7 * (4 - r) + (6 - j) ≤ M → l1.toInt = (m : Int) → l2.toInt = (r : Int) → l3.toInt = (j : Int) → l4.toInt = (q : Int) → r ≤ n → (r < n → j ≤ ln r) → (r = n → j = 0) → q < 3 → off r + j + k = N → (r < n → j < ln r → s = q) → (r < n → j = ln r → s = 0) → Ok [59, 60] h0 h → GJ G h → bdG m G → (∀ h' G', Ok [59, 60] h0 h' → GJ G' h' → rfM lk td en m k (off r + j) s G = some G' → P 1 h') → (∀ h', Ok [59, 60] h0 h' → GJ G h' → rfM lk td en m k (off r + j) s G = none → P 0 h') → MCi g yX11_tellsAll (uX11_tellsAll K) [.ref 11, .int l1, .int l2, .int l3, .int l4] h P := by
  obtain ⟨⟨f158, n4, offN⟩, run⟩ := rs
  intro M
  induction M with
  | zero => intro K r j q k s l1 l2 l3 l4 G h P hK hM e1 e2 e3 e4 rn jl jn; exfalso; by_cases y : r = n; have := jn y; omega; omega
  | succ M ih =>
    intro K r j q k s l1 l2 l3 l4 G h P hK hM e1 e2 e3 e4 rn jl jn q3 iN sq s0 ok gj bd hs hf
    obtain ⟨K, rfl⟩ : ∃ q, K = q + 1 := ⟨K - 1, by omega⟩
    have k45 : ∀ i, mI h 45 i = mI h0 45 i := fun i => Ok_eq ok (by decide)
    have z3 : ∀ (c : Int32) (a : Nat), c.toInt = (a : Int) → a < 400 → ∀ {x : Int32} {b : Nat}, x.toInt = (b : Int) → b < 400 → (c + x).toInt = ((a + b : Nat) : Int) := fun c a ec ha x b ex hb => by
      rw [i_add ec ex (by omega)]
      omega
    have e6 : (6 * l2).toInt = ((6 * r : Nat) : Int) := by
      rw [Int32.toInt_mul, show (6 : Int32).toInt = 6 from by decide, e2, bm (by omega) (by omega)]
      omega
    have a159 : (159 + l2).toInt = ((159 + r : Nat) : Int) := z3 159 159 (by decide) (by decide) e2 (by omega)
    have a163 : (163 + 6 * l2).toInt = ((163 + 6 * r : Nat) : Int) := z3 163 163 (by decide) (by decide) e6 (by omega)
    have a187 : (187 + 6 * l2).toInt = ((187 + 6 * r : Nat) : Int) := z3 187 187 (by decide) (by decide) e6 (by omega)
    refine e_X11_tellsAll l1 l2 l3 l4 ⟨fun c => ?_, fun c => ?_⟩
    · have rlt : r < n := by
        refine Nat.lt_of_le_of_ne rn (fun y => c (Int32.toInt_inj.mp ?_))
        rw [e2, y]
        exact ((congrArg Int32.toInt (k45 158)).trans f158).symm
      obtain ⟨⟨fl, l1', l6', offS⟩, stp⟩ := run r rlt
      have jle := jl rlt
      have fl' : (mI h 45 (159 + r)).toInt = (ln r : Int) := by rw [k45]; exact fl
      rw [i_nat a159]
      refine ⟨i_vp a159 (by omega), fun c2 => ?_, fun c2 => ?_⟩
      · have jlt : j < ln r := by
          refine Nat.lt_of_le_of_ne jle (fun y => c2 (Int32.toInt_inj.mp ?_))
          rw [e3, fl', y]
        obtain ⟨flk, lk6, ftd, ⟨td0, td1⟩, fen⟩ := stp j jlt
        have sq' := sq rlt jlt
        obtain ⟨k, rfl⟩ : ∃ x, k = x + 1 := ⟨k - 1, by
          have : off (r + 1) ≤ N := by
            have mono : ∀ d, r + 1 + d ≤ n → off (r + 1) ≤ off (r + 1 + d) := fun d => by
              induction d with
              | zero => intro _; exact Nat.le_refl _
              | succ d ihd =>
                intro hd
                have a := ihd (by omega)
                have b := (run (r + 1 + d) (by omega)).1.2.2.2
                have e : r + 1 + (d + 1) = r + 1 + d + 1 := by omega
                rw [e]
                omega
            have := mono (n - (r + 1)) (by omega)
            rw [show r + 1 + (n - (r + 1)) = n by omega, offN] at this
            exact this
          omega⟩
        have a163' : (163 + 6 * l2 + l3).toInt = ((163 + 6 * r + j : Nat) : Int) := z3 _ _ a163 (by omega) e3 (by omega)
        have a187' : (187 + 6 * l2 + l3).toInt = ((187 + 6 * r + j : Nat) : Int) := z3 _ _ a187 (by omega) e3 (by omega)
        have e6q : (6 * l4).toInt = ((6 * q : Nat) : Int) := by
          rw [Int32.toInt_mul, show (6 : Int32).toInt = 6 from by decide, e4, bm (by omega) (by omega)]
          omega
        rw [i_nat a163', i_nat a187', k45 (163 + 6 * r + j), k45 (187 + 6 * r + j)]
        refine ⟨i_vp a163' (by omega), fun x5 e5 => ⟨i_vp a187' (by omega), fun x7 e7 => ?_⟩⟩
        have ep : x5.toInt = ((6 * s + lk (off r + j) : Nat) : Int) := by
          rw [e5, i_add e6q flk (by omega), sq']
          omega
        have p18 : 6 * s + lk (off r + j) < 18 := by rw [sq']; omega
        have e7' : x7 = td (off r + j) := e7.trans ftd
        have vp : vp_in x5 18 := i_vp ep p18
        rw [i_nat ep, e7']
        have e3n := i_inc e3 (by omega)
        have ns : ∀ x, (r < n → j + 1 < ln r → (if en (off r + j) = true then 0 else x) = x) ∧ (r < n → j + 1 = ln r → (if en (off r + j) = true then 0 else x) = 0) := fun x => ⟨fun _ h1 => if_neg (fun z => by have := fen.mp z; omega), fun _ h1 => if_pos (fen.mpr h1)⟩
        have t2 : ¬ td (off r + j) = 2 := fun z => by
          rw [z, show (2 : Int32).toInt = 2 from by decide] at td1
          omega
        cases e : G (6 * s + lk (off r + j)) with
        | some v =>
          have gv := (gj _).1 v e
          rw [gv.2.2.1]
          refine ⟨vp, fun c3 => absurd c3 gv.2.1, fun _ => ⟨vp, fun c3 => hf h ok gj (by rw [rf_s e, if_neg c3]), fun c3 => ⟨vp, ?_⟩⟩⟩
          have vm := bd _ v e
          exact ih K r (j + 1) v.2 k (if en (off r + j) = true then 0 else v.2) l1 l2 (l3 + 1) _ G h _ (by omega) (by omega) e1 e2 e3n gv.2.2.2 rn (fun _ => by omega) (fun y => absurd rlt (by omega)) (by omega) (by omega) (ns v.2).1 (ns v.2).2 ok gj bd (fun h' G' o g' x => ⟨fun z => absurd z (by decide), fun _ => hs h' G' o g' (by rw [rf_s e, if_pos c3]; exact x)⟩) (fun h' o g' x => ⟨fun _ => hf h' o g' (by rw [rf_s e, if_pos c3]; exact x), fun z => absurd rfl z⟩)
        | none =>
          have gn := (gj _).2 p18 e
          refine ⟨vp, fun _ => ⟨vp, ?_⟩, fun c3 => absurd gn.1 c3⟩
          have L : ∀ (d : Nat) (l7 : Int32) (x : Nat) (k1 : mh_T), l7.toInt = (x : Int) → x ≤ m → m - x < d → Ok [59, 60] h0 k1 → (∀ p, ¬ p = 6 * s + lk (off r + j) → (∀ v, G p = some v → p < 18 ∧ ¬ v.1 = 2 ∧ mI k1 59 p = v.1 ∧ (mI k1 60 p).toInt = (v.2 : Int)) ∧ (p < 18 → G p = none → mI k1 59 p = 2 ∧ mI k1 60 p = -1)) → mI k1 59 (6 * s + lk (off r + j)) = td (off r + j) → (∀ y, y < x → rfM lk td en m k (off r + j + 1) (if en (off r + j) = true then 0 else y) (gu G (6 * s + lk (off r + j)) (td (off r + j), y)) = none) → ME g (uX11_tellsAll (K + 1)) 139 [.ref 11, .int l1, .int l2, .int l3, .int l4, .int x5, .int (td (off r + j)), .int l7] [] k1 (qI P) := by
            intro d
            induction d with
            | zero => intro _ _ _ _ _ hd; exact absurd hd (Nat.not_lt_zero _)
            | succ d ihd =>
              intro l7 x k1 e7x hx hd ok1 gx g59 no
              refine r_X11_tellsAll_139 l1 l2 l3 l4 x5 (td (off r + j)) l7 ⟨fun c => ⟨vp, vp, ?_⟩, fun c => ⟨vp, ?_⟩⟩
              · have c := i_le.mp c
                rw [e1, e7x] at c
                rw [i_nat ep]
                have q1 := Ok_w ok1 (k := 59) (j := 6 * s + lk (off r + j)) (v := 2) (lo := 0) (hi := 2) rfl ⟨by decide, by decide⟩ (by decide) (nt_k (by decide))
                have q2 := Ok_w q1 (k := 60) (j := 6 * s + lk (off r + j)) (v := -1) (lo := -1) (hi := 2) rfl ⟨by decide, by decide⟩ (by decide) (nt_k (by decide))
                refine hf _ q2 (fun p => ?_) (by rw [rf_n e]; exact ft_0 m 0 (fun y _ hy => no y (by omega)))
                have a59 : mI (wI (wI k1 59 (6 * s + lk (off r + j)) 2) 60 (6 * s + lk (off r + j)) (-1)) 59 p = if p = 6 * s + lk (off r + j) then 2 else mI k1 59 p := by
                  rw [mI_wI, if_neg (fun z => absurd z.1 (by decide)), mI_wI]
                  by_cases w : p = 6 * s + lk (off r + j)
                  · rw [if_pos ⟨rfl, w⟩, if_pos w]
                  · rw [if_neg (fun z => w z.2), if_neg w]
                have a60 : mI (wI (wI k1 59 (6 * s + lk (off r + j)) 2) 60 (6 * s + lk (off r + j)) (-1)) 60 p = if p = 6 * s + lk (off r + j) then -1 else mI k1 60 p := by
                  rw [mI_wI]
                  by_cases w : p = 6 * s + lk (off r + j)
                  · rw [if_pos ⟨rfl, w⟩, if_pos w]
                  · rw [if_neg (fun z => w z.2), if_neg w, mI_wI, if_neg (fun z => absurd z.1 (by decide))]
                rw [a59, a60]
                by_cases w : p = 6 * s + lk (off r + j)
                · rw [if_pos w, if_pos w]
                  exact ⟨fun v hv => (by rw [w, e] at hv; cases hv), fun _ _ => ⟨rfl, rfl⟩⟩
                · rw [if_neg w, if_neg w]
                  exact gx p w
              · have c := i_lt.mp (nle c)
                rw [e1, e7x] at c
                rw [i_nat ep]
                have xm : x < m := by omega
                have q1 := Ok_w ok1 (k := 60) (j := 6 * s + lk (off r + j)) (v := l7) (lo := -1) (hi := 2) rfl ⟨by omega, by omega⟩ (by decide) (nt_k (by decide))
                have a59 : ∀ p, mI (wI k1 60 (6 * s + lk (off r + j)) l7) 59 p = mI k1 59 p := fun p => by rw [mI_wI, if_neg (fun z => absurd z.1 (by decide))]
                have a60 : ∀ p, mI (wI k1 60 (6 * s + lk (off r + j)) l7) 60 p = if p = 6 * s + lk (off r + j) then l7 else mI k1 60 p := fun p => by
                  rw [mI_wI]
                  by_cases w : p = 6 * s + lk (off r + j)
                  · rw [if_pos ⟨rfl, w⟩, if_pos w]
                  · rw [if_neg (fun z => w z.2), if_neg w]
                generalize wI k1 60 (6 * s + lk (off r + j)) l7 = k2 at q1 a59 a60 ⊢
                have gj2 : GJ (gu G (6 * s + lk (off r + j)) (td (off r + j), x)) k2 := fun p => by
                  by_cases w : p = 6 * s + lk (off r + j)
                  · refine ⟨fun v hv => ?_, fun _ hv => ?_⟩
                    · rw [w, gu_p] at hv
                      rw [← Option.some.inj hv, a59, a60, if_pos w, w]
                      exact ⟨p18, t2, g59, e7x⟩
                    · rw [w, gu_p] at hv; cases hv
                  · rw [gu_q _ w, a59, a60, if_neg w]
                    exact gx p w
                have e7n := i_inc e7x (by omega)
                refine ih K r (j + 1) x k (if en (off r + j) = true then 0 else x) l1 l2 (l3 + 1) l7 (gu G (6 * s + lk (off r + j)) (td (off r + j), x)) k2 _ (by omega) (by omega) e1 e2 e3n e7x rn (fun _ => by omega) (fun y => absurd rlt (by omega)) (by omega) (by omega) (ns x).1 (ns x).2 q1 gj2 (bd_gu bd xm) (fun h' G' o g' y => ⟨fun z => absurd z (by decide), fun _ => hs h' G' o g' (by rw [rf_n e]; exact ft_1 m 0 (Nat.zero_le _) (by omega) (fun w _ hw => no w hw) y)⟩) (fun h' o g' y => ⟨fun _ => ihd (l7 + 1) (x + 1) h' e7n (by omega) (by omega) o (fun p w => ?_) ((g' _).1 _ (gu_p _ _ _)).2.2.1 (fun w hw => ?_), fun z => absurd rfl z⟩)
                · have := g' p
                  rw [gu_q _ w] at this
                  exact this
                · by_cases ew : w = x
                  · rw [ew]; exact y
                  · exact no w (by omega)
          have o1 := Ok_w ok (k := 59) (j := 6 * s + lk (off r + j)) (v := td (off r + j)) (lo := 0) (hi := 2) rfl ⟨td0, by omega⟩ (by decide) (nt_k (by decide))
          refine L (m + 1) 0 0 _ (by decide) (Nat.zero_le _) (by omega) o1 (fun p w => ?_) (by rw [mI_wI, if_pos ⟨rfl, rfl⟩]) (fun y hy => absurd hy (Nat.not_lt_zero y))
          rw [mI_wI, if_neg (fun z => w z.2), mI_wI, if_neg (fun z => absurd z.1 (by decide))]
          exact gj p
      · have jeq : j = ln r := by
          have := congrArg Int32.toInt c2
          rw [e3, fl'] at this
          omega
        have es : s = 0 := s0 rlt jeq
        have eo : off (r + 1) + 0 = off r + j := by rw [offS, jeq, Nat.add_zero]
        refine ih K (r + 1) 0 0 k 0 l1 (l2 + 1) 0 0 G h _ (by omega) (by omega) e1 (i_inc e2 (by omega)) (by decide) (by decide) (by omega) (fun _ => Nat.zero_le _) (fun _ => rfl) (by decide) (by rw [eo]; exact iN) (fun _ _ => rfl) (fun _ _ => rfl) ok gj bd (fun h' G' o g' x => ⟨Or.inr rfl, hs h' G' o g' (by rw [es, ← eo]; exact x)⟩) (fun h' o g' x => ⟨Or.inl rfl, hf h' o g' (by rw [es, ← eo]; exact x)⟩)
    · have rn' : r = n := by
        have := congrArg Int32.toInt c
        rw [e2, k45] at this
        have : (r : Int) = (n : Int) := this.trans f158
        omega
      have k0 : k = 0 := by
        have := jn rn'
        rw [rn'] at iN
        omega
      refine hs h G ok gj ?_
      rw [k0]
      rfl
/-! the fewest states: both sides -/
def fsN (F : Nat → Option gmT) : Nat × gmT := match F 1 with
  | some G => (1, G)
  | none => match F 2 with
    | some G => (2, G)
    | none => match F 3 with
      | some G => (3, G)
      | none => (0, fun _ => none)
theorem fs_x {F : Nat → Option gmT} {x : Nat} {G : gmT} (h1 : 1 ≤ x) (h3 : x ≤ 3) (no : ∀ y, 1 ≤ y → y < x → F y = none) (e : F x = some G) : fsN F = (x, G) := by
  rcases (show x = 1 ∨ x = 2 ∨ x = 3 by omega) with q | q | q
  · rw [q] at e ⊢
    unfold fsN
    rw [e]
  · rw [q] at e ⊢
    have a := no 1 (by omega) (by omega)
    unfold fsN
    rw [a, e]
  · rw [q] at e ⊢
    have a := no 1 (by omega) (by omega)
    have b := no 2 (by omega) (by omega)
    unfold fsN
    rw [a, b, e]
theorem fs_0 {F : Nat → Option gmT} (no : ∀ y, 1 ≤ y → y < 4 → F y = none) : fsN F = (0, fun _ => none) := by
  have a := no 1 (by omega) (by omega)
  have b := no 2 (by omega) (by omega)
  have c := no 3 (by omega) (by omega)
  unfold fsN
  rw [a, b, c]
def G0 : gmT := fun _ => none
/-- the machines of so many states -/
def mF (lk : Nat → Nat) (td : Nat → Int32) (en : Nat → Bool) (N : Nat) (m : Nat) : Option gmT := rfM lk td en m N 0 0 G0
/-- the steps stand in the class -/
def TPm (N : Nat) (lk : Nat → Nat) (td : Nat → Int32) (en : Nat → Bool) (h : mh_T) : Prop := ((mI h 9 2).toInt = (N : Int) ∧ N ≤ 24) ∧ (∀ i, (mI h 34 i).toInt = (lk i : Int) ∧ lk i < 6) ∧ ∀ i, mI h 35 i = td i ∧ 0 ≤ (td i).toInt ∧ (en i = true ↔ ¬ mI h 36 i = 0)
/-- what the class worked out of the machine -/
def MKm (N : Nat) (lk : Nat → Nat) (td : Nat → Int32) (en : Nat → Bool) (h : mh_T) : Prop := (mI h 9 1).toInt = ((fsN (mF lk td en N)).1 : Int) ∧ (¬ (fsN (mF lk td en N)).1 = 0 → GH (fsN (mF lk td en N)).2 h)
theorem TP_k {N : Nat} {lk : Nat → Nat} {td : Nat → Int32} {en : Nat → Bool} {h k : mh_T} (tp : TPm N lk td en h) (ok : Ok [9, 37, 38, 39] h k) (e2 : mI k 9 2 = mI h 9 2) : TPm N lk td en k := ⟨by rw [e2]; exact tp.1, fun i => by rw [show mI k 34 i = mI h 34 i from Ok_eq ok (by decide)]; exact tp.2.1 i, fun i => by rw [show mI k 35 i = mI h 35 i from Ok_eq ok (by decide), show mI k 36 i = mI h 36 i from Ok_eq ok (by decide)]; exact tp.2.2 i⟩
theorem v_mwork {g : gT} {h : mh_T} {P : mh_T → Prop} {N : Nat} {lk : Nat → Nat} {td : Nat → Int32} {en : Nat → Bool} (hG : GI h) (tp : TPm N lk td en h) (hk : mI h 9 3 = 0 ∨ MKm N lk td en h) (hp : ∀ h', Ok [9, 37, 38, 39] h h' → mI h' 9 0 = mI h 9 0 → mI h' 9 2 = mI h 9 2 → MKm N lk td en h' → P h') : MCv g yX9_work uX9_work [.ref 9] h P := by
  have N24 := tp.1.2
  refine e_X9_work ⟨fun _ => ?_, fun z => hp h (Ok_rf hG) rfl rfl (hk.resolve_left z)⟩
  have z3 : (3 : Int32).toInt = 3 := by decide
  have z18 : (18 : Int32).toInt = 18 := by decide
  have L : ∀ (M : Nat) (l1 : Int32) (x : Nat) (k : mh_T), l1.toInt = (x : Int) → 1 ≤ x → x ≤ 4 → 4 - x < M → Ok [9, 37, 38, 39] h k → mI k 9 0 = mI h 9 0 → mI k 9 2 = mI h 9 2 → (∀ y, 1 ≤ y → y < x → mF lk td en N y = none) → ME g uX9_work 15 [.ref 9, .int l1, .retAddr 0] [] k (qV P) := by
    intro M
    induction M with
    | zero => intro _ _ _ _ _ _ hM; exact absurd hM (Nat.not_lt_zero _)
    | succ M ih =>
      intro l1 x k e1 x1 x4 hM ok k0 k2 no
      refine r_X9_work_15 l1 ⟨fun c => ?_, fun c => ?_⟩
      · have c := i_lt.mp c
        rw [z3, e1] at c
        have ex : x = 4 := by omega
        rw [ex] at no
        have o1 := Ok_w ok (k := 9) (j := 1) (v := 0) (lo := 0) (hi := 3) (by decide) ⟨by decide, by decide⟩ (by decide) (by decide)
        refine hp _ o1 (by rw [mI_wI, if_neg (by decide)]; exact k0) (by rw [mI_wI, if_neg (by decide)]; exact k2) ?_
        unfold MKm
        rw [fs_0 no]
        exact ⟨by rw [mI_wI, if_pos ⟨rfl, rfl⟩]; rfl, fun z => absurd rfl z⟩
      · have c := i_le.mp (nlt c)
        rw [z3, e1] at c
        have o1 := Ok_w ok (k := 9) (j := 1) (v := l1) (lo := 0) (hi := 3) (by decide) ⟨by omega, by omega⟩ (by decide) (by decide)
        have C : ∀ (M2 : Nat) (l2 : Int32) (p : Nat) (k' : mh_T), l2.toInt = (p : Int) → p ≤ 18 → 18 - p < M2 → Ok [9, 37, 38, 39] h k' → mI k' 9 0 = mI h 9 0 → mI k' 9 2 = mI h 9 2 → mI k' 9 1 = l1 → (∀ q, q < p → mI k' 37 q = -2 ∧ mI k' 38 q = -2) → ME g uX9_work 27 [.ref 9, .int l1, .int l2] [] k' (qV P) := by
          intro M2
          induction M2 with
          | zero => intro _ _ _ _ _ hM2; exact absurd hM2 (Nat.not_lt_zero _)
          | succ M2 ihc =>
            intro l2 p k' e2 hp18 hM2 ok' q0 q2 q1 cl
            refine r_X9_work_27 l1 l2 ⟨fun y => ?_, fun y => ?_⟩
            · rw [i_le, z18, e2] at y
              have tp' := TP_k tp ok' q2
              have ts : TSm N x lk td en k' := ⟨⟨tp'.1.1, N24, by rw [q1]; exact e1, by omega, by omega⟩, tp'.2.1, tp'.2.2⟩
              have gh : GH G0 k' := fun q => ⟨fun v hv => (by cases hv), fun hq _ => cl q (by omega)⟩
              have bd : bdG x G0 := fun _ _ hv => by cases hv
              have pf : pfG lk td en N N 0 0 G0 := fun _ _ _ r => r
              refine v_tell ts N 70 0 0 0 0 0 0 0 G0 k' _ (by omega) (by decide) (by omega) (by decide) (Nat.le_refl 0) (by decide) (by omega) (Ok_rf ok'.1) gh bd (fun _ _ hv => by cases hv) (fun _ _ hv => by cases hv) ⟨fun p hp => (by rw [bt_zr] at hp; cases hp), fun _ _ _ r => r⟩ pf (fun h' G' o g' r => ⟨fun w => absurd rfl w, fun _ => ?_⟩) (fun r h' o g' _ bp => ⟨fun _ => ?_, fun w => ?_⟩)
              · have o' : Ok [9, 37, 38, 39] h h' := Ok_tr ok' o (by decide)
                have z9 : ∀ j, mI h' 9 j = mI k' 9 j := fun j => Ok_eq o (by decide)
                refine hp h' o' ((z9 0).trans q0) ((z9 2).trans q2) ?_
                unfold MKm
                rw [fs_x x1 (by omega) no r]
                exact ⟨by rw [z9 1, q1]; exact e1, fun _ => g'⟩
              · have o' : Ok [9, 37, 38, 39] h h' := Ok_tr ok' o (by decide)
                have z9 : ∀ j, mI h' 9 j = mI k' 9 j := fun j => Ok_eq o (by decide)
                refine ih (l1 + 1) (x + 1) h' (i_inc e1 (by omega)) (by omega) (by omega) (by omega) o' ((z9 0).trans q0) ((z9 2).trans q2) (fun y y1 y2 => ?_)
                by_cases ey : y = x
                · rw [ey]
                  exact bp_rf (by omega) bd bp pf
                · exact no y y1 (by omega)
              · obtain ⟨v, hv⟩ := bp.1 31 (by rw [w]; decide)
                cases hv
            · rw [i_le, z18, e2] at y
              have vp : vp_in l2 18 := i_vp e2 (by omega)
              rw [i_nat e2]
              have o2 := Ok_w ok' (k := 37) (j := p) (v := -2) (lo := -2) (hi := 1) rfl ⟨by decide, by decide⟩ (by decide) (nt_k (by decide))
              have o3 := Ok_w o2 (k := 38) (j := p) (v := -2) (lo := -2) (hi := 2) rfl ⟨by decide, by decide⟩ (by decide) (nt_k (by decide))
              have z9 : ∀ j, mI (wI (wI k' 37 p (-2)) 38 p (-2)) 9 j = mI k' 9 j := fun j => by rw [mI_wI, if_neg (fun z => absurd z.1 (by decide)), mI_wI, if_neg (fun z => absurd z.1 (by decide))]
              refine ⟨vp, vp, ihc (l2 + 1) (p + 1) _ (i_inc e2 (by omega)) (by omega) (by omega) o3 ((z9 0).trans q0) ((z9 2).trans q2) ((z9 1).trans q1) (fun q hq => ⟨?_, ?_⟩)⟩
              · rw [mI_wI, if_neg (fun z => absurd z.1 (by decide)), mI_wI]
                by_cases w : q = p
                · rw [if_pos ⟨rfl, w⟩]
                · rw [if_neg (fun z => w z.2)]
                  exact (cl q (by omega)).1
              · rw [mI_wI]
                by_cases w : q = p
                · rw [if_pos ⟨rfl, w⟩]
                · rw [if_neg (fun z => w z.2), mI_wI, if_neg (fun z => absurd z.1 (by decide))]
                  exact (cl q (by omega)).2
        exact C 19 0 0 _ (by decide) (Nat.zero_le _) (by omega) o1 (by rw [mI_wI, if_neg (by decide)]; exact k0) (by rw [mI_wI, if_neg (by decide)]; exact k2) (by rw [mI_wI, if_pos ⟨rfl, rfl⟩]) (fun q hq => absurd hq (Nat.not_lt_zero q))
  have o1 := Ok_w (ms := [9, 37, 38, 39]) (Ok_rf hG) (k := 9) (j := 3) (v := 1) (lo := 0) (hi := 1) (by decide) ⟨by decide, by decide⟩ (by decide) (by decide)
  exact L 4 1 1 _ (by decide) (Nat.le_refl 1) (by decide) (by decide) o1 (by rw [mI_wI, if_neg (by decide)]) (by rw [mI_wI, if_neg (by decide)]) (fun y h1 h2 => absurd h2 (by omega))
theorem w_fewest {g : gT} {h : mh_T} {P : Int32 → mh_T → Prop} {n : Nat} {ln off : Nat → Nat} {N : Nat} {lk : Nat → Nat} {td : Nat → Int32} {en : Nat → Bool} (hG : GI h) (rs : RS n ln off N lk td en (fun q => mI h 45 q)) (o0 : off 0 = 0) (hp : ∀ r h', Ok [59, 60] h h' → ((fsN (mF lk td en N)).1 = 0 → r = -2) → (¬ (fsN (mF lk td en N)).1 = 0 → r.toInt = ((fsN (mF lk td en N)).1 : Int) ∧ GJ (fsN (mF lk td en N)).2 h') → P r h') : MCi g yX11_fewestStates uX11_fewestStates [.ref 11] h P := by
  have z3 : (3 : Int32).toInt = 3 := by decide
  have z18 : (18 : Int32).toInt = 18 := by decide
  have L : ∀ (M : Nat) (l1 : Int32) (x : Nat) (k : mh_T), l1.toInt = (x : Int) → 1 ≤ x → x ≤ 4 → 4 - x < M → Ok [59, 60] h k → (∀ y, 1 ≤ y → y < x → mF lk td en N y = none) → ME g uX11_fewestStates 2 [.ref 11, .int l1, .retAddr 0] [] k (qI P) := by
    intro M
    induction M with
    | zero => intro _ _ _ _ _ _ hM; exact absurd hM (Nat.not_lt_zero _)
    | succ M ih =>
      intro l1 x k e1 x1 x4 hM ok no
      refine r_X11_fewestStates_2 l1 ⟨fun c => ?_, fun c => ?_⟩
      · have c := i_lt.mp c
        rw [z3, e1] at c
        have ex : x = 4 := by omega
        rw [ex] at no
        exact hp _ k ok (fun _ => rfl) (fun z => absurd (by rw [fs_0 no]) z)
      · have c := i_le.mp (nlt c)
        rw [z3, e1] at c
        have C : ∀ (M2 : Nat) (l2 : Int32) (p : Nat) (k' : mh_T), l2.toInt = (p : Int) → p ≤ 18 → 18 - p < M2 → Ok [59, 60] h k' → (∀ q, q < p → mI k' 59 q = 2 ∧ mI k' 60 q = -1) → ME g uX11_fewestStates 9 [.ref 11, .int l1, .int l2] [] k' (qI P) := by
          intro M2
          induction M2 with
          | zero => intro _ _ _ _ _ hM2; exact absurd hM2 (Nat.not_lt_zero _)
          | succ M2 ihc =>
            intro l2 p k' e2 hp18 hM2 ok' cl
            refine r_X11_fewestStates_9 l1 l2 ⟨fun y => ?_, fun y => ?_⟩
            · rw [i_le, z18, e2] at y
              have gj : GJ G0 k' := fun q => ⟨fun v hv => (by cases hv), fun hq _ => cl q (by omega)⟩
              have bd : bdG x G0 := fun _ _ hv => by cases hv
              have rs' : RS n ln off N lk td en (fun q => mI k' 45 q) := by
                rw [show (fun q => mI k' 45 q) = fun q => mI h 45 q from funext fun q => Ok_eq ok' (by decide)]
                exact rs
              have eo : off 0 + 0 = 0 := by rw [o0]
              refine w_tellsAll rs' (by omega : x ≤ 3) 59 60 0 0 0 N 0 l1 0 0 0 G0 k' _ (by omega) (by omega) e1 (by decide) (by decide) (by decide) (Nat.zero_le n) (fun _ => Nat.zero_le _) (fun _ => rfl) (by decide) (by omega) (fun _ _ => rfl) (fun _ _ => rfl) (Ok_rf ok'.1) gj bd (fun h' G' o g' r => ⟨fun w => absurd w (by decide), fun _ => ?_⟩) (fun h' o g' r => ⟨fun _ => ?_, fun w => absurd rfl w⟩)
              · rw [eo] at r
                have ef := fs_x x1 (by omega) no (show mF lk td en N x = some G' from r)
                refine hp _ h' (Ok_tr ok' o (by decide)) (fun z => ?_) (fun _ => ?_)
                · rw [ef] at z
                  have z : x = 0 := z
                  omega
                · rw [ef]
                  exact ⟨e1, g'⟩
              · rw [eo] at r
                refine ih (l1 + 1) (x + 1) h' (i_inc e1 (by omega)) (by omega) (by omega) (by omega) (Ok_tr ok' o (by decide)) (fun y y1 y2 => ?_)
                by_cases ey : y = x
                · rw [ey]; exact r
                · exact no y y1 (by omega)
            · rw [i_le, z18, e2] at y
              have vp : vp_in l2 18 := i_vp e2 (by omega)
              rw [i_nat e2]
              have o2 := Ok_w ok' (k := 59) (j := p) (v := 2) (lo := 0) (hi := 2) rfl ⟨by decide, by decide⟩ (by decide) (nt_k (by decide))
              have o3 := Ok_w o2 (k := 60) (j := p) (v := -1) (lo := -1) (hi := 2) rfl ⟨by decide, by decide⟩ (by decide) (nt_k (by decide))
              refine ⟨vp, vp, ihc (l2 + 1) (p + 1) _ (i_inc e2 (by omega)) (by omega) (by omega) o3 (fun q hq => ⟨?_, ?_⟩)⟩
              · rw [mI_wI, if_neg (fun z => absurd z.1 (by decide)), mI_wI]
                by_cases w : q = p
                · rw [if_pos ⟨rfl, w⟩]
                · rw [if_neg (fun z => w z.2)]
                  exact (cl q (by omega)).1
              · rw [mI_wI]
                by_cases w : q = p
                · rw [if_pos ⟨rfl, w⟩]
                · rw [if_neg (fun z => w z.2), mI_wI, if_neg (fun z => absurd z.1 (by decide))]
                  exact (cl q (by omega)).2
        exact C 19 0 0 _ (by decide) (Nat.zero_le _) (by omega) ok (fun q hq => absurd hq (Nat.not_lt_zero q))
  exact e_X11_fewestStates (L 4 1 1 h (by decide) (Nat.le_refl 1) (by decide) (by decide) (Ok_rf hG) (fun y h1 h2 => absurd h2 (by omega)))
