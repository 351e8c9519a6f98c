/-! what stays of THE TABLE; isMixed, share, together, level of the reference -/
def TQ (f : Nat → Int32) (off : Nat) : Prop := ∀ s, s < 8 → 0 ≤ (f (off + 17 + 4 * s)).toInt ∧ 0 ≤ (f (off + 17 + 4 * s + 1)).toInt ∧ 0 ≤ (f (off + 17 + 4 * s + 2)).toInt ∧ 0 ≤ (f (off + 17 + 4 * s + 3)).toInt ∧ (f (off + 17 + 4 * s)).toInt + (f (off + 17 + 4 * s + 1)).toInt + (f (off + 17 + 4 * s + 2)).toInt + (f (off + 17 + 4 * s + 3)).toInt ≤ 240
def TVs (h : mh_T) : Prop := TQ (h.1 45) 0 ∧ TQ (h.1 48) 0 ∧ (∀ p, p < 20 → TQ (h.1 49) (49 * p)) ∧ (∀ p, p < 20 → TQ (h.1 50) (49 * p)) ∧ (∀ p, p < 4 → TQ (h.1 51) (49 * p)) ∧ (1 ≤ (h.1 45 50).toInt → 1 ≤ (h.1 45 49).toInt)
theorem TVs_fr {ms : List Nat} {h h' : mh_T} (f : Fr ms h h') (hm : 45 ∉ ms ∧ 48 ∉ ms ∧ 49 ∉ ms ∧ 50 ∉ ms ∧ 51 ∉ ms) (t : TVs h) : TVs h' := by
  have e1 := (f 45 (by decide) hm.1).1
  have e2 := (f 48 (by decide) hm.2.1).1
  have e3 := (f 49 (by decide) hm.2.2.1).1
  have e4 := (f 50 (by decide) hm.2.2.2.1).1
  have e5 := (f 51 (by decide) hm.2.2.2.2).1
  unfold TVs
  rw [e1, e2, e3, e4, e5]
  exact t
theorem TQ_at {f : Nat → Int32} (t : TQ f 0) {s o : Nat} (hs : s < 8) (ho : o < 4) : 0 ≤ tx_tm f s o ∧ tx_tm f s o ≤ 240 := by
  obtain ⟨a, b, c, d, e⟩ := t s hs
  unfold tx_tm
  rw [Nat.zero_add] at a b c d e
  rcases (show o = 0 ∨ o = 1 ∨ o = 2 ∨ o = 3 by omega) with z | z | z | z <;> subst z
  · rw [Nat.add_zero]; omega
  · omega
  · omega
  · omega
theorem tx_RI {h : mh_T} (hG : GI h) (t : TVs h) : tx_R (h.1 45) := by
  refine ⟨GI_rd hG 45 0 rfl, fun s hs => ⟨GI_rd hG 45 (1 + s) ?_, GI_rd hG 45 (9 + s) ?_⟩, GI_rd hG 45 50 rfl, fun s o hs ho => TQ_at t.1 hs ho⟩
  · exact rgp_45_1 (by omega) (by omega)
  · exact rgp_45_2 (by omega) (by omega)
theorem t_lowest {g : gT} {h : mh_T} {P : Int32 → mh_T → Prop} (l0 l2 : Int64) (l4 : Int32) (hG : GI h) (h0 : ¬ (l0 = 0 ∧ l2 = 0)) (hp : ∀ r, P r h) : MCi g yX11_lowest uX11_lowest [.long l0, .long l2, .int l4] h P :=
  e_X11_lowest l0 l2 l4 (s_X11_common l0 l2 hG h0 (fun r hr => ⟨fun _ => ⟨hr, hp _⟩, fun _ => ⟨hr, hp _⟩⟩))
theorem tx_ww1 (r : Nat → Int32) : tx_w (tx_w1 r) := by
  intro k
  unfold tx_w1
  split
  · exact Or.inr (Or.inl rfl)
  · exact Or.inl rfl
theorem tx_ww0 : tx_w (fun _ => 0) := fun _ => Or.inl rfl
set_option maxRecDepth 100000 in
set_option maxHeartbeats 4000000 in
theorem t_isMixed {g : gT} {h0 h : mh_T} {P : Int32 → mh_T → Prop} {r : Nat → Int32} (ok : Ok [300, 11, 54, 55] h0 h) (t1 : h.1 45 = r) (hR : tx_R r) (hp1 : r 0 = 0 → P 1 h) (hp : ∀ (v : Int32) (h' : mh_T) (b : Nat → Nat), ¬ r 0 = 0 → Ok [300, 11, 54, 55] h0 h' → tx_g r b → TB r (tx_w1 r) (fun _ => 0) b h' → (v = 0 ∧ ¬ mL h' 54 (97 * tx_m r + tx_n r) = mL h' 11 29 * (Int32.toInt64 (r 49))) ∨ v = 1 → P v h') : MCi g yX11_isMixed uX11_isMixed [.ref 11] h P := by
  have m32 := tx_m32 hR
  have n96 := tx_n96 hR
  have e0 : mI h 45 (Int32.toNatClampNeg 0) = r 0 := mI45 t1 0
  refine e_X11_isMixed ⟨fun ne => t_layTab ok t1 hR (fun h1 ok1 T1 => ?_), fun eq => hp1 (by rw [← e0]; exact eq)⟩
  rw [e0] at ne
  refine t_goesUp ok1 T1 hR (tx_g0 hR) (tx_ww1 r) tx_ww0 _ 0 (Or.inl rfl) (by rw [T1.2.1]; omega) (fun h2 b ok2 g2 T2 => ?_)
  have hm : (mI h2 11 30).toInt = ((tx_m r : Nat) : Int) := T2.2.1
  have hw : ((mI h2 11 31) - 1).toInt = ((tx_n r : Nat) : Int) := by
    rw [i_sub T2.2.2.1 (show (1 : Int32).toInt = 1 from by decide) (by omega)]
    omega
  refine e_X11_cell _ _ ⟨ce_p hm hw (by omega) (by omega), fun nz => hp 0 h2 b ne ok2 g2 T2 (Or.inl ⟨rfl, fun z => nz (lg_0.mpr ?_)⟩), fun _ => hp 1 h2 b ne ok2 g2 T2 (Or.inr rfl)⟩
  have e49 : mI h2 45 (Int32.toNatClampNeg 49) = r 49 := mI45 T2.1 49
  rw [ce_n hm hw (by omega) (by omega), e49, z]
theorem good45 {h h1 : mh_T} {ms : List Nat} (ok : Ok ms h h1) (hm : 45 ∉ ms) : h1.1 45 = h.1 45 := (ok.2.1 45 (by decide) hm).1
set_option maxRecDepth 100000 in
set_option maxHeartbeats 4000000 in
theorem u_X11_share {g : gT} {h : mh_T} {P : Int32 → mh_T → Prop} (l1 : Int32) (hG : GI h) (hI : TVs h) (hp : ∀ (v : Int32) (h' : mh_T), Ok [300, 11, 54, 55] h h' → ¬ mI h' 11 11 = 4 → P v h') : MCi g yX11_share uX11_share [.ref 11, .int l1] h P := by
  refine e_X11_share l1 (s_X11_good hG (fun h1 ok1 t4 => ?_))
  have ok1' : Ok [300, 11, 54, 55] h h1 := Ok_mono ok1 (by decide)
  have hp : ∀ (v : Int32) (h' : mh_T), Ok [300, 11, 54, 55] h1 h' → P v h' := fun v h' k => hp v h' (Ok_tr ok1' k (by decide)) (k.2.2.2.2.2.2.1 t4)
  have ok1' : Ok [300, 11, 54, 55] h1 h1 := Ok_rf ok1'.1
  have t1 := good45 ok1 (by decide)
  have hR := tx_RI hG hI
  have m32 := tx_m32 hR
  have n96 := tx_n96 hR
  refine ⟨fun _ => t_isMixed ok1' t1 hR (fun _ => ⟨fun z => absurd z (by decide), fun _ => hp 1 h1 ok1'⟩) (fun v h2 b ne ok2 g2 T2 hv => ⟨fun z => ?_, fun _ => hp 1 h2 ok2⟩), fun _ => s_X11_no 1 ok1.1 (fun v h2 ok2 _ => hp v h2 (Ok_tr ok1' ok2 (by decide)))⟩
  have hm : (mI h2 11 30).toInt = ((tx_m (h.1 45) : Nat) : Int) := T2.2.1
  have hw : ((mI h2 11 31) - 1).toInt = ((tx_n (h.1 45) : Nat) : Int) := by
    rw [i_sub T2.2.2.1 (show (1 : Int32).toInt = 1 from by decide) (by omega)]
    omega
  refine e_X11_cell _ _ ⟨ce_p hm hw (by omega) (by omega), ?_⟩
  refine t_lowest _ _ l1 ok2.1 ?_ (fun v => hp v h2 ok2)
  intro zz
  rcases hv with ⟨_, q⟩ | q
  · apply q
    have e49 : mI h2 45 (Int32.toNatClampNeg 49) = (h.1 45) 49 := mI45 T2.1 49
    rw [ce_n hm hw (by omega) (by omega), e49] at zz
    rw [zz.1, zz.2]
  · rw [q] at z
    exact absurd z (by decide)
/-- together: a second aim -/
def tx_is (l1 l2 l3 l4 : Int32) (k : Int32) : Prop := ((k >>> (l1 &&& 31)) &&& 1) = l2 ∧ ((k >>> (l3 &&& 31)) &&& 1) = l4
noncomputable def tx_w2 (r : Nat → Int32) (l1 l2 l3 l4 : Int32) (sg : Int) : Nat → Int := fun k => if k < tx_many r ∧ (((nI k) >>> (l1 &&& 31)) &&& 1) = l2 ∧ (((nI k) >>> (l3 &&& 31)) &&& 1) = l4 then - sg else 0
def TW (r : Nat → Int32) (b : Nat → Nat) (h : mh_T) : Prop :=
  h.1 45 = r ∧ (mI h 11 30).toInt = (tx_m r : Int) ∧ (mI h 11 31).toInt = (tx_n r : Int) + 1 ∧ (∀ i, i < tx_m r → (mI h 55 i).toInt = (b i : Int)) ∧ (mL h 11 29).toInt = tx_D r b
  ∧ ∀ i j, i < tx_m r + 1 → j ≤ tx_n r → (mL h 54 (97 * i + j)).toInt = tx_T r (tx_w1 r) (fun _ => 0) b i j
theorem TW_w {r : Nat → Int32} {b : Nat → Nat} {h : mh_T} (t : TW r b h) {j : Nat} {v : Int64} (hj : j ≤ tx_n r) (hn : tx_n r ≤ 96) : TW r b (wL h 54 (97 * (tx_m r + 1) + j) v) := by
  obtain ⟨t1, t2, t3, t4, t5, t6⟩ := t
  refine ⟨t1, t2, t3, t4, t5, fun i j' h1 h2 => ?_⟩
  rw [mL_wL, if_neg (fun z => ce_ne (by omega) (by omega) (fun y => by omega) z.2)]
  exact t6 i j' h1 h2
theorem i_nI {x : Int32} {k : Nat} (h : x.toInt = (k : Int)) (hk : k < 2147483648) : x = nI k := Int32.toInt_inj.mp (by rw [h, nI_toInt (by omega)])
def tx_F (r : Nat → Int32) (w : Nat → Int) (b : Nat → Nat) (k j : Nat) : Int := la_S k (fun i => w (b i) * tx_t r b i j) - w j * tx_D r b
theorem tx_Fb {r : Nat → Int32} (hR : tx_R r) {w : Nat → Int} (hw : tx_w w) {b : Nat → Nat} (hg : tx_g r b) {k : Nat} (hk : k ≤ 32) (j : Nat) : -283467841536 ≤ tx_F r w b k j ∧ tx_F r w b k j ≤ 283467841536 := by
  have e1 := la_S_b (f := fun i => w (b i) * tx_t r b i j) (M := 8589934592) k (fun i _ => w1_b (hw (b i)) (tx_b2 hR hg i j))
  have e0 := tx_b1 hR hg
  have e2 := w1_b (hw j) e0
  have e3 : (k : Int) * 8589934592 ≤ 32 * 8589934592 := Int.mul_le_mul_of_nonneg_right (by omega) (by omega)
  unfold tx_F
  omega
set_option maxRecDepth 100000 in
set_option maxHeartbeats 4000000 in
theorem t_tog_247 {g : gT} {h0 : mh_T} {P : Int32 → mh_T → Prop} {r : Nat → Int32} {b : Nat → Nat} (hR : tx_R r) (hg : tx_g r b) (l1 l2 l3 l4 l5 l6 : Int32) (l7 : Int64) (sg : Int) (h7 : l7.toInt = sg) (hsg : sg = 1 ∨ sg = -1) (hw2 : tx_w (tx_w2 r l1 l2 l3 l4 sg)) (l9 l10 : Int32) (k : Nat) (h9 : l9.toInt = (k : Int)) (hk : k < tx_m r) (his : tx_w2 r l1 l2 l3 l4 sg (b k) = - sg) (K : ∀ h : mh_T, Ok [300, 11, 54, 55] h0 h → TW r b h → (∀ j, j ≤ tx_n r → (mL h 54 (97 * (tx_m r + 1) + j)).toInt = tx_F r (tx_w2 r l1 l2 l3 l4 sg) b (k + 1) j) → ME g uX11_together 189 [.ref 11, .int l1, .int l2, .int l3, .int l4, .int l5, .int l6, .long l7, .retAddr 0, .int (l9 + 1), .retAddr 0, .retAddr 0, .retAddr 0] [] h (qI P)) : ∀ (n : Nat) (l12 : Int32) (c : Nat) (h : mh_T), l12.toInt = (c : Int) → c ≤ tx_n r + 1 → tx_n r + 1 - c < n → Ok [300, 11, 54, 55] h0 h → TW r b h → (∀ j, j ≤ tx_n r → (mL h 54 (97 * (tx_m r + 1) + j)).toInt = if j < c then tx_F r (tx_w2 r l1 l2 l3 l4 sg) b (k + 1) j else tx_F r (tx_w2 r l1 l2 l3 l4 sg) b k j) → ME g uX11_together 247 [.ref 11, .int l1, .int l2, .int l3, .int l4, .int l5, .int l6, .long l7, .retAddr 0, .int l9, .int l10, .int 1, .int l12] [] h (qI P) := by
  have m32 := tx_m32 hR
  have n96 := tx_n96 hR
  intro n
  induction n with
  | zero => intro l12 c h _ _ hn; exact absurd hn (Nat.not_lt_zero _)
  | succ n ih =>
    intro l12 c h hc hcn hn ok T hF
    have e1 : ((mI h 11 30) + 1).toInt = ((tx_m r + 1 : Nat) : Int) := by rw [i_add T.2.1 (show (1 : Int32).toInt = 1 from by decide) (by omega)]; omega
    have t3 := T.2.2.1
    refine r_X11_together_247 l1 l2 l3 l4 l5 l6 l7 l9 l10 1 l12 ⟨fun q => ?_, fun q => ⟨fun z => absurd z (by decide), fun _ => ?_⟩⟩
    · have q := i_le.mp q
      have : c = tx_n r + 1 := by omega
      subst this
      exact K h ok T (fun j hj => by rw [hF j hj, if_pos (by omega)])
    · have q : c ≤ tx_n r := by have := i_lt.mp (nle q); omega
      refine e_X11_cell _ _ ⟨ce_p e1 hc (by omega) (by omega), e_X11_cell _ _ ⟨ce_p h9 hc (by omega) (by omega), ce_p e1 hc (by omega) (by omega), ?_⟩⟩
      rw [ce_n e1 hc (by omega) (by omega), ce_n h9 hc (by omega) (by omega)]
      have v1 : (mL h 54 (97 * (tx_m r + 1) + c)).toInt = tx_F r (tx_w2 r l1 l2 l3 l4 sg) b k c := by rw [hF c q, if_neg (by omega)]
      have v2 : (mL h 54 (97 * k + c)).toInt = tx_t r b k c := by
        rw [T.2.2.2.2.2 k c (by omega) q]
        unfold tx_T
        rw [if_pos hk]
      have B1 := tx_Fb hR hw2 hg (k := k) (by omega) c
      have B2 := tx_b2 hR hg k c
      have B3 : -8589934592 ≤ sg * tx_t r b k c ∧ sg * tx_t r b k c ≤ 8589934592 := w1_b (by omega) B2
      have e2 : (l7 * (mL h 54 (97 * k + c))).toInt = sg * tx_t r b k c := by rw [l_mul (by rw [h7, v2]; omega), h7, v2]
      have e3 : ((mL h 54 (97 * (tx_m r + 1) + c)) - (l7 * (mL h 54 (97 * k + c)))).toInt = tx_F r (tx_w2 r l1 l2 l3 l4 sg) b (k + 1) c := by
        rw [l_sub (by rw [v1, e2]; omega), v1, e2]
        show _ = la_S k (fun i => tx_w2 r l1 l2 l3 l4 sg (b i) * tx_t r b i c) + tx_w2 r l1 l2 l3 l4 sg (b k) * tx_t r b k c - tx_w2 r l1 l2 l3 l4 sg c * tx_D r b
        rw [his, Int.neg_mul]
        unfold tx_F
        omega
      refine ih (l12 + 1) (c + 1) _ (i_inc hc (by omega)) (by omega) (by omega) (Ok_wL ok (by decide)) (TW_w T q (by omega)) (fun j hj => ?_)
      rw [mL_wL]
      by_cases e : j = c
      · rw [if_pos ⟨rfl, by rw [e]⟩, if_pos (by omega), e]
        exact e3
      · rw [if_neg (fun z => e (by have := z.2; omega)), hF j hj]
        by_cases e4 : j < c
        · rw [if_pos e4, if_pos (by omega)]
        · rw [if_neg e4, if_neg (by omega)]
set_option maxRecDepth 100000 in
set_option maxHeartbeats 4000000 in
theorem t_tog_189 {g : gT} {h0 : mh_T} {P : Int32 → mh_T → Prop} {r : Nat → Int32} {b : Nat → Nat} (hR : tx_R r) (hg : tx_g r b) (hlaw : 1 ≤ (r 49).toInt ∧ (r 49).toInt ≤ 60) (l1 l2 l3 l4 l5 l6 : Int32) (l7 : Int64) (sg : Int) (h7 : l7.toInt = sg) (hsg : sg = 1 ∨ sg = -1) (hw2 : tx_w (tx_w2 r l1 l2 l3 l4 sg)) (hp : ∀ (v : Int32) (h : mh_T), Ok [300, 11, 54, 55] h0 h → P v h) : ∀ (n : Nat) (l9 : Int32) (k : Nat) (h : mh_T), l9.toInt = (k : Int) → k ≤ tx_m r → tx_m r - k < n → Ok [300, 11, 54, 55] h0 h → TW r b h → (∀ j, j ≤ tx_n r → (mL h 54 (97 * (tx_m r + 1) + j)).toInt = tx_F r (tx_w2 r l1 l2 l3 l4 sg) b k j) → ME g uX11_together 189 [.ref 11, .int l1, .int l2, .int l3, .int l4, .int l5, .int l6, .long l7, .retAddr 0, .int l9, .retAddr 0, .retAddr 0, .retAddr 0] [] h (qI P) := by
  have m32 := tx_m32 hR
  have n96 := tx_n96 hR
  have y64 := tx_y64 hR
  intro n
  induction n with
  | zero => intro l9 k h _ _ hn; exact absurd hn (Nat.not_lt_zero _)
  | succ n ih =>
    intro l9 k h h9 hk hn ok T hF
    have t2 := T.2.1
    refine r_X11_together_189 l1 l2 l3 l4 l5 l6 l7 l9 ⟨fun q => ?_, fun q => ?_⟩
    · have q := i_le.mp q
      have : k = tx_m r := by omega
      subst this
      have TB0 : TB r (tx_w1 r) (tx_w2 r l1 l2 l3 l4 sg) b h := by
        obtain ⟨s1, s2, s3, s4, s5, s6⟩ := T
        refine ⟨s1, s2, s3, s4, s5, fun i j h1 h2 => ?_⟩
        by_cases e : i = tx_m r + 1
        · rw [e, hF j h2]
          unfold tx_T
          rw [if_neg (by omega), if_neg (by omega)]
          rfl
        · rw [s6 i j (by omega) h2]
          unfold tx_T
          by_cases e2 : i < tx_m r
          · rw [if_pos e2, if_pos e2]
          · rw [if_neg e2, if_neg e2, if_pos (by omega), if_pos (by omega)]
      refine t_goesUp ok TB0 hR hg (tx_ww1 r) hw2 _ 1 (Or.inr rfl) (by rw [i_add t2 (show (1 : Int32).toInt = 1 from by decide) (by omega)]; omega) (fun h2 b2 ok2 g2 T2 => ?_)
      have hm : ((mI h2 11 30) + 1).toInt = ((tx_m r + 1 : Nat) : Int) := by rw [i_add T2.2.1 (show (1 : Int32).toInt = 1 from by decide) (by omega)]; omega
      have hw : ((mI h2 11 31) - 1).toInt = ((tx_n r : Nat) : Int) := by
        rw [i_sub T2.2.2.1 (show (1 : Int32).toInt = 1 from by decide) (by omega)]
        omega
      refine e_X11_cell _ _ ⟨ce_p hm hw (by omega) (by omega), fun x6 _ => t_lowest _ _ l6 ok2.1 ?_ (fun v => hp v h2 ok2)⟩
      intro zz
      have e49 : mI h2 45 (Int32.toNatClampNeg 49) = r 49 := mI45 T2.1 49
      have z2 := zz.2
      rw [e49] at z2
      have d0 : 0 < tx_D r b2 := g2.1
      have d1 := tx_b1 hR g2
      have d2 := T2.2.2.2.2.1
      have d3 := ab_mul (A := 8388608) (B := 60) (y := (r 49).toInt) d1 (by omega)
      have d4 : ((mL h2 11 29) * (Int32.toInt64 (r 49))).toInt = tx_D r b2 * (r 49).toInt := by rw [l_mul (by rw [d2, Int32.toInt_toInt64]; omega), d2, Int32.toInt_toInt64]
      rw [z2, ti_0] at d4
      have := Int.mul_pos d0 (show 0 < (r 49).toInt by omega)
      omega
    · have q : k < tx_m r := by have := i_lt.mp (nle q); omega
      refine ⟨i_vp h9 (by omega), fun x10 e10 => ?_⟩
      rw [i_nat h9] at e10
      have hb : x10.toInt = (b k : Int) := by rw [e10]; exact T.2.2.2.1 k q
      have hbn := hg.2.2 k q
      have ex : x10 = nI (b k) := i_nI hb (by omega)
      have go : ∀ l11 l12 : Int32, l11 = 0 → tx_w2 r l1 l2 l3 l4 sg (b k) = 0 → ME g uX11_together 247 [.ref 11, .int l1, .int l2, .int l3, .int l4, .int l5, .int l6, .long l7, .retAddr 0, .int l9, .int x10, .int l11, .int l12] [] h (qI P) := by
        intro l11 l12 e11 ew
        have cont : ME g uX11_together 189 [.ref 11, .int l1, .int l2, .int l3, .int l4, .int l5, .int l6, .long l7, .retAddr 0, .int (l9 + 1), .retAddr 0, .retAddr 0, .retAddr 0] [] h (qI P) := by
          refine ih (l9 + 1) (k + 1) h (i_inc h9 (by omega)) (by omega) (by omega) ok T (fun j hj => ?_)
          rw [hF j hj]
          show _ = la_S k (fun i => tx_w2 r l1 l2 l3 l4 sg (b i) * tx_t r b i j) + tx_w2 r l1 l2 l3 l4 sg (b k) * tx_t r b k j - tx_w2 r l1 l2 l3 l4 sg j * tx_D r b
          rw [ew, Int.zero_mul]
          unfold tx_F
          omega
        exact r_X11_together_247 l1 l2 l3 l4 l5 l6 l7 l9 x10 l11 l12 ⟨fun _ => cont, fun _ => ⟨fun _ => cont, fun z => absurd e11 z⟩⟩
      refine t_hiddenMany T.1 hR (fun v hv => ⟨fun c => ?_, fun c => ⟨fun n1 => ?_, fun y1 => ⟨fun n2 => ?_, fun y2 => ?_⟩⟩⟩)
      · have c := i_le.mp c
        exact go 0 0 rfl (if_neg (fun z => by have := z.1; omega))
      · exact go 0 0 rfl (if_neg (fun z => n1 (by rw [ex]; exact z.2.1)))
      · exact go 0 0 rfl (if_neg (fun z => n2 (by rw [ex]; exact z.2.2)))
      · have c := i_lt.mp (nle c)
        refine t_tog_247 hR hg l1 l2 l3 l4 l5 l6 l7 sg h7 hsg hw2 l9 x10 k h9 q (if_pos ⟨by omega, by rw [← ex]; exact y1, by rw [← ex]; exact y2⟩) (fun h' ok' T' hF' => ih (l9 + 1) (k + 1) h' (i_inc h9 (by omega)) (by omega) (by omega) ok' T' hF') (tx_n r + 2) 0 0 h (by decide) (Nat.zero_le _) (by omega) ok T (fun j hj => by rw [if_neg (Nat.not_lt_zero _)]; exact hF j hj)
set_option maxRecDepth 100000 in
set_option maxHeartbeats 4000000 in
theorem t_tog_102 {g : gT} {h0 : mh_T} {P : Int32 → mh_T → Prop} {r : Nat → Int32} {b : Nat → Nat} (hR : tx_R r) (hg : tx_g r b) (hlaw : 1 ≤ (r 49).toInt ∧ (r 49).toInt ≤ 60) (l1 l2 l3 l4 l5 l6 : Int32) (l7 : Int64) (sg : Int) (h7 : l7.toInt = sg) (hsg : sg = 1 ∨ sg = -1) (hp : ∀ (v : Int32) (h : mh_T), Ok [300, 11, 54, 55] h0 h → P v h) : ∀ (n : Nat) (l9 : Int32) (k : Nat) (h : mh_T), l9.toInt = (k : Int) → k ≤ tx_n r + 1 → tx_n r + 1 - k < n → Ok [300, 11, 54, 55] h0 h → TW r b h → (∀ j, j < k → (mL h 54 (97 * (tx_m r + 1) + j)).toInt = - (tx_w2 r l1 l2 l3 l4 sg j * tx_D r b)) → ME g uX11_together 102 [.ref 11, .int l1, .int l2, .int l3, .int l4, .int l5, .int l6, .long l7, .retAddr 0, .int l9, .retAddr 0, .retAddr 0, .retAddr 0] [] h (qI P) := by
  have m32 := tx_m32 hR
  have n96 := tx_n96 hR
  have hw2 : tx_w (tx_w2 r l1 l2 l3 l4 sg) := by
    intro k
    unfold tx_w2
    split <;> omega
  intro n
  induction n with
  | zero => intro l9 k h _ _ hn; exact absurd hn (Nat.not_lt_zero _)
  | succ n ih =>
    intro l9 k h h9 hk hn ok T hF
    have t3 := T.2.2.1
    have e1 : ((mI h 11 30) + 1).toInt = ((tx_m r + 1 : Nat) : Int) := by rw [i_add T.2.1 (show (1 : Int32).toInt = 1 from by decide) (by omega)]; omega
    refine r_X11_together_102 l1 l2 l3 l4 l5 l6 l7 l9 ⟨fun q => ?_, fun q => ?_⟩
    · have q := i_le.mp q
      have : k = tx_n r + 1 := by omega
      subst this
      refine t_tog_189 hR hg hlaw l1 l2 l3 l4 l5 l6 l7 sg h7 hsg hw2 hp (tx_m r + 1) 0 0 h (by decide) (Nat.zero_le _) (by omega) ok T (fun j hj => ?_)
      rw [hF j (by omega)]
      unfold tx_F
      show _ = 0 - _
      omega
    · have q : k ≤ tx_n r := by have := i_lt.mp (nle q); omega
      have ek : l9 = nI k := i_nI h9 (by omega)
      have step : ∀ v : Int64, v.toInt = - (tx_w2 r l1 l2 l3 l4 sg k * tx_D r b) → ME g uX11_together 102 [.ref 11, .int l1, .int l2, .int l3, .int l4, .int l5, .int l6, .long l7, .retAddr 0, .int (l9 + 1), .retAddr 0, .retAddr 0, .retAddr 0] [] (wL h 54 (97 * (tx_m r + 1) + k) v) (qI P) := by
        intro v hv
        refine ih (l9 + 1) (k + 1) _ (i_inc h9 (by omega)) (by omega) (by omega) (Ok_wL ok (by decide)) (TW_w T q (by omega)) (fun j hj => ?_)
        rw [mL_wL]
        by_cases e : j = k
        · rw [if_pos ⟨rfl, by rw [e]⟩, e]
          exact hv
        · rw [if_neg (fun z => e (by have := z.2; omega))]
          exact hF j (by omega)
      have zer : tx_w2 r l1 l2 l3 l4 sg k = 0 → (0 : Int64).toInt = - (tx_w2 r l1 l2 l3 l4 sg k * tx_D r b) := fun z => by rw [z, Int.zero_mul]; decide
      refine t_hiddenMany T.1 hR (fun v hv => ⟨fun c => ?_, fun c => ⟨fun n1 => ?_, fun y1 => ⟨fun n2 => ?_, fun y2 => ?_⟩⟩⟩)
      · refine e_X11_cell _ _ ⟨ce_p e1 h9 (by omega) (by omega), ?_⟩
        rw [ce_n e1 h9 (by omega) (by omega)]
        have c := i_le.mp c
        exact step 0 (zer (if_neg (fun z => by have := z.1; omega)))
      · refine e_X11_cell _ _ ⟨ce_p e1 h9 (by omega) (by omega), ?_⟩
        rw [ce_n e1 h9 (by omega) (by omega)]
        exact step 0 (zer (if_neg (fun z => n1 (by rw [ek]; exact z.2.1))))
      · refine e_X11_cell _ _ ⟨ce_p e1 h9 (by omega) (by omega), ?_⟩
        rw [ce_n e1 h9 (by omega) (by omega)]
        exact step 0 (zer (if_neg (fun z => n2 (by rw [ek]; exact z.2.2))))
      · refine e_X11_cell _ _ ⟨ce_p e1 h9 (by omega) (by omega), ?_⟩
        rw [ce_n e1 h9 (by omega) (by omega)]
        have c := i_lt.mp (nle c)
        refine step _ ?_
        have hw : tx_w2 r l1 l2 l3 l4 sg k = - sg := if_pos ⟨by omega, by rw [← ek]; exact y1, by rw [← ek]; exact y2⟩
        have d1 := tx_b1 hR hg
        have d2 := T.2.2.2.2.1
        have d3 : -8388608 ≤ sg * tx_D r b ∧ sg * tx_D r b ≤ 8388608 := w1_b (by omega) d1
        rw [l_mul (by rw [h7, d2]; omega), h7, d2, hw, Int.neg_mul]
        omega
theorem t_isLook {g : gT} {h : mh_T} {P : Int32 → mh_T → Prop} (l1 : Int32) (hG : GI h) (hp : ∀ v : Int32, (¬ v = 0 → 0 ≤ l1.toInt ∧ l1.toInt < (h.1 45 50).toInt) → P v h) : MCi g yX11_isLook uX11_isLook [.ref 11, .int l1] h P := by
  have hr : R 0 6 (mI h 45 50) := GI_rd hG 45 50 rfl
  have e : ((mI h 45 (Int32.toNatClampNeg 50)) - 1).toInt = (h.1 45 50).toInt - 1 := by
    have h1 : 0 ≤ (h.1 45 50).toInt := hr.1
    have h2 : (h.1 45 50).toInt ≤ 6 := hr.2
    exact i_sub (x := mI h 45 50) rfl (show (1 : Int32).toInt = 1 from by decide) (by omega)
  refine e_X11_isLook l1 ⟨fun _ => hp 0 (fun z => absurd rfl z), fun _ => e_X11_within _ _ _ ⟨fun _ => ⟨fun _ => hp 0 (fun z => absurd rfl z), fun z => absurd rfl z⟩, fun c1 => ⟨fun _ => ⟨fun _ => hp 0 (fun z => absurd rfl z), fun z => absurd rfl z⟩, fun c2 => ⟨fun z => absurd z (by decide), fun _ => hp 1 (fun _ => ?_)⟩⟩⟩⟩
  have c1 : ¬ l1.toInt < (0 : Int32).toInt := fun z => c1 (i_lt.mpr z)
  have c2 : ¬ ((mI h 45 (Int32.toNatClampNeg 50)) - 1).toInt < l1.toInt := fun z => c2 (i_lt.mpr z)
  rw [i_0] at c1
  rw [e] at c2
  omega
theorem TB_TW {r : Nat → Int32} {b : Nat → Nat} {h : mh_T} (t : TB r (tx_w1 r) (fun _ => 0) b h) : TW r b h := by
  obtain ⟨t1, t2, t3, t4, t5, t6⟩ := t
  exact ⟨t1, t2, t3, t4, t5, fun i j h1 h2 => t6 i j (by omega) h2⟩
set_option maxRecDepth 100000 in
set_option maxHeartbeats 4000000 in
theorem u_X11_together {g : gT} {h : mh_T} {P : Int32 → mh_T → Prop} (l1 l2 l3 l4 l5 l6 : Int32) (hG : GI h) (hI : TVs h) (hp : ∀ (v : Int32) (h' : mh_T), Ok [300, 11, 54, 55] h h' → ¬ mI h' 11 11 = 4 → P v h') : MCi g yX11_together uX11_together [.ref 11, .int l1, .int l2, .int l3, .int l4, .int l5, .int l6] h P := by
  have hR := tx_RI hG hI
  refine e_X11_together l1 l2 l3 l4 l5 l6 (s_X11_good hG (fun h1 ok1 t4 => ?_))
  have ok1' : Ok [300, 11, 54, 55] h h1 := Ok_mono ok1 (by decide)
  have hp : ∀ (v : Int32) (h' : mh_T), Ok [300, 11, 54, 55] h1 h' → P v h' := fun v h' k => hp v h' (Ok_tr ok1' k (by decide)) (k.2.2.2.2.2.2.1 t4)
  have ok1' : Ok [300, 11, 54, 55] h1 h1 := Ok_rf ok1'.1
  have t1 := good45 ok1 (by decide)
  have no : ∀ (h2 : mh_T) (l : Int32), ¬ l = 4 → Ok [300, 11, 54, 55] h1 h2 → MCi g yX11_no uX11_no [.ref 11, .int l] h2 (fun v h' => P v h') := fun h2 l l4 ok2 => s_X11_no l ok2.1 (fun v h3 ok3 _ => hp v h3 (Ok_tr ok2 ok3 (by decide))) l4
  refine t_isLook l1 ok1.1 (fun v hv => ⟨fun _ => no h1 1 (by decide) ok1', fun nz => t_isLook l3 ok1.1 (fun v3 hv3 => ⟨fun _ => no h1 1 (by decide) ok1', fun nz3 => ⟨fun _ => no h1 1 (by decide) ok1', fun _ => s_X11_isBit l2 ok1.1 (fun v4 _ => ⟨fun _ => no h1 1 (by decide) ok1', fun _ => s_X11_isBit l4 ok1.1 (fun v5 _ => ⟨fun _ => ?_, fun _ => no h1 1 (by decide) ok1'⟩)⟩)⟩⟩)⟩)
  have hl := hv nz
  rw [t1] at hl
  have law := hI.2.2.2.2.2 (by omega)
  have law2 : R 0 60 (mI h 45 49) := GI_rd hG 45 49 rfl
  have law3 : (h.1 45 49).toInt ≤ 60 := law2.2
  refine t_isMixed ok1' t1 hR (fun z => ⟨fun _ => ⟨fun nq => absurd ?_ nq, fun _ => ⟨fun _ => hp 1 h1 ok1', fun _ => ⟨fun _ => hp 0 h1 ok1', fun _ => hp 1 h1 ok1'⟩⟩⟩, fun z2 => absurd z2 (by decide)⟩) (fun v6 h2 b ne ok2 g2 T2 hv6 => ⟨fun _ => ⟨fun _ => ⟨fun _ => ?_, fun _ => ?_⟩, fun eq => absurd ?_ ne⟩, fun _ => no h2 6 (by decide) ok2⟩)
  · have e0 : mI h1 45 (Int32.toNatClampNeg 0) = (h.1 45) 0 := mI45 t1 0
    rw [e0]
    exact z
  · exact t_tog_102 hR g2 ⟨law, law3⟩ l1 l2 l3 l4 l5 l6 1 1 (by decide) (Or.inl rfl) hp (tx_n (h.1 45) + 2) 0 0 h2 (by decide) (Nat.zero_le _) (by omega) ok2 (TB_TW T2) (fun j hj => absurd hj (Nat.not_lt_zero _))
  · exact t_tog_102 hR g2 ⟨law, law3⟩ l1 l2 l3 l4 l5 l6 (-1) (-1) (by decide) (Or.inr rfl) hp (tx_n (h.1 45) + 2) 0 0 h2 (by decide) (Nat.zero_le _) (by omega) ok2 (TB_TW T2) (fun j hj => absurd hj (Nat.not_lt_zero _))
  · have e0 : mI h2 45 (Int32.toNatClampNeg 0) = (h.1 45) 0 := mI45 T2.1 0
    rw [← e0]
    exact eq
set_option maxRecDepth 100000 in
set_option maxHeartbeats 4000000 in
theorem t_level_45 {g : gT} {h : mh_T} {P : Int32 → mh_T → Prop} (hG : GI h) (hp : ∀ v : Int32, P v h) : ∀ n : Nat, (∀ (l1 l2 l3 : Int32), R 0 8 l3 → 10 * gap 8 l3 + 9 < n → ME g uX11_level 32 [.ref 11, .int l1, .int l2, .int l3, .retAddr 0] [] h (qI P)) ∧ (∀ (l1 l2 l3 l4 : Int32), R 0 7 l3 → R 0 4 l4 → 10 * gap 8 l3 + gap 4 l4 < n → ME g uX11_level 45 [.ref 11, .int l1, .int l2, .int l3, .int l4] [] h (qI P)) := by
  intro n
  induction n with
  | zero => exact ⟨fun _ _ _ _ hn => absurd hn (Nat.not_lt_zero _), fun _ _ _ _ _ _ hn => absurd hn (Nat.not_lt_zero _)⟩
  | succ n ih =>
    have c1 : R 1 1 1 := ⟨by decide, by decide⟩
    have c4 : R 4 4 4 := ⟨by decide, by decide⟩
    have c17 : R 17 17 17 := ⟨by decide, by decide⟩
    have z0 : R 0 4 0 := ⟨by decide, by decide⟩
    have g0 := gap_le (N := 4) z0 (m := 4) (by decide)
    have fm : R 0 8 (mI h 45 (Int32.toNatClampNeg 0)) := GI_rd hG 45 0 rfl
    refine ⟨fun l1 l2 l3 f3 hn => ?_, fun l1 l2 l3 l4 f3 f4 hn => ?_⟩
    · refine r_X11_level_32 l1 l2 l3 ⟨fun _ => ⟨fun _ => ⟨fun _ => hp _, fun _ => hp _⟩, fun _ => hp _⟩, fun c => ?_⟩
      have g3 : R 0 7 l3 := rf_lt_l f3 fm (nle c) 7 (by decide)
      exact ih.2 l1 l2 l3 0 g3 z0 (by omega)
    · have gj := gap_inc (N := 8) f3 (by decide)
      refine r_X11_level_45 l1 l2 l3 l4 (s_X11_outcomes l3 hG f3 (fun v fv => ⟨fun _ => ih.1 l1 l2 (l3 + 1) (R_add f3 c1 0 8 (by decide)) (by omega), fun c => ?_⟩))
      have g4 : R 0 3 l4 := rf_lt_l f4 fv (nle c) 3 (by decide)
      have gi := gap_inc (N := 4) g4 (by decide)
      have fy : R 17 48 ((17 + (4 * l3)) + l4) := R_add (R_add c17 (R_mul c4 f3 0 28 (by decide)) 17 45 (by decide)) g4 17 48 (by decide)
      have nx : ∀ a b : Int32, ME g uX11_level 45 [.ref 11, .int a, .int b, .int l3, .int (l4 + 1)] [] h (qI P) := fun a b => ih.2 a b l3 (l4 + 1) f3 (R_add g4 c1 0 4 (by decide)) (by omega)
      exact ⟨vin fy (by decide), fun _ => s_X11_doesExtend l3 l4 hG f3 (fun v _ => ⟨fun _ => nx _ _, fun _ => nx _ _⟩), fun _ => nx _ _⟩
set_option maxRecDepth 100000 in
set_option maxHeartbeats 4000000 in
theorem u_X11_level {g : gT} {h : mh_T} {P : Int32 → mh_T → Prop} (hG : GI h) (hI : TVs h) (hp : ∀ (v : Int32) (h' : mh_T), Ok [300, 11, 54, 55] h h' → ¬ mI h' 11 11 = 4 → P v h') : MCi g yX11_level uX11_level [.ref 11] h P := by
  refine e_X11_level (s_X11_good hG (fun h1 ok1 t4 => ?_))
  have ok1' : Ok [300, 11, 54, 55] h h1 := Ok_mono ok1 (by decide)
  have hp : ∀ (v : Int32) (h' : mh_T), Ok [300, 11, 54, 55] h1 h' → P v h' := fun v h' k => hp v h' (Ok_tr ok1' k (by decide)) (k.2.2.2.2.2.2.1 t4)
  have ok1' : Ok [300, 11, 54, 55] h1 h1 := Ok_rf ok1'.1
  have t1 := good45 ok1 (by decide)
  have hR := tx_RI hG hI
  have z0 : R 0 8 0 := ⟨by decide, by decide⟩
  have g0 := gap_le (N := 8) z0 (m := 8) (by decide)
  refine ⟨fun _ => t_isMixed ok1' t1 hR (fun _ => ⟨fun z => absurd z (by decide), fun _ => hp 0 h1 ok1'⟩) (fun v h2 b ne ok2 g2 T2 hv => ⟨fun _ => (t_level_45 ok2.1 (fun v => hp v h2 ok2) 100).1 0 0 0 z0 (by omega), fun _ => hp 0 h2 ok2⟩), fun _ => s_X11_no 1 ok1.1 (fun v h2 ok2 _ => hp v h2 (Ok_tr ok1' ok2 (by decide)))⟩
