/-! led -/
theorem TZ_nn {a : Nat → Int32} (tz : TZ a) {k : Nat} (hk : k < 4 * sn a) : 0 ≤ (a (17 + k)).toInt := by
  have t := (tz.2.2 (k / 4) (by omega)).2
  have w : k % 4 = 0 ∨ k % 4 = 1 ∨ k % 4 = 2 ∨ k % 4 = 3 := by omega
  rcases w with w | w | w | w
  · rw [show 17 + k = 17 + 4 * (k / 4) by omega]; exact t.1
  · rw [show 17 + k = 17 + 4 * (k / 4) + 1 by omega]; exact t.2.1
  · rw [show 17 + k = 17 + 4 * (k / 4) + 2 by omega]; exact t.2.2.1
  · rw [show 17 + k = 17 + 4 * (k / 4) + 3 by omega]; exact t.2.2.2.1
/-- it came more than 0 times, and does not extend -/
def lQ (a : Nat → Int32) (L c : Nat) : Prop := c < 4 * sn a ∧ ¬ a (17 + c) = 0 ∧ ¬ exK a (2 ^ L) c
theorem exK_cg {a b : Nat → Int32} (r : Rq a b) {L c : Nat} (hc : c < 4 * sn b) : exK a (2 ^ L) c ↔ exK b (2 ^ L) c := by
  have e := sn_eq0 r
  have eo : (Int32.ofNat (c % 4)).toInt = ((c % 4 : Nat) : Int) := Int32.toInt_ofNat_of_lt (by omega)
  have ho : 0 ≤ (Int32.ofNat (c % 4)).toInt ∧ (Int32.ofNat (c % 4)).toInt < 4 := by omega
  have ec : c = 4 * (c / 4) + (Int32.ofNat (c % 4)).toInt.toNat := by omega
  have x := ex_iff (a := a) (L := L) (s := c / 4) (by omega) ho
  have y := ex_iff (a := b) (L := L) (s := c / 4) (by omega) ho
  rw [← ec] at x y
  exact x.trans ((exO_cg r (by omega)).trans y.symm)
theorem lQ_cg {a b : Nat → Int32} (r : Rq a b) {L c : Nat} : lQ a L c ↔ lQ b L c := by
  have e := sn_eq0 r
  unfold lQ
  rw [e]
  constructor
  · rintro ⟨h1, h2, h3⟩
    have q := (r.2.2 (c / 4) (by omega)).2.2 (c % 4) (by omega)
    rw [show 17 + 4 * (c / 4) + c % 4 = 17 + c by omega] at q
    exact ⟨h1, by rw [← q]; exact h2, fun z => h3 ((exK_cg r h1).mpr z)⟩
  · rintro ⟨h1, h2, h3⟩
    have q := (r.2.2 (c / 4) (by omega)).2.2 (c % 4) (by omega)
    rw [show 17 + 4 * (c / 4) + c % 4 = 17 + c by omega] at q
    exact ⟨h1, by rw [q]; exact h2, fun z => h3 ((exK_cg r h1).mp z)⟩
theorem v_possible {g : gT} {h : mh_T} {P : Int32 → mh_T → Prop} (tz : TZ (tC h)) (hp : ∀ r : Int32, (∀ c, bt r c = true ↔ (c < 4 * sn (tC h) ∧ ¬ tC h (17 + c) = 0)) → P r h) : MCi g yX8_possible uX8_possible [.ref 3] h P := by
  have n8 : sn (tC h) ≤ 8 := by unfold sn; have := tz.2.1; omega
  have en : (mI h 3 2).toInt = (sn (tC h) : Int) := by show (tC h 0).toInt = _; unfold sn; have := tz.1; omega
  have e4 : (4 * mI h 3 2).toInt = ((4 * sn (tC h) : Nat) : Int) := by rw [Int32.toInt_mul, show (4 : Int32).toInt = 4 from by decide, en, bm (by omega) (by omega)]; omega
  have L : ∀ (n : Nat) (l1 l2 : Int32) (k : Nat), l2.toInt = (k : Int) → k ≤ 4 * sn (tC h) → 4 * sn (tC h) - k < n → (∀ c, bt l1 c = true ↔ (c < k ∧ ¬ tC h (17 + c) = 0)) → ME g uX8_possible 4 [.ref 3, .int l1, .int l2] [] h (qI P) := by
    intro n
    induction n with
    | zero => intro l1 l2 k _ _ hn; exact absurd hn (Nat.not_lt_zero _)
    | succ n ih =>
      intro l1 l2 k e2 hk hn hb
      refine r_X8_possible_4 l1 l2 ⟨fun c => ?_, fun c => ?_⟩
      · have c := i_le.mp c
        have e : k = 4 * sn (tC h) := by omega
        rw [e] at hb
        exact hp l1 hb
      · have c := i_lt.mp (nle c)
        have k32 : k < 32 := by omega
        have nn := TZ_nn tz (k := k) (by omega)
        rw [i_nat e2, ← tC_17]
        refine ⟨i_vp e2 k32, fun z => ih l1 (l2 + 1) (k + 1) (i_inc e2 (by omega)) (by omega) (by omega) (fun q => ?_), fun z x4 e4' => ih x4 (l2 + 1) (k + 1) (i_inc e2 (by omega)) (by omega) (by omega) (fun q => ?_)⟩
        · have z := i_le.mp z
          have z0 : tC h (17 + k) = 0 := Int32.toInt_inj.mp (by rw [show (0 : Int32).toInt = 0 from by decide] at z ⊢; omega)
          rw [hb q]
          constructor
          · rintro ⟨a, b⟩; exact ⟨by omega, b⟩
          · rintro ⟨a, b⟩
            by_cases w : q = k
            · rw [w] at b; exact absurd z0 b
            · exact ⟨by omega, b⟩
        · have z := i_lt.mp (nle z)
          have z0 : ¬ tC h (17 + k) = 0 := fun y => by rw [y] at z; exact absurd z (by decide)
          rw [e4', bt_orA e2 k32, Bool.or_eq_true, hb q, decide_eq_true_iff]
          constructor
          · rintro (⟨a, b⟩ | a)
            · exact ⟨by omega, b⟩
            · rw [← a]; exact ⟨by omega, z0⟩
          · rintro ⟨a, b⟩
            by_cases w : q = k
            · exact Or.inr w.symm
            · exact Or.inl ⟨by omega, b⟩
  exact e_X8_possible (L 33 0 0 0 (by decide) (Nat.zero_le _) (by omega) (fun c => by
    rw [(bt_nul (x := 0)).mp rfl c]
    constructor
    · intro z; cases z
    · rintro ⟨z, -⟩; omega))
theorem bt_andn {x y : Int32} (q : Nat) : bt (x &&& (y ^^^ (-1))) q = (bt x q && !bt y q) := by
  unfold bt
  rw [Int32.toBitVec_and, BitVec.getLsbD_and, Int32.toBitVec_xor, BitVec.getLsbD_xor]
  show (x.toBitVec.getLsbD q && (y.toBitVec.getLsbD q ^^ (BitVec.allOnes 32).getLsbD q)) = _
  rw [BitVec.getLsbD_allOnes]
  by_cases hq : q < 32
  · simp [hq]
  · rw [BitVec.getLsbD_of_ge x.toBitVec _ (by omega)]
    simp
theorem lQ_bits {h : mh_T} {x y : Int32} (hx : ∀ c, bt x c = true ↔ (c < 4 * sn (tC h) ∧ ¬ tC h (17 + c) = 0)) (hy : ∀ c, bt y c = true ↔ exK (tC h) (2 ^ lk3 h) c) (c : Nat) : bt (x &&& (y ^^^ (-1))) c = true ↔ lQ (tC h) (lk3 h) c := by
  rw [bt_andn, Bool.and_eq_true, hx c, Bool.not_eq_true', ← Bool.not_eq_true, hy c]
  unfold lQ
  exact ⟨fun ⟨⟨a, b⟩, c⟩ => ⟨a, b, c⟩, fun ⟨a, b, c⟩ => ⟨⟨a, b⟩, c⟩⟩
theorem pq_cN (l : Int32) : ∀ n, bcpq (bctn l) n = cN (fun c => bt l c) n
  | 0 => rfl
  | n + 1 => by
    show bcpq (bctn l) n + ((bctn l).testBit n).toNat = cN (fun c => bt l c) n + (if bt l n = true then 1 else 0)
    rw [pq_cN l n, show bt l n = (bctn l).testBit n from rfl]
    cases (bctn l).testBit n <;> rfl
theorem tnn_int {r : Int32} {n : Nat} (e : bctn r = n) (h : n < 2147483648) : r.toInt = (n : Int) := by
  subst e
  have h2 : r.toBitVec.toNat < 2147483648 := h
  have q : r.toBitVec.toInt = (r.toBitVec.toNat : Int) := BitVec.toInt_eq_toNat_of_lt (by omega)
  exact q
theorem bc_cN (l : Int32) : (bcE l).toInt = (cN (fun c => bt l c) 32 : Int) := by
  have e := bcE_pq l
  rw [pq_cN] at e
  exact tnn_int e (by have := cN_le (fun c => bt l c) 32; omega)
theorem cN_ex (p : Nat → Bool) : ∀ (n i : Nat), i < cN p n → ∃ k, k < n ∧ p k = true ∧ cN p k = i
  | 0, i, h => absurd h (Nat.not_lt_zero _)
  | n + 1, i, h => by
    have h : i < cN p n + (if p n = true then 1 else 0) := h
    by_cases q : i < cN p n
    · obtain ⟨k, a, b⟩ := cN_ex p n i q
      exact ⟨k, by omega, b⟩
    · by_cases w : p n = true
      · rw [if_pos w] at h
        exact ⟨n, by omega, w, by omega⟩
      · rw [if_neg w] at h
        omega
theorem cN_lk (p : Nat → Bool) {k n : Nat} (h : k < n) (hp : p k = true) : cN p k < cN p n := by
  have s1 : cN p (k + 1) = cN p k + 1 := by
    show cN p k + (if p k = true then 1 else 0) = _
    rw [if_pos hp]
  have := cN_mono p (j := k + 1) (k := n) (by omega)
  omega
theorem cN_st {p : Nat → Bool} {k : Nat} (h : p k = true) : cN p (k + 1) = cN p k + 1 := by
  show cN p k + (if p k = true then 1 else 0) = _
  rw [if_pos h]
theorem cN_sf {p : Nat → Bool} {k : Nat} (h : ¬ p k = true) : cN p (k + 1) = cN p k := by
  show cN p k + (if p k = true then 1 else 0) = _
  rw [if_neg h, Nat.add_zero]
theorem v_bitAt {g : gT} {h : mh_T} {P : Int32 → mh_T → Prop} (l0 l1 : Int32) (h1 : ∀ r : Int32, NT (fun c => bt l0 c) 32 l1 r → P r h) (h0 : (∀ k, k < 32 → bt l0 k = true → ¬ (cN (fun c => bt l0 c) k : Int) = l1.toInt) → P (-1) h) : MCi g yX10_bitAt uX10_bitAt [.int l0, .int l1] h P := by
  have L : ∀ (n : Nat) (l2 l3 : Int32) (k : Nat), l3.toInt = (k : Int) → k ≤ 32 → 32 - k < n → l2.toInt = (cN (fun c => bt l0 c) k : Int) → (∀ q, q < k → bt l0 q = true → ¬ (cN (fun c => bt l0 c) q : Int) = l1.toInt) → ME g uX10_bitAt 4 [.int l0, .int l1, .int l2, .int l3] [] h (qI P) := by
    intro n
    induction n with
    | zero => intro l2 l3 k _ _ hn; exact absurd hn (Nat.not_lt_zero _)
    | succ n ih =>
      intro l2 l3 k e3 hk hn e2 hno
      have z32 : (32 : Int32).toInt = 32 := by decide
      refine r_X10_bitAt_4 l0 l1 l2 l3 ⟨fun c => ?_, fun c => ?_⟩
      · have c := i_le.mp c
        have e : k = 32 := by omega
        rw [e] at hno
        exact h0 hno
      · have c := i_lt.mp (nle c)
        have k32 : k < 32 := by omega
        have cl := cN_le (fun c => bt l0 c) k
        rw [ush_1 e3 k32]
        refine ⟨fun z => ?_, fun z => ⟨fun ne => ?_, fun e => ?_⟩⟩
        · have b : ¬ bt l0 k = true := fun y => by rw [if_pos y] at z; exact absurd z (by decide)
          refine ih l2 (l3 + 1) (k + 1) (i_inc e3 (by omega)) (by omega) (by omega) (by rw [cN_sf (p := fun c => bt l0 c) b]; exact e2) (fun q hq hb => ?_)
          by_cases w : q = k
          · rw [w] at hb; exact absurd hb b
          · exact hno q (by omega) hb
        · have b : bt l0 k = true := by
            by_cases y : bt l0 k = true
            · exact y
            · rw [if_neg y] at z; exact absurd rfl z
          refine ih (l2 + 1) (l3 + 1) (k + 1) (i_inc e3 (by omega)) (by omega) (by omega) (by rw [cN_st (p := fun c => bt l0 c) b]; exact i_inc e2 (by omega)) (fun q hq hb => ?_)
          by_cases w : q = k
          · rw [w]
            exact fun y => ne (Int32.toInt_inj.mp (by rw [e2]; exact y))
          · exact hno q (by omega) hb
        · have b : bt l0 k = true := by
            by_cases y : bt l0 k = true
            · exact y
            · rw [if_neg y] at z; exact absurd rfl z
          exact h1 l3 ⟨k, k32, b, by rw [← e, e2], e3⟩
  exact e_X10_bitAt l0 l1 (L 33 0 0 0 (by decide) (Nat.zero_le _) (by omega) (show (0 : Int32).toInt = ((0 : Nat) : Int) from by decide) (fun q hq => absurd hq (Nat.not_lt_zero _)))
theorem v_ledM {g : gT} {h : mh_T} {P : Int32 → mh_T → Prop} {p : Nat → Bool} (l1 : Int32) (hG : GI h) (nb : NB h) (tz : TZ (h.1 45)) (hpq : ∀ c, p c = true ↔ lQ (h.1 45) (lk45 h) c) (h1 : ∀ r : Int32, NT p 32 l1 r → P r (wI h 11 0 0)) (h0 : (∀ k, k < 32 → p k = true → ¬ (cN p k : Int) = l1.toInt) → P 0 (wI h 11 0 1)) : MCi g yX11_led uX11_led [.ref 11, .int l1] h P := by
  have n8 : sn (h.1 45) ≤ 8 := by unfold sn; have := tz.2.1; omega
  have en : (mI h 45 0).toInt = (sn (h.1 45) : Int) := by show (h.1 45 0).toInt = _; unfold sn; have := tz.1; omega
  have fin : ∀ s, sn (h.1 45) ≤ s → (∀ q, q < 4 * s → p q = true → ¬ (cN p q : Int) = l1.toInt) → P 0 (wI h 11 0 1) := fun s hs hno => h0 (fun k hk hb => hno k (by have := ((hpq k).mp hb).1; omega) hb)
  have L : ∀ (n : Nat), (∀ (l2 l3 : Int32) (s : Nat), l3.toInt = (s : Int) → s ≤ sn (h.1 45) → 6 * (sn (h.1 45) - s) + 5 < n → l2.toInt = (cN p (4 * s) : Int) → (∀ q, q < 4 * s → p q = true → ¬ (cN p q : Int) = l1.toInt) → ME g uX11_led 4 [.ref 11, .int l1, .int l2, .int l3, .retAddr 0] [] h (qI P)) ∧ (∀ (l2 l3 l4 : Int32) (s o : Nat), l3.toInt = (s : Int) → s < sn (h.1 45) → l4.toInt = (o : Int) → o ≤ ocs (h.1 45) s → 6 * (sn (h.1 45) - s) + (4 - o) < n → l2.toInt = (cN p (4 * s + o) : Int) → (∀ q, q < 4 * s + o → p q = true → ¬ (cN p q : Int) = l1.toInt) → ME g uX11_led 24 [.ref 11, .int l1, .int l2, .int l3, .int l4] [] h (qI P)) := by
    intro n
    induction n with
    | zero => exact ⟨fun _ _ _ _ _ hn => absurd hn (Nat.not_lt_zero _), fun _ _ _ _ _ _ _ _ _ hn => absurd hn (Nat.not_lt_zero _)⟩
    | succ n ih =>
      refine ⟨?_, ?_⟩
      · intro l2 l3 s e3 hs hn e2 hno
        refine r_X11_led_4 l1 l2 l3 ⟨fun z => ?_, fun z => ⟨fun c => ?_, fun c => ?_⟩⟩
        · have y : h.1 45 0 = 0 := (nb z).2.1
          have s0 : sn (h.1 45) = 0 := by unfold sn; rw [y]; rfl
          exact fin s (by omega) hno
        · have c : (mI h 45 0).toInt ≤ l3.toInt := i_le.mp c
          exact fin s (by omega) hno
        · have c : l3.toInt < (mI h 45 0).toInt := i_lt.mp (nle c)
          exact ih.2 l2 l3 0 s 0 e3 (by omega) (by decide) (Nat.zero_le _) (by omega) e2 hno
      · intro l2 l3 l4 s o e3 hs e4 ho hn e2 hno
        have o4 := ocs_le (h.1 45) s
        have s8 : s < 8 := by omega
        refine r_X11_led_24 l1 l2 l3 l4 (v_outcomes l3 s e3 s8 (fun v ev => ⟨fun c => ?_, fun c => ?_⟩))
        · have c := i_le.mp c
          have eo : o = ocs (h.1 45) s := by omega
          have no : ∀ q, 4 * s + o ≤ q → q < 4 * (s + 1) → ¬ p q = true := fun q hq1 hq2 hb => by
            obtain ⟨-, b2, -⟩ := (hpq q).mp hb
            have t := (tz.2.2 s hs).1
            by_cases w : h.1 45 (9 + s) = -2
            · have o2 : o = 2 := by rw [eo]; unfold ocs; rw [if_pos w]
              rcases t with ⟨-, t2, t3⟩ | t
              · by_cases q2 : q = 4 * s + 2
                · rw [q2, show 17 + (4 * s + 2) = 17 + 4 * s + 2 by omega] at b2; exact b2 t2
                · rw [show 17 + q = 17 + 4 * s + 3 by omega] at b2; exact b2 t3
              · rw [w] at t; exact absurd t (by decide)
            · have o4' : o = 4 := by rw [eo]; unfold ocs; rw [if_neg w]
              omega
          have st : ∀ d, 4 * s + o + d ≤ 4 * (s + 1) → cN p (4 * s + o + d) = cN p (4 * s + o) := by
            intro d
            induction d with
            | zero => intro _; rfl
            | succ d id =>
              intro hd
              rw [← Nat.add_assoc, cN_sf (no (4 * s + o + d) (by omega) (by omega)), id (by omega)]
          have e5 : cN p (4 * (s + 1)) = cN p (4 * s + o) := by
            have := st (4 - o) (by omega)
            rw [show 4 * s + o + (4 - o) = 4 * (s + 1) by omega] at this
            exact this
          refine ih.1 l2 (l3 + 1) (s + 1) (i_inc e3 (by omega)) (by omega) (by omega) (by rw [e5]; exact e2) (fun q hq hb => ?_)
          by_cases w : q < 4 * s + o
          · exact hno q w hb
          · exact absurd hb (no q (by omega) hq)
        · have c := i_lt.mp (nle c)
          have o3 : o < 4 := by omega
          have ia := i_17 e3 s8 e4 o3
          have cl := cN_le p (4 * s + o)
          have nx : ¬ p (4 * s + o) = true → ME g uX11_led 24 [.ref 11, .int l1, .int l2, .int l3, .int (l4 + 1)] [] h (qI P) := fun b => ih.2 l2 l3 (l4 + 1) s (o + 1) e3 hs (i_inc e4 (by omega)) (by omega) (by omega) (by rw [← Nat.add_assoc, cN_sf b]; exact e2) (fun q hq hb => by
            by_cases w : q = 4 * s + o
            · rw [w] at hb; exact absurd hb b
            · exact hno q (by omega) hb)
          have x := ex_iff (a := h.1 45) (L := lk45 h) (s := s) (o := l4) hs ⟨by omega, by omega⟩
          rw [show l4.toInt.toNat = o by omega] at x
          rw [i_nat ia]
          refine ⟨i_vp ia (by omega), fun z => nx (fun b => ?_), fun z => v_doesExtend l3 l4 s e3 hG tz hs (fun ex => ⟨fun y => absurd y (by decide), fun _ => nx (fun b => ((hpq _).mp b).2.2 (x.mpr ex))⟩) (fun ex => ⟨fun _ => ?_, fun y => absurd rfl y⟩)⟩
          · have b2 := ((hpq _).mp b).2.1
            rw [show 17 + (4 * s + o) = 17 + 4 * s + o by omega] at b2
            exact b2 z
          · have b : p (4 * s + o) = true := (hpq _).mpr ⟨by omega, fun y => z (by rw [show 17 + 4 * s + o = 17 + (4 * s + o) by omega]; exact y), fun y => ex (x.mp y)⟩
            refine ⟨fun ne => ?_, fun e => ?_⟩
            · refine ih.2 (l2 + 1) l3 (l4 + 1) s (o + 1) e3 hs (i_inc e4 (by omega)) (by omega) (by omega) (by rw [← Nat.add_assoc, cN_st b]; exact i_inc e2 (by omega)) (fun q hq hb => ?_)
              by_cases w : q = 4 * s + o
              · rw [w]
                exact fun y => ne (Int32.toInt_inj.mp (by rw [e2]; exact y))
              · exact hno q (by omega) hb
            · have e4s := i_4s e3 s8
              exact h1 _ ⟨4 * s + o, by omega, b, by rw [← e, e2], by rw [i_add e4s e4 (by omega)]; omega⟩
  exact e_X11_led l1 ((L 60).1 0 0 0 (by decide) (Nat.zero_le _) (by omega) (show (0 : Int32).toInt = ((0 : Nat) : Int) from by decide) (fun q hq => absurd hq (by omega)))
/-- what the class's led gives; when it throws -/
def vLd (h : mh_T) (a1 r : Int32) : Prop := ∃ p : Nat → Bool, (∀ c, p c = true ↔ lQ (tC h) (lk3 h) c) ∧ NT p 32 a1 r
def cLd (h : mh_T) (a1 : Int32) : Prop := ∃ p : Nat → Bool, (∀ c, p c = true ↔ lQ (tC h) (lk3 h) c) ∧ ∀ k, k < 32 → p k = true → ¬ (cN p k : Int) = a1.toInt
