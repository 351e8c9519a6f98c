/-! extend -/
theorem us_all : ∀ p, p < 32 → ((Int32.ofNat p).toUInt32 &&& Int32.toUInt32 31).toBitVec % 32 = BitVec.ofNat 32 p := by decide
theorem bt1 : ∀ i, i < 32 → (1#32).getLsbD i = decide (i = 0) := by decide
theorem ush_1 {x y : Int32} {p : Nat} (e : y.toInt = (p : Int)) (hp : p < 32) : ((x.toUInt32 >>> (y.toUInt32 &&& Int32.toUInt32 31)).toInt32) &&& 1 = if bt x p = true then 1 else 0 := by
  rw [i_of e (by omega)]
  have h1 : ((x.toUInt32 >>> ((Int32.ofNat p).toUInt32 &&& Int32.toUInt32 31)).toInt32).toBitVec = x.toBitVec >>> p := by
    show (x.toUInt32 >>> ((Int32.ofNat p).toUInt32 &&& Int32.toUInt32 31)).toBitVec = _
    rw [UInt32.toBitVec_shiftRight, us_all p hp, BitVec.ushiftRight_eq', BitVec.toNat_ofNat, Nat.mod_eq_of_lt (by omega)]
    rfl
  apply Int32.toBitVec_inj.mp
  rw [Int32.toBitVec_and, h1]
  apply BitVec.eq_of_getLsbD_eq
  intro i hi
  rw [BitVec.getLsbD_and, BitVec.getLsbD_ushiftRight]
  show (x.toBitVec.getLsbD (p + i) && (1#32).getLsbD i) = _
  rw [bt1 i hi]
  by_cases h0 : i = 0
  · subst h0
    unfold bt
    rw [Nat.add_zero]
    cases x.toBitVec.getLsbD p <;> decide
  · rw [decide_eq_false h0, Bool.and_false]
    split
    · show false = (1#32).getLsbD i
      rw [bt1 i hi, decide_eq_false h0]
    · show false = (0#32).getLsbD i
      exact (BitVec.getLsbD_zero).symm
theorem bt_clr {x r : Int32} {p : Nat} (e : r.toInt = (p : Int)) (hp : p < 32) (q : Nat) : bt (x &&& ((1 <<< (r &&& 31)) ^^^ (-1))) q = (bt x q && !decide (p = q)) := by
  unfold bt
  rw [Int32.toBitVec_and, BitVec.getLsbD_and, Int32.toBitVec_xor, BitVec.getLsbD_xor, i_of e (by omega), twoP p hp, BitVec.getLsbD_twoPow]
  show (x.toBitVec.getLsbD q && ((decide (p < 32) && decide (p = q)) ^^ (BitVec.allOnes 32).getLsbD q)) = _
  rw [BitVec.getLsbD_allOnes]
  by_cases hq : q < 32
  · by_cases h : p = q
    · subst h
      simp [hp]
    · simp [h, hq]
  · rw [BitVec.getLsbD_of_ge _ _ (by omega)]
    simp
/-- set s at hidden answers j: its outcome there extends, and stands in place c -/
def exA (a : Nat → Int32) (s : Nat) (j : Int32) (c : Nat) : Prop := c = 4 * s + (fo a s j).toInt.toNat ∧ ∀ t, t < sn a → ¬ t = s → fB a t j = true
def exK (a : Nat → Int32) (k c : Nat) : Prop := ∃ j, j < k ∧ ∃ s, s < sn a ∧ exA a s (Int32.ofNat j) c
theorem v_extending {g : gT} {h : mh_T} {P : Int32 → mh_T → Prop} (hG : GI h) (tz : TZ (tC h)) (hp : ∀ r : Int32, (∀ c, bt r c = true ↔ exK (tC h) (2 ^ lk3 h) c) → P r h) : MCi g yX8_extending uX8_extending [.ref 3] h P := by
  have n8 : sn (tC h) ≤ 8 := by unfold sn; have := tz.2.1; omega
  have en : (mI h 3 2).toInt = (sn (tC h) : Int) := by show (tC h 0).toInt = _; unfold sn; have := tz.1; omega
  have L : ∀ (m : Nat) (l1 l2 : Int32) (k : Nat), l2.toInt = (k : Int) → k ≤ 2 ^ lk3 h → 2 ^ lk3 h - k < m → (∀ c, bt l1 c = true ↔ exK (tC h) k c) → ME g uX8_extending 4 [.ref 3, .int l1, .int l2, .retAddr 0, .retAddr 0] [] h (qI P) := by
    intro m
    induction m with
    | zero => intro l1 l2 k _ _ hm; exact absurd hm (Nat.not_lt_zero _)
    | succ m ih =>
      intro l1 l2 k e2 hk hm hb
      refine r_X8_extending_4 l1 l2 (v_hiddenAnswers hG (fun v ev n6 => ⟨fun c => ?_, fun c => v_missed l2 tz (fun l3 hx => ?_)⟩))
      · have c := i_le.mp c
        have e : k = 2 ^ lk3 h := by omega
        rw [e] at hb
        exact hp l1 hb
      · have c := i_lt.mp (nle c)
        have p := (p2_64 n6).2
        have ek := i_of e2 (by omega)
        have I : ∀ (n : Nat) (l1 l4 : Int32) (s : Nat), l4.toInt = (s : Int) → s ≤ sn (tC h) → sn (tC h) - s < n → (∀ c, bt l1 c = true ↔ (exK (tC h) k c ∨ ∃ q, q < s ∧ exA (tC h) q l2 c)) → ME g uX8_extending 21 [.ref 3, .int l1, .int l2, .int l3, .int l4] [] h (qI P) := by
          intro n
          induction n with
          | zero => intro l1 l4 s _ _ hn; exact absurd hn (Nat.not_lt_zero _)
          | succ n ik =>
            intro l1 l4 s es hs hn hb
            refine r_X8_extending_21 l1 l2 l3 l4 ⟨fun c => ?_, fun c => ?_⟩
            · have c := i_le.mp c
              have e : s = sn (tC h) := by omega
              rw [e] at hb
              refine ih l1 (l2 + 1) (k + 1) (i_inc e2 (by omega)) (by omega) (by omega) (fun c => (hb c).trans ?_)
              constructor
              · rintro (⟨j, hj, q⟩ | ⟨q, hq, x⟩)
                · exact ⟨j, by omega, q⟩
                · exact ⟨k, by omega, q, hq, by rw [← ek]; exact x⟩
              · rintro ⟨j, hj, q, hq, x⟩
                by_cases w : j = k
                · rw [w, ← ek] at x; exact Or.inr ⟨q, hq, x⟩
                · exact Or.inl ⟨j, by omega, q, hq, x⟩
            · have c := i_lt.mp (nle c)
              have s8 : s < 8 := by omega
              have iff : (l3 &&& ((1 <<< (l4 &&& 31)) ^^^ (-1))) = 0 ↔ ∀ t, t < sn (tC h) → ¬ t = s → fB (tC h) t l2 = true := by
                rw [bt_nul]
                constructor
                · intro q t ht hne
                  have z := q t
                  rw [bt_clr es (by omega), decide_eq_false (fun w => hne w.symm), Bool.not_false, Bool.and_true] at z
                  by_cases f : fB (tC h) t l2 = true
                  · exact f
                  · rw [(hx t).mpr ⟨ht, f⟩] at z; cases z
                · intro q t
                  rw [bt_clr es (by omega)]
                  by_cases w : s = t
                  · rw [decide_eq_true w, Bool.not_true, Bool.and_false]
                  · cases b : bt l3 t
                    · rfl
                    · obtain ⟨b1, b2⟩ := (hx t).mp b
                      exact absurd (q t b1 (fun z => w z.symm)) b2
              refine ⟨fun z => ik l1 (l4 + 1) (s + 1) (i_inc es (by omega)) (by omega) (by omega) (fun c => (hb c).trans ?_), fun z => v_cellOf l4 l2 s es tz (by omega) (fun r4 er x5 e5 => ik x5 (l4 + 1) (s + 1) (i_inc es (by omega)) (by omega) (by omega) (fun c => ?_))⟩
              · constructor
                · rintro (q | ⟨q, hq, x⟩)
                  · exact Or.inl q
                  · exact Or.inr ⟨q, by omega, x⟩
                · rintro (q | ⟨q, hq, x⟩)
                  · exact Or.inl q
                  · by_cases w : q = s
                    · rw [w] at x; exact absurd (iff.mpr x.2) z
                    · exact Or.inr ⟨q, by omega, x⟩
              · have f4 := (fo_n (tC h) s l2).2
                rw [e5, bt_orA er (by omega), Bool.or_eq_true, hb c, decide_eq_true_iff]
                constructor
                · rintro ((q | ⟨q, hq, x⟩) | q)
                  · exact Or.inl q
                  · exact Or.inr ⟨q, by omega, x⟩
                  · exact Or.inr ⟨s, by omega, q.symm, iff.mp z⟩
                · rintro (q | ⟨q, hq, x⟩)
                  · exact Or.inl (Or.inl q)
                  · by_cases w : q = s
                    · rw [w] at x; exact Or.inr x.1.symm
                    · exact Or.inl (Or.inr ⟨q, by omega, x⟩)
        refine I 9 l1 0 0 (by decide) (Nat.zero_le _) (by omega) (fun c => (hb c).trans ?_)
        constructor
        · intro q; exact Or.inl q
        · rintro (q | ⟨q, hq, -⟩)
          · exact q
          · omega
  have n6 : lk3 h ≤ 6 := by have f : R 0 6 (mI h 3 1) := GI_rd hG 3 1 rfl; have := f.2; unfold lk3; omega
  have p := p2_64 n6
  refine e_X8_extending (L 66 0 0 0 (by decide) (Nat.zero_le _) (by omega) (fun c => ?_))
  rw [(bt_nul (x := 0)).mp rfl c]
  constructor
  · intro z; cases z
  · rintro ⟨j, hj, -⟩; omega
/-- an outcome extends -/
def exO (a : Nat → Int32) (L s : Nat) (o : Int32) : Prop := ∃ j, j < 2 ^ L ∧ fo a s (Int32.ofNat j) = o ∧ ∀ t, t < sn a → ¬ t = s → fB a t (Int32.ofNat j) = true
theorem ex_iff {a : Nat → Int32} {L s : Nat} {o : Int32} (hs : s < sn a) (ho : 0 ≤ o.toInt ∧ o.toInt < 4) : exK a (2 ^ L) (4 * s + o.toInt.toNat) ↔ exO a L s o := by
  constructor
  · rintro ⟨j, hj, q, hq, x⟩
    have f := fo_n a q (Int32.ofNat j)
    have x1 := x.1
    have e : q = s := by omega
    subst e
    refine ⟨j, hj, Int32.toInt_inj.mp ?_, x.2⟩
    omega
  · rintro ⟨j, hj, x1, x2⟩
    exact ⟨j, hj, s, hs, by rw [x1], x2⟩
theorem sn_eq0 {a b : Nat → Int32} (r : Rq a b) : sn a = sn b := by unfold sn; rw [r.1]
theorem exO_cg {a b : Nat → Int32} (r : Rq a b) {L s : Nat} {o : Int32} (hs : s < sn b) : exO a L s o ↔ exO b L s o := by
  have e := sn_eq0 r
  constructor
  · rintro ⟨j, hj, x1, x2⟩
    exact ⟨j, hj, by rw [← fo_cg (r.2.2 s hs)]; exact x1, fun t ht hne => by rw [← fB_cg (r.2.2 t ht)]; exact x2 t (by omega) hne⟩
  · rintro ⟨j, hj, x1, x2⟩
    exact ⟨j, hj, by rw [fo_cg (r.2.2 s hs)]; exact x1, fun t ht hne => by rw [fB_cg (r.2.2 t (by omega))]; exact x2 t (by omega) hne⟩
theorem v_doesExtend {g : gT} {h : mh_T} {P : Int32 → mh_T → Prop} (l1 l2 : Int32) (s : Nat) (es : l1.toInt = (s : Int)) (hG : GI h) (tz : TZ (h.1 45)) (hs : s < sn (h.1 45)) (h1 : exO (h.1 45) (lk45 h) s l2 → P 1 h) (h0 : ¬ exO (h.1 45) (lk45 h) s l2 → P 0 h) : MCi g yX11_doesExtend uX11_doesExtend [.ref 11, .int l1, .int l2] h P := by
  have n8 : sn (h.1 45) ≤ 8 := by unfold sn; have := tz.2.1; omega
  have L : ∀ (m : Nat) (l3 l4 : Int32) (k : Nat), l4.toInt = (k : Int) → k ≤ 2 ^ lk45 h → 2 ^ lk45 h - k < m → ((l3 = 1 ∧ exO (h.1 45) (lk45 h) s l2) ∨ (l3 = 0 ∧ ∀ j, j < k → ¬ (fo (h.1 45) s (Int32.ofNat j) = l2 ∧ ∀ t, t < sn (h.1 45) → ¬ t = s → fB (h.1 45) t (Int32.ofNat j) = true))) → ME g uX11_doesExtend 5 [.ref 11, .int l1, .int l2, .int l3, .int l4] [] h (qI P) := by
    intro m
    induction m with
    | zero => intro l3 l4 k _ _ hm; exact absurd hm (Nat.not_lt_zero _)
    | succ m ih =>
      intro l3 l4 k e4 hk hm inv
      refine r_X11_doesExtend_5 l1 l2 l3 l4 (v_hiddenMany hG (fun v ev n6 => ⟨fun c => ?_, fun c => ?_⟩))
      · have c := i_le.mp c
        have e : k = 2 ^ lk45 h := by omega
        rw [e] at inv
        rcases inv with ⟨q1, q2⟩ | ⟨q1, q2⟩
        · rw [q1]; exact ⟨Or.inr rfl, h1 q2⟩
        · rw [q1]; exact ⟨Or.inl rfl, h0 (fun ⟨j, hj, x1, x2⟩ => q2 j hj ⟨x1, x2⟩)⟩
      · have c := i_lt.mp (nle c)
        have p := (p2_64 n6).2
        have ek := i_of e4 (by omega)
        have nx : ∀ l3 : Int32, ((l3 = 1 ∧ exO (h.1 45) (lk45 h) s l2) ∨ (l3 = 0 ∧ ∀ j, j < k + 1 → ¬ (fo (h.1 45) s (Int32.ofNat j) = l2 ∧ ∀ t, t < sn (h.1 45) → ¬ t = s → fB (h.1 45) t (Int32.ofNat j) = true))) → ME g uX11_doesExtend 5 [.ref 11, .int l1, .int l2, .int l3, .int (l4 + 1)] [] h (qI P) := fun l3 i => ih l3 (l4 + 1) (k + 1) (i_inc e4 (by omega)) (by omega) (by omega) i
        refine ⟨fun z => nx 1 ?_, fun z => ?_⟩
        · rcases inv with ⟨q1, q2⟩ | ⟨q1, q2⟩
          · exact Or.inl ⟨rfl, q2⟩
          · exact absurd q1 z
        · have q2 : ∀ j, j < k → ¬ (fo (h.1 45) s (Int32.ofNat j) = l2 ∧ ∀ t, t < sn (h.1 45) → ¬ t = s → fB (h.1 45) t (Int32.ofNat j) = true) := by
            rcases inv with ⟨q1, q2⟩ | ⟨q1, q2⟩
            · rw [q1] at z; exact absurd z (by decide)
            · exact q2
          have no : ¬ (fo (h.1 45) s (Int32.ofNat k) = l2 ∧ ∀ t, t < sn (h.1 45) → ¬ t = s → fB (h.1 45) t (Int32.ofNat k) = true) → ∀ j, j < k + 1 → ¬ (fo (h.1 45) s (Int32.ofNat j) = l2 ∧ ∀ t, t < sn (h.1 45) → ¬ t = s → fB (h.1 45) t (Int32.ofNat j) = true) := fun w j hj => by
            by_cases e : j = k
            · rw [e]; exact w
            · exact q2 j (by omega)
          refine v_fitted l1 l4 s es (by omega) ⟨fun y => nx 0 (Or.inr ⟨rfl, no (fun w => y (by rw [ek]; exact w.1))⟩), fun y => v_fitsAll l4 l1 tz (fun w => ⟨fun v => absurd v (by decide), fun _ => nx 1 (Or.inl ⟨rfl, k, by omega, by rw [← ek]; exact y, fun t ht hne => ?_⟩)⟩) (fun w => ⟨fun _ => nx 0 (Or.inr ⟨rfl, no (fun v => w (fun t ht hne => ?_))⟩), fun v => absurd rfl v⟩)⟩
          · rw [← ek]
            exact w t ht (by omega)
          · rw [ek]
            exact v.2 t ht (by omega)
  have n6 : lk45 h ≤ 6 := by have f : R 0 6 (mI h 45 50) := GI_rd hG 45 50 rfl; have := f.2; unfold lk45; omega
  have p := p2_64 n6
  exact e_X11_doesExtend l1 l2 (L 66 0 0 0 (by decide) (Nat.zero_le _) (by omega) (Or.inr ⟨rfl, fun j hj => absurd hj (Nat.not_lt_zero _)⟩))
