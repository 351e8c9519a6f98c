/-! cycles: greatest, widest -/
theorem rg_ex {a : Nat → Int32} {w : Nat} (n8 : sn a ≤ 8) (r : rgP a w) : w < 256 ∧ ∃ s, s < sn a ∧ hB (Int32.ofNat w) s = true := by
  have m2 := (p2M _ n8).2
  have wl := r.1
  obtain ⟨s0, s1, s2, s3⟩ := pc_ex w (by omega) r.2.1
  exact ⟨by omega, s0, (Nat.pow_lt_pow_iff_right (by omega)).mp (Nat.lt_of_le_of_lt s3 wl), s2⟩
theorem sS_cg {A D : Nat → Int} {B : Nat → Bool} : ∀ n, (∀ s, s < n → A s = D s) → sS A B n = sS D B n ∧ mS A B n = mS D B n ∧ zc B (ng A) n = zc B (ng D) n
  | 0, _ => ⟨rfl, rfl, rfl⟩
  | n + 1, h => by
    have i := sS_cg (B := B) n (fun s hs => h s (by omega))
    have e := h n (by omega)
    have e2 : ng A n = ng D n := by unfold ng; rw [e]
    refine ⟨?_, ?_, ?_⟩
    · show (if B n = true then sS A B n + (if 0 ≤ A n then A n else -A n) else sS A B n) = (if B n = true then sS D B n + (if 0 ≤ D n then D n else -D n) else sS D B n)
      rw [i.1, e]
    · show (if B n = true then (if (if 0 ≤ A n then A n else -A n) < mS A B n then (if 0 ≤ A n then A n else -A n) else mS A B n) else mS A B n) = (if B n = true then (if (if 0 ≤ D n then D n else -D n) < mS D B n then (if 0 ≤ D n then D n else -D n) else mS D B n) else mS D B n)
      rw [i.2.1, e]
    · show (if B n = true then zc B (ng A) n + (if ng A n = true then 1 else 0) else zc B (ng A) n) = (if B n = true then zc B (ng D) n + (if ng D n = true then 1 else 0) else zc B (ng D) n)
      rw [i.2.2, e2]
theorem sfn_cg {a b : Nat → Int32} (r : Rq a b) (law : Int32) : sfn a law = sfn b law := by
  funext w
  have en : sn a = sn b := by unfold sn; rw [r.1]
  have eA : ∀ s, s < sn b → al a s = al b s := fun s hs => by
    have q := (r.2.2 s hs).2.2
    have q0 := q 0 (by omega)
    have q0 : a (17 + 4 * s) = b (17 + 4 * s) := q0
    unfold al
    rw [q0, q 1 (by omega), q 2 (by omega), q 3 (by omega)]
  have c := sS_cg (B := hB (Int32.ofNat w)) (sn b) eA
  unfold sfn exF
  rw [en, c.1, c.2.1, c.2.2]
/-- the first of the greatest -/
def gtF (p : Nat → Bool) (f : Nat → Int32) : Nat → Int32
  | 0 => -2
  | k + 1 => if p k = true then (if gtF p f k = -2 then Int32.ofNat k else if f k ≤ f (gtF p f k).toInt.toNat then gtF p f k else Int32.ofNat k) else gtF p f k
theorem gtF_s {p : Nat → Bool} {f : Nat → Int32} : ∀ k, gtF p f k = -2 ∨ ∃ m, m < k ∧ p m = true ∧ gtF p f k = Int32.ofNat m
  | 0 => Or.inl rfl
  | k + 1 => by
    show (if p k = true then (if gtF p f k = -2 then Int32.ofNat k else if f k ≤ f (gtF p f k).toInt.toNat then gtF p f k else Int32.ofNat k) else gtF p f k) = -2 ∨ ∃ m, m < k + 1 ∧ p m = true ∧ (if p k = true then (if gtF p f k = -2 then Int32.ofNat k else if f k ≤ f (gtF p f k).toInt.toNat then gtF p f k else Int32.ofNat k) else gtF p f k) = Int32.ofNat m
    have i := gtF_s (p := p) (f := f) k
    have old : gtF p f k = -2 ∨ ∃ m, m < k + 1 ∧ p m = true ∧ gtF p f k = Int32.ofNat m := by
      rcases i with i | ⟨m, m1, m2, m3⟩
      · exact Or.inl i
      · exact Or.inr ⟨m, by omega, m2, m3⟩
    by_cases b : p k = true
    · rw [if_pos b]
      split
      · exact Or.inr ⟨k, by omega, b, rfl⟩
      · split
        · exact old
        · exact Or.inr ⟨k, by omega, b, rfl⟩
    · rw [if_neg b]
      exact old
theorem v_greatest {g : gT} {h : mh_T} {P : Int32 → mh_T → Prop} (tz : TZ (tC h)) (hp : P (gtF (rgB (tC h)) (sfn (tC h) (mI h 3 0)) (2 ^ sn (tC h))) h) : MCi g yX7_greatest uX7_greatest [.ref 4] h P := by
  have n8 : sn (tC h) ≤ 8 := by unfold sn; have := tz.2.1; omega
  have en : (mI h 3 2).toInt = (sn (tC h) : Int) := by show (tC h 0).toInt = _; unfold sn; have := tz.1; omega
  have e2 : (1 <<< ((mI h 3 2) &&& 31) : Int32).toInt = ((2 ^ sn (tC h) : Nat) : Int) := by rw [i_of en (by omega)]; exact (p2M _ n8).1
  have m2 := (p2M _ n8).2
  have L : ∀ (n : Nat) (l1 l2 : Int32) (k : Nat), l2.toInt = (k : Int) → k ≤ 2 ^ sn (tC h) → 2 ^ sn (tC h) - k < n → l1 = gtF (rgB (tC h)) (sfn (tC h) (mI h 3 0)) k → ME g uX7_greatest 5 [.ref 4, .int l1, .int l2] [] h (qI P) := by
    intro n
    induction n with
    | zero => intro l1 l2 k _ _ hn; exact absurd hn (Nat.not_lt_zero _)
    | succ n ih =>
      intro l1 l2 k ek hk hn e1
      have st : gtF (rgB (tC h)) (sfn (tC h) (mI h 3 0)) (k + 1) = if rgB (tC h) k = true then (if gtF (rgB (tC h)) (sfn (tC h) (mI h 3 0)) k = -2 then Int32.ofNat k else if sfn (tC h) (mI h 3 0) k ≤ sfn (tC h) (mI h 3 0) (gtF (rgB (tC h)) (sfn (tC h) (mI h 3 0)) k).toInt.toNat then gtF (rgB (tC h)) (sfn (tC h) (mI h 3 0)) k else Int32.ofNat k) else gtF (rgB (tC h)) (sfn (tC h) (mI h 3 0)) k := rfl
      rw [← e1] at st
      have ek' := i_of ek (by omega)
      refine r_X7_greatest_5 l1 l2 ⟨fun c => ?_, fun c => ?_⟩
      · have c := i_le.mp c
        have e : k = 2 ^ sn (tC h) := by omega
        rw [e] at e1
        rw [e1]
        exact hp
      · have c := i_lt.mp (nle c)
        have i3 := i_inc ek (by omega)
        have k3 : k + 1 ≤ 2 ^ sn (tC h) := by omega
        have q3 : 2 ^ sn (tC h) - (k + 1) < n := by omega
        have k2 : k < 256 := by omega
        refine v_isRing l2 tz (fun w ew _ z => ⟨fun y => absurd y (by decide), fun _ => ?_⟩) (fun z => ⟨fun _ => ih l1 (l2 + 1) (k + 1) i3 k3 q3 (by rw [st, if_neg (z k ek)]), fun y => absurd rfl y⟩)
        rw [show w = k from by omega] at z
        rw [if_pos z] at st
        have gs := gtF_s (p := rgB (tC h)) (f := sfn (tC h) (mI h 3 0)) k
        rw [← e1] at gs
        refine ⟨fun y => ih l2 (l2 + 1) (k + 1) i3 k3 q3 ?_, fun y => ?_⟩
        · rcases gs with gs | ⟨m, m1, -, m3⟩
          · rw [st, if_pos gs]; exact ek'
          · rw [m3] at y
            have y := i_lt.mp y
            rw [Int32.toInt_ofNat_of_lt (by omega), i_0] at y
            omega
        · rcases gs with gs | ⟨m, m1, -, m3⟩
          · rw [gs] at y; exact absurd (by decide) y
          · have em : l1.toInt = (m : Int) := by rw [m3, Int32.toInt_ofNat_of_lt (by omega)]
            have ne : ¬ l1 = -2 := fun t => by rw [t] at em; rw [show (-2 : Int32).toInt = -2 from by decide] at em; omega
            rw [if_neg ne, show l1.toInt.toNat = m from by omega] at st
            refine v_surplus l2 k ek k2 tz (v_surplus l1 m em (by omega) tz ⟨fun x => ih l1 (l2 + 1) (k + 1) i3 k3 q3 (by rw [st, if_pos x]), fun x => ih l2 (l2 + 1) (k + 1) i3 k3 q3 (by rw [st, if_neg x]; exact ek')⟩)
  exact e_X7_greatest (L 258 (-2) 0 0 (by decide) (Nat.zero_le _) (by omega) rfl)
theorem v_widest {g : gT} {h : mh_T} {P : Int32 → mh_T → Prop} (tz : TZ (h.1 45)) (pw : PW (h.1 45)) (hp : P (gtF (rgB (h.1 45)) (sfn (h.1 45) (mI h 45 49)) (2 ^ sn (h.1 45))) h) : ME g uX11_widest 24 [.ref 11, .int (-2), .int 0, .int 0, .retAddr 0] [] h (qI P) := by
  have n8 : sn (h.1 45) ≤ 8 := by unfold sn; have := tz.2.1; omega
  have en : (mI h 45 (Int32.toNatClampNeg 0)).toInt = (sn (h.1 45) : Int) := by show (h.1 45 0).toInt = _; unfold sn; have := tz.1; omega
  have e2 : (1 <<< ((mI h 45 (Int32.toNatClampNeg 0)) &&& 31) : Int32).toInt = ((2 ^ sn (h.1 45) : Nat) : Int) := by rw [i_of en (by omega)]; exact (p2M _ n8).1
  have m2 := (p2M _ n8).2
  have L : ∀ (n : Nat) (l1 l2 l3 : Int32) (k : Nat), l3.toInt = (k : Int) → k ≤ 2 ^ sn (h.1 45) → 2 ^ sn (h.1 45) - k < n → l1 = gtF (rgB (h.1 45)) (sfn (h.1 45) (mI h 45 49)) k → (¬ l1 = -2 → l2 = sfn (h.1 45) (mI h 45 49) l1.toInt.toNat) → ME g uX11_widest 24 [.ref 11, .int l1, .int l2, .int l3, .retAddr 0] [] h (qI P) := by
    intro n
    induction n with
    | zero => intro l1 l2 l3 k _ _ hn; exact absurd hn (Nat.not_lt_zero _)
    | succ n ih =>
      intro l1 l2 l3 k ek hk hn e1 el2
      have st : gtF (rgB (h.1 45)) (sfn (h.1 45) (mI h 45 49)) (k + 1) = if rgB (h.1 45) k = true then (if gtF (rgB (h.1 45)) (sfn (h.1 45) (mI h 45 49)) k = -2 then Int32.ofNat k else if sfn (h.1 45) (mI h 45 49) k ≤ sfn (h.1 45) (mI h 45 49) (gtF (rgB (h.1 45)) (sfn (h.1 45) (mI h 45 49)) k).toInt.toNat then gtF (rgB (h.1 45)) (sfn (h.1 45) (mI h 45 49)) k else Int32.ofNat k) else gtF (rgB (h.1 45)) (sfn (h.1 45) (mI h 45 49)) k := rfl
      rw [← e1] at st
      have ek' := i_of ek (by omega)
      refine r_X11_widest_24 l1 l2 l3 ⟨fun c => ?_, fun c => ?_⟩
      · have c := i_le.mp c
        have e : k = 2 ^ sn (h.1 45) := by omega
        rw [e] at e1
        rw [e1]
        exact hp
      · have c := i_lt.mp (nle c)
        have i3 := i_inc ek (by omega)
        have k3 : k + 1 ≤ 2 ^ sn (h.1 45) := by omega
        have q3 : 2 ^ sn (h.1 45) - (k + 1) < n := by omega
        have k2 : k < 256 := by omega
        have lk : l3.toInt.toNat = k := by omega
        refine v_isCycle l3 tz pw (fun w ew _ z => ⟨fun _ => ?_, fun y => absurd y (by decide)⟩) (fun z => ⟨fun y => absurd rfl y, fun _ => ih l1 l2 (l3 + 1) (k + 1) i3 k3 q3 (by rw [st, if_neg (z k ek)]) el2⟩)
        rw [show w = k from by omega] at z
        rw [if_pos z] at st
        refine v_excessOf l3 k ek k2 (rg_ex n8 (rgB_iff.mp z)).2 tz ⟨fun y => ih l3 _ (l3 + 1) (k + 1) i3 k3 q3 (by rw [st, if_pos y]; exact ek') (fun _ => by rw [lk]), fun y => ?_⟩
        rw [if_neg y, ← el2 y] at st
        refine ⟨fun x => ih l3 _ (l3 + 1) (k + 1) i3 k3 q3 ?_ (fun _ => by rw [lk]), fun x => ih l1 l2 (l3 + 1) (k + 1) i3 k3 q3 ?_ el2⟩
        · rw [st, if_neg (fun t => by have x := i_lt.mp x; have t := i_le.mp t; omega)]; exact ek'
        · rw [st, if_pos (i_le.mpr (by have x := i_le.mp (nlt x); exact x))]
  exact L 258 (-2) 0 0 0 (by decide) (Nat.zero_le _) (by omega) rfl (fun y => absurd rfl y)
