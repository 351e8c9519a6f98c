/-! cycles: their number, the i-th -/
theorem oF_cg {E D : Nat → Int32} {B : Nat → Bool} : ∀ n, (∀ s, s < n → E s = D s) → oF E B n = oF D B n
  | 0, _ => rfl
  | n + 1, h => by
    show (if B n = true then oF E B n ||| E n else oF E B n) = (if B n = true then oF D B n ||| D n else oF D B n)
    rw [oF_cg n (fun s hs => h s (by omega)), h n (by omega)]
theorem tF_cg {E D : Nat → Int32} {B : Nat → Bool} : ∀ n, (∀ s, s < n → E s = D s) → tF E B n = tF D B n
  | 0, _ => rfl
  | n + 1, h => by
    show (if B n = true then tF E B n ||| (oF E B n &&& E n) else tF E B n) = (if B n = true then tF D B n ||| (oF D B n &&& D n) else tF D B n)
    rw [tF_cg n (fun s hs => h s (by omega)), oF_cg n (fun s hs => h s (by omega)), h n (by omega)]
theorem hF_cg {E D : Nat → Int32} {B : Nat → Bool} : ∀ n, (∀ s, s < n → E s = D s) → hF E B n = hF D B n
  | 0, _ => rfl
  | n + 1, h => by
    show (if B n = true then hF E B n ||| (tF E B n &&& E n) else hF E B n) = (if B n = true then hF D B n ||| (tF D B n &&& D n) else hF D B n)
    rw [hF_cg n (fun s hs => h s (by omega)), tF_cg n (fun s hs => h s (by omega)), h n (by omega)]
theorem rdF_cg {E D : Nat → Int32} {B : Nat → Bool} {x : Int32} : ∀ n, (∀ s, s < n → E s = D s) → rdF E B x n = rdF D B x n
  | 0, _ => rfl
  | n + 1, h => by
    show (if B n = true then (if (E n &&& rdF E B x n) = 0 then rdF E B x n else rdF E B x n ||| E n) else rdF E B x n) = (if B n = true then (if (D n &&& rdF D B x n) = 0 then rdF D B x n else rdF D B x n ||| D n) else rdF D B x n)
    rw [rdF_cg n (fun s hs => h s (by omega)), h n (by omega)]
theorem itR_cg {E D : Nat → Int32} {B : Nat → Bool} {n : Nat} {x : Int32} (h : ∀ s, s < n → E s = D s) : ∀ k, itR E B n x k = itR D B n x k
  | 0 => rfl
  | k + 1 => by
    show rdF E B (itR E B n x k) n = rdF D B (itR D B n x k) n
    rw [itR_cg h k, rdF_cg n h]
theorem paB_cg {a b : Nat → Int32} {l : Int32} : ∀ n, (∀ s, s < n → a (9 + s) = b (9 + s)) → paB a l n = paB b l n
  | 0, _ => rfl
  | n + 1, h => by
    unfold paB
    rw [paB_cg n (fun s hs => h s (by omega)), h n (by omega)]
theorem rgB_cg {a b : Nat → Int32} (r : Rq a b) (w : Nat) : rgB a w = rgB b w := by
  have en : sn a = sn b := by unfold sn; rw [r.1]
  have eL : ∀ s, s < sn b → lo a s = lo b s := fun s hs => lo_cg (r.2.2 s hs)
  unfold rgB
  apply decide_eq_decide.mpr
  unfold rgP
  rw [en, paB_cg _ (fun s hs => (r.2.2 s hs).2.1), hF_cg _ eL, oF_cg _ eL, tF_cg _ eL, itR_cg eL]
theorem PW_C {h : mh_T} (hG : GI h) (tz : TZ (tC h)) : PW (tC h) := by
  intro s hs
  have n8 : sn (tC h) ≤ 8 := by unfold sn; have := tz.2.1; omega
  rw [tC_1s (by omega), tC_9s (by omega)]
  exact ⟨GI_rd hG 24 s rfl, GI_rd hG 25 s rfl⟩
theorem PW_cg {a b : Nat → Int32} (r : Rq a b) (p : PW a) : PW b := by
  intro s hs
  have en : sn a = sn b := by unfold sn; rw [r.1]
  have q := p s (by omega)
  rw [(r.2.2 s hs).1, (r.2.2 s hs).2.1] at q
  exact q
theorem v_number {g : gT} {h : mh_T} {P : Int32 → mh_T → Prop} (tz : TZ (tC h)) (hp : ∀ r : Int32, r.toInt = (cN (rgB (tC h)) (2 ^ sn (tC h)) : Int) → P r h) : MCi g yX7_number uX7_number [.ref 4] h P := by
  have n8 : sn (tC h) ≤ 8 := by unfold sn; have := tz.2.1; omega
  have en : (mI h 3 2).toInt = (sn (tC h) : Int) := by show (tC h 0).toInt = _; unfold sn; have := tz.1; omega
  have e2 : (1 <<< ((mI h 3 2) &&& 31) : Int32).toInt = ((2 ^ sn (tC h) : Nat) : Int) := by rw [i_of en (by omega)]; exact (p2M _ n8).1
  have m2 := (p2M _ n8).2
  have L : ∀ (n : Nat) (l1 l2 : Int32) (k : Nat), l2.toInt = (k : Int) → k ≤ 2 ^ sn (tC h) → 2 ^ sn (tC h) - k < n → l1.toInt = (cN (rgB (tC h)) k : Int) → ME g uX7_number 4 [.ref 4, .int l1, .int l2] [] h (qI P) := by
    intro n
    induction n with
    | zero => intro l1 l2 k _ _ hn; exact absurd hn (Nat.not_lt_zero _)
    | succ n ih =>
      intro l1 l2 k ek hk hn e1
      have cl := cN_le (rgB (tC h)) k
      have sk : cN (rgB (tC h)) (k + 1) = cN (rgB (tC h)) k + (if rgB (tC h) k = true then 1 else 0) := rfl
      refine r_X7_number_4 l1 l2 ⟨fun c => ?_, fun c => ?_⟩
      · have c := i_le.mp c
        have e : k = 2 ^ sn (tC h) := by omega
        rw [e] at e1
        exact hp l1 e1
      · have c := i_lt.mp (nle c)
        refine v_isRing l2 tz (fun w ew _ z => ⟨fun y => absurd y (by decide), fun _ => ih (l1 + 1) (l2 + 1) (k + 1) (i_inc ek (by omega)) (by omega) (by omega) ?_⟩) (fun z => ⟨fun _ => ih l1 (l2 + 1) (k + 1) (i_inc ek (by omega)) (by omega) (by omega) ?_, fun y => absurd rfl y⟩)
        · rw [show w = k from by omega] at z
          rw [i_inc e1 (by omega), sk, if_pos z]
        · rw [e1, sk, if_neg (z k ek)]
          rfl
  exact e_X7_number (L 258 0 0 0 (by decide) (Nat.zero_le _) (by omega) rfl)
theorem v_ringAt {g : gT} {h : mh_T} {P : Int32 → mh_T → Prop} (l1 : Int32) (tz : TZ (tC h)) (h1 : ∀ r : Int32, NT (rgB (tC h)) (2 ^ sn (tC h)) l1 r → P r h) (h0 : (∀ k, k < 2 ^ sn (tC h) → rgB (tC h) k = true → ¬ (cN (rgB (tC h)) k : Int) = l1.toInt) → P (-1) h) : MCi g yX7_ringAt uX7_ringAt [.ref 4, .int l1] h P := by
  have n8 : sn (tC h) ≤ 8 := by unfold sn; have := tz.2.1; omega
  have en : (mI h 3 2).toInt = (sn (tC h) : Int) := by show (tC h 0).toInt = _; unfold sn; have := tz.1; omega
  have e2 : (1 <<< ((mI h 3 2) &&& 31) : Int32).toInt = ((2 ^ sn (tC h) : Nat) : Int) := by rw [i_of en (by omega)]; exact (p2M _ n8).1
  have m2 := (p2M _ n8).2
  have L : ∀ (n : Nat) (l2 l3 : Int32) (k : Nat), l3.toInt = (k : Int) → k ≤ 2 ^ sn (tC h) → 2 ^ sn (tC h) - k < n → l2.toInt = (cN (rgB (tC h)) k : Int) → (∀ j, j < k → rgB (tC h) j = true → ¬ (cN (rgB (tC h)) j : Int) = l1.toInt) → ME g uX7_ringAt 4 [.ref 4, .int l1, .int l2, .int l3] [] h (qI P) := by
    intro n
    induction n with
    | zero => intro l2 l3 k _ _ hn; exact absurd hn (Nat.not_lt_zero _)
    | succ n ih =>
      intro l2 l3 k ek hk hn e1 inv
      have cl := cN_le (rgB (tC h)) k
      have sk : cN (rgB (tC h)) (k + 1) = cN (rgB (tC h)) k + (if rgB (tC h) k = true then 1 else 0) := rfl
      refine r_X7_ringAt_4 l1 l2 l3 ⟨fun c => ?_, fun c => ?_⟩
      · have c := i_le.mp c
        have e : k = 2 ^ sn (tC h) := by omega
        rw [e] at inv
        exact h0 inv
      · have c := i_lt.mp (nle c)
        refine v_isRing l3 tz (fun w ew _ z => ?_) (fun z => ⟨fun _ => ih l2 (l3 + 1) (k + 1) (i_inc ek (by omega)) (by omega) (by omega) ?_ (fun j hj pj => ?_), fun y => absurd rfl y⟩)
        · rw [show w = k from by omega] at z
          refine ⟨fun y => absurd y (by decide), fun _ => ⟨fun y => ih (l2 + 1) (l3 + 1) (k + 1) (i_inc ek (by omega)) (by omega) (by omega) ?_ (fun j hj pj => ?_), fun y => h1 l3 ⟨k, by omega, z, by rw [← e1, y], ek⟩⟩⟩
          · rw [i_inc e1 (by omega), sk, if_pos z]
          · by_cases e : j = k
            · rw [e]; exact fun v => y (Int32.toInt_inj.mp (by rw [e1, v]))
            · exact inv j (by omega) pj
        · rw [e1, sk, if_neg (z k ek)]
          rfl
        · by_cases e : j = k
          · rw [e] at pj; exact absurd pj (z k ek)
          · exact inv j (by omega) pj
  exact e_X7_ringAt l1 (L 258 0 0 0 (by decide) (Nat.zero_le _) (by omega) rfl (fun j hj => absurd hj (Nat.not_lt_zero _)))
theorem v_cycleOf {g : gT} {h : mh_T} {P : Int32 → mh_T → Prop} (l1 : Int32) (tz : TZ (h.1 45)) (pw : PW (h.1 45)) (h1 : ∀ r : Int32, NT (rgB (h.1 45)) (2 ^ sn (h.1 45)) l1 r → P r h) (h0 : ∀ r : Int32, (∀ k, k < 2 ^ sn (h.1 45) → rgB (h.1 45) k = true → ¬ (cN (rgB (h.1 45)) k : Int) = l1.toInt) → r.toInt = (cN (rgB (h.1 45)) (2 ^ sn (h.1 45)) : Int) - 1000 → cN (rgB (h.1 45)) (2 ^ sn (h.1 45)) ≤ 256 → P r h) : MCi g yX11_cycleOf uX11_cycleOf [.ref 11, .int l1] h P := by
  have n8 : sn (h.1 45) ≤ 8 := by unfold sn; have := tz.2.1; omega
  have en : (mI h 45 (Int32.toNatClampNeg 0)).toInt = (sn (h.1 45) : Int) := by show (h.1 45 0).toInt = _; unfold sn; have := tz.1; omega
  have e2 : (1 <<< ((mI h 45 (Int32.toNatClampNeg 0)) &&& 31) : Int32).toInt = ((2 ^ sn (h.1 45) : Nat) : Int) := by rw [i_of en (by omega)]; exact (p2M _ n8).1
  have m2 := (p2M _ n8).2
  have L : ∀ (n : Nat) (l2 l3 : Int32) (k : Nat), l3.toInt = (k : Int) → k ≤ 2 ^ sn (h.1 45) → 2 ^ sn (h.1 45) - k < n → l2.toInt = (cN (rgB (h.1 45)) k : Int) → (∀ j, j < k → rgB (h.1 45) j = true → ¬ (cN (rgB (h.1 45)) j : Int) = l1.toInt) → ME g uX11_cycleOf 4 [.ref 11, .int l1, .int l2, .int l3] [] h (qI P) := by
    intro n
    induction n with
    | zero => intro l2 l3 k _ _ hn; exact absurd hn (Nat.not_lt_zero _)
    | succ n ih =>
      intro l2 l3 k ek hk hn e1 inv
      have cl := cN_le (rgB (h.1 45)) k
      have sk : cN (rgB (h.1 45)) (k + 1) = cN (rgB (h.1 45)) k + (if rgB (h.1 45) k = true then 1 else 0) := rfl
      refine r_X11_cycleOf_4 l1 l2 l3 ⟨fun c => ?_, fun c => ?_⟩
      · have c := i_le.mp c
        have e : k = 2 ^ sn (h.1 45) := by omega
        rw [e] at inv e1 cl
        exact h0 _ inv (by rw [i_sub e1 (show (1000 : Int32).toInt = 1000 from by decide) (by omega)]) (by omega)
      · have c := i_lt.mp (nle c)
        refine v_isCycle l3 tz pw (fun w ew _ z => ?_) (fun z => ⟨fun y => absurd rfl y, fun _ => ih l2 (l3 + 1) (k + 1) (i_inc ek (by omega)) (by omega) (by omega) ?_ (fun j hj pj => ?_)⟩)
        · rw [show w = k from by omega] at z
          refine ⟨fun _ => ⟨fun y => ih (l2 + 1) (l3 + 1) (k + 1) (i_inc ek (by omega)) (by omega) (by omega) ?_ (fun j hj pj => ?_), fun y => h1 l3 ⟨k, by omega, z, by rw [← e1, y], ek⟩⟩, fun y => absurd y (by decide)⟩
          · rw [i_inc e1 (by omega), sk, if_pos z]
          · by_cases e : j = k
            · rw [e]; exact fun v => y (Int32.toInt_inj.mp (by rw [e1, v]))
            · exact inv j (by omega) pj
        · rw [e1, sk, if_neg (z k ek)]
          rfl
        · by_cases e : j = k
          · rw [e] at pj; exact absurd pj (z k ek)
          · exact inv j (by omega) pj
  exact e_X11_cycleOf l1 (L 258 0 0 0 (by decide) (Nat.zero_le _) (by omega) rfl (fun j hj => absurd hj (Nat.not_lt_zero _)))
