theorem v_noCoins {g : gT} {h0 : mh_T} {P : mh_T → Prop} (hG : GI h0) (hp : ∀ h', Ok [47] h0 h' → (∀ j, j < 32 → h'.1 47 j = 0) → P h') : MCv g yX11_noCoins uX11_noCoins [.ref 11] h0 P := by
  have L : ∀ (n : Nat) (l1 : Int32) (q : Nat) (h : mh_T), l1.toInt = (q : Int) → q ≤ 32 → 32 - q < n → Ok [47] h0 h → (∀ j, j < q → h.1 47 j = 0) → ME g uX11_noCoins 2 [.ref 11, .int l1] [] h (qV P) := by
    intro n
    induction n with
    | zero => intro l1 q h _ _ hn; exact absurd hn (Nat.not_lt_zero _)
    | succ n ih =>
      intro l1 q h e1 hq hn ok hz
      have z32 : (32 : Int32).toInt = 32 := by decide
      refine r_X11_noCoins_2 l1 ⟨fun c => hp h ok (fun j hj => hz j ?_), fun c => ?_⟩
      · have c := i_le.mp c
        omega
      · have c := i_lt.mp (nle c)
        rw [i_nat e1]
        refine ⟨i_vp e1 (by omega), ih (l1 + 1) (q + 1) _ (i_inc e1 (by omega)) (by omega) (by omega) (Ok_w ok (k := 47) (rgc_47 _) (R_full _) (by decide) (nt_k (by decide))) (fun j hj => ?_)⟩
        rw [wI_i]
        by_cases e : j = q
        · rw [if_pos e]
        · rw [if_neg e]
          exact hz j (by omega)
  exact e_X11_noCoins (L 33 0 0 h0 (by decide) (Nat.zero_le _) (by omega) (Ok_rf hG) (fun j hj => absurd hj (Nat.not_lt_zero _)))
theorem b_book_179 {g : gT} {P : Int32 → mh_T → Prop} (l1 : Int32) (k0 : mh_T) (t0 : TVs k0) (law : ¬ mI k0 46 49 = 0) (hp : ∀ h', GI h' → Fr [11, 45, 47] k0 h' → TVs h' → (∀ j, j < 14 → mI h' 11 j = mI k0 11 j) → (∀ j, j < 346 → mI h' 45 j = mI k0 46 j) → (mI h' 11 14 = 1 ∧ (∀ j, j < 32 → h'.1 47 j = 0) ∧ mI h' 11 24 = 0 ∧ mI h' 11 25 = 0 ∧ mI h' 11 26 = 0) → P (mI k0 46 50) h') : ∀ (n : Nat) (l2 : Int32) (q : Nat) (k : mh_T), l2.toInt = (q : Int) → q ≤ 346 → 346 - q < n → GI k → Fr [45] k0 k → (∀ j, j < q → k.1 45 j = k0.1 46 j) → ME g uX11_book 179 [.ref 11, .int l1, .int l2] [] k (qI P) := by
  intro n
  induction n with
  | zero => intro l2 q k _ _ hn; exact absurd hn (Nat.not_lt_zero _)
  | succ n ih =>
    intro l2 q k eq hq hn kG kk cc
    have c1 : R 1 1 1 := ⟨by decide, by decide⟩
    have z0 : R 0 0 0 := ⟨by decide, by decide⟩
    have z6 : (346 : Int32).toInt = 346 := by decide
    have e46 := (kk 46 (by decide) (by decide)).1
    have e11 : ∀ j, mI k 11 j = mI k0 11 j := fun j => congrFun (kk 11 (by decide) (by decide)).1 j
    refine r_X11_book_179 l1 l2 ⟨fun c => ?_, fun c => ?_⟩
    · have c := i_le.mp c
      have : q = 346 := by omega
      subst this
      have tk : TVs k := by
        refine ⟨TQ_i (fun s hs => ?_), ?_, ?_, ?_, ?_, fun _ => ?_⟩
        · have b : ∀ o, o < 4 → 0 ≤ (k.1 45 (17 + 4 * s + o)).toInt ∧ (k.1 45 (17 + 4 * s + o)).toInt ≤ 60 := fun o ho => by
            rw [cc _ (by omega), ← e46]
            exact GI_rd kG 46 (17 + 4 * s + o) (rgp_46_15 (by omega) (by omega))
          have b0 := b 0 (by omega)
          have b1 := b 1 (by omega)
          have b2 := b 2 (by omega)
          have b3 := b 3 (by omega)
          rw [Nat.add_zero] at b0
          exact tq_v rfl rfl rfl rfl (by omega)
        · rw [(kk 48 (by decide) (by decide)).1]; exact t0.2.1
        · rw [(kk 49 (by decide) (by decide)).1]; exact t0.2.2.1
        · rw [(kk 50 (by decide) (by decide)).1]; exact t0.2.2.2.1
        · rw [(kk 51 (by decide) (by decide)).1]; exact t0.2.2.2.2.1
        · have r49 : R 0 60 (mI k 46 49) := GI_rd kG 46 49 rfl
          have r1 : 0 ≤ (k.1 46 49).toInt := r49.1
          rw [cc 49 (by omega), ← e46]
          have ne : ¬ (k.1 46 49).toInt = 0 := fun z => law (by
            show k0.1 46 49 = 0
            rw [← e46]
            exact Int32.toInt_inj.mp (by rw [z, i_0]))
          omega
      have g1 : GI (wI k 11 14 1) := GI_w kG (k := 11) (j := 14) (lo := 0) (hi := 1) (by decide) (R_w c1 (by decide))
      have o1 : Ok [301, 11, 47] (wI k 11 14 1) (wI k 11 14 1) := Ok_rf g1
      refine v_noCoins o1.1 (fun h2 k2 k47 => ?_)
      have o2 := Ok_tr o1 k2 (by decide)
      have o3 := Ok_w o2 (k := 11) (j := 24) (v := 0) (lo := 0) (hi := 20) (by decide) (R_w z0 (by decide)) (by decide) (by decide)
      have o4 := Ok_w o3 (k := 11) (j := 25) (v := 0) (lo := 0) (hi := 20) (by decide) (R_w z0 (by decide)) (by decide) (by decide)
      have o5 := Ok_w o4 (k := 11) (j := 26) (v := 0) (lo := 0) (hi := 4) (by decide) (R_w z0 (by decide)) (by decide) (by decide)
      have ev : ∀ j, j < 346 → mI (wI (wI (wI h2 11 24 0) 11 25 0) 11 26 0) 45 j = mI k0 46 j := fun j hj => by
        have e : mI (wI (wI (wI h2 11 24 0) 11 25 0) 11 26 0) 45 j = mI (wI k 11 14 1) 45 j := congrFun (OkC o5 (k := 45) (by decide)) j
        rw [e, mI_wI, if_neg (fun z => absurd z.1 (by decide))]
        exact cc j hj
      rw [show Int32.toNatClampNeg 50 = 50 from by decide, ev 50 (by decide)]
      have e11' : ∀ j, mI h2 11 j = mI (wI k 11 14 1) 11 j := fun j => congrFun (OkC k2 (k := 11) (by decide)) j
      refine hp _ o5.1 (fun k hk hm => ((Fr_t2 (ms := [301, 11, 45, 47]) (Fr_w (Fr_t2 (Fr_rf k0) kk (by decide)) (by decide)) o5.2.1 (by decide)) k hk (fun z => (List.mem_cons.mp z).elim (fun y => by omega) hm))) (TVs_11 (TVs_11 (TVs_11 (TVs_47 (TVs_11 tk) k2)))) (fun j hj => ?_) ev ⟨?_, fun j hj => ?_, ?_, ?_, ?_⟩
      · rw [mI_wI, if_neg (by omega), mI_wI, if_neg (by omega), mI_wI, if_neg (by omega), e11', mI_wI, if_neg (by omega)]
        exact e11 j
      · rw [mI_wI, if_neg (by decide), mI_wI, if_neg (by decide), mI_wI, if_neg (by decide), e11', mI_wI, if_pos ⟨rfl, rfl⟩]
      · rw [wI_o (by decide), wI_o (by decide), wI_o (by decide)]
        exact k47 j hj
      · rw [mI_wI, if_neg (by decide), mI_wI, if_neg (by decide), mI_wI, if_pos ⟨rfl, rfl⟩]
      · rw [mI_wI, if_neg (by decide), mI_wI, if_pos ⟨rfl, rfl⟩]
      · rw [mI_wI, if_pos ⟨rfl, rfl⟩]
    · have c := i_lt.mp (nle c)
      refine ⟨i_vp eq (by omega), i_vp eq (by omega), ?_⟩
      rw [i_nat eq]
      refine ih (l2 + 1) (q + 1) _ (i_inc eq (by omega)) (by omega) (by omega) (GI_w kG (k := 45) (j := q) (lo := (rgT 45 q).1) (hi := (rgT 45 q).2) rfl (R_w (kG.1 46 _) (rg4645 _ (by omega)))) (Fr_w kk (by decide)) (fun j hj => ?_)
      rw [wI_i]
      by_cases e : j = q
      · rw [if_pos e, e]
        show k.1 46 q = _
        rw [e46]
      · rw [if_neg e]
        exact cc j (by omega)
theorem b_book_39 {g : gT} {h0 : mh_T} {P : Int32 → mh_T → Prop} {T : Nat → Int32} {n : Nat} (l1 : Int32) (e1 : l1.toInt = (n : Int)) (hn : n ≤ 900) (hT : ∀ j, j < n → mI h0 43 j = T j) (hB : ∀ j, j < n → 0 ≤ (T j).toInt) (hs : ∀ e f h', rx_book T n = .inr ((), e, f) → Ms h0 T n e f h' → ¬ f 49 = 0 → ME g uX11_book 179 [.ref 11, .int l1, .int 0] [] h' (qI P)) (hx : ∀ w p f h', rx_book T n = .inl (w, p) → Mx h0 f w p h' → P (-1) (wI h' 11 11 4)) : ∀ (m : Nat) (l2 : Int32) (q : Nat) (k : mh_T), l2.toInt = (q : Int) → q ≤ 346 → 346 - q < m → Og h0 k → mI k 11 13 = 0 → (∀ j, j < q → mI k 46 j = 0) → ME g uX11_book 39 [.ref 11, .int l1, .int l2] [] k (qI P) := by
  intro m
  induction m with
  | zero => intro l2 q k _ _ hm; exact absurd hm (Nat.not_lt_zero _)
  | succ m ih =>
    intro l2 q k e2 hq hm og k13 hz
    have z6 : (346 : Int32).toInt = 346 := by decide
    refine r_X11_book_39 l1 l2 ⟨fun c => ?_, fun c => ?_⟩
    · rw [i_le, z6, e2] at c
      have o : ∀ kk j, ¬ (kk = 11 ∧ (j = 3 ∨ j = 5)) → mI (wI (wI k 11 3 l1) 11 5 0) kk j = mI k kk j := fun kk j h => by rw [mI_wI, if_neg (by omega), mI_wI, if_neg (by omega)]
      have g5 : GI (wI (wI k 11 3 l1) 11 5 0) := GI_w (GI_w og.1 (k := 11) (j := 3) (lo := 0) (hi := 900) (by decide) ⟨by omega, by omega⟩) (k := 11) (j := 5) (lo := 0) (hi := 900) (by decide) ⟨by decide, by decide⟩
      have og5 : Og h0 (wI (wI k 11 3 l1) 11 5 0) := ⟨g5, Fr_w (Fr_w og.2.1 (by decide)) (by decide), fun j hj => by rw [o 11 j (by omega)]; exact og.2.2.1 j hj, H62_w (H62_w og.2.2.2 (by decide)) (by decide)⟩
      have mp5 : Mp (wI (wI k 11 3 l1) 11 5 0) T n := by
        refine ⟨?_, hn, fun j hj => ?_, hB⟩
        · rw [mI_wI, if_neg (by decide), mI_wI, if_pos ⟨rfl, rfl⟩]; exact e1
        · rw [o 43 j (by omega), ← hT j hj]
          exact congrFun (og.2.1 43 (by decide) (by decide)).1 j
      have mc5 : Mc (wI (wI k 11 3 l1) 11 5 0) (fun _ => 0) := fun j hj => by
        rw [o 46 j (by omega)]
        exact hz j (by omega)
      refine b_next (e := 0) g5 mp5 (by rw [mI_wI, if_pos ⟨rfl, rfl⟩]; decide) (Nat.zero_le _) (fun h2 k2 t2 => ?_)
      have c2 : Ms h0 T n 0 (fun _ => 0) h2 := ⟨Og_kq og5 k2, Mp_k k2 mp5, t2, Nat.zero_le _, Mc_kq k2 mc5, by rw [k2.2.2.1 13 (by decide), o 11 13 (by omega)]; exact k13⟩
      refine b_readLine c2 (fun _ => rfl) (fun h3 mo => ?_)
      exact b_book_77 l1 l2 (n + 1) 0 _ h3 mo ⟨by decide, by decide⟩ (fun _ => rfl) (by omega) hs hx
    · rw [i_le, z6, e2] at c
      rw [i_nat e2]
      refine ⟨i_vp e2 (by omega), ih (l2 + 1) (q + 1) _ (i_inc e2 (by omega)) (by omega) (by omega) (Og_w og (lo := (rgT 46 q).1) (hi := (rgT 46 q).2) rfl ?_ (by decide) (by decide)) ?_ (fun j hj => ?_)⟩
      · have := rg46_0 q (by omega)
        unfold R
        rw [show (0 : Int32).toInt = 0 from by decide]
        exact this
      · rw [mI_wI, if_neg (by omega)]; exact k13
      · rw [mI_wI]
        by_cases z : j = q
        · rw [if_pos ⟨rfl, z⟩]
        · rw [if_neg (fun y => z y.2)]
          exact hz j (by omega)
/-- the reference's book: what it answers, what stays -/
theorem b_book {g : gT} {h : mh_T} {P : Int32 → mh_T → Prop} {T : Nat → Int32} (l1 : Int32) (hG : GI h) (hI : TVs h) (hT : ∀ j : Nat, (j : Int) < (mI h 11 2).toInt → mI h 43 j = T j ∧ 0 ≤ (T j).toInt) (hn : ¬ (0 ≤ l1.toInt ∧ l1.toInt ≤ (mI h 11 2).toInt) → P (-1) (wI (wI (wI h 11 0 0) 11 11 0) 11 11 2)) (hs : ∀ (n e : Nat) (f : Nat → Int32) (h' : mh_T), l1.toInt = (n : Int) → (n : Int) ≤ (mI h 11 2).toInt → rx_book T n = .inr ((), e, f) → GI h' → Fr msM h h' → TVs h' → mI h' 11 0 = 0 ∧ mI h' 11 2 = 0 ∧ mI h' 11 9 = 0 ∧ mI h' 11 11 = 0 → ((∀ j, j < 346 → mI h' 45 j = f j) ∧ mI h' 11 14 = 1 ∧ (∀ j, j < 32 → h'.1 47 j = 0) ∧ mI h' 11 24 = 0 ∧ mI h' 11 25 = 0 ∧ mI h' 11 26 = 0) → P (f 50) h') (hx : ∀ (n : Nat) (w : Int32) (p : Nat) (h' : mh_T), l1.toInt = (n : Int) → (n : Int) ≤ (mI h 11 2).toInt → rx_book T n = .inl (w, p) → GI h' → Fr msM h h' → TVs h' → mI h' 11 0 = 0 ∧ mI h' 11 2 = 0 ∧ mI h' 11 9 = w ∧ mI h' 11 11 = 4 → (mI h' 11 10).toInt = (p : Int) → (h'.1 45 = h.1 45 ∧ mI h' 11 14 = mI h 11 14 ∧ h'.1 47 = h.1 47 ∧ H62 h h' ∧ ∀ j, 24 ≤ j → j ≤ 26 → mI h' 11 j = mI h 11 j) → P (-1) h') : MCi g yX11_book uX11_book [.ref 11, .int l1] h P := by
  have z0 : (0 : Int32).toInt = 0 := by decide
  have f2 : R 0 900 (mI h 11 2) := GI_rd hG 11 2 (by decide)
  have e2 : mI (wI (wI h 11 0 0) 11 11 0) 11 2 = mI h 11 2 := by rw [mI_wI, if_neg (by decide), mI_wI, if_neg (by decide)]
  refine e_X11_book l1 (e_X11_good (b_within l1 0 _ (fun q => ⟨fun _ => ?_, fun y => absurd y (by decide)⟩) (fun q => ⟨fun y => absurd rfl y, fun _ => e_X11_no 2 (hn (fun y => q ?_))⟩)))
  · rw [i_le, i_le, z0, e2] at q
    obtain ⟨n, en⟩ : ∃ n : Nat, l1.toInt = (n : Int) := ⟨l1.toInt.toNat, by omega⟩
    have n9 : n ≤ 900 := by have := f2.2; omega
    have o : ∀ kk j, ¬ (kk = 11 ∧ (j = 0 ∨ j = 2 ∨ j = 9 ∨ j = 11 ∨ j = 13)) → mI (wI (wI (wI (wI (wI h 11 0 0) 11 11 0) 11 2 0) 11 9 0) 11 13 0) kk j = mI h kk j := fun kk j z => by rw [mI_wI, if_neg (by omega), mI_wI, if_neg (by omega), mI_wI, if_neg (by omega), mI_wI, if_neg (by omega), mI_wI, if_neg (by omega)]
    have v : ∀ j, (j = 0 ∨ j = 2 ∨ j = 9 ∨ j = 11 ∨ j = 13) → mI (wI (wI (wI (wI (wI h 11 0 0) 11 11 0) 11 2 0) 11 9 0) 11 13 0) 11 j = 0 := fun j z => by
      rcases z with z | z | z | z | z <;> subst z <;> simp only [mI_wI] <;> rfl
    have g3 : GI (wI (wI (wI (wI (wI h 11 0 0) 11 11 0) 11 2 0) 11 9 0) 11 13 0) := GI_w (GI_w (GI_w (GI_w (GI_w hG (k := 11) (j := 0) (lo := -2147483648) (hi := 2147483647) (by decide) (R_full _)) (k := 11) (j := 11) (lo := -2147483648) (hi := 2147483647) (by decide) (R_full _)) (k := 11) (j := 2) (lo := 0) (hi := 900) (by decide) ⟨by decide, by decide⟩) (k := 11) (j := 9) (lo := -2147483648) (hi := 2147483647) (by decide) (R_full _)) (k := 11) (j := 13) (lo := 0) (hi := 1) (by decide) ⟨by decide, by decide⟩
    have fr3 : Fr [11] h (wI (wI (wI (wI (wI h 11 0 0) 11 11 0) 11 2 0) 11 9 0) 11 13 0) := Fr_w (Fr_w (Fr_w (Fr_w (Fr_w (Fr_rf h) (by decide)) (by decide)) (by decide)) (by decide)) (by decide)
    have t3 : TVs (wI (wI (wI (wI (wI h 11 0 0) 11 11 0) 11 2 0) 11 9 0) 11 13 0) := TVs_11 (TVs_11 (TVs_11 (TVs_11 (TVs_11 hI))))
    have t43 : ∀ j, j < n → mI (wI (wI (wI (wI (wI h 11 0 0) 11 11 0) 11 2 0) 11 9 0) 11 13 0) 43 j = T j := fun j hj => by
      rw [o 43 j (by omega)]
      exact (hT j (by omega)).1
    have h3 : H62 h (wI (wI (wI (wI (wI h 11 0 0) 11 11 0) 11 2 0) 11 9 0) 11 13 0) := H62_w (H62_w (H62_w (H62_w (H62_w (fun _ _ => rfl) (by decide)) (by decide)) (by decide)) (by decide)) (by decide)
    have v24 : ∀ j, 24 ≤ j → j ≤ 26 → mI (wI (wI (wI (wI (wI h 11 0 0) 11 11 0) 11 2 0) 11 9 0) 11 13 0) 11 j = mI h 11 j := fun j h1 h2 => o 11 j (by omega)
    have v14 : mI (wI (wI (wI (wI (wI h 11 0 0) 11 11 0) 11 2 0) 11 9 0) 11 13 0) 11 14 = mI h 11 14 := o 11 14 (by omega)
    generalize wI (wI (wI (wI (wI h 11 0 0) 11 11 0) 11 2 0) 11 9 0) 11 13 0 = k3 at v g3 fr3 t3 t43 v14 h3 v24
    refine b_book_39 l1 en n9 t43 (fun j hj => (hT j (by omega)).2) (fun e f h' ro c law => ?_) (fun w p f h' ro mx => ?_) 347 0 0 k3 (by decide) (Nat.zero_le _) (by omega) (Og_rf g3) (v 13 (by omega)) (fun j hj => absurd hj (Nat.not_lt_zero _))
    · have th : TVs h' := TVs_fr c.1.2.1 (by decide) t3
      refine b_book_179 l1 h' th (by rw [c.2.2.2.2.1 49 (by decide)]; exact law) (fun h2 o2g o2f t2 k2 k45 k14 => ?_) 347 0 0 h' (by decide) (Nat.zero_le _) (by omega) c.1.1 (Fr_rf h') (fun j hj => absurd hj (Nat.not_lt_zero _))
      rw [c.2.2.2.2.1 50 (by decide)]
      have fr : Fr msM h h2 := Fr_t2 (Fr_t2 (Fr_t2 (Fr_rf h) fr3 (by decide)) c.1.2.1 (by decide)) o2f (by decide)
      have kv : ∀ j, (j = 0 ∨ j = 2 ∨ j = 9 ∨ j = 11) → mI h2 11 j = 0 := fun j hj => by
        rw [k2 j (by omega), c.1.2.2.1 j (by omega)]
        exact v j (by omega)
      exact hs n e f h2 en (by omega) ro o2g fr t2 ⟨kv 0 (by omega), kv 2 (by omega), kv 9 (by omega), kv 11 (by omega)⟩ ⟨fun j hj => (k45 j hj).trans (c.2.2.2.2.1 j hj), k14⟩
    · have th : TVs h' := TVs_fr mx.1.2.1 (by decide) t3
      have fr : Fr msM h (wI h' 11 11 4) := Fr_w (Fr_t2 (Fr_t2 (Fr_rf h) fr3 (by decide)) mx.1.2.1 (by decide)) (by decide)
      have kv : ∀ j, (j = 0 ∨ j = 2) → mI (wI h' 11 11 4) 11 j = 0 := fun j hj => by
        rw [mI_wI, if_neg (by omega), mx.1.2.2.1 j (by omega)]
        exact v j (by omega)
      refine hx n w p _ en (by omega) ro (GI_w mx.1.1 (k := 11) (j := 11) (lo := -2147483648) (hi := 2147483647) (by decide) (R_full _)) fr (TVs_11 th) ⟨kv 0 (by omega), kv 2 (by omega), ?_, ?_⟩ ?_ ⟨?_, ?_, ?_, ?_, ?_⟩
      · rw [mI_wI, if_neg (by decide)]; exact mx.2.2.1
      · rw [mI_wI, if_pos ⟨rfl, rfl⟩]
      · rw [mI_wI, if_neg (by decide)]; exact mx.2.2.2.1
      · exact ((Fr_w (ms := [11]) (Fr_rf h') (by decide)) 45 (by decide) (by decide)).1.trans ((mx.1.2.1 45 (by decide) (by decide)).1.trans (fr3 45 (by decide) (by decide)).1)
      · rw [mI_wI, if_neg (by decide), mx.1.2.2.1 14 (by omega)]; exact v14
      · exact ((Fr_w (ms := [11]) (Fr_rf h') (by decide)) 47 (by decide) (by decide)).1.trans ((mx.1.2.1 47 (by decide) (by decide)).1.trans (fr3 47 (by decide) (by decide)).1)
      · exact H62_w (H62_tr h3 mx.1.2.2.2) (by decide)
      · intro j h1 h2
        rw [mI_wI, if_neg (by omega), mx.1.2.2.1 j (by omega)]
        exact v24 j h1 h2
  · rw [i_le, i_le, z0, e2]
    exact y
