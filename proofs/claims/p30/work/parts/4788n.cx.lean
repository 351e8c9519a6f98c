/-! cycles: surplus, excessOf -/
def al (a : Nat → Int32) (s : Nat) : Int := (a (17 + 4 * s)).toInt + (a (17 + 4 * s + 3)).toInt - (a (17 + 4 * s + 1)).toInt - (a (17 + 4 * s + 2)).toInt
/-! cycles: excessOf -/
/-! cycles: greatest, widest -/
/-! the reference's squares and corners -/
theorem v_has18 {g : gT} {h : mh_T} {P : Int32 → mh_T → Prop} (l x : Int32) (s : Nat) (e : x.toInt = (s : Int)) (hs : s < 18) (h1 : bt l s = true → P 1 h) (h0 : ¬ bt l s = true → P 0 h) : MCi g yX11_has uX11_has [.int l, .int x] h P := by
  refine e_X11_has l x ?_
  rw [bt_s18 e hs]
  by_cases y : bt l s = true
  · rw [if_pos y]
    exact ⟨fun w => absurd rfl w, fun _ => h1 y⟩
  · rw [if_neg y]
    exact ⟨fun _ => h0 y, fun w => absurd w (by decide)⟩
theorem w_areSquare {g : gT} {h : mh_T} {P : Int32 → mh_T → Prop} {i j : Nat} (l1 l2 : Int32) (e1 : l1.toInt = (i : Int)) (e2 : l2.toInt = (j : Int)) (hi : i < 18) (hj : j < 18) (h1 : dtk (fun q => mI h 45 (86 + q)) i j 4 = 0 → P 1 h) (h0 : ¬ dtk (fun q => mI h 45 (86 + q)) i j 4 = 0 → P 0 h) : MCi g yX11_areSquare uX11_areSquare [.ref 11, .int l1, .int l2] h P := by
  have i4 : (4 : Int32).toInt = 4 := by decide
  have ix : ∀ (l m : Int32) (s o : Nat), l.toInt = (s : Int) → s < 18 → m.toInt = (o : Int) → o < 4 → ((86 + (4 * l)) + m).toInt = ((86 + (4 * s + o) : Nat) : Int) := fun l m s o hl hs hm ho => by
    have a : (4 * l).toInt = 4 * (s : Int) := by
      rw [Int32.toInt_mul, hl, i4, bm (by omega) (by omega)]
    have b : (86 + (4 * l)).toInt = 86 + 4 * (s : Int) := i_add (by decide) a (by omega)
    rw [i_add b hm (by omega)]
    omega
  have L : ∀ (m : Nat) (l3 l4 : Int32) (k : Nat), l4.toInt = (k : Int) → k ≤ 4 → 4 - k < m → l3 = dtk (fun q => mI h 45 (86 + q)) i j k → ME g uX11_areSquare 5 [.ref 11, .int l1, .int l2, .int l3, .int l4] [] h (qI P) := by
    intro m
    induction m with
    | zero => intro l3 l4 k _ _ hm; exact absurd hm (Nat.not_lt_zero _)
    | succ m ih =>
      intro l3 l4 k e4 hk hm e3
      refine r_X11_areSquare_5 l1 l2 l3 l4 ⟨fun z => ?_, fun z => ?_⟩
      · rw [i_le, i4, e4] at z
        have : k = 4 := by omega
        subst this
        rw [e3]
        exact ⟨h0, h1⟩
      · rw [i_le, i4, e4] at z
        have ia := ix l1 l4 i k e1 hi e4 (by omega)
        have ib := ix l2 l4 j k e2 hj e4 (by omega)
        refine ⟨i_vp ia (by omega), i_vp ib (by omega), fun x5 ex => ih x5 (l4 + 1) (k + 1) (i_inc e4 (by omega)) (by omega) (by omega) ?_⟩
        rw [ex, i_nat ia, i_nat ib, e3]
        rfl
  exact e_X11_areSquare l1 l2 (L 5 0 0 0 (by decide) (by omega) (by omega) rfl)
/-- the reference's corners -/
theorem w_corners {g : gT} {h0 : mh_T} {P : mh_T → Prop} {A : Nat → Nat → Bool} {n : Nat} (hn : n ≤ 18) (hG : GI h0) (en : (mI h0 45 85).toInt = (n : Int)) (hm : ∀ i j, i < n → j < n → bt (mI h0 57 i) j = A i j) (ht : (kb A 4 0 (rl 0 n)).length ≤ 400) (h34 : mI h0 11 34 = 0) (hp : ∀ h', Ok [300, 11, 56, 57] h0 h' → h'.1 57 = h0.1 57 → Cn 56 11 34 h' (kb A 4 0 (rl 0 n)) → P h') : ME g uX11_layCorners 82 [.ref 11, .int 0, .retAddr 0, .retAddr 0, .retAddr 0] [] h0 (qV P) := by
  have k85 : ∀ {k : mh_T}, Ok [300, 11, 56, 57] h0 k → (mI k 45 (Int32.toNatClampNeg 85)).toInt = (n : Int) := fun o => by
    show (mI _ 45 85).toInt = _
    rw [o.2.2.2.2.1 45 85 (by decide)]
    exact en
  have k57 : ∀ {k : mh_T}, k.1 57 = h0.1 57 → ∀ j, mI k 57 j = mI h0 57 j := fun o j => congrFun o j
  have L : ∀ (m : Nat), (∀ (l1 : Int32) (a : Nat) (k : mh_T) (cur : List Int32), l1.toInt = (a : Int) → a ≤ n → 8000 * (18 - a) + 7999 < m → Ok [300, 11, 56, 57] h0 k → k.1 57 = h0.1 57 → Cn 56 11 34 k cur → cur ++ kb A 4 0 (rl a n) = kb A 4 0 (rl 0 n) → ME g uX11_layCorners 82 [.ref 11, .int l1, .retAddr 0, .retAddr 0, .retAddr 0] [] k (qV P)) ∧ (∀ (l1 l2 : Int32) (a b : Nat) (k : mh_T) (cur : List Int32), l1.toInt = (a : Int) → a < n → l2.toInt = (b : Int) → a < b → b ≤ n → 8000 * (18 - a) + 400 * (18 - b) + 399 < m → Ok [300, 11, 56, 57] h0 k → k.1 57 = h0.1 57 → Cn 56 11 34 k cur → cur ++ (kb A 3 (bs 0 a) ((rl b n).filter (A a)) ++ kb A 4 0 (rl (a + 1) n)) = kb A 4 0 (rl 0 n) → ME g uX11_layCorners 97 [.ref 11, .int l1, .int l2, .retAddr 0, .retAddr 0] [] k (qV P)) ∧ (∀ (l1 l2 l3 : Int32) (a b c : Nat) (k : mh_T) (cur : List Int32), l1.toInt = (a : Int) → a < n → l2.toInt = (b : Int) → a < b → b < n → l3.toInt = (c : Int) → b < c → c ≤ n → 8000 * (18 - a) + 400 * (18 - b) + 20 * (18 - c) + 19 < m → Ok [300, 11, 56, 57] h0 k → k.1 57 = h0.1 57 → Cn 56 11 34 k cur → cur ++ (kb A 2 (bs (bs 0 a) b) (((rl c n).filter (A a)).filter (A b)) ++ (kb A 3 (bs 0 a) ((rl (b + 1) n).filter (A a)) ++ kb A 4 0 (rl (a + 1) n))) = kb A 4 0 (rl 0 n) → ME g uX11_layCorners 128 [.ref 11, .int l1, .int l2, .int l3, .retAddr 0] [] k (qV P)) ∧ (∀ (l1 l2 l3 l4 : Int32) (a b c d : Nat) (k : mh_T) (cur : List Int32), l1.toInt = (a : Int) → a < n → l2.toInt = (b : Int) → a < b → b < n → l3.toInt = (c : Int) → b < c → c < n → l4.toInt = (d : Int) → c < d → d ≤ n → 8000 * (18 - a) + 400 * (18 - b) + 20 * (18 - c) + (18 - d) < m → Ok [300, 11, 56, 57] h0 k → k.1 57 = h0.1 57 → Cn 56 11 34 k cur → cur ++ (kb A 1 (bs (bs (bs 0 a) b) c) ((((rl d n).filter (A a)).filter (A b)).filter (A c)) ++ (kb A 2 (bs (bs 0 a) b) (((rl (c + 1) n).filter (A a)).filter (A b)) ++ (kb A 3 (bs 0 a) ((rl (b + 1) n).filter (A a)) ++ kb A 4 0 (rl (a + 1) n)))) = kb A 4 0 (rl 0 n) → ME g uX11_layCorners 167 [.ref 11, .int l1, .int l2, .int l3, .int l4] [] k (qV P)) := by
    intro m
    induction m with
    | zero => exact ⟨fun _ _ _ _ _ _ hm => absurd hm (Nat.not_lt_zero _), fun _ _ _ _ _ _ _ _ _ _ _ hm => absurd hm (Nat.not_lt_zero _), fun _ _ _ _ _ _ _ _ _ _ _ _ _ _ _ _ hm => absurd hm (Nat.not_lt_zero _), fun _ _ _ _ _ _ _ _ _ _ _ _ _ _ _ _ _ _ _ _ _ hm => absurd hm (Nat.not_lt_zero _)⟩
    | succ m ih =>
      refine ⟨fun l1 a k cur e1 ha hmm ok w q et => ?_, fun l1 l2 a b k cur e1 ha e2 hab hb hmm ok w q et => ?_, fun l1 l2 l3 a b c k cur e1 ha e2 hab hb e3 hbc hc hmm ok w q et => ?_, fun l1 l2 l3 l4 a b c d k cur e1 ha e2 hab hb e3 hbc hc e4 hcd hd hmm ok w q et => ?_⟩
      · refine r_X11_layCorners_82 l1 ⟨fun z => ?_, fun z x2 ex2 => ?_⟩
        · rw [i_le, k85 ok, e1] at z
          rw [rl_n (by omega), kb_n, List.append_nil] at et
          exact hp k ok w (by rw [← et]; exact q)
        · rw [i_le, k85 ok, e1] at z
          rw [rl_c (by omega), kb_c] at et
          exact ih.2.1 l1 x2 a (a + 1) k cur e1 (by omega) (by rw [ex2]; exact i_inc e1 (by omega)) (by omega) (by omega) (by omega) ok w q et
      · refine r_X11_layCorners_97 l1 l2 ⟨fun z => ?_, fun z => ?_⟩
        · rw [i_le, k85 ok, e2] at z
          rw [rl_n (by omega), List.filter_nil, kb_n, List.nil_append] at et
          exact ih.1 (l1 + 1) (a + 1) k cur (i_inc e1 (by omega)) (by omega) (by omega) ok w q et
        · rw [i_le, k85 ok, e2] at z
          have e2' := i_inc e2 (by omega)
          rw [i_nat e1]
          rw [rl_c (by omega)] at et
          refine ⟨i_vp e1 (by omega), v_has18 _ l2 b e2 (by omega) (fun y => ⟨fun _ x6 ex6 => ?_, fun v => absurd v (by decide)⟩) (fun y => ⟨fun v => absurd rfl v, fun _ => ?_⟩)⟩
          · rw [k57 w, hm a b ha (by omega)] at y
            rw [List.filter_cons_of_pos y, kb_c, List.append_assoc] at et
            exact ih.2.2.1 l1 l2 x6 a b (b + 1) k cur e1 ha e2 hab (by omega) (by rw [ex6]; exact e2') (by omega) (by omega) (by omega) ok w q et
          · rw [k57 w, hm a b ha (by omega)] at y
            rw [List.filter_cons_of_neg y] at et
            exact ih.2.1 l1 (l2 + 1) a (b + 1) k cur e1 ha e2' (by omega) (by omega) (by omega) ok w q et
      · refine r_X11_layCorners_128 l1 l2 l3 ⟨fun z => ?_, fun z => ?_⟩
        · rw [i_le, k85 ok, e3] at z
          rw [rl_n (by omega), List.filter_nil, List.filter_nil, kb_n, List.nil_append] at et
          exact ih.2.1 l1 (l2 + 1) a (b + 1) k cur e1 ha (i_inc e2 (by omega)) (by omega) (by omega) (by omega) ok w q et
        · rw [i_le, k85 ok, e3] at z
          have e3' := i_inc e3 (by omega)
          rw [i_nat e1, i_nat e2]
          rw [rl_c (by omega)] at et
          refine ⟨i_vp e1 (by omega), i_vp e2 (by omega), v_has18 _ l3 c e3 (by omega) (fun y => ⟨fun _ x7 ex7 => ?_, fun v => absurd v (by decide)⟩) (fun y => ⟨fun v => absurd rfl v, fun _ => ?_⟩)⟩
          · rw [bt_and, k57 w, k57 w, hm a c ha (by omega), hm b c hb (by omega)] at y
            obtain ⟨y1, y2⟩ := Bool.and_eq_true_iff.mp y
            rw [List.filter_cons_of_pos y1, List.filter_cons_of_pos y2, kb_c, List.append_assoc] at et
            exact ih.2.2.2 l1 l2 l3 x7 a b c (c + 1) k cur e1 ha e2 hab hb e3 hbc (by omega) (by rw [ex7]; exact e3') (by omega) (by omega) (by omega) ok w q et
          · rw [bt_and, k57 w, k57 w, hm a c ha (by omega), hm b c hb (by omega)] at y
            have eg : ((c :: rl (c + 1) n).filter (A a)).filter (A b) = ((rl (c + 1) n).filter (A a)).filter (A b) := by
              by_cases y1 : A a c = true
              · rw [List.filter_cons_of_pos y1, List.filter_cons_of_neg (fun y2 => y (by rw [y1, y2]; rfl))]
              · rw [List.filter_cons_of_neg y1]
            rw [eg] at et
            exact ih.2.2.1 l1 l2 (l3 + 1) a b (c + 1) k cur e1 ha e2 hab hb e3' (by omega) (by omega) (by omega) ok w q et
      · refine r_X11_layCorners_167 l1 l2 l3 l4 ⟨fun z => ?_, fun z => ?_⟩
        · rw [i_le, k85 ok, e4] at z
          rw [rl_n (by omega), List.filter_nil, List.filter_nil, List.filter_nil, kb_n, List.nil_append] at et
          exact ih.2.2.1 l1 l2 (l3 + 1) a b (c + 1) k cur e1 ha e2 hab hb (i_inc e3 (by omega)) (by omega) (by omega) (by omega) ok w q et
        · rw [i_le, k85 ok, e4] at z
          have e4' := i_inc e4 (by omega)
          rw [i_nat e1, i_nat e2, i_nat e3]
          rw [rl_c (by omega)] at et
          refine ⟨i_vp e1 (by omega), i_vp e2 (by omega), i_vp e3 (by omega), v_has18 _ l4 d e4 (by omega) (fun y => ⟨fun _ => ?_, fun v => absurd v (by decide)⟩) (fun y => ⟨fun v => absurd rfl v, fun _ => ?_⟩)⟩
          · rw [bt_and, bt_and, k57 w, k57 w, k57 w, hm a d ha (by omega), hm b d hb (by omega), hm c d hc (by omega)] at y
            obtain ⟨y12, y3⟩ := Bool.and_eq_true_iff.mp y
            obtain ⟨y1, y2⟩ := Bool.and_eq_true_iff.mp y12
            rw [List.filter_cons_of_pos y1, List.filter_cons_of_pos y2, List.filter_cons_of_pos y3, kb_c, List.append_assoc] at et
            have et : cur ++ ([bs (bs (bs (bs 0 a) b) c) d] ++ (kb A 1 (bs (bs (bs 0 a) b) c) ((((rl (d + 1) n).filter (A a)).filter (A b)).filter (A c)) ++ (kb A 2 (bs (bs 0 a) b) (((rl (c + 1) n).filter (A a)).filter (A b)) ++ (kb A 3 (bs 0 a) ((rl (b + 1) n).filter (A a)) ++ kb A 4 0 (rl (a + 1) n))))) = kb A 4 0 (rl 0 n) := et
            have hl : cur.length < 400 := by
              have := congrArg List.length et
              rw [List.length_append, List.length_append] at this
              have : ([bs (bs (bs (bs 0 a) b) c) d] : List Int32).length = 1 := rfl
              omega
            refine ⟨i_vp q.1 (by omega), ?_⟩
            rw [bs_0 e1 (by omega), bs_e e2 (by omega), bs_e e3 (by omega), bs_e e4 (by omega)]
            have o1 := Ok_w ok (k := 56) (j := (mI k 11 34).toNatClampNeg) (v := bs (bs (bs (bs 0 a) b) c) d) (lo := -2147483648) (hi := 2147483647) rfl (R_full _) (by decide) (nt_k (by decide))
            have e34 : mI (wI k 56 (mI k 11 34).toNatClampNeg (bs (bs (bs (bs 0 a) b) c) d)) 11 34 = mI k 11 34 := by rw [mI_wI, if_neg (fun z => absurd z.1 (by decide))]
            have f34 : (mI k 11 34 + 1).toInt = ((cur.length + 1 : Nat) : Int) := i_inc q.1 (by omega)
            have o2 := Ok_w o1 (k := 11) (j := 34) (v := mI (wI k 56 (mI k 11 34).toNatClampNeg (bs (bs (bs (bs 0 a) b) c) d)) 11 34 + 1) (lo := 0) (hi := 3060) (by decide) (by rw [e34]; exact ⟨by omega, by omega⟩) (by decide) (by decide)
            refine ih.2.2.2 l1 l2 l3 (l4 + 1) a b c (d + 1) _ _ e1 ha e2 hab hb e3 hbc hc e4' (by omega) (by omega) (by omega) o2 ?_ (Cn_add (by decide) q (by omega)) (by rw [List.append_assoc]; exact et)
            rw [← w]
            exact (wI_o (by decide)).trans (wI_o (by decide))
          · rw [bt_and, bt_and, k57 w, k57 w, k57 w, hm a d ha (by omega), hm b d hb (by omega), hm c d hc (by omega)] at y
            have eg : (((d :: rl (d + 1) n).filter (A a)).filter (A b)).filter (A c) = (((rl (d + 1) n).filter (A a)).filter (A b)).filter (A c) := by
              by_cases y1 : A a d = true
              · by_cases y2 : A b d = true
                · rw [List.filter_cons_of_pos y1, List.filter_cons_of_pos y2, List.filter_cons_of_neg (fun y3 => y (by rw [y1, y2, y3]; rfl))]
                · rw [List.filter_cons_of_pos y1, List.filter_cons_of_neg y2]
              · rw [List.filter_cons_of_neg y1]
            rw [eg] at et
            exact ih.2.2.2 l1 l2 l3 (l4 + 1) a b c (d + 1) k cur e1 ha e2 hab hb e3 hbc hc e4' (by omega) (by omega) (by omega) ok w q et
  exact (L 160000).1 0 0 h0 [] (by decide) (Nat.zero_le _) (by omega) (Ok_rf hG) rfl (Cn_0 h34) rfl
/-- the reference's squares, then its corners -/
theorem w_layCorners {g : gT} {h : mh_T} {P : mh_T → Prop} {n : Nat} (hn : n ≤ 18) (hG : GI h) (en : (mI h 45 85).toInt = (n : Int)) (ht : (kb (sqA (fun q => mI h 45 (86 + q))) 4 0 (rl 0 n)).length ≤ 400) (hp : ∀ h', Ok [300, 11, 56, 57] h h' → (∀ i j, i < n → j < n → bt (mI h' 57 i) j = sqA (fun q => mI h 45 (86 + q)) i j) → Cn 56 11 34 h' (kb (sqA (fun q => mI h 45 (86 + q))) 4 0 (rl 0 n)) → P h') : MCv g yX11_layCorners uX11_layCorners [.ref 11] h P := by
  have k85 : ∀ {k : mh_T}, Ok [300, 11, 56, 57] h k → (mI k 45 (Int32.toNatClampNeg 85)).toInt = (n : Int) := fun o => by
    show (mI _ 45 85).toInt = _
    rw [o.2.2.2.2.1 45 85 (by decide)]
    exact en
  have k45 : ∀ {k : mh_T}, Ok [300, 11, 56, 57] h k → (fun q => mI k 45 (86 + q)) = fun q => mI h 45 (86 + q) := fun o => by
    funext q
    exact Ok_eq o (by decide)
  have o34 : ∀ {k : mh_T} {j : Nat} {v : Int32}, mI (wI k 57 j v) 11 34 = mI k 11 34 := by
    intro k j v
    rw [mI_wI, if_neg (fun z => absurd z.1 (by decide))]
  generalize hf : (fun q => mI h 45 (86 + q)) = f at *
  have L : ∀ (m : Nat), (∀ (l1 : Int32) (i : Nat) (k : mh_T), l1.toInt = (i : Int) → i ≤ n → 400 - 20 * i < m → Ok [300, 11, 56, 57] h k → mI k 11 34 = 0 → (∀ a b, a < i → b < n → bt (mI k 57 a) b = sqA f a b) → ME g uX11_layCorners 7 [.ref 11, .int l1, .retAddr 0, .retAddr 0, .retAddr 0] [] k (qV P)) ∧ (∀ (l1 l2 : Int32) (i j : Nat) (k : mh_T), l1.toInt = (i : Int) → i < n → l2.toInt = (j : Int) → j ≤ n → 400 - 20 * i - 1 - j < m → Ok [300, 11, 56, 57] h k → mI k 11 34 = 0 → (∀ a b, a < i → b < n → bt (mI k 57 a) b = sqA f a b) → (∀ b, b < j → bt (mI k 57 i) b = sqA f i b) → (∀ b, j ≤ b → b < 18 → bt (mI k 57 i) b = false) → ME g uX11_layCorners 27 [.ref 11, .int l1, .int l2, .retAddr 0, .retAddr 0] [] k (qV P)) := by
    intro m
    induction m with
    | zero => exact ⟨fun _ _ _ _ _ hm => absurd hm (Nat.not_lt_zero _), fun _ _ _ _ _ _ _ _ _ hm => absurd hm (Nat.not_lt_zero _)⟩
    | succ m ih =>
      refine ⟨fun l1 i k e1 hi hm ok q d => ?_, fun l1 l2 i j k e1 hi e2 hj hm ok q d d1 d0 => ?_⟩
      · refine r_X11_layCorners_7 l1 ⟨fun z => ?_, fun z => ?_⟩
        · rw [i_le, k85 ok, e1] at z
          have e : i = n := by omega
          rw [e] at d
          refine w_corners (A := sqA f) hn ok.1 (k85 ok) d ht q (fun h' ok' w c => hp h' (Ok_tr ok ok' (by decide)) (fun a b ha hb => ?_) c)
          rw [show mI h' 57 a = mI k 57 a from congrFun w a]
          exact d a b ha hb
        · rw [i_le, k85 ok, e1] at z
          rw [i_nat e1]
          refine ⟨i_vp e1 (by omega), ih.2 l1 0 i 0 _ e1 (by omega) (by decide) (Nat.zero_le _) (by omega) (Ok_w ok (k := 57) (lo := -2147483648) (hi := 2147483647) rfl (R_full _) (by decide) (nt_k (by decide))) (o34.trans q) (fun a b ha hb => ?_) (fun b hb => absurd hb (Nat.not_lt_zero b)) (fun b _ hb => ?_)⟩
          · rw [mI_wI, if_neg (by omega)]
            exact d a b ha hb
          · rw [mI_wI, if_pos ⟨rfl, rfl⟩]
            exact bt_00 b hb
      · have e2' := i_inc e2 (by omega)
        refine r_X11_layCorners_27 l1 l2 ⟨fun z => ?_, fun z => ?_⟩
        · rw [i_le, k85 ok, e2] at z
          have e : j = n := by omega
          rw [e] at d1
          refine ih.1 (l1 + 1) (i + 1) k (i_inc e1 (by omega)) (by omega) (by omega) ok q (fun a b ha hb => ?_)
          by_cases y : a = i
          · rw [y]; exact d1 b hb
          · exact d a b (by omega) hb
        · rw [i_le, k85 ok, e2] at z
          rw [i_nat e1]
          have nx : ∀ v : Int32, (∀ b, b < 18 → bt v b = if b = j then sqA f i j else bt (mI k 57 i) b) → ME g uX11_layCorners 27 [.ref 11, .int l1, .int (l2 + 1), .retAddr 0, .retAddr 0] [] (wI k 57 i v) (qV P) := fun v hv => by
            refine ih.2 l1 (l2 + 1) i (j + 1) _ e1 hi e2' (by omega) (by omega) (Ok_w ok (k := 57) (lo := -2147483648) (hi := 2147483647) rfl (R_full _) (by decide) (nt_k (by decide))) (o34.trans q) (fun a b ha hb => ?_) (fun b hb => ?_) (fun b hb h18 => ?_)
            · rw [mI_wI, if_neg (by omega)]
              exact d a b ha hb
            · rw [mI_wI, if_pos ⟨rfl, rfl⟩, hv b (by omega)]
              by_cases y : b = j
              · rw [if_pos y, y]
              · rw [if_neg y]; exact d1 b (by omega)
            · rw [mI_wI, if_pos ⟨rfl, rfl⟩, hv b h18, if_neg (by omega)]
              exact d0 b (by omega) h18
          have nz : sqA f i j = false → ∀ b, b < 18 → bt (mI k 57 i ||| 0) b = if b = j then sqA f i j else bt (mI k 57 i) b := fun y b hb => by
            rw [bt_or2, bt_00 b hb, Bool.or_false]
            by_cases e : b = j
            · rw [if_pos e, e, y]; exact d0 j (Nat.le_refl _) (by omega)
            · rw [if_neg e]
          refine ⟨i_vp e1 (by omega), fun y => ⟨i_vp e1 (by omega), nx _ (nz ?_)⟩, fun y => w_areSquare l1 l2 e1 e2 (by omega) (by omega) (fun w => ⟨fun v => absurd v (by decide), fun _ => ⟨i_vp e1 (by omega), nx _ (fun b hb => ?_)⟩⟩) (fun w => ⟨fun _ => ⟨i_vp e1 (by omega), nx _ (nz ?_)⟩, fun v => absurd rfl v⟩)⟩
          · have : j = i := by
              have := congrArg Int32.toInt y
              rw [e1, e2] at this
              omega
            rw [this]
            exact sqA_i f i
          · have ne : ¬ j = i := fun e => y (Int32.toInt_inj.mp (by rw [e1, e2, e]))
            rw [k45 ok] at w
            rw [bt_or18 e2 (by omega) hb, sqA_t ne, decide_eq_true w]
            by_cases e : b = j
            · rw [if_pos e, e]; simp
            · rw [if_neg e, beq_false_of_ne e, Bool.false_or]
          · have ne : ¬ j = i := fun e => y (Int32.toInt_inj.mp (by rw [e1, e2, e]))
            rw [k45 ok] at w
            rw [sqA_t ne, decide_eq_false w]
  have o1 := Ok_w (ms := [300, 11, 56, 57]) (Ok_rf hG) (k := 11) (j := 34) (v := 0) (lo := 0) (hi := 3060) (by decide) ⟨by decide, by decide⟩ (by decide) (by decide)
  exact e_X11_layCorners ((L 500).1 0 0 _ (by decide) (Nat.zero_le _) (by omega) o1 (by rw [mI_wI, if_pos ⟨rfl, rfl⟩]) (fun a b ha => absurd ha (Nat.not_lt_zero a)))
