/-! cycles: surplus, excessOf -/
def al (a : Nat → Int32) (s : Nat) : Int := (a (17 + 4 * s)).toInt + (a (17 + 4 * s + 3)).toInt - (a (17 + 4 * s + 1)).toInt - (a (17 + 4 * s + 2)).toInt
/-! cycles: excessOf -/
/-! cycles: greatest, widest -/
/-! the reference's squares and corners -/
theorem v_has18 {g : gT} {h : mh_T} {P : Int32 → mh_T → Prop} (l x : Int32) (s : Nat) (e : x.toInt = (s : Int)) (hs : s < 18) (h1 : bt l s = true → P 1 h) (h0 : ¬ bt l s = true → P 0 h) : MCi g yX11_has uX11_has [.int l, .int x] h P := by
  refine e_X11_has l x ?_
  rw [bt_s18 e hs]
  by_cases y : bt l s = true
  · rw [if_pos y]
    exact ⟨fun w => absurd rfl w, fun _ => h1 y⟩
  · rw [if_neg y]
    exact ⟨fun _ => h0 y, fun w => absurd w (by decide)⟩
theorem w_areSquare {g : gT} {h : mh_T} {P : Int32 → mh_T → Prop} {i j : Nat} (l1 l2 : Int32) (e1 : l1.toInt = (i : Int)) (e2 : l2.toInt = (j : Int)) (hi : i < 18) (hj : j < 18) (h1 : dtk (fun q => mI h 45 (86 + q)) i j 4 = 0 → P 1 h) (h0 : ¬ dtk (fun q => mI h 45 (86 + q)) i j 4 = 0 → P 0 h) : MCi g yX11_areSquare uX11_areSquare [.ref 11, .int l1, .int l2] h P := by
  have i4 : (4 : Int32).toInt = 4 := by decide
  have ix : ∀ (l m : Int32) (s o : Nat), l.toInt = (s : Int) → s < 18 → m.toInt = (o : Int) → o < 4 → ((86 + (4 * l)) + m).toInt = ((86 + (4 * s + o) : Nat) : Int) := fun l m s o hl hs hm ho => by
    have a : (4 * l).toInt = 4 * (s : Int) := by
      rw [Int32.toInt_mul, hl, i4, bm (by omega) (by omega)]
    have b : (86 + (4 * l)).toInt = 86 + 4 * (s : Int) := i_add (by decide) a (by omega)
    rw [i_add b hm (by omega)]
    omega
  have L : ∀ (m : Nat) (l3 l4 : Int32) (k : Nat), l4.toInt = (k : Int) → k ≤ 4 → 4 - k < m → l3 = dtk (fun q => mI h 45 (86 + q)) i j k → ME g uX11_areSquare 5 [.ref 11, .int l1, .int l2, .int l3, .int l4] [] h (qI P) := by
    intro m
    induction m with
    | zero => intro l3 l4 k _ _ hm; exact absurd hm (Nat.not_lt_zero _)
    | succ m ih =>
      intro l3 l4 k e4 hk hm e3
      refine r_X11_areSquare_5 l1 l2 l3 l4 ⟨fun z => ?_, fun z => ?_⟩
      · rw [i_le, i4, e4] at z
        have : k = 4 := by omega
        subst this
        rw [e3]
        exact ⟨h0, h1⟩
      · rw [i_le, i4, e4] at z
        have ia := ix l1 l4 i k e1 hi e4 (by omega)
        have ib := ix l2 l4 j k e2 hj e4 (by omega)
        refine ⟨i_vp ia (by omega), i_vp ib (by omega), fun x5 ex => ih x5 (l4 + 1) (k + 1) (i_inc e4 (by omega)) (by omega) (by omega) ?_⟩
        rw [ex, i_nat ia, i_nat ib, e3]
        rfl
  exact e_X11_areSquare l1 l2 (L 5 0 0 0 (by decide) (by omega) (by omega) rfl)
/-- the reference's corners -/
theorem w_corners {g : gT} {h0 : mh_T} {P : mh_T → Prop} {A : Nat → Nat → Bool} {n : Nat} (hn : n ≤ 18) (hG : GI h0) (en : (mI h0 45 85).toInt = (n : Int)) (hm : ∀ i j, i < n → j < n → bt (mI h0 57 i) j = A i j) (ht : (kb A 4 0 (rl 0 n)).length ≤ 400) (h34 : mI h0 11 34 = 0) (hp : ∀ h', Ok [300, 11, 56, 57] h0 h' → h'.1 57 = h0.1 57 → Cn 56 11 34 h' (kb A 4 0 (rl 0 n)) → P h') : ME g uX11_layCorners 82 [.ref 11, .int 0, .retAddr 0, .retAddr 0, .retAddr 0] [] h0 (qV P) := by
  have k85 : ∀ {k : mh_T}, Ok [300, 11, 56, 57] h0 k → (mI k 45 (Int32.toNatClampNeg 85)).toInt = (n : Int) := fun o => by
    show (mI _ 45 85).toInt = _
    rw [o.2.2.2.2.1 45 85 (by decide)]
    exact en
  have k57 : ∀ {k : mh_T}, k.1 57 = h0.1 57 → ∀ j, mI k 57 j = mI h0 57 j := fun o j => congrFun o j
  have L : ∀ (m : Nat), (∀ (l1 : Int32) (a : Nat) (k : mh_T) (cur : List Int32), l1.toInt = (a : Int) → a ≤ n → 8000 * (18 - a) + 7999 < m → Ok [300, 11, 56, 57] h0 k → k.1 57 = h0.1 57 → Cn 56 11 34 k cur → cur ++ kb A 4 0 (rl a n) = kb A 4 0 (rl 0 n) → ME g uX11_layCorners 82 [.ref 11, .int l1, .retAddr 0, .retAddr 0, .retAddr 0] [] k (qV P)) ∧ (∀ (l1 l2 : Int32) (a b : Nat) (k : mh_T) (cur : List Int32), l1.toInt = (a : Int) → a < n → l2.toInt = (b : Int) → a < b → b ≤ n → 8000 * (18 - a) + 400 * (18 - b) + 399 < m → Ok [300, 11, 56, 57] h0 k → k.1 57 = h0.1 57 → Cn 56 11 34 k cur → cur ++ (kb A 3 (bs 0 a) ((rl b n).filter (A a)) ++ kb A 4 0 (rl (a + 1) n)) = kb A 4 0 (rl 0 n) → ME g uX11_layCorners 97 [.ref 11, .int l1, .int l2, .retAddr 0, .retAddr 0] [] k (qV P)) ∧ (∀ (l1 l2 l3 : Int32) (a b c : Nat) (k : mh_T) (cur : List Int32), l1.toInt = (a : Int) → a < n → l2.toInt = (b : Int) → a < b → b < n → l3.toInt = (c : Int) → b < c → c ≤ n → 8000 * (18 - a) + 400 * (18 - b) + 20 * (18 - c) + 19 < m → Ok [300, 11, 56, 57] h0 k → k.1 57 = h0.1 57 → Cn 56 11 34 k cur → cur ++ (kb A 2 (bs (bs 0 a) b) (((rl c n).filter (A a)).filter (A b)) ++ (kb A 3 (bs 0 a) ((rl (b + 1) n).filter (A a)) ++ kb A 4 0 (rl (a + 1) n))) = kb A 4 0 (rl 0 n) → ME g uX11_layCorners 128 [.ref 11, .int l1, .int l2, .int l3, .retAddr 0] [] k (qV P)) ∧ (∀ (l1 l2 l3 l4 : Int32) (a b c d : Nat) (k : mh_T) (cur : List Int32), l1.toInt = (a : Int) → a < n → l2.toInt = (b : Int) → a < b → b < n → l3.toInt = (c : Int) → b < c → c < n → l4.toInt = (d : Int) → c < d → d ≤ n → 8000 * (18 - a) + 400 * (18 - b) + 20 * (18 - c) + (18 - d) < m → Ok [300, 11, 56, 57] h0 k → k.1 57 = h0.1 57 → Cn 56 11 34 k cur → cur ++ (kb A 1 (bs (bs (bs 0 a) b) c) ((((rl d n).filter (A a)).filter (A b)).filter (A c)) ++ (kb A 2 (bs (bs 0 a) b) (((rl (c + 1) n).filter (A a)).filter (A b)) ++ (kb A 3 (bs 0 a) ((rl (b + 1) n).filter (A a)) ++ kb A 4 0 (rl (a + 1) n)))) = kb A 4 0 (rl 0 n) → ME g uX11_layCorners 167 [.ref 11, .int l1, .int l2, .int l3, .int l4] [] k (qV P)) := by
    intro m
    induction m with
    | zero => exact ⟨fun _ _ _ _ _ _ hm => absurd hm (Nat.not_lt_zero _), fun _ _ _ _ _ _ _ _ _ _ _ hm => absurd hm (Nat.not_lt_zero _), fun _ _ _ _ _ _ _ _ _ _ _ _ _ _ _ _ hm => absurd hm (Nat.not_lt_zero _), fun _ _ _ _ _ _ _ _ _ _ _ _ _ _ _ _ _ _ _ _ _ hm => absurd hm (Nat.not_lt_zero _)⟩
    | succ m ih =>
      refine ⟨fun l1 a k cur e1 ha hmm ok w q et => ?_, fun l1 l2 a b k cur e1 ha e2 hab hb hmm ok w q et => ?_, fun l1 l2 l3 a b c k cur e1 ha e2 hab hb e3 hbc hc hmm ok w q et => ?_, fun l1 l2 l3 l4 a b c d k cur e1 ha e2 hab hb e3 hbc hc e4 hcd hd hmm ok w q et => ?_⟩
      · refine r_X11_layCorners_82 l1 ⟨fun z => ?_, fun z x2 ex2 => ?_⟩
        · rw [i_le, k85 ok, e1] at z
          rw [rl_n (by omega), kb_n, List.append_nil] at et
          exact hp k ok w (by rw [← et]; exact q)
        · rw [i_le, k85 ok, e1] at z
          rw [rl_c (by omega), kb_c] at et
          exact ih.2.1 l1 x2 a (a + 1) k cur e1 (by omega) (by rw [ex2]; exact i_inc e1 (by omega)) (by omega) (by omega) (by omega) ok w q et
      · refine r_X11_layCorners_97 l1 l2 ⟨fun z => ?_, fun z => ?_⟩
        · rw [i_le, k85 ok, e2] at z
          rw [rl_n (by omega), List.filter_nil, kb_n, List.nil_append] at et
          exact ih.1 (l1 + 1) (a + 1) k cur (i_inc e1 (by omega)) (by omega) (by omega) ok w q et
        · rw [i_le, k85 ok, e2] at z
          have e2' := i_inc e2 (by omega)
          rw [i_nat e1]
          rw [rl_c (by omega)] at et
          refine ⟨i_vp e1 (by omega), v_has18 _ l2 b e2 (by omega) (fun y => ⟨fun _ x6 ex6 => ?_, fun v => absurd v (by decide)⟩) (fun y => ⟨fun v => absurd rfl v, fun _ => ?_⟩)⟩
          · rw [k57 w, hm a b ha (by omega)] at y
            rw [List.filter_cons_of_pos y, kb_c, List.append_assoc] at et
            exact ih.2.2.1 l1 l2 x6 a b (b + 1) k cur e1 ha e2 hab (by omega) (by rw [ex6]; exact e2') (by omega) (by omega) (by omega) ok w q et
          · rw [k57 w, hm a b ha (by omega)] at y
            rw [List.filter_cons_of_neg y] at et
            exact ih.2.1 l1 (l2 + 1) a (b + 1) k cur e1 ha e2' (by omega) (by omega) (by omega) ok w q et
      · refine r_X11_layCorners_128 l1 l2 l3 ⟨fun z => ?_, fun z => ?_⟩
        · rw [i_le, k85 ok, e3] at z
          rw [rl_n (by omega), List.filter_nil, List.filter_nil, kb_n, List.nil_append] at et
          exact ih.2.1 l1 (l2 + 1) a (b + 1) k cur e1 ha (i_inc e2 (by omega)) (by omega) (by omega) (by omega) ok w q et
        · rw [i_le, k85 ok, e3] at z
          have e3' := i_inc e3 (by omega)
          rw [i_nat e1, i_nat e2]
          rw [rl_c (by omega)] at et
          refine ⟨i_vp e1 (by omega), i_vp e2 (by omega), v_has18 _ l3 c e3 (by omega) (fun y => ⟨fun _ x7 ex7 => ?_, fun v => absurd v (by decide)⟩) (fun y => ⟨fun v => absurd rfl v, fun _ => ?_⟩)⟩
          · rw [bt_and, k57 w, k57 w, hm a c ha (by omega), hm b c hb (by omega)] at y
            obtain ⟨y1, y2⟩ := Bool.and_eq_true_iff.mp y
            rw [List.filter_cons_of_pos y1, List.filter_cons_of_pos y2, kb_c, List.append_assoc] at et
            exact ih.2.2.2 l1 l2 l3 x7 a b c (c + 1) k cur e1 ha e2 hab hb e3 hbc (by omega) (by rw [ex7]; exact e3') (by omega) (by omega) (by omega) ok w q et
          · rw [bt_and, k57 w, k57 w, hm a c ha (by omega), hm b c hb (by omega)] at y
            have eg : ((c :: rl (c + 1) n).filter (A a)).filter (A b) = ((rl (c + 1) n).filter (A a)).filter (A b) := by
              by_cases y1 : A a c = true
              · rw [List.filter_cons_of_pos y1, List.filter_cons_of_neg (fun y2 => y (by rw [y1, y2]; rfl))]
              · rw [List.filter_cons_of_neg y1]
            rw [eg] at et
            exact ih.2.2.1 l1 l2 (l3 + 1) a b (c + 1) k cur e1 ha e2 hab hb e3' (by omega) (by omega) (by omega) ok w q et
      · refine r_X11_layCorners_167 l1 l2 l3 l4 ⟨fun z => ?_, fun z => ?_⟩
        · rw [i_le, k85 ok, e4] at z
          rw [rl_n (by omega), List.filter_nil, List.filter_nil, List.filter_nil, kb_n, List.nil_append] at et
          exact ih.2.2.1 l1 l2 (l3 + 1) a b (c + 1) k cur e1 ha e2 hab hb (i_inc e3 (by omega)) (by omega) (by omega) (by omega) ok w q et
        · rw [i_le, k85 ok, e4] at z
          have e4' := i_inc e4 (by omega)
          rw [i_nat e1, i_nat e2, i_nat e3]
          rw [rl_c (by omega)] at et
          refine ⟨i_vp e1 (by omega), i_vp e2 (by omega), i_vp e3 (by omega), v_has18 _ l4 d e4 (by omega) (fun y => ⟨fun _ => ?_, fun v => absurd v (by decide)⟩) (fun y => ⟨fun v => absurd rfl v, fun _ => ?_⟩)⟩
          · rw [bt_and, bt_and, k57 w, k57 w, k57 w, hm a d ha (by omega), hm b d hb (by omega), hm c d hc (by omega)] at y
            obtain ⟨y12, y3⟩ := Bool.and_eq_true_iff.mp y
            obtain ⟨y1, y2⟩ := Bool.and_eq_true_iff.mp y12
            rw [List.filter_cons_of_pos y1, List.filter_cons_of_pos y2, List.filter_cons_of_pos y3, kb_c, List.append_assoc] at et
            have et : cur ++ ([bs (bs (bs (bs 0 a) b) c) d] ++ (kb A 1 (bs (bs (bs 0 a) b) c) ((((rl (d + 1) n).filter (A a)).filter (A b)).filter (A c)) ++ (kb A 2 (bs (bs 0 a) b) (((rl (c + 1) n).filter (A a)).filter (A b)) ++ (kb A 3 (bs 0 a) ((rl (b + 1) n).filter (A a)) ++ kb A 4 0 (rl (a + 1) n))))) = kb A 4 0 (rl 0 n) := et
            have hl : cur.length < 400 := by
              have := congrArg List.length et
              rw [List.length_append, List.length_append] at this
              have : ([bs (bs (bs (bs 0 a) b) c) d] : List Int32).length = 1 := rfl
              omega
            refine ⟨i_vp q.1 (by omega), ?_⟩
            rw [bs_0 e1 (by omega), bs_e e2 (by omega), bs_e e3 (by omega), bs_e e4 (by omega)]
            have o1 := Ok_w ok (k := 56) (j := (mI k 11 34).toNatClampNeg) (v := bs (bs (bs (bs 0 a) b) c) d) (lo := -2147483648) (hi := 2147483647) rfl (R_full _) (by decide) (nt_k (by decide))
            have e34 : mI (wI k 56 (mI k 11 34).toNatClampNeg (bs (bs (bs (bs 0 a) b) c) d)) 11 34 = mI k 11 34 := by rw [mI_wI, if_neg (fun z => absurd z.1 (by decide))]
            have f34 : (mI k 11 34 + 1).toInt = ((cur.length + 1 : Nat) : Int) := i_inc q.1 (by omega)
            have o2 := Ok_w o1 (k := 11) (j := 34) (v := mI (wI k 56 (mI k 11 34).toNatClampNeg (bs (bs (bs (bs 0 a) b) c) d)) 11 34 + 1) (lo := 0) (hi := 3060) (by decide) (by rw [e34]; exact ⟨by omega, by omega⟩) (by decide) (by decide)
            refine ih.2.2.2 l1 l2 l3 (l4 + 1) a b c (d + 1) _ _ e1 ha e2 hab hb e3 hbc hc e4' (by omega) (by omega) (by omega) o2 ?_ (Cn_add (by decide) q (by omega)) (by rw [List.append_assoc]; exact et)
            rw [← w]
            exact (wI_o (by decide)).trans (wI_o (by decide))
          · rw [bt_and, bt_and, k57 w, k57 w, k57 w, hm a d ha (by omega), hm b d hb (by omega), hm c d hc (by omega)] at y
            have eg : (((d :: rl (d + 1) n).filter (A a)).filter (A b)).filter (A c) = (((rl (d + 1) n).filter (A a)).filter (A b)).filter (A c) := by
              by_cases y1 : A a d = true
              · by_cases y2 : A b d = true
                · rw [List.filter_cons_of_pos y1, List.filter_cons_of_pos y2, List.filter_cons_of_neg (fun y3 => y (by rw [y1, y2, y3]; rfl))]
                · rw [List.filter_cons_of_pos y1, List.filter_cons_of_neg y2]
              · rw [List.filter_cons_of_neg y1]
            rw [eg] at et
            exact ih.2.2.2 l1 l2 l3 (l4 + 1) a b c (d + 1) k cur e1 ha e2 hab hb e3 hbc hc e4' (by omega) (by omega) (by omega) ok w q et
  exact (L 160000).1 0 0 h0 [] (by decide) (Nat.zero_le _) (by omega) (Ok_rf hG) rfl (Cn_0 h34) rfl
/-- the reference's squares, then its corners -/
theorem w_layCorners {g : gT} {h : mh_T} {P : mh_T → Prop} {n : Nat} (hn : n ≤ 18) (hG : GI h) (en : (mI h 45 85).toInt = (n : Int)) (ht : (kb (sqA (fun q => mI h 45 (86 + q))) 4 0 (rl 0 n)).length ≤ 400) (hp : ∀ h', Ok [300, 11, 56, 57] h h' → (∀ i j, i < n → j < n → bt (mI h' 57 i) j = sqA (fun q => mI h 45 (86 + q)) i j) → Cn 56 11 34 h' (kb (sqA (fun q => mI h 45 (86 + q))) 4 0 (rl 0 n)) → P h') : MCv g yX11_layCorners uX11_layCorners [.ref 11] h P := by
  have k85 : ∀ {k : mh_T}, Ok [300, 11, 56, 57] h k → (mI k 45 (Int32.toNatClampNeg 85)).toInt = (n : Int) := fun o => by
    show (mI _ 45 85).toInt = _
    rw [o.2.2.2.2.1 45 85 (by decide)]
    exact en
  have k45 : ∀ {k : mh_T}, Ok [300, 11, 56, 57] h k → (fun q => mI k 45 (86 + q)) = fun q => mI h 45 (86 + q) := fun o => by
    funext q
    exact Ok_eq o (by decide)
  have o34 : ∀ {k : mh_T} {j : Nat} {v : Int32}, mI (wI k 57 j v) 11 34 = mI k 11 34 := by
    intro k j v
    rw [mI_wI, if_neg (fun z => absurd z.1 (by decide))]
  generalize hf : (fun q => mI h 45 (86 + q)) = f at *
  have L : ∀ (m : Nat), (∀ (l1 : Int32) (i : Nat) (k : mh_T), l1.toInt = (i : Int) → i ≤ n → 400 - 20 * i < m → Ok [300, 11, 56, 57] h k → mI k 11 34 = 0 → (∀ a b, a < i → b < n → bt (mI k 57 a) b = sqA f a b) → ME g uX11_layCorners 7 [.ref 11, .int l1, .retAddr 0, .retAddr 0, .retAddr 0] [] k (qV P)) ∧ (∀ (l1 l2 : Int32) (i j : Nat) (k : mh_T), l1.toInt = (i : Int) → i < n → l2.toInt = (j : Int) → j ≤ n → 400 - 20 * i - 1 - j < m → Ok [300, 11, 56, 57] h k → mI k 11 34 = 0 → (∀ a b, a < i → b < n → bt (mI k 57 a) b = sqA f a b) → (∀ b, b < j → bt (mI k 57 i) b = sqA f i b) → (∀ b, j ≤ b → b < 18 → bt (mI k 57 i) b = false) → ME g uX11_layCorners 27 [.ref 11, .int l1, .int l2, .retAddr 0, .retAddr 0] [] k (qV P)) := by
    intro m
    induction m with
    | zero => exact ⟨fun _ _ _ _ _ hm => absurd hm (Nat.not_lt_zero _), fun _ _ _ _ _ _ _ _ _ hm => absurd hm (Nat.not_lt_zero _)⟩
    | succ m ih =>
      refine ⟨fun l1 i k e1 hi hm ok q d => ?_, fun l1 l2 i j k e1 hi e2 hj hm ok q d d1 d0 => ?_⟩
      · refine r_X11_layCorners_7 l1 ⟨fun z => ?_, fun z => ?_⟩
        · rw [i_le, k85 ok, e1] at z
          have e : i = n := by omega
          rw [e] at d
          refine w_corners (A := sqA f) hn ok.1 (k85 ok) d ht q (fun h' ok' w c => hp h' (Ok_tr ok ok' (by decide)) (fun a b ha hb => ?_) c)
          rw [show mI h' 57 a = mI k 57 a from congrFun w a]
          exact d a b ha hb
        · rw [i_le, k85 ok, e1] at z
          rw [i_nat e1]
          refine ⟨i_vp e1 (by omega), ih.2 l1 0 i 0 _ e1 (by omega) (by decide) (Nat.zero_le _) (by omega) (Ok_w ok (k := 57) (lo := -2147483648) (hi := 2147483647) rfl (R_full _) (by decide) (nt_k (by decide))) (o34.trans q) (fun a b ha hb => ?_) (fun b hb => absurd hb (Nat.not_lt_zero b)) (fun b _ hb => ?_)⟩
          · rw [mI_wI, if_neg (by omega)]
            exact d a b ha hb
          · rw [mI_wI, if_pos ⟨rfl, rfl⟩]
            exact bt_00 b hb
      · have e2' := i_inc e2 (by omega)
        refine r_X11_layCorners_27 l1 l2 ⟨fun z => ?_, fun z => ?_⟩
        · rw [i_le, k85 ok, e2] at z
          have e : j = n := by omega
          rw [e] at d1
          refine ih.1 (l1 + 1) (i + 1) k (i_inc e1 (by omega)) (by omega) (by omega) ok q (fun a b ha hb => ?_)
          by_cases y : a = i
          · rw [y]; exact d1 b hb
          · exact d a b (by omega) hb
        · rw [i_le, k85 ok, e2] at z
          rw [i_nat e1]
          have nx : ∀ v : Int32, (∀ b, b < 18 → bt v b = if b = j then sqA f i j else bt (mI k 57 i) b) → ME g uX11_layCorners 27 [.ref 11, .int l1, .int (l2 + 1), .retAddr 0, .retAddr 0] [] (wI k 57 i v) (qV P) := fun v hv => by
            refine ih.2 l1 (l2 + 1) i (j + 1) _ e1 hi e2' (by omega) (by omega) (Ok_w ok (k := 57) (lo := -2147483648) (hi := 2147483647) rfl (R_full _) (by decide) (nt_k (by decide))) (o34.trans q) (fun a b ha hb => ?_) (fun b hb => ?_) (fun b hb h18 => ?_)
            · rw [mI_wI, if_neg (by omega)]
              exact d a b ha hb
            · rw [mI_wI, if_pos ⟨rfl, rfl⟩, hv b (by omega)]
              by_cases y : b = j
              · rw [if_pos y, y]
              · rw [if_neg y]; exact d1 b (by omega)
            · rw [mI_wI, if_pos ⟨rfl, rfl⟩, hv b h18, if_neg (by omega)]
              exact d0 b (by omega) h18
          have nz : sqA f i j = false → ∀ b, b < 18 → bt (mI k 57 i ||| 0) b = if b = j then sqA f i j else bt (mI k 57 i) b := fun y b hb => by
            rw [bt_or2, bt_00 b hb, Bool.or_false]
            by_cases e : b = j
            · rw [if_pos e, e, y]; exact d0 j (Nat.le_refl _) (by omega)
            · rw [if_neg e]
          refine ⟨i_vp e1 (by omega), fun y => ⟨i_vp e1 (by omega), nx _ (nz ?_)⟩, fun y => w_areSquare l1 l2 e1 e2 (by omega) (by omega) (fun w => ⟨fun v => absurd v (by decide), fun _ => ⟨i_vp e1 (by omega), nx _ (fun b hb => ?_)⟩⟩) (fun w => ⟨fun _ => ⟨i_vp e1 (by omega), nx _ (nz ?_)⟩, fun v => absurd rfl v⟩)⟩
          · have : j = i := by
              have := congrArg Int32.toInt y
              rw [e1, e2] at this
              omega
            rw [this]
            exact sqA_i f i
          · have ne : ¬ j = i := fun e => y (Int32.toInt_inj.mp (by rw [e1, e2, e]))
            rw [k45 ok] at w
            rw [bt_or18 e2 (by omega) hb, sqA_t ne, decide_eq_true w]
            by_cases e : b = j
            · rw [if_pos e, e]; simp
            · rw [if_neg e, beq_false_of_ne e, Bool.false_or]
          · have ne : ¬ j = i := fun e => y (Int32.toInt_inj.mp (by rw [e1, e2, e]))
            rw [k45 ok] at w
            rw [sqA_t ne, decide_eq_false w]
  have o1 := Ok_w (ms := [300, 11, 56, 57]) (Ok_rf hG) (k := 11) (j := 34) (v := 0) (lo := 0) (hi := 3060) (by decide) ⟨by decide, by decide⟩ (by decide) (by decide)
  exact e_X11_layCorners ((L 500).1 0 0 _ (by decide) (Nat.zero_le _) (by omega) o1 (by rw [mI_wI, if_pos ⟨rfl, rfl⟩]) (fun a b ha => absurd ha (Nat.not_lt_zero a)))
/-! colours: sets of rays, gone through one ray after another: how many, and the most rays of one -/
def pj (x y : Nat × Nat) : Nat × Nat := (x.1 + y.1, max x.2 y.2)
theorem pj_c (x y : Nat × Nat) : pj x y = pj y x := by unfold pj; rw [Nat.add_comm, Nat.max_comm]
theorem pj_a (x y z : Nat × Nat) : pj (pj x y) z = pj x (pj y z) := by
  show (x.1 + y.1 + z.1, max (max x.2 y.2) z.2) = (x.1 + (y.1 + z.1), max x.2 (max y.2 z.2))
  rw [Nat.add_assoc, Nat.max_assoc]
theorem pj_z (x : Nat × Nat) : pj (0, 0) x = x := by
  show (0 + x.1, max 0 x.2) = x
  rw [Nat.zero_add, Nat.zero_max]
theorem pj_y (x : Nat × Nat) : pj x (0, 0) = x := by rw [pj_c, pj_z]
def pcI (x : Int32) : Nat := cN (fun t => bt x t) 32
noncomputable def cm (Q : Int32 → Prop) : List Nat → Int32 → Nat × Nat
  | [], acc => @ite (Nat × Nat) (Q acc) (Classical.propDecidable (Q acc)) (1, pcI acc) (0, 0)
  | v :: L, acc => pj (cm Q L (bs acc v)) (cm Q L acc)
theorem cm_c (Q : Int32 → Prop) (v : Nat) (L : List Nat) (acc : Int32) : cm Q (v :: L) acc = pj (cm Q L (bs acc v)) (cm Q L acc) := rfl
theorem cm_n1 {Q : Int32 → Prop} {acc : Int32} (h : Q acc) : cm Q [] acc = (1, pcI acc) := by
  show @ite (Nat × Nat) (Q acc) (Classical.propDecidable (Q acc)) (1, pcI acc) (0, 0) = _
  exact @if_pos (Q acc) (Classical.propDecidable (Q acc)) h (Nat × Nat) _ _
theorem cm_n0 {Q : Int32 → Prop} {acc : Int32} (h : ¬ Q acc) : cm Q [] acc = (0, 0) := by
  show @ite (Nat × Nat) (Q acc) (Classical.propDecidable (Q acc)) (1, pcI acc) (0, 0) = _
  exact @if_neg (Q acc) (Classical.propDecidable (Q acc)) h (Nat × Nat) _ _
theorem bs_bt (acc : Int32) {v : Nat} (hv : v < 32) (t : Nat) : bt (bs acc v) t = (bt acc t || decide (v = t)) := bt_orA (Int32.toInt_ofNat_of_lt (by omega)) hv t
theorem bs_cm (acc : Int32) (u v : Nat) : bs (bs acc u) v = bs (bs acc v) u := by
  unfold bs
  rw [Int32.or_assoc, Int32.or_comm (1 <<< (Int32.ofNat u &&& 31)), ← Int32.or_assoc]
theorem cm_perm (Q : Int32 → Prop) {L M : List Nat} (h : L.Perm M) : ∀ acc, cm Q L acc = cm Q M acc := by
  induction h with
  | nil => intro acc; rfl
  | cons x _ ih => intro acc; rw [cm_c, cm_c, ih, ih]
  | swap x y l =>
    intro acc
    rw [cm_c, cm_c, cm_c, cm_c, cm_c, cm_c, bs_cm acc y x, pj_a, pj_a, ← pj_a (cm Q l (bs acc y)), pj_c (cm Q l (bs acc y)), pj_a]
  | trans _ _ i1 i2 => intro acc; rw [i1, i2]
/-- a set that has what is chosen, and besides only what is still to be gone through -/
def exS (L : List Nat) (acc S : Int32) : Prop := ∀ t, (bt acc t = true → bt S t = true) ∧ (bt S t = true → bt acc t = true ∨ t ∈ L)
theorem exS_1 {L : List Nat} {v : Nat} {acc S : Int32} (hv : v < 32) (h : exS L (bs acc v) S) : exS (v :: L) acc S ∧ bt S v = true := by
  refine ⟨fun t => ?_, (h v).1 (by rw [bs_bt acc hv, decide_eq_true rfl, Bool.or_true])⟩
  obtain ⟨a, b⟩ := h t
  refine ⟨fun x => a (by rw [bs_bt acc hv, x]; rfl), fun y => ?_⟩
  rcases b y with z | z
  · rw [bs_bt acc hv, Bool.or_eq_true] at z
    rcases z with z | z
    · exact Or.inl z
    · rw [← of_decide_eq_true z]; exact Or.inr List.mem_cons_self
  · exact Or.inr (List.mem_cons_of_mem v z)
theorem exS_0 {L : List Nat} {v : Nat} {acc S : Int32} (h : exS L acc S) : exS (v :: L) acc S := fun t => ⟨(h t).1, fun y => ((h t).2 y).imp id (fun z => List.mem_cons_of_mem v z)⟩
theorem exS_rf (L : List Nat) (acc : Int32) : exS L acc acc := fun _ => ⟨id, Or.inl⟩
theorem cm_0 {Q : Int32 → Prop} : ∀ (L : List Nat) (acc : Int32), (∀ v, v ∈ L → v < 32) → (∀ S, exS L acc S → ¬ Q S) → cm Q L acc = (0, 0)
  | [], acc, _, h => cm_n0 (h acc (exS_rf [] acc))
  | v :: L, acc, hl, h => by
    have v32 := hl v List.mem_cons_self
    rw [cm_c, cm_0 L (bs acc v) (fun u hu => hl u (List.mem_cons_of_mem v hu)) (fun S hS => h S (exS_1 v32 hS).1), cm_0 L acc (fun u hu => hl u (List.mem_cons_of_mem v hu)) (fun S hS => h S (exS_0 hS)), pj_z]
/-- those that no set can have are left out -/
theorem cm_drop {Q : Int32 → Prop} (p : Nat → Bool) : ∀ (L : List Nat) (acc : Int32), (∀ v, v ∈ L → v < 32) → (∀ u, u ∈ L → ¬ p u = true → ∀ S, exS L acc S → bt S u = true → ¬ Q S) → cm Q L acc = cm Q (L.filter p) acc
  | [], _, _, _ => rfl
  | v :: L, acc, hl, h => by
    have v32 := hl v List.mem_cons_self
    have hl' : ∀ u, u ∈ L → u < 32 := fun u hu => hl u (List.mem_cons_of_mem v hu)
    have i0 := cm_drop p L acc hl' (fun u hu hp S hS hb => h u (List.mem_cons_of_mem v hu) hp S (exS_0 hS) hb)
    by_cases hp : p v = true
    · rw [List.filter_cons_of_pos hp, cm_c, cm_c, i0, cm_drop p L (bs acc v) hl' (fun u hu hq S hS hb => h u (List.mem_cons_of_mem v hu) hq S (exS_1 v32 hS).1 hb)]
    · rw [List.filter_cons_of_neg hp, cm_c, i0, cm_0 L (bs acc v) hl' (fun S hS => h v List.mem_cons_self hp S (exS_1 v32 hS).1 (exS_1 v32 hS).2), pj_z]
theorem cN_one {p : Nat → Bool} {v : Nat} (hv : ¬ p v = true) : ∀ n, cN (fun t => p t || decide (v = t)) n = cN p n + (if v < n then 1 else 0)
  | 0 => rfl
  | n + 1 => by
    show cN (fun t => p t || decide (v = t)) n + (if (p n || decide (v = n)) = true then 1 else 0) = cN p n + (if p n = true then 1 else 0) + _
    rw [cN_one hv n]
    by_cases e : v = n
    · subst e
      rw [decide_eq_true rfl, Bool.or_true, if_pos rfl, if_neg hv, if_neg (Nat.lt_irrefl v), if_pos (Nat.lt_succ_self v)]
    · rw [decide_eq_false e, Bool.or_false]
      by_cases w : v < n
      · rw [if_pos w, if_pos (show v < n + 1 by omega)]; omega
      · rw [if_neg w, if_neg (show ¬ v < n + 1 by omega), Nat.add_zero, Nat.add_zero]
theorem pcI_bs {acc : Int32} {v : Nat} (hv : v < 32) (h : ¬ bt acc v = true) : pcI (bs acc v) = pcI acc + 1 := by
  unfold pcI
  rw [show (fun t => bt (bs acc v) t) = fun t => bt acc t || decide (v = t) from funext fun t => bs_bt acc hv t, cN_one (p := fun t => bt acc t) h 32, if_pos hv]
/-- all go -/
theorem cm_all {Q : Int32 → Prop} : ∀ (L : List Nat) (acc : Int32), L.Nodup → (∀ v, v ∈ L → v < 32 ∧ ¬ bt acc v = true) → (∀ S, exS L acc S → Q S) → cm Q L acc = (2 ^ L.length, pcI acc + L.length)
  | [], acc, _, _, h => cm_n1 (h acc (exS_rf [] acc))
  | v :: L, acc, hn, hl, h => by
    obtain ⟨v32, vn⟩ := hl v List.mem_cons_self
    obtain ⟨n1, n2⟩ := List.nodup_cons.mp hn
    rw [cm_c, cm_all L (bs acc v) n2 (fun u hu => ⟨(hl u (List.mem_cons_of_mem v hu)).1, fun z => by
      rw [bs_bt acc v32, Bool.or_eq_true] at z
      rcases z with z | z
      · exact (hl u (List.mem_cons_of_mem v hu)).2 z
      · rw [of_decide_eq_true z] at n1; exact n1 hu⟩) (fun S hS => h S (exS_1 v32 hS).1), cm_all L acc n2 (fun u hu => hl u (List.mem_cons_of_mem v hu)) (fun S hS => h S (exS_0 hS)), pcI_bs v32 vn]
    show (2 ^ L.length + 2 ^ L.length, max (pcI acc + 1 + L.length) (pcI acc + L.length)) = (2 ^ (L.length + 1), pcI acc + (L.length + 1))
    rw [Nat.pow_succ, Nat.max_eq_left (by omega)]
    congr 1 <;> omega
/-- one that is taken out of a list -/
theorem fl_out {p : Nat → Bool} {v : Nat} (hp : p v = true) : ∀ L : List Nat, L.Nodup → v ∈ L → (L.filter p).Perm (v :: L.filter (fun t => p t && !decide (t = v)))
  | [], _, h => by cases h
  | u :: L, hn, h => by
    obtain ⟨n1, n2⟩ := List.nodup_cons.mp hn
    by_cases e : u = v
    · subst e
      have k : (p u && !decide (u = u)) = false := by
        rw [decide_eq_true rfl, Bool.not_true, Bool.and_false]
      rw [List.filter_cons_of_pos hp, List.filter_cons_of_neg (by rw [k]; exact Bool.false_ne_true)]
      rw [List.filter_congr (q := fun t => p t && !decide (t = u)) (fun x hx => by
        show p x = (p x && !decide (x = u))
        rw [decide_eq_false (fun z => n1 (by rw [← z]; exact hx)), Bool.not_false, Bool.and_true])]
    · have hv : v ∈ L := (List.mem_cons.mp h).resolve_left (fun z => e z.symm)
      have ih := fl_out hp L n2 hv
      have k : (p u && !decide (u = v)) = p u := by
        rw [decide_eq_false e, Bool.not_false, Bool.and_true]
      by_cases hu : p u = true
      · rw [List.filter_cons_of_pos hu, List.filter_cons_of_pos (p := fun t => p t && !decide (t = v)) (by rw [k]; exact hu)]
        exact (ih.cons u).trans (List.Perm.swap v u _)
      · rw [List.filter_cons_of_neg hu, List.filter_cons_of_neg (p := fun t => p t && !decide (t = v)) (by rw [k]; exact hu)]
        exact ih
theorem rlk_nd : ∀ (k i : Nat), (rlk i k).Nodup
  | 0, _ => List.nodup_nil
  | k + 1, i => List.nodup_cons.mpr ⟨fun h => by have := rlk_m k (i + 1) h; omega, rlk_nd k (i + 1)⟩
theorem rl_nd (i n : Nat) : (rl i n).Nodup := rlk_nd _ _
theorem rlk_i : ∀ (k i x : Nat), i ≤ x → x < i + k → x ∈ rlk i k
  | 0, _, _, h1, h2 => by omega
  | k + 1, i, x, h1, h2 => by
    by_cases e : x = i
    · rw [e]; exact List.mem_cons_self
    · exact List.mem_cons_of_mem i (rlk_i k (i + 1) x (by omega) (by omega))
theorem rl_i {i n x : Nat} (h1 : i ≤ x) (h2 : x < n) : x ∈ rl i n := rlk_i _ _ _ h1 (by omega)
/-- no two square ones -/
def Ip (A : Nat → Nat → Bool) (S : Int32) : Prop := ∀ i j, bt S i = true → bt S j = true → A i j = false
/-- one of each corner that is there -/
def Cp (CL : List Int32) (K S : Int32) : Prop := ∀ c, c ∈ CL → (∀ t, bt c t = true → bt K t = true) → ∃ t, bt c t = true ∧ bt S t = true
/-- a colour of the rays K -/
def Qv (A : Nat → Nat → Bool) (CL : List Int32) (K : Int32) (S : Int32) : Prop := Ip A S ∧ Cp CL K S
/-! the number of set bits, all 32 of them (bcE of 4787921) -/
theorem bcsplit {b m y M : Nat} (hb : b < 256) (hm : m < 256) : (b + 256 * y) &&& (m + 256 * M) = (b &&& m) + 256 * (y &&& M) := by
  have hbm : b &&& m < 256 := Nat.lt_of_le_of_lt Nat.and_le_left hb
  apply Nat.eq_of_testBit_eq
  intro i
  rw [Nat.testBit_and, Nat.add_comm b, Nat.add_comm m, Nat.add_comm (b &&& m), Nat.testBit_two_pow_mul_add (i := 8) y hb, Nat.testBit_two_pow_mul_add (i := 8) M hm, Nat.testBit_two_pow_mul_add (i := 8) (y &&& M) hbm]
  split
  · rw [Nat.testBit_and]
  · rw [Nat.testBit_and]
theorem bcpk1 : ∀ b, b < 256 → ((b / 2) &&& 85 = (b / 2 + 128) &&& 85) ∧ (b / 2) &&& 85 ≤ b := by decide +kernel
def bcg1 (b : Nat) : Nat := b - ((b / 2) &&& 85)
theorem bcpk2 : ∀ c, c < 256 → ∀ z, z < 4 → (c / 4 + 64 * z) &&& 51 = (c / 4) &&& 51 := by decide +kernel
def bcg2 (c : Nat) : Nat := (c &&& 51) + ((c / 4) &&& 51)
def bcpq : Nat → Nat → Nat
  | _, 0 => 0
  | x, n + 1 => bcpq x n + (x.testBit n).toNat
theorem bcpk3 : ∀ b, b < 256 → bcg1 b < 256 ∧ bcg2 (bcg1 b) % 16 ≤ 4 ∧ bcg2 (bcg1 b) / 16 ≤ 4 ∧ bcg2 (bcg1 b) % 16 + bcg2 (bcg1 b) / 16 = bcpq b 8 := by decide +kernel
theorem bcst1 {b y M : Nat} (hb : b < 256) : (b + 256 * y) - (((b + 256 * y) / 2) &&& (85 + 256 * M)) = bcg1 b + 256 * (y - ((y / 2) &&& M)) := by
  have e : (b + 256 * y) / 2 = (b / 2 + 128 * (y % 2)) + 256 * (y / 2) := by omega
  have k := bcpk1 b hb
  have l : (y / 2) &&& M ≤ y := Nat.le_trans Nat.and_le_left (Nat.div_le_self _ _)
  rw [e, bcsplit (by omega) (by decide)]
  unfold bcg1
  have : (b / 2 + 128 * (y % 2)) &&& 85 = (b / 2) &&& 85 := by
    rcases Nat.mod_two_eq_zero_or_one y with h | h
    · rw [h, Nat.mul_zero, Nat.add_zero]
    · rw [h]; exact k.1.symm
  rw [this]
  omega
theorem bcst2 {c z M : Nat} (hc : c < 256) : ((c + 256 * z) &&& (51 + 256 * M)) + (((c + 256 * z) / 4) &&& (51 + 256 * M)) = bcg2 c + 256 * ((z &&& M) + ((z / 4) &&& M)) := by
  have e : (c + 256 * z) / 4 = (c / 4 + 64 * (z % 4)) + 256 * (z / 4) := by omega
  rw [e, bcsplit hc (by decide), bcsplit (by omega) (by decide), bcpk2 c hc (z % 4) (by omega)]
  unfold bcg2
  omega
theorem bcn12 {a b c d : Nat} (ha : a < 256) (hb : b < 256) (hc : c < 256) (_hd : d < 256) : let x := a + 256 * (b + 256 * (c + 256 * d)); let y := x - ((x / 2) &&& 1431655765); (y &&& 858993459) + ((y / 4) &&& 858993459) = bcg2 (bcg1 a) + 256 * (bcg2 (bcg1 b) + 256 * (bcg2 (bcg1 c) + 256 * bcg2 (bcg1 d))) ∧ y = bcg1 a + 256 * (bcg1 b + 256 * (bcg1 c + 256 * bcg1 d)) ∧ (x / 2) &&& 1431655765 ≤ x := by
  intro x y
  have h1 : y = bcg1 a + 256 * (bcg1 b + 256 * (bcg1 c + 256 * bcg1 d)) := by
    show (a + 256 * (b + 256 * (c + 256 * d))) - (((a + 256 * (b + 256 * (c + 256 * d))) / 2) &&& (85 + 256 * (85 + 256 * (85 + 256 * 85)))) = _
    rw [bcst1 ha, bcst1 hb, bcst1 hc]
    rfl
  refine ⟨?_, h1, Nat.le_trans Nat.and_le_left (Nat.div_le_self _ _)⟩
  rw [h1]
  show ((bcg1 a + 256 * (bcg1 b + 256 * (bcg1 c + 256 * bcg1 d))) &&& (51 + 256 * (51 + 256 * (51 + 256 * 51)))) + (((bcg1 a + 256 * (bcg1 b + 256 * (bcg1 c + 256 * bcg1 d))) / 4) &&& (51 + 256 * (51 + 256 * (51 + 256 * 51)))) = _
  rw [bcst2 (bcpk3 a ha).1, bcst2 (bcpk3 b hb).1, bcst2 (bcpk3 c hc).1]
  rfl
theorem bcm15 : ∀ e, e < 256 → e &&& 15 = e % 16 := by decide +kernel
theorem bcn3 {a b c d : Nat} (ha : a < 256) (hb : b < 256) (hc : c < 256) (hd : d < 256) : let n := bcg2 (bcg1 a) + 256 * (bcg2 (bcg1 b) + 256 * (bcg2 (bcg1 c) + 256 * bcg2 (bcg1 d))); (n + n / 16) &&& 252645135 = bcpq a 8 + 256 * (bcpq b 8 + 256 * (bcpq c 8 + 256 * bcpq d 8)) ∧ n + n / 16 < 4294967296 := by
  intro n
  have ka := bcpk3 a ha
  have kb := bcpk3 b hb
  have kc := bcpk3 c hc
  have kd := bcpk3 d hd
  have hn : n = bcg2 (bcg1 a) + 256 * (bcg2 (bcg1 b) + 256 * (bcg2 (bcg1 c) + 256 * bcg2 (bcg1 d))) := rfl
  generalize bcg2 (bcg1 a) = A at *
  generalize bcg2 (bcg1 b) = B at *
  generalize bcg2 (bcg1 c) = C at *
  generalize bcg2 (bcg1 d) = D at *
  have e : n + n / 16 = (A + A / 16 + 16 * (B % 16)) + 256 * ((B + B / 16 + 16 * (C % 16)) + 256 * ((C + C / 16 + 16 * (D % 16)) + 256 * (D + D / 16))) := by omega
  refine ⟨?_, by omega⟩
  rw [e, show (252645135 : Nat) = 15 + 256 * (15 + 256 * (15 + 256 * 15)) from rfl, bcsplit (by omega) (by decide), bcsplit (by omega) (by decide), bcsplit (by omega) (by decide), bcm15 _ (by omega), bcm15 _ (by omega), bcm15 _ (by omega), bcm15 _ (by omega)]
  have q : ∀ X Y P : Nat, X % 16 ≤ 4 → X / 16 ≤ 4 → X % 16 + X / 16 = P → (X + X / 16 + 16 * Y) % 16 = P := fun X Y P _ _ _ => by omega
  rw [q A _ _ ka.2.1 ka.2.2.1 ka.2.2.2, q B _ _ kb.2.1 kb.2.2.1 kb.2.2.2, q C _ _ kc.2.1 kc.2.2.1 kc.2.2.2, show (D + D / 16) % 16 = bcpq d 8 from q D 0 _ kd.2.1 kd.2.2.1 kd.2.2.2]
theorem bcpq_le : ∀ x n, bcpq x n ≤ n
  | _, 0 => Nat.le_refl _
  | x, n + 1 => by
    have := bcpq_le x n
    show bcpq x n + (x.testBit n).toNat ≤ n + 1
    have : (x.testBit n).toNat ≤ 1 := Bool.toNat_le _
    omega
theorem bcm63 {n : Nat} : n &&& 63 = n % 64 := Nat.and_two_pow_sub_one_eq_mod n 6
theorem bcn5 {p q r s : Nat} (hp : p ≤ 8) (hq : q ≤ 8) (hr : r ≤ 8) (hs : s ≤ 8) : let n := p + 256 * (q + 256 * (r + 256 * s)); let m := n + n / 256; (m + m / 65536) &&& 63 = p + q + r + s ∧ m < 4294967296 ∧ m + m / 65536 < 4294967296 := by
  intro n m
  have hn : n = p + 256 * (q + 256 * (r + 256 * s)) := rfl
  have hm : m = n + n / 256 := rfl
  have e1 : n / 256 = q + 256 * (r + 256 * s) := by omega
  have e2 : m = (p + q) + 256 * ((q + r) + 256 * ((r + s) + 256 * s)) := by omega
  have e3 : m / 65536 = (r + s) + 256 * s := by omega
  have e4 : m + m / 65536 = (p + q + r + s) + 64 * (4 * ((q + r) + s + 256 * ((r + s) + 256 * s))) := by omega
  rw [bcm63]
  refine ⟨?_, by omega, by omega⟩
  rw [e4, Nat.add_mul_mod_self_left]
  omega
def bctn (l : Int32) : Nat := l.toBitVec.toNat
theorem bctn_sh (a : Int32) (c : UInt32) (n m : Nat) (hc : c.toNat % 32 = n) (hm : 2 ^ n = m) : bctn ((a.toUInt32 >>> c).toInt32) = bctn a / m := by
  have e : bctn ((a.toUInt32 >>> c).toInt32) = (a.toUInt32 >>> c).toNat := rfl
  have e2 : bctn a = a.toUInt32.toNat := rfl
  rw [e, e2, UInt32.toNat_shiftRight, hc, Nat.shiftRight_eq_div_pow, hm]
theorem bctn_and (a b : Int32) : bctn (a &&& b) = bctn a &&& bctn b := by
  unfold bctn; rw [Int32.toBitVec_and, BitVec.toNat_and]
theorem bctn_sub {a b : Int32} (h : bctn b ≤ bctn a) : bctn (a - b) = bctn a - bctn b := by
  unfold bctn at *; rw [Int32.toBitVec_sub, BitVec.toNat_sub_of_le h]
theorem bctn_add {a b : Int32} (h : bctn a + bctn b < 4294967296) : bctn (a + b) = bctn a + bctn b := by
  unfold bctn at *; rw [Int32.toBitVec_add, BitVec.toNat_add, Nat.mod_eq_of_lt h]
theorem bctn_lt (l : Int32) : bctn l < 4294967296 := l.toBitVec.isLt
theorem bcpq_lo {a y : Nat} (ha : a < 256) : ∀ n, n ≤ 8 → bcpq (a + 256 * y) n = bcpq a n
  | 0, _ => rfl
  | n + 1, h => by
    show bcpq (a + 256 * y) n + ((a + 256 * y).testBit n).toNat = bcpq a n + (a.testBit n).toNat
    rw [bcpq_lo ha n (by omega), Nat.add_comm a, Nat.testBit_two_pow_mul_add (i := 8) y ha, if_pos (by omega)]
theorem bcpq_hi {a y : Nat} (ha : a < 256) : ∀ n, bcpq (a + 256 * y) (8 + n) = bcpq a 8 + bcpq y n
  | 0 => bcpq_lo ha 8 (Nat.le_refl _)
  | n + 1 => by
    show bcpq (a + 256 * y) (8 + n) + ((a + 256 * y).testBit (8 + n)).toNat = bcpq a 8 + (bcpq y n + (y.testBit n).toNat)
    rw [bcpq_hi ha n, Nat.add_comm a, Nat.testBit_two_pow_mul_add (i := 8) y ha, if_neg (by omega), Nat.add_sub_cancel_left]
    omega
/-- the same with the numbers as givens -/
def bcF (c1 c2 c3 c4 : Int32) (s1 s2 s3 s4 s5 : UInt32) (l0 : Int32) : Int32 :=
  let x1 := (l0 - (((l0.toUInt32 >>> s1).toInt32) &&& c1))
  let x2 := ((x1 &&& c2) + (((x1.toUInt32 >>> s2).toInt32) &&& c2))
  let x3 := ((x2 + ((x2.toUInt32 >>> s3).toInt32)) &&& c3)
  let x4 := (x3 + ((x3.toUInt32 >>> s4).toInt32))
  let x5 := (x4 + ((x4.toUInt32 >>> s5).toInt32))
  (x5 &&& c4)
theorem bcF1 {l c1 : Int32} {s1 : UInt32} (k1 : bctn c1 = 1431655765) (h1 : s1.toNat % 32 = 1) (le : (bctn l / 2) &&& 1431655765 ≤ bctn l) : bctn (l - (((l.toUInt32 >>> s1).toInt32) &&& c1)) = bctn l - ((bctn l / 2) &&& 1431655765) := by
  have q : bctn (((l.toUInt32 >>> s1).toInt32) &&& c1) = (bctn l / 2) &&& 1431655765 := by
    rw [bctn_and, bctn_sh l s1 1 2 h1 (by decide), k1]
  rw [bctn_sub (by rw [q]; exact le), q]
theorem bcF2 {x c2 : Int32} {s2 : UInt32} (k2 : bctn c2 = 858993459) (h2 : s2.toNat % 32 = 2) (lt : (bctn x &&& 858993459) + ((bctn x / 4) &&& 858993459) < 4294967296) : bctn ((x &&& c2) + (((x.toUInt32 >>> s2).toInt32) &&& c2)) = (bctn x &&& 858993459) + ((bctn x / 4) &&& 858993459) := by
  have q1 : bctn (x &&& c2) = bctn x &&& 858993459 := by rw [bctn_and, k2]
  have q2 : bctn (((x.toUInt32 >>> s2).toInt32) &&& c2) = (bctn x / 4) &&& 858993459 := by rw [bctn_and, bctn_sh x s2 2 4 h2 (by decide), k2]
  rw [bctn_add (by rw [q1, q2]; exact lt), q1, q2]
theorem bcF3 {x c3 : Int32} {s3 : UInt32} (k3 : bctn c3 = 252645135) (h3 : s3.toNat % 32 = 4) (lt : bctn x + bctn x / 16 < 4294967296) : bctn ((x + ((x.toUInt32 >>> s3).toInt32)) &&& c3) = (bctn x + bctn x / 16) &&& 252645135 := by
  have q : bctn ((x.toUInt32 >>> s3).toInt32) = bctn x / 16 := bctn_sh x s3 4 16 h3 (by decide)
  rw [bctn_and, bctn_add (by rw [q]; exact lt), q, k3]
theorem bcF4 {x : Int32} {s4 : UInt32} (h4 : s4.toNat % 32 = 8) (lt : bctn x + bctn x / 256 < 4294967296) : bctn (x + ((x.toUInt32 >>> s4).toInt32)) = bctn x + bctn x / 256 := by
  have q : bctn ((x.toUInt32 >>> s4).toInt32) = bctn x / 256 := bctn_sh x s4 8 256 h4 (by decide)
  rw [bctn_add (by rw [q]; exact lt), q]
theorem bcF5 {x c4 : Int32} {s5 : UInt32} (k4 : bctn c4 = 63) (h5 : s5.toNat % 32 = 16) (lt : bctn x + bctn x / 65536 < 4294967296) : bctn ((x + ((x.toUInt32 >>> s5).toInt32)) &&& c4) = (bctn x + bctn x / 65536) &&& 63 := by
  have q : bctn ((x.toUInt32 >>> s5).toInt32) = bctn x / 65536 := bctn_sh x s5 16 65536 h5 (by decide)
  rw [bctn_and, bctn_add (by rw [q]; exact lt), q, k4]
theorem bc4 (N : Nat) (h : N < 4294967296) : ∃ a b c d, a < 256 ∧ b < 256 ∧ c < 256 ∧ d < 256 ∧ N = a + 256 * (b + 256 * (c + 256 * d)) := ⟨N % 256, N / 256 % 256, N / 65536 % 256, N / 16777216, by omega, by omega, by omega, by omega, by omega⟩
theorem bcsum {a b c d : Nat} (ha : a < 256) (hb : b < 256) (hc : c < 256) : bcpq (a + 256 * (b + 256 * (c + 256 * d))) 32 = bcpq a 8 + bcpq b 8 + bcpq c 8 + bcpq d 8 := by
  have e1 : bcpq (a + 256 * (b + 256 * (c + 256 * d))) (8 + 24) = bcpq a 8 + bcpq (b + 256 * (c + 256 * d)) 24 := bcpq_hi ha 24
  have e2 : bcpq (b + 256 * (c + 256 * d)) (8 + 16) = bcpq b 8 + bcpq (c + 256 * d) 16 := bcpq_hi hb 16
  have e3 : bcpq (c + 256 * d) (8 + 8) = bcpq c 8 + bcpq d 8 := bcpq_hi hc 8
  have f1 : (8 + 24 : Nat) = 32 := rfl
  have f2 : (8 + 16 : Nat) = 24 := rfl
  have f3 : (8 + 8 : Nat) = 16 := rfl
  rw [f1] at e1
  rw [f2] at e2
  rw [f3] at e3
  omega
theorem bcN12 {N a b c d : Nat} (ha : a < 256) (hb : b < 256) (hc : c < 256) (hd : d < 256) (e : N = a + 256 * (b + 256 * (c + 256 * d))) {M : Nat} (eM : M = N - ((N / 2) &&& 1431655765)) : (N / 2) &&& 1431655765 ≤ N ∧ (M &&& 858993459) + ((M / 4) &&& 858993459) = bcg2 (bcg1 a) + 256 * (bcg2 (bcg1 b) + 256 * (bcg2 (bcg1 c) + 256 * bcg2 (bcg1 d))) := by
  subst e
  subst eM
  exact ⟨(bcn12 ha hb hc hd).2.2, (bcn12 ha hb hc hd).1⟩
theorem bcN3 {N a b c d : Nat} (ha : a < 256) (hb : b < 256) (hc : c < 256) (hd : d < 256) (e : N = bcg2 (bcg1 a) + 256 * (bcg2 (bcg1 b) + 256 * (bcg2 (bcg1 c) + 256 * bcg2 (bcg1 d)))) : (N + N / 16) &&& 252645135 = bcpq a 8 + 256 * (bcpq b 8 + 256 * (bcpq c 8 + 256 * bcpq d 8)) ∧ N + N / 16 < 4294967296 := by
  subst e
  exact bcn3 ha hb hc hd
theorem bcN5 {N M p q r s : Nat} (hp : p ≤ 8) (hq : q ≤ 8) (hr : r ≤ 8) (hs : s ≤ 8) (e : N = p + 256 * (q + 256 * (r + 256 * s))) (eM : M = N + N / 256) : (M + M / 65536) &&& 63 = p + q + r + s ∧ N + N / 256 < 4294967296 ∧ M + M / 65536 < 4294967296 := by
  subst eM
  subst e
  exact bcn5 hp hq hr hs
theorem bcg_lt {a : Nat} (ha : a < 256) : bcg2 (bcg1 a) ≤ 68 := by
  have k := bcpk3 a ha
  omega
theorem bcF_pq {c1 c2 c3 c4 : Int32} {s1 s2 s3 s4 s5 : UInt32} (k1 : bctn c1 = 1431655765) (k2 : bctn c2 = 858993459) (k3 : bctn c3 = 252645135) (k4 : bctn c4 = 63) (h1 : s1.toNat % 32 = 1) (h2 : s2.toNat % 32 = 2) (h3 : s3.toNat % 32 = 4) (h4 : s4.toNat % 32 = 8) (h5 : s5.toNat % 32 = 16) (l x1 x2 x3 x4 : Int32) (e1 : x1 = l - (((l.toUInt32 >>> s1).toInt32) &&& c1)) (e2 : x2 = (x1 &&& c2) + (((x1.toUInt32 >>> s2).toInt32) &&& c2)) (e3 : x3 = (x2 + ((x2.toUInt32 >>> s3).toInt32)) &&& c3) (e4 : x4 = x3 + ((x3.toUInt32 >>> s4).toInt32)) : bctn ((x4 + ((x4.toUInt32 >>> s5).toInt32)) &&& c4) = bcpq (bctn l) 32 := by
  obtain ⟨a, b, c, d, ha, hb, hc, hd, ex⟩ := bc4 (bctn l) (bctn_lt l)
  have n12 := bcN12 ha hb hc hd ex rfl
  have r1 : bctn x1 = bctn l - ((bctn l / 2) &&& 1431655765) := by rw [e1]; exact bcF1 k1 h1 n12.1
  have n2 := n12.2
  rw [← r1] at n2
  have la := bcg_lt ha
  have lb := bcg_lt hb
  have lc := bcg_lt hc
  have ld := bcg_lt hd
  have r2 := bcF2 (x := x1) k2 h2 (by rw [n2]; omega)
  rw [n2, ← e2] at r2
  have n3 := bcN3 ha hb hc hd r2
  have r3 := bcF3 (x := x2) k3 h3 n3.2
  rw [n3.1, ← e3] at r3
  have n5 := bcN5 (bcpq_le a 8) (bcpq_le b 8) (bcpq_le c 8) (bcpq_le d 8) r3 rfl
  have r4 := bcF4 (x := x3) h4 n5.2.1
  rw [← e4] at r4
  have n6 := bcN5 (bcpq_le a 8) (bcpq_le b 8) (bcpq_le c 8) (bcpq_le d 8) r3 r4
  have r5 := bcF5 (x := x4) k4 h5 n6.2.2
  rw [r5, n6.1, ex, bcsum ha hb hc]
theorem bcE_F (l : Int32) : bcE l = bcF 1431655765 858993459 252645135 63 (Int32.toUInt32 1 &&& Int32.toUInt32 31) (Int32.toUInt32 2 &&& Int32.toUInt32 31) (Int32.toUInt32 4 &&& Int32.toUInt32 31) (Int32.toUInt32 8 &&& Int32.toUInt32 31) (Int32.toUInt32 16 &&& Int32.toUInt32 31) l := by
  unfold bcE bcF
  rfl
theorem bcK1 : bctn (1431655765 : Int32) = 1431655765 := by decide +kernel
theorem bcK2 : bctn (858993459 : Int32) = 858993459 := by decide +kernel
theorem bcK3 : bctn (252645135 : Int32) = 252645135 := by decide +kernel
theorem bcK4 : bctn (63 : Int32) = 63 := by decide +kernel
theorem bcS1 : (Int32.toUInt32 1 &&& Int32.toUInt32 31).toNat % 32 = 1 := by decide +kernel
theorem bcS2 : (Int32.toUInt32 2 &&& Int32.toUInt32 31).toNat % 32 = 2 := by decide +kernel
theorem bcS3 : (Int32.toUInt32 4 &&& Int32.toUInt32 31).toNat % 32 = 4 := by decide +kernel
theorem bcS4 : (Int32.toUInt32 8 &&& Int32.toUInt32 31).toNat % 32 = 8 := by decide +kernel
theorem bcS5 : (Int32.toUInt32 16 &&& Int32.toUInt32 31).toNat % 32 = 16 := by decide +kernel
theorem bcF_all {c1 c2 c3 c4 : Int32} {s1 s2 s3 s4 s5 : UInt32} (k1 : bctn c1 = 1431655765) (k2 : bctn c2 = 858993459) (k3 : bctn c3 = 252645135) (k4 : bctn c4 = 63) (h1 : s1.toNat % 32 = 1) (h2 : s2.toNat % 32 = 2) (h3 : s3.toNat % 32 = 4) (h4 : s4.toNat % 32 = 8) (h5 : s5.toNat % 32 = 16) (l : Int32) : bctn (bcF c1 c2 c3 c4 s1 s2 s3 s4 s5 l) = bcpq (bctn l) 32 :=
  bcF_pq k1 k2 k3 k4 h1 h2 h3 h4 h5 l _ _ _ _ rfl rfl rfl rfl
theorem bcE_pq (l : Int32) : bctn (bcE l) = bcpq (bctn l) 32 := by
  rw [bcE_F]
  exact bcF_all bcK1 bcK2 bcK3 bcK4 bcS1 bcS2 bcS3 bcS4 bcS5 l
theorem bt_andn {x y : Int32} (q : Nat) : bt (x &&& (y ^^^ (-1))) q = (bt x q && !bt y q) := by
  unfold bt
  rw [Int32.toBitVec_and, BitVec.getLsbD_and, Int32.toBitVec_xor, BitVec.getLsbD_xor]
  show (x.toBitVec.getLsbD q && (y.toBitVec.getLsbD q ^^ (BitVec.allOnes 32).getLsbD q)) = _
  rw [BitVec.getLsbD_allOnes]
  by_cases hq : q < 32
  · simp [hq]
  · rw [BitVec.getLsbD_of_ge x.toBitVec _ (by omega)]
    simp
theorem pq_cN (l : Int32) : ∀ n, bcpq (bctn l) n = cN (fun c => bt l c) n
  | 0 => rfl
  | n + 1 => by
    show bcpq (bctn l) n + ((bctn l).testBit n).toNat = cN (fun c => bt l c) n + (if bt l n = true then 1 else 0)
    rw [pq_cN l n, show bt l n = (bctn l).testBit n from rfl]
    cases (bctn l).testBit n <;> rfl
theorem tnn_int {r : Int32} {n : Nat} (e : bctn r = n) (h : n < 2147483648) : r.toInt = (n : Int) := by
  subst e
  have h2 : r.toBitVec.toNat < 2147483648 := h
  have q : r.toBitVec.toInt = (r.toBitVec.toNat : Int) := BitVec.toInt_eq_toNat_of_lt (by omega)
  exact q
theorem bc_cN (l : Int32) : (bcE l).toInt = (cN (fun c => bt l c) 32 : Int) := by
  have e := bcE_pq l
  rw [pq_cN] at e
  exact tnn_int e (by have := cN_le (fun c => bt l c) 32; omega)
theorem cN_ex (p : Nat → Bool) : ∀ (n i : Nat), i < cN p n → ∃ k, k < n ∧ p k = true ∧ cN p k = i
  | 0, i, h => absurd h (Nat.not_lt_zero _)
  | n + 1, i, h => by
    have h : i < cN p n + (if p n = true then 1 else 0) := h
    by_cases q : i < cN p n
    · obtain ⟨k, a, b⟩ := cN_ex p n i q
      exact ⟨k, by omega, b⟩
    · by_cases w : p n = true
      · rw [if_pos w] at h
        exact ⟨n, by omega, w, by omega⟩
      · rw [if_neg w] at h
        omega
theorem cN_lk (p : Nat → Bool) {k n : Nat} (h : k < n) (hp : p k = true) : cN p k < cN p n := by
  have s1 : cN p (k + 1) = cN p k + 1 := by
    show cN p k + (if p k = true then 1 else 0) = _
    rw [if_pos hp]
  have := cN_mono p (j := k + 1) (k := n) (by omega)
  omega
theorem cN_st {p : Nat → Bool} {k : Nat} (h : p k = true) : cN p (k + 1) = cN p k + 1 := by
  show cN p k + (if p k = true then 1 else 0) = _
  rw [if_pos h]
theorem cN_sf {p : Nat → Bool} {k : Nat} (h : ¬ p k = true) : cN p (k + 1) = cN p k := by
  show cN p k + (if p k = true then 1 else 0) = _
  rw [if_neg h, Nat.add_zero]
theorem v_bitAt {g : gT} {h : mh_T} {P : Int32 → mh_T → Prop} (l0 l1 : Int32) (h1 : ∀ r : Int32, NT (fun c => bt l0 c) 32 l1 r → P r h) (h0 : (∀ k, k < 32 → bt l0 k = true → ¬ (cN (fun c => bt l0 c) k : Int) = l1.toInt) → P (-1) h) : MCi g yX10_bitAt uX10_bitAt [.int l0, .int l1] h P := by
  have L : ∀ (n : Nat) (l2 l3 : Int32) (k : Nat), l3.toInt = (k : Int) → k ≤ 32 → 32 - k < n → l2.toInt = (cN (fun c => bt l0 c) k : Int) → (∀ q, q < k → bt l0 q = true → ¬ (cN (fun c => bt l0 c) q : Int) = l1.toInt) → ME g uX10_bitAt 4 [.int l0, .int l1, .int l2, .int l3] [] h (qI P) := by
    intro n
    induction n with
    | zero => intro l2 l3 k _ _ hn; exact absurd hn (Nat.not_lt_zero _)
    | succ n ih =>
      intro l2 l3 k e3 hk hn e2 hno
      have z32 : (32 : Int32).toInt = 32 := by decide
      refine r_X10_bitAt_4 l0 l1 l2 l3 ⟨fun c => ?_, fun c => ?_⟩
      · have c := i_le.mp c
        have e : k = 32 := by omega
        rw [e] at hno
        exact h0 hno
      · have c := i_lt.mp (nle c)
        have k32 : k < 32 := by omega
        have cl := cN_le (fun c => bt l0 c) k
        rw [ush_1 e3 k32]
        refine ⟨fun z => ?_, fun z => ⟨fun ne => ?_, fun e => ?_⟩⟩
        · have b : ¬ bt l0 k = true := fun y => by rw [if_pos y] at z; exact absurd z (by decide)
          refine ih l2 (l3 + 1) (k + 1) (i_inc e3 (by omega)) (by omega) (by omega) (by rw [cN_sf (p := fun c => bt l0 c) b]; exact e2) (fun q hq hb => ?_)
          by_cases w : q = k
          · rw [w] at hb; exact absurd hb b
          · exact hno q (by omega) hb
        · have b : bt l0 k = true := by
            by_cases y : bt l0 k = true
            · exact y
            · rw [if_neg y] at z; exact absurd rfl z
          refine ih (l2 + 1) (l3 + 1) (k + 1) (i_inc e3 (by omega)) (by omega) (by omega) (by rw [cN_st (p := fun c => bt l0 c) b]; exact i_inc e2 (by omega)) (fun q hq hb => ?_)
          by_cases w : q = k
          · rw [w]
            exact fun y => ne (Int32.toInt_inj.mp (by rw [e2]; exact y))
          · exact hno q (by omega) hb
        · have b : bt l0 k = true := by
            by_cases y : bt l0 k = true
            · exact y
            · rw [if_neg y] at z; exact absurd rfl z
          exact h1 l3 ⟨k, k32, b, by rw [← e, e2], e3⟩
  exact e_X10_bitAt l0 l1 (L 33 0 0 0 (by decide) (Nat.zero_le _) (by omega) (show (0 : Int32).toInt = ((0 : Nat) : Int) from by decide) (fun q hq => absurd hq (Nat.not_lt_zero _)))
/-! the class's colours -/
theorem ln_cN (p : Nat → Bool) : ∀ (k i : Nat), ((rlk i k).filter p).length + cN p i = cN p (i + k)
  | 0, i => by
    show 0 + cN p i = _
    rw [Nat.zero_add]
    rfl
  | k + 1, i => by
    have ih := ln_cN p k (i + 1)
    have s : cN p (i + 1) = cN p i + (if p i = true then 1 else 0) := rfl
    rw [show i + (k + 1) = i + 1 + k by omega, ← ih, s]
    show ((i :: rlk (i + 1) k).filter p).length + cN p i = _
    by_cases h : p i = true
    · rw [List.filter_cons_of_pos h, if_pos h, List.length_cons]; omega
    · rw [List.filter_cons_of_neg h, if_neg h]; omega
theorem cN_hi {p : Nat → Bool} {n : Nat} (h : ∀ t, n ≤ t → ¬ p t = true) : ∀ d, cN p (n + d) = cN p n
  | 0 => rfl
  | d + 1 => by
    show cN p (n + d) + (if p (n + d) = true then 1 else 0) = _
    rw [cN_hi h d, if_neg (h _ (by omega)), Nat.add_zero]
/-- the open rays, in order -/
def OL (n : Nat) (l : Int32) : List Nat := (rl 0 n).filter (fun t => bt l t)
theorem OL_m {n : Nat} {l : Int32} {t : Nat} : t ∈ OL n l ↔ t < n ∧ bt l t = true := by
  unfold OL
  rw [List.mem_filter]
  exact ⟨fun h => ⟨(rl_m h.1).2, h.2⟩, fun h => ⟨rl_i (Nat.zero_le t) h.1, h.2⟩⟩
theorem OL_len {n : Nat} (hn : n ≤ 32) {l : Int32} (h : ∀ t, bt l t = true → t < n) : (OL n l).length = pcI l := by
  have a := ln_cN (fun t => bt l t) n 0
  have b := cN_hi (p := fun t => bt l t) (n := n) (fun t ht z => by have := h t z; omega) (32 - n)
  rw [show n + (32 - n) = 32 by omega] at b
  unfold OL rl pcI
  rw [b, Nat.sub_zero]
  rw [Nat.zero_add] at a
  have z : cN (fun t => bt l t) 0 = 0 := rfl
  omega
theorem OL_nd (n : Nat) (l : Int32) : (OL n l).Nodup := (rl_nd 0 n).filter _
theorem OL_32 {n : Nat} (hn : n ≤ 18) {l : Int32} : ∀ v, v ∈ OL n l → v < 32 := fun v hv => by have := (OL_m.mp hv).1; omega
theorem OL_cg {n : Nat} {l : Int32} {p : Nat → Bool} (h : ∀ t, t < n → bt l t = p t) : OL n l = (rl 0 n).filter p := List.filter_congr (fun t ht => h t (rl_m ht).2)
/-- an open ray taken out -/
theorem OL_out {n v : Nat} {l l' : Int32} (hv : v < n) (hb : bt l v = true) (h : ∀ t, t < n → bt l' t = (bt l t && !decide (t = v))) : (OL n l).Perm (v :: OL n l') := by
  rw [OL_cg h]
  exact fl_out (p := fun t => bt l t) hb (rl 0 n) (rl_nd 0 n) (rl_i (Nat.zero_le v) hv)
theorem OL_fl {n : Nat} {l l' : Int32} {p : Nat → Bool} (h : ∀ t, t < n → bt l' t = (bt l t && p t)) : OL n l' = (OL n l).filter p := by
  rw [OL_cg h]
  unfold OL
  rw [List.filter_filter]
  exact List.filter_congr (fun t _ => Bool.and_comm _ _)
theorem cN_z {p : Nat → Bool} : ∀ n, cN p n = 0 → ∀ k, k < n → ¬ p k = true
  | 0, _, k, hk => absurd hk (Nat.not_lt_zero k)
  | n + 1, h, k, hk => by
    have h : cN p n + (if p n = true then 1 else 0) = 0 := h
    by_cases e : k = n
    · intro z
      rw [e] at z
      rw [if_pos z] at h
      omega
    · exact cN_z n (by omega) k (by omega)
theorem bt_lt {x : Int32} {t : Nat} (h : bt x t = true) : t < 32 := Decidable.byContradiction fun q => by
  have : bt x t = false := BitVec.getLsbD_of_ge x.toBitVec t (by omega)
  rw [this] at h
  cases h
theorem pcI_0 {x : Int32} (h : pcI x = 0) : ∀ t, ¬ bt x t = true := fun t z => cN_z 32 h t (bt_lt z) z
theorem pcI_1 {x : Int32} (h : pcI x = 1) : ∃ v, v < 32 ∧ bt x v = true ∧ ∀ t, bt x t = true → t = v := by
  obtain ⟨v, v32, vb, vc⟩ := cN_ex (fun t => bt x t) 32 0 (by show 0 < pcI x; omega)
  refine ⟨v, v32, vb, fun t tb => ?_⟩
  have t32 := bt_lt tb
  have a := cN_lk (fun t => bt x t) (k := t) (n := 32) t32 tb
  have e : cN (fun t => bt x t) 32 = 1 := h
  exact cN_inj (fun t => bt x t) tb vb (by omega)
theorem pcI_2 {x : Int32} (h : ¬ pcI x = 0) (h1 : ¬ pcI x = 1) : ∃ u v, bt x u = true ∧ bt x v = true ∧ ¬ u = v := by
  obtain ⟨u, u32, ub, uc⟩ := cN_ex (fun t => bt x t) 32 0 (by show 0 < pcI x; omega)
  obtain ⟨v, v32, vb, vc⟩ := cN_ex (fun t => bt x t) 32 1 (by show 1 < pcI x; omega)
  exact ⟨u, v, ub, vb, fun e => by rw [e] at uc; omega⟩
theorem bcI (x : Int32) : (bcE x).toInt = (pcI x : Int) := bc_cN x
theorem and_0 {x y : Int32} : x &&& (y ^^^ (-1)) = 0 ↔ ∀ t, bt x t = true → bt y t = true := by
  rw [bt_nul]
  constructor
  · intro h t hx
    have := h t
    rw [bt_andn, hx, Bool.true_and] at this
    cases z : bt y t
    · rw [z] at this; cases this
    · rfl
  · intro h t
    rw [bt_andn]
    cases x' : bt x t
    · rfl
    · rw [h t x']; rfl
theorem and_nz {x y : Int32} : x &&& y = 0 ↔ ∀ t, bt x t = true → ¬ bt y t = true := by
  rw [bt_nul]
  constructor
  · intro h t hx hy
    have := h t
    rw [bt_and, hx, hy] at this
    cases this
  · intro h t
    rw [bt_and]
    cases x' : bt x t
    · rfl
    · rw [Bool.true_and]
      cases y' : bt y t
      · rfl
      · exact absurd y' (h t x')
/-- the class knows the rays, the squares, the corners -/
def KnC (A : Nat → Nat → Bool) (n : Nat) (CL : List Int32) (h : mh_T) : Prop := GI h ∧ (mI h 8 0).toInt = (n : Int) ∧ (∀ i j, i < n → j < n → ¬ j = i → bt (mI h 32 i) j = A i j) ∧ Cn 33 8 1 h CL
def Oc (h h' : mh_T) : Prop := Ok [8] h h' ∧ ∀ j, ¬ j = 10 → ¬ j = 11 → mI h' 8 j = mI h 8 j
theorem Oc_tr {h k l : mh_T} (a : Oc h k) (b : Oc k l) : Oc h l := ⟨Ok_tr a.1 b.1 (by decide), fun j h1 h2 => (b.2 j h1 h2).trans (a.2 j h1 h2)⟩
theorem WC_o {A : Nat → Nat → Bool} {n : Nat} {CL : List Int32} {h h' : mh_T} (w : KnC A n CL h) (o : Oc h h') : KnC A n CL h' := by
  obtain ⟨w1, w2, w3, w4⟩ := w
  have e32 : ∀ j, mI h' 32 j = mI h 32 j := fun j => Ok_eq o.1 (by decide)
  have e33 : ∀ j, mI h' 33 j = mI h 33 j := fun j => Ok_eq o.1 (by decide)
  exact ⟨o.1.1, by rw [o.2 0 (by decide) (by decide)]; exact w2, fun i j hi hj hij => by rw [e32]; exact w3 i j hi hj hij, by rw [o.2 1 (by decide) (by decide)]; exact w4.1, fun i hi => by rw [e33]; exact w4.2 i hi⟩
theorem v_mostMet {g : gT} {h : mh_T} {P : Int32 → mh_T → Prop} {A : Nat → Nat → Bool} {n : Nat} {CL : List Int32} (hn : n ≤ 18) (hi : ∀ v, A v v = false) (w : KnC A n CL h) (l1 : Int32) (h0 : (∀ i j, i < n → j < n → bt l1 i = true → bt l1 j = true → A i j = false) → P (-1) h) (h1 : ∀ (r : Int32) (v : Nat), r.toInt = (v : Int) → v < n → bt l1 v = true → P r h) : MCi g yX3_mostMet uX3_mostMet [.ref 8, .int l1] h P := by
  obtain ⟨w1, w2, w3, w4⟩ := w
  have z0 : (0 : Int32).toInt = 0 := by decide
  have L : ∀ (m : Nat) (l2 l3 l4 : Int32) (k : Nat), l4.toInt = (k : Int) → k ≤ n → n - k < m → ((l2 = -1 ∧ l3 = 0 ∧ ∀ i j, i < k → j < n → bt l1 i = true → bt l1 j = true → A i j = false) ∨ ∃ v : Nat, l2.toInt = (v : Int) ∧ v < n ∧ bt l1 v = true) → ME g uX3_mostMet 7 [.ref 8, .int l1, .int l2, .int l3, .int l4] [] h (qI P) := by
    intro m
    induction m with
    | zero => intro _ _ _ _ _ _ hm; exact absurd hm (Nat.not_lt_zero _)
    | succ m ih =>
      intro l2 l3 l4 k e4 hk hm inv
      refine r_X3_mostMet_7 l1 l2 l3 l4 ⟨fun z => ?_, fun z => ?_⟩
      · rw [i_le, w2, e4] at z
        have e : k = n := by omega
        rcases inv with ⟨i1, i2, i3⟩ | ⟨v, v1, v2, v3⟩
        · rw [i1]
          rw [e] at i3
          exact h0 (fun i j hi hj bi bj => i3 i j hi hj bi bj)
        · exact h1 l2 v v1 v2 v3
      · rw [i_le, w2, e4] at z
        have e4' := i_inc e4 (by omega)
        rw [bt_s18 e4 (by omega), i_nat e4]
        by_cases y : bt l1 k = true
        · rw [if_pos y]
          refine ⟨fun c => absurd c (by decide), fun _ => ⟨i_vp e4 (by omega), v_bitCount _ ⟨fun c => ?_, fun c => ⟨i_vp e4 (by omega), v_bitCount _ (ih _ _ _ (k + 1) e4' (by omega) (by omega) (Or.inr ⟨k, e4, by omega, y⟩))⟩⟩⟩⟩
          refine ih _ _ _ (k + 1) e4' (by omega) (by omega) (inv.imp (fun ⟨i1, i2, i3⟩ => ⟨i1, i2, fun i j hiL hj bi bj => ?_⟩) id)
          by_cases q : i = k
          · rw [i2, i_le, bcI, z0] at c
            have c0 : pcI (l1 &&& mI h 32 k) = 0 := by omega
            by_cases q2 : j = i
            · rw [q2]; exact hi i
            · have := pcI_0 c0 j
              rw [bt_and, bj, Bool.true_and, w3 k j (by omega) hj (by rw [← q]; exact q2)] at this
              rw [q]
              exact Bool.not_eq_true _ ▸ this
          · exact i3 i j (by omega) hj bi bj
        · rw [if_neg y]
          refine ⟨fun _ => ih _ _ _ (k + 1) e4' (by omega) (by omega) (inv.imp (fun ⟨i1, i2, i3⟩ => ⟨i1, i2, fun i j hi hj bi bj => ?_⟩) id), fun c => absurd rfl c⟩
          by_cases q : i = k
          · rw [q] at bi; exact absurd bi y
          · exact i3 i j (by omega) hj bi bj
  exact e_X3_mostMet l1 (L (n + 1) (-1) 0 0 0 (by decide) (Nat.zero_le _) (by omega) (Or.inl ⟨rfl, rfl, fun i j hi => absurd hi (Nat.not_lt_zero i)⟩))
theorem p2Nv : ∀ n, n ≤ 18 → (1 <<< (Int32.ofNat n &&& 31) : Int32).toInt = ((2 ^ n : Nat) : Int) := by decide
theorem p2_le : ∀ n, n ≤ 18 → 2 ^ n ≤ 262144 := by decide
theorem nth_in : ∀ (l : List Int32) (i : Nat), i < l.length → nth l i ∈ l
  | [], _, h => absurd h (Nat.not_lt_zero _)
  | _ :: _, 0, _ => List.mem_cons_self
  | x :: l, i + 1, h => List.mem_cons_of_mem x (nth_in l i (Nat.lt_of_succ_lt_succ h))
theorem in_nth {c : Int32} : ∀ (l : List Int32), c ∈ l → ∃ i, i < l.length ∧ nth l i = c
  | [], h => by cases h
  | x :: l, h => by
    rcases List.mem_cons.mp h with e | q
    · exact ⟨0, Nat.succ_pos _, e.symm⟩
    · obtain ⟨i, i1, i2⟩ := in_nth l q
      exact ⟨i + 1, Nat.succ_lt_succ i1, i2⟩
theorem Oc_rf {h : mh_T} (hG : GI h) : Oc h h := ⟨Ok_rf hG, fun _ _ _ => rfl⟩
/-- one open ray chosen -/
theorem co_step {A : Nat → Nat → Bool} {n : Nat} {CL : List Int32} {K : Int32} {l1 l2 o2 o1 mt : Int32} {v : Nat} (hn : n ≤ 18) (hs : ∀ u v, A u v = A v u) (hi : ∀ v, A v v = false) (hv : v < n) (hb : bt l1 v = true) (hm : ∀ t, t < n → ¬ t = v → bt mt t = A v t) (b1 : ∀ t, bt l1 t = true → t < n) (b2 : ∀ t, bt l2 t = true → ¬ bt l1 t = true) (ip : Ip A l2) (ne : ∀ i j, bt l1 i = true → bt l2 j = true → A i j = false) (h2 : ∀ t, bt o2 t = (bt l1 t && !decide (t = v))) (h1 : ∀ t, bt o1 t = (bt o2 t && !bt mt t)) : (OL n l1).length = (OL n o2).length + 1 ∧ (OL n o1).length ≤ (OL n o2).length ∧ (∀ t, bt o2 t = true → bt l1 t = true ∧ ¬ t = v) ∧ (∀ t, bt o1 t = true → bt o2 t = true ∧ A v t = false) ∧ (∀ t, bt (bs l2 v) t = true → ¬ bt o1 t = true) ∧ Ip A (bs l2 v) ∧ (∀ i j, bt o1 i = true → bt (bs l2 v) j = true → A i j = false) ∧ cm (Qv A CL K) (OL n l1) l2 = pj (cm (Qv A CL K) (OL n o1) (bs l2 v)) (cm (Qv A CL K) (OL n o2) l2) := by
  have v32 : v < 32 := by omega
  have perm := OL_out (l' := o2) hv hb (fun t _ => h2 t)
  have c2 : ∀ t, bt o2 t = true → bt l1 t = true ∧ ¬ t = v := fun t ht => by
    rw [h2 t, Bool.and_eq_true, Bool.not_eq_true', decide_eq_false_iff_not] at ht
    exact ht
  have c1 : ∀ t, bt o1 t = true → bt o2 t = true ∧ A v t = false := fun t ht => by
    rw [h1 t, Bool.and_eq_true, Bool.not_eq_true'] at ht
    obtain ⟨x, y⟩ := c2 t ht.1
    exact ⟨ht.1, by rw [← hm t (b1 t x) y]; exact ht.2⟩
  have fl : OL n o1 = (OL n o2).filter (fun t => !A v t) := OL_fl (fun t ht => by
    rw [h1 t]
    cases x : bt o2 t
    · rfl
    · rw [hm t ht (c2 t x).2])
  have bb : ∀ t, bt (bs l2 v) t = true → bt l2 t = true ∨ t = v := fun t ht => by
    rw [bs_bt l2 v32, Bool.or_eq_true] at ht
    exact ht.imp id (fun z => (of_decide_eq_true z).symm)
  refine ⟨by have := perm.length_eq; rw [List.length_cons] at this; exact this, by rw [fl]; exact List.length_filter_le _ _, c2, c1, fun t ht => ?_, fun i j bi bj => ?_, fun i j bi bj => ?_, ?_⟩
  · intro z
    obtain ⟨x, y⟩ := c2 t (c1 t z).1
    exact (bb t ht).elim (fun q => b2 t q x) y
  · rcases bb i bi with x | x <;> rcases bb j bj with y | y
    · exact ip i j x y
    · rw [y, hs]; exact ne v i hb x
    · rw [x]; exact ne v j hb y
    · rw [x, y]; exact hi v
  · obtain ⟨x, y⟩ := c1 i bi
    rcases bb j bj with z | z
    · exact ne i j (c2 i x).1 z
    · rw [z, hs]; exact y
  · rw [cm_perm (Qv A CL K) perm, cm_c, cm_drop (fun t => !A v t) (OL n o2) (bs l2 v) (OL_32 hn) (fun u hu hp S hS hbu hQ => ?_), ← fl]
    have a : A v u = true := by
      cases q : A v u
      · rw [q] at hp; exact absurd rfl hp
      · rfl
    have := hQ.1 v u ((hS v).1 (by rw [bs_bt l2 v32, decide_eq_true rfl, Bool.or_true])) hbu
    rw [a] at this
    cases this
set_option maxHeartbeats 4000000 in
theorem v_colour {g : gT} {A : Nat → Nat → Bool} {n : Nat} {CL : List Int32} (hn : n ≤ 18) (hs : ∀ u v, A u v = A v u) (hi : ∀ v, A v v = false) (hc : ∀ c, c ∈ CL → ∀ i j, bt c i = true → bt c j = true → ¬ i = j → A i j = true) (hcn : ∀ c, c ∈ CL → ∀ t, bt c t = true → t < n) : ∀ (m K : Nat) (l1 l2 l3 : Int32) (h : mh_T) (P : mh_T → Prop) (a b d : Nat), (OL n l1).length < m → m + 2 ≤ K → l3.toInt = (d : Int) → d + (OL n l1).length ≤ 18 → KnC A n CL h → (∀ t, bt l1 t = true → t < n) → (∀ t, bt l2 t = true → ¬ bt l1 t = true) → Ip A l2 → (∀ i j, bt l1 i = true → bt l2 j = true → A i j = false) → (mI h 8 10).toInt = (a : Int) → (mI h 8 11).toInt = (b : Int) → a + (cm (Qv A CL (mI h 8 9)) (OL n l1) l2).1 ≤ 262144 → (∀ h', Oc h h' → (mI h' 8 10).toInt = ((a + (cm (Qv A CL (mI h 8 9)) (OL n l1) l2).1 : Nat) : Int) → (mI h' 8 11).toInt = ((max b (cm (Qv A CL (mI h 8 9)) (OL n l1) l2).2 : Nat) : Int) → P h') → MCv g yX3_colour (uX3_colour K) [.ref 8, .int l1, .int l2, .int l3] h P := by
  intro m
  induction m with
  | zero => intro _ _ _ _ _ _ _ _ _ hm; exact absurd hm (Nat.not_lt_zero _)
  | succ m ih =>
    intro K l1 l2 l3 h P a b d hm hK ed hd w b1 b2 ip ne ea eb hF hp
    obtain ⟨K, rfl⟩ : ∃ k, K = k + 1 := ⟨K - 1, by omega⟩
    have z18 : (18 : Int32).toInt = 18 := by decide
    have z0 : (0 : Int32).toInt = 0 := by decide
    have z1 : (1 : Int32).toInt = 1 := by decide
    have zm : (-1 : Int32).toInt = -1 := by decide
    have e3 : (l3 + 1).toInt = ((d + 1 : Nat) : Int) := i_inc ed (by omega)
    have hG := w.1
    have cl4 : CL.length ≤ 400 := by
      have r := (GI_rd hG 8 1 (lo := 0) (hi := 400) (by decide)).2
      have := w.2.2.2.1
      omega
    have w32 := w.2.2.1
    have body : ∀ r4 : Int32, ((r4 = -1 ∧ ∀ i j, i < n → j < n → bt l1 i = true → bt l1 j = true → A i j = false) ∨ ∃ v : Nat, r4.toInt = (v : Int) ∧ v < n ∧ bt l1 v = true) → ∀ (f : Nat) (l5 : Int32) (q : Nat), l5.toInt = (q : Int) → q ≤ CL.length → CL.length - q < f → (∀ i, i < q → (∀ t, bt (nth CL i) t = true → bt (mI h 8 9) t = true) → (∃ t, bt (nth CL i) t = true ∧ bt l2 t = true) ∨ ∃ u v, (bt (nth CL i) u = true ∧ bt l1 u = true) ∧ (bt (nth CL i) v = true ∧ bt l1 v = true) ∧ ¬ u = v) → ME g (uX3_colour (K + 1)) 17 [.ref 8, .int l1, .int l2, .int l3, .int r4, .int l5, .retAddr 0, .retAddr 0, .retAddr 0] [] h (qV P) := by
      intro r4 H4 f
      induction f with
      | zero => intro _ _ _ _ hf; exact absurd hf (Nat.not_lt_zero _)
      | succ f ik =>
        intro l5 q e5 hq hf hd'
        refine r_X3_colour_17 l1 l2 l3 r4 l5 ⟨fun z => ?_, fun z => ?_⟩
        · rw [i_le, w.2.2.2.1, e5] at z
          have eq : q = CL.length := by omega
          have done : ∀ c, c ∈ CL → (∀ t, bt c t = true → bt (mI h 8 9) t = true) → (∃ t, bt c t = true ∧ bt l2 t = true) ∨ ∃ u v, (bt c u = true ∧ bt l1 u = true) ∧ (bt c v = true ∧ bt l1 v = true) ∧ ¬ u = v := fun c hc => by
            obtain ⟨i, i1, i2⟩ := in_nth CL hc
            rw [← i2]
            exact hd' i (by omega)
          refine ⟨fun y => ?_, fun y => ?_⟩
          · rw [i_le, z0] at y
            rcases H4 with ⟨e, -⟩ | ⟨v, e4, vn, vb⟩
            · rw [e, zm] at y; omega
            rw [i_nat e4]
            refine ⟨i_vp e4 (by omega), ?_⟩
            have h2 : ∀ t, bt (l1 &&& ((1 <<< (r4 &&& 31)) ^^^ (-1))) t = (bt l1 t && !decide (t = v)) := fun t => by
              rw [bt_clr e4 (by omega), show decide (v = t) = decide (t = v) from decide_eq_decide.mpr eq_comm]
            have h1 : ∀ t, bt ((l1 &&& ((1 <<< (r4 &&& 31)) ^^^ (-1))) &&& ((mI h 32 v) ^^^ (-1))) t = (bt (l1 &&& ((1 <<< (r4 &&& 31)) ^^^ (-1))) t && !bt (mI h 32 v) t) := fun t => bt_andn t
            rw [bs_e e4 (by omega)]
            generalize l1 &&& ((1 <<< (r4 &&& 31)) ^^^ (-1)) = o2 at h2 h1 ⊢
            generalize o2 &&& ((mI h 32 v) ^^^ (-1)) = o1 at h1 ⊢
            obtain ⟨s1, s2, s3, s4, s5, s6, s7, s8⟩ := co_step (CL := CL) (K := mI h 8 9) (mt := mI h 32 v) hn hs hi vn vb (fun t ht hne => w32 v t vn ht hne) b1 b2 ip ne h2 h1
            rw [s8] at hF hp
            have hF : a + ((cm (Qv A CL (mI h 8 9)) (OL n o1) (bs l2 v)).1 + (cm (Qv A CL (mI h 8 9)) (OL n o2) l2).1) ≤ 262144 := hF
            refine ih K o1 (bs l2 v) (l3 + 1) h _ a b (d + 1) (by omega) (by omega) e3 (by omega) w (fun t ht => b1 t (s3 t (s4 t ht).1).1) s5 s6 s7 ea eb (by omega) (fun h4 oc4 f10 f11 => ?_)
            have e9 := oc4.2 9 (by decide) (by decide)
            refine ih K o2 l2 (l3 + 1) h4 _ _ _ (d + 1) (by omega) (by omega) e3 (by omega) (WC_o w oc4) (fun t ht => b1 t (s3 t ht).1) (fun t ht hz => b2 t ht (s3 t hz).1) ip (fun i j bi bj => ne i j (s3 i bi).1 bj) f10 f11 (by rw [e9]; omega) (fun h5 oc5 g10 g11 => hp h5 (Oc_tr oc4 oc5) ?_ ?_)
            · rw [g10, e9]
              show _ = ((a + ((cm (Qv A CL (mI h 8 9)) (OL n o1) (bs l2 v)).1 + (cm (Qv A CL (mI h 8 9)) (OL n o2) l2).1) : Nat) : Int)
              rw [Nat.add_assoc]
            · rw [g11, e9]
              show _ = ((max b (max (cm (Qv A CL (mI h 8 9)) (OL n o1) (bs l2 v)).2 (cm (Qv A CL (mI h 8 9)) (OL n o2) l2).2) : Nat) : Int)
              rw [Nat.max_assoc]
          · rw [i_le, z0] at y
            rcases H4 with ⟨-, na⟩ | ⟨v, e4, -, -⟩
            · have ln := OL_len (n := n) (by omega) b1
              have eF := cm_all (Q := Qv A CL (mI h 8 9)) (OL n l1) l2 (OL_nd n l1) (fun v hv => ⟨OL_32 hn v hv, fun z => b2 v z (OL_m.mp hv).2⟩) (fun S hS => ⟨fun i j bi bj => by
                rcases (hS i).2 bi with x | x <;> rcases (hS j).2 bj with y | y
                · exact ip i j x y
                · rw [hs]; exact ne j i (OL_m.mp y).2 x
                · exact ne i j (OL_m.mp x).2 y
                · exact na i j (OL_m.mp x).1 (OL_m.mp y).1 (OL_m.mp x).2 (OL_m.mp y).2, fun c hcm hsub => by
                rcases done c hcm hsub with ⟨t, t1, t2⟩ | ⟨u, v, ⟨u1, u2⟩, ⟨v1, v2⟩, hne⟩
                · exact ⟨t, t1, (hS t).1 t2⟩
                · have := na u v (b1 u u2) (b1 v v2) u2 v2
                  rw [hc c hcm u v u1 v1 hne] at this
                  cases this⟩)
              rw [eF] at hF hp
              have l18 : (OL n l1).length ≤ 18 := by omega
              have r8 : (bcE l1).toInt = ((OL n l1).length : Int) := by rw [bcI, ln]
              have p8 : (1 <<< (bcE l1 &&& 31) : Int32).toInt = ((2 ^ (OL n l1).length : Nat) : Int) := by rw [i_of r8 (by omega)]; exact p2Nv _ l18
              have hF : a + 2 ^ (OL n l1).length ≤ 262144 := hF
              generalize hw : 2 ^ (OL n l1).length = w2 at p8 hF hp
              have s10 : (mI h 8 10 + (1 <<< (bcE l1 &&& 31))).toInt = ((a + w2 : Nat) : Int) := by rw [i_add ea p8 (by omega)]; omega
              have pc2 : pcI l2 ≤ 32 := cN_le _ 32
              have s11 : (bcE l2 + bcE l1).toInt = ((pcI l2 + (OL n l1).length : Nat) : Int) := by rw [i_add (bcI l2) r8 (by omega)]; omega
              refine ⟨by omega, v_bitCount _ ⟨by omega, v_bitCount _ ?_⟩⟩
              have e11 : mI (wI h 8 10 (mI h 8 10 + (1 <<< (bcE l1 &&& 31)))) 8 11 = mI h 8 11 := by rw [mI_wI, if_neg (by decide)]
              rw [e11]
              generalize hx : (if mI h 8 11 < bcE l2 + bcE l1 then bcE l2 + bcE l1 else mI h 8 11) = x
              have ex : x.toInt = ((max b (pcI l2 + (OL n l1).length) : Nat) : Int) := by
                rw [← hx]
                by_cases c : mI h 8 11 < bcE l2 + bcE l1
                · rw [if_pos c, s11]
                  have c := i_lt.mp c
                  rw [eb, s11] at c
                  rw [Nat.max_eq_right (by omega)]
                · rw [if_neg c, eb]
                  have c := i_le.mp (nlt c)
                  rw [eb, s11] at c
                  rw [Nat.max_eq_left (by omega)]
              have o1 := Ok_w (ms := [8]) (Ok_rf hG) (k := 8) (j := 10) (v := mI h 8 10 + (1 <<< (bcE l1 &&& 31))) (lo := -2147483648) (hi := 2147483647) (by decide) (R_full _) (by decide) (by decide)
              have o2 := Ok_w o1 (k := 8) (j := 11) (v := x) (lo := -2147483648) (hi := 2147483647) (by decide) (R_full _) (by decide) (by decide)
              refine hp _ ⟨o2, fun j j1 j2 => ?_⟩ ?_ ?_
              · rw [mI_wI, if_neg (fun z => j2 z.2), mI_wI, if_neg (fun z => j1 z.2)]
              · rw [mI_wI, if_neg (by decide), mI_wI, if_pos ⟨rfl, rfl⟩]
                exact s10
              · rw [mI_wI, if_pos ⟨rfl, rfl⟩]
                exact ex
            · omega
        · rw [i_le, w.2.2.2.1, e5] at z
          have e5' := i_inc e5 (by omega)
          have ec : mI h 33 q = nth CL q := w.2.2.2.2 q (by omega)
          have hcm := nth_in CL q (by omega)
          rw [i_nat e5, ec]
          have nx : ((∀ t, bt (nth CL q) t = true → bt (mI h 8 9) t = true) → (∃ t, bt (nth CL q) t = true ∧ bt l2 t = true) ∨ ∃ u v, (bt (nth CL q) u = true ∧ bt l1 u = true) ∧ (bt (nth CL q) v = true ∧ bt l1 v = true) ∧ ¬ u = v) → ME g (uX3_colour (K + 1)) 17 [.ref 8, .int l1, .int l2, .int l3, .int r4, .int (l5 + 1), .retAddr 0, .retAddr 0, .retAddr 0] [] h (qV P) := fun hq' => ik (l5 + 1) (q + 1) e5' (by omega) (by omega) (fun i hi' => by
            by_cases e : i = q
            · rw [e]; exact hq'
            · exact hd' i (by omega))
          generalize nth CL q = c at hcm nx ⊢
          refine ⟨i_vp e5 (by omega), fun x13 e13 => ?_⟩
          rw [e13]
          refine ⟨fun y1 => nx (fun hsub => absurd (and_0.mpr hsub) y1), fun y1 => ⟨fun y2 => nx (fun _ => Or.inl ?_), fun y2 => ⟨by omega, v_bitCount _ ⟨fun y3 => ⟨fun y4 => nx (fun _ => Or.inr ?_), fun y4 x21 e21 => ⟨by omega, ?_⟩⟩, fun y3 => ?_⟩⟩⟩⟩
          · refine Classical.byContradiction fun q => y2 (and_nz.mpr (fun t t1 t2 => q ⟨t, t1, t2⟩))
          · obtain ⟨u, v, u1, v1, hne⟩ := pcI_2 (x := c &&& l1) (fun e => y3 (Int32.toInt_inj.mp (by rw [bcI, e]; rfl))) (fun e => y4 (Int32.toInt_inj.mp (by rw [bcI, e]; rfl)))
            rw [bt_and, Bool.and_eq_true] at u1 v1
            exact ⟨u, v, u1, v1, hne⟩
          · have p1 : pcI (c &&& l1) = 1 := by
              have := congrArg Int32.toInt y4
              rw [bcI, z1] at this
              omega
            obtain ⟨v, v32, vb, vu⟩ := pcI_1 p1
            have vb' := vb
            rw [bt_and, Bool.and_eq_true] at vb'
            have vn := b1 v vb'.2
            rw [e21]
            refine v_bitAt _ 0 (fun r nt => ?_) (fun no => absurd ?_ (no v v32 vb))
            · obtain ⟨k, -, kb, -, er⟩ := nt
              have ek : k = v := vu k kb
              rw [ek] at er
              rw [i_nat er]
              refine ⟨i_vp er (by omega), ?_⟩
              have bx : ∀ t, bt (c &&& l1) t = decide (t = v) := fun t => by
                cases x : bt (c &&& l1) t
                · exact (decide_eq_false (fun e => by rw [e, vb] at x; cases x)).symm
                · exact (decide_eq_true (vu t x)).symm
              have h2 : ∀ t, bt (l1 &&& ((c &&& l1) ^^^ (-1))) t = (bt l1 t && !decide (t = v)) := fun t => by rw [bt_andn, bx]
              have h1 : ∀ t, bt ((l1 &&& ((c &&& l1) ^^^ (-1))) &&& ((mI h 32 v) ^^^ (-1))) t = (bt (l1 &&& ((c &&& l1) ^^^ (-1))) t && !bt (mI h 32 v) t) := fun t => bt_andn t
              have e12 : l2 ||| (c &&& l1) = bs l2 v := bt_ext2 (fun t => by rw [bt_or2, bx, bs_bt l2 v32, show decide (v = t) = decide (t = v) from decide_eq_decide.mpr eq_comm])
              rw [e12]
              generalize l1 &&& ((c &&& l1) ^^^ (-1)) = o2 at h2 h1 ⊢
              generalize o2 &&& ((mI h 32 v) ^^^ (-1)) = o1 at h1 ⊢
              obtain ⟨s1, s2, s3, s4, s5, s6, s7, s8⟩ := co_step (CL := CL) (K := mI h 8 9) (mt := mI h 32 v) hn hs hi vn vb'.2 (fun t ht hne => w32 v t vn ht hne) b1 b2 ip ne h2 h1
              have cz : cm (Qv A CL (mI h 8 9)) (OL n o2) l2 = (0, 0) := cm_0 (OL n o2) l2 (OL_32 hn) (fun S hS hQ => by
                obtain ⟨t, t1, t2⟩ := hQ.2 c hcm (and_0.mp y1)
                rcases (hS t).2 t2 with x | x
                · exact and_nz.mp y2 t t1 x
                · obtain ⟨x1, x2⟩ := s3 t (OL_m.mp x).2
                  exact x2 (vu t (by rw [bt_and, t1, x1]; rfl)))
              rw [s8, cz, pj_y] at hF hp
              exact ih K o1 (bs l2 v) (l3 + 1) h _ a b (d + 1) (by omega) (by omega) e3 (by omega) w (fun t ht => b1 t (s3 t (s4 t ht).1).1) s5 s6 s7 ea eb hF hp
            · have := cN_lk (fun t => bt (c &&& l1) t) v32 vb
              have e : cN (fun t => bt (c &&& l1) t) 32 = 1 := p1
              rw [z0]
              omega
          · have p0 : pcI (c &&& l1) = 0 := by
              have := congrArg Int32.toInt y3
              rw [bcI, z0] at this
              omega
            have eF := cm_0 (Q := Qv A CL (mI h 8 9)) (OL n l1) l2 (OL_32 hn) (fun S hS hQ => by
              obtain ⟨t, t1, t2⟩ := hQ.2 c hcm (and_0.mp y1)
              rcases (hS t).2 t2 with x | x
              · exact and_nz.mp y2 t t1 x
              · exact pcI_0 p0 t (by rw [bt_and, t1, (OL_m.mp x).2]; rfl))
            rw [eF] at hp
            refine hp h (Oc_rf hG) ?_ ?_
            · rw [ea]; rfl
            · rw [eb]
              show _ = ((max b 0 : Nat) : Int)
              rw [Nat.max_zero]
    refine e_X3_colour l1 l2 l3 ⟨fun c => ⟨by omega, v_mostMet hn hi w l1 (fun na => body (-1) (Or.inl ⟨rfl, na⟩) (CL.length + 1) 0 0 (by decide) (Nat.zero_le _) (by omega) (fun i hi' => absurd hi' (Nat.not_lt_zero i))) (fun r v e1 e2 e3' => body r (Or.inr ⟨v, e1, e2, e3'⟩) (CL.length + 1) 0 0 (by decide) (Nat.zero_le _) (by omega) (fun i hi' => absurd hi' (Nat.not_lt_zero i)))⟩, fun c => absurd ?_ c⟩
    rw [i_le, ed, z18]
    omega
/-! the reference's colours -/
theorem sm_n20 : ∀ p, p < 20 → ((nI p &&& 31).toBitVec.smod 32) = BitVec.ofNat 32 p ∧ (BitVec.ofNat 32 p).toNat = p := by decide
theorem bt_s20 {x r : Int32} {p : Nat} (e : r.toInt = (p : Int)) (hp : p < 20) : ((x >>> (r &&& 31)) &&& 1) = if bt x p = true then 1 else 0 := by
  have er : r = nI p := i_nI e (by omega)
  subst er
  obtain ⟨s1, s2⟩ := sm_n20 p hp
  have key : (x.toBitVec.sshiftRight p)[0] = x.toBitVec.getLsbD p := by
    rw [← BitVec.getLsbD_eq_getElem (by decide), BitVec.getLsbD_sshiftRight]
    simp [show p < 32 by omega]
  have b : ((x >>> (nI p &&& 31)) &&& 1) = 0 ∨ ((x >>> (nI p &&& 31)) &&& 1) = 1 := R_z (R_and (x := x >>> (nI p &&& 31)) (y := 1) (c := 1) (d := 1) ⟨by decide, by decide⟩ (by decide))
  have z : ((x >>> (nI p &&& 31)) &&& 1) = 0 ↔ bt x p = false := by
    rw [← Int32.toBitVec_inj, Int32.toBitVec_and, Int32.toBitVec_shiftRight, s1]
    have h1 : (1 : Int32).toBitVec = 1#32 := rfl
    have h0 : (0 : Int32).toBitVec = 0#32 := rfl
    rw [h1, h0]
    unfold bt
    constructor
    · intro h
      have := congrArg (fun b => b.getLsbD 0) h
      simp [BitVec.sshiftRight', s2] at this
      rw [key] at this
      exact this
    · intro h
      apply BitVec.eq_of_getLsbD_eq
      intro i hi
      by_cases z : i = 0
      · subst z
        simp [BitVec.sshiftRight', s2]
        rw [key]
        exact h
      · simp [z]
  cases q : bt x p
  · rw [z.mpr q]
    rfl
  · rcases b with b | b
    · rw [z.mp b] at q
      cases q
    · rw [b]
      rfl
theorem v_bits20 {g : gT} {h : mh_T} {P : Int32 → mh_T → Prop} (x : Int32) (hx : ∀ t, bt x t = true → t < 20) (hp : ∀ r : Int32, r.toInt = (pcI x : Int) → P r h) : MCi g yX11_bits uX11_bits [.int x] h P := by
  have z20 : (20 : Int32).toInt = 20 := by decide
  have L : ∀ (m : Nat) (l1 l2 : Int32) (k : Nat), l2.toInt = (k : Int) → k ≤ 20 → 20 - k < m → l1.toInt = (cN (fun t => bt x t) k : Int) → ME g uX11_bits 4 [.int x, .int l1, .int l2] [] h (qI P) := by
    intro m
    induction m with
    | zero => intro _ _ _ _ _ hm; exact absurd hm (Nat.not_lt_zero _)
    | succ m ih =>
      intro l1 l2 k e2 hk hm e1
      refine r_X11_bits_4 x l1 l2 ⟨fun z => ?_, fun z x2 ex => ?_⟩
      · rw [i_le, z20, e2] at z
        have e : k = 20 := by omega
        rw [e] at e1
        refine hp l1 ?_
        rw [e1]
        have b := cN_hi (p := fun t => bt x t) (n := 20) (fun t ht z => by have := hx t z; omega) 12
        unfold pcI
        rw [show (32 : Nat) = 20 + 12 from rfl, b]
      · rw [i_le, z20, e2] at z
        refine ih x2 (l2 + 1) (k + 1) (i_inc e2 (by omega)) (by omega) (by omega) ?_
        have cl := cN_le (fun t => bt x t) k
        rw [ex, bt_s20 e2 (by omega)]
        show _ = ((cN (fun t => bt x t) k + (if bt x k = true then 1 else 0) : Nat) : Int)
        by_cases y : bt x k = true
        · rw [if_pos y, if_pos y]
          exact i_inc e1 (by omega)
        · rw [if_neg y, if_neg y, show l1 + 0 = l1 from Int32.add_zero l1]
          exact e1
  exact e_X11_bits x (L 21 0 0 0 (by decide) (by omega) (by omega) (show (0 : Int32).toInt = ((0 : Nat) : Int) from by decide))
def sbI (c K : Int32) : Prop := ∀ t, bt c t = true → bt K t = true
/-- so far there is no corner that can't be -/
def SF (CL : List Int32) (K o s : Int32) : Prop := ∀ c, c ∈ CL → sbI c K → pcI (c &&& o) < 2 ∧ (¬ sbI c s ∨ pcI (c &&& o) = 1)
theorem v_isSoFar {g : gT} {h : mh_T} {P : Int32 → mh_T → Prop} {CL : List Int32} (l1 l2 l3 : Int32) (cn : Cn 56 11 34 h CL) (c3 : CL.length ≤ 3060) (hcn : ∀ c, c ∈ CL → ∀ t, bt c t = true → t < 18) (h1 : SF CL l1 l2 l3 → P 1 h) (h0 : ¬ SF CL l1 l2 l3 → P 0 h) : MCi g yX11_isSoFar uX11_isSoFar [.ref 11, .int l1, .int l2, .int l3] h P := by
  have z2 : (2 : Int32).toInt = 2 := by decide
  have L : ∀ (m : Nat) (l4 l5 : Int32) (k : Nat), l5.toInt = (k : Int) → k ≤ CL.length → CL.length - k < m → ((l4 = 1 ∧ ∀ i, i < k → sbI (nth CL i) l1 → pcI (nth CL i &&& l2) < 2 ∧ (¬ sbI (nth CL i) l3 ∨ pcI (nth CL i &&& l2) = 1)) ∨ (l4 = 0 ∧ ¬ SF CL l1 l2 l3)) → ME g uX11_isSoFar 6 [.ref 11, .int l1, .int l2, .int l3, .int l4, .int l5, .retAddr 0, .retAddr 0] [] h (qI P) := by
    intro m
    induction m with
    | zero => intro _ _ _ _ _ hm; exact absurd hm (Nat.not_lt_zero _)
    | succ m ih =>
      intro l4 l5 k e5 hk hm inv
      refine r_X11_isSoFar_6 l1 l2 l3 l4 l5 ⟨fun z => ?_, fun z => ?_⟩
      · rw [i_le, cn.1, e5] at z
        rcases inv with ⟨i1, i2⟩ | ⟨i1, i2⟩
        · rw [i1]
          refine ⟨Or.inr rfl, h1 (fun c hc hs => ?_)⟩
          obtain ⟨i, i3, i4⟩ := in_nth CL hc
          rw [← i4] at hs ⊢
          exact i2 i (by omega) hs
        · rw [i1]
          exact ⟨Or.inl rfl, h0 i2⟩
      · rw [i_le, cn.1, e5] at z
        have e5' := i_inc e5 (by omega)
        refine ⟨fun y => ?_, fun y => ?_⟩
        · rcases inv with ⟨i1, i2⟩ | ⟨i1, i2⟩
          · rw [i1] at y; exact absurd y (by decide)
          · rw [i1]; exact ⟨Or.inl rfl, h0 i2⟩
        · rcases inv with ⟨i1, i2⟩ | ⟨i1, i2⟩
          · have hcm := nth_in CL k (by omega)
            have ec : mI h 56 k = nth CL k := cn.2 k (by omega)
            rw [i_nat e5, ec]
            have bad : (sbI (nth CL k) l1 → pcI (nth CL k &&& l2) < 2 ∧ (¬ sbI (nth CL k) l3 ∨ pcI (nth CL k &&& l2) = 1)) → ME g uX11_isSoFar 6 [.ref 11, .int l1, .int l2, .int l3, .int 1, .int (l5 + 1), .retAddr 0, .retAddr 0] [] h (qI P) := fun q => ih 1 (l5 + 1) (k + 1) e5' (by omega) (by omega) (Or.inl ⟨rfl, fun i hi hs => by
              by_cases e : i = k
              · rw [e] at hs ⊢; exact q hs
              · exact i2 i (by omega) hs⟩)
            have no : ¬ SF CL l1 l2 l3 → ME g uX11_isSoFar 6 [.ref 11, .int l1, .int l2, .int l3, .int 0, .int (l5 + 1), .retAddr 0, .retAddr 0] [] h (qI P) := fun q => ih 0 (l5 + 1) (k + 1) e5' (by omega) (by omega) (Or.inr ⟨rfl, q⟩)
            refine ⟨i_vp e5 (by omega), fun x4 ex => ?_⟩
            rw [ex]
            have hb := hcn _ hcm
            generalize nth CL k = c at hcm bad hb ⊢
            refine ⟨fun w => ?_, fun w => ?_⟩
            · have sub : sbI c l1 := and_0.mp w
              refine v_bits20 (c &&& l2) (fun t ht => by rw [bt_and, Bool.and_eq_true] at ht; have := hb t ht.1; omega) (fun r er => ⟨fun v => ?_, fun v => ⟨fun u => ?_, fun u => ⟨fun x => ?_, fun x => ?_⟩⟩⟩)
              · rw [i_le, z2, er] at v
                exact no (fun s => by have := (s c hcm sub).1; omega)
              · rw [i_le, z2, er] at v
                exact bad (fun _ => ⟨by omega, Or.inl (fun s => u (and_0.mpr s))⟩)
              · refine no (fun s => ?_)
                rcases (s c hcm sub).2 with q | q
                · exact q (and_0.mp u)
                · exact x (Int32.toInt_inj.mp (by rw [er, q]; rfl))
              · refine bad (fun _ => ?_)
                have := congrArg Int32.toInt x
                rw [er, show (1 : Int32).toInt = 1 from by decide] at this
                exact ⟨by omega, Or.inr (by omega)⟩
            · rw [i1]
              exact bad (fun s => absurd (and_0.mpr s) w)
          · rw [i1] at y; exact absurd rfl y
  exact e_X11_isSoFar l1 l2 l3 (L (CL.length + 1) 1 0 0 (by decide) (Nat.zero_le _) (by omega) (Or.inl ⟨rfl, fun i hi => absurd hi (Nat.not_lt_zero i)⟩))
theorem lw_al : ∀ e, e ≤ 18 → ∀ t, t < 32 → bt ((1 <<< (Int32.ofNat e &&& 31)) - 1) t = decide (t < e) := by decide +kernel
theorem al_bt {e : Nat} (he : e ≤ 18) (t : Nat) : bt ((1 <<< (Int32.ofNat e &&& 31)) - 1) t = decide (t < e) := by
  by_cases ht : t < 32
  · exact lw_al e he t ht
  · rw [decide_eq_false (by omega)]
    cases x : bt ((1 <<< (Int32.ofNat e &&& 31)) - 1) t
    · rfl
    · exact absurd (bt_lt x) ht
/-- what is below e -/
def lwI (x : Int32) (e : Nat) : Int32 := x &&& ((1 <<< (Int32.ofNat e &&& 31)) - 1)
theorem lw_bt {x : Int32} {e : Nat} (he : e ≤ 18) (t : Nat) : bt (lwI x e) t = (bt x t && decide (t < e)) := by
  unfold lwI
  rw [bt_and, al_bt he]
theorem lw_cg {x y : Int32} {e : Nat} (he : e ≤ 18) (h : ∀ t, t < e → bt x t = bt y t) : lwI x e = lwI y e := bt_ext2 (fun t => by
  rw [lw_bt he, lw_bt he]
  by_cases ht : t < e
  · rw [h t ht]
  · rw [decide_eq_false ht, Bool.and_false, Bool.and_false])
theorem lw_id {x : Int32} {e : Nat} (he : e ≤ 18) (h : ∀ t, bt x t = true → t < e) : lwI x e = x := bt_ext2 (fun t => by
  rw [lw_bt he]
  cases q : bt x t
  · rfl
  · rw [decide_eq_true (h t q)]; rfl)
noncomputable def nodeR (Q : Int32 → Prop) (K : Int32) (n d : Nat) (o : Int32) : Nat × Nat := cm Q ((rl d n).filter (fun t => bt K t)) o
noncomputable def altR (Q : Int32 → Prop) (K : Int32) (n e : Nat) (o : Int32) : Nat × Nat := if bt K e = true then nodeR Q K n (e + 1) (bs o e) else (0, 0)
theorem node_s {Q : Int32 → Prop} {K : Int32} {n d : Nat} (h : d < n) (o : Int32) : nodeR Q K n d o = pj (altR Q K n d o) (nodeR Q K n (d + 1) o) := by
  unfold altR
  by_cases k : bt K d = true
  · rw [if_pos k]
    unfold nodeR
    rw [rl_c h, List.filter_cons_of_pos (p := fun t => bt K t) k, cm_c]
  · rw [if_neg k, pj_z]
    unfold nodeR
    rw [rl_c h, List.filter_cons_of_neg (p := fun t => bt K t) k]
/-- what is still to be gone through at the levels below D -/
noncomputable def RB (Q : Int32 → Prop) (K : Int32) (n : Nat) (ch : Nat → Int32) (x : Int32) : Nat → Nat × Nat
  | 0 => (0, 0)
  | e + 1 => pj (if ch e = 1 then altR Q K n e (lwI x e) else (0, 0)) (RB Q K n ch x e)
theorem RB_cg {Q : Int32 → Prop} {K : Int32} {n : Nat} {ch ch' : Nat → Int32} {x x' : Int32} : ∀ D, D ≤ 18 → (∀ e, e < D → ch e = ch' e) → (∀ t, t < D → bt x t = bt x' t) → RB Q K n ch x D = RB Q K n ch' x' D
  | 0, _, _, _ => rfl
  | e + 1, hD, h1, h2 => by
    show pj (if ch e = 1 then altR Q K n e (lwI x e) else (0, 0)) (RB Q K n ch x e) = pj (if ch' e = 1 then altR Q K n e (lwI x' e) else (0, 0)) (RB Q K n ch' x' e)
    rw [RB_cg e (by omega) (fun i hi => h1 i (by omega)) (fun t ht => h2 t (by omega)), h1 e (Nat.lt_succ_self e), lw_cg (by omega) (fun t ht => h2 t (by omega))]
/-- what is chosen goes so far -/
def Gw (A : Nat → Nat → Bool) (CL : List Int32) (K : Int32) (D : Nat) (o : Int32) : Prop := Ip A o ∧ ∀ c, c ∈ CL → sbI c K → (∀ t, bt c t = true → t < D) → ∃ t, bt c t = true ∧ bt o t = true
theorem Gw_dn {A : Nat → Nat → Bool} {CL : List Int32} {K : Int32} {D e : Nat} {x : Int32} (hD : D ≤ 18) (he : e ≤ D) (h : Gw A CL K D (lwI x D)) : Gw A CL K e (lwI x e) := by
  have sb : ∀ t, bt (lwI x e) t = true → bt (lwI x D) t = true := fun t ht => by
    rw [lw_bt (by omega), Bool.and_eq_true] at ht ⊢
    exact ⟨ht.1, decide_eq_true (by have := of_decide_eq_true ht.2; omega)⟩
  refine ⟨fun i j bi bj => h.1 i j (sb i bi) (sb j bj), fun c hc hs hb => ?_⟩
  obtain ⟨t, t1, t2⟩ := h.2 c hc hs (fun t ht => by have := hb t ht; omega)
  rw [lw_bt hD, Bool.and_eq_true] at t2
  exact ⟨t, t1, by rw [lw_bt (by omega), t2.1, decide_eq_true (hb t t1)]; rfl⟩
/-- the corners are of rays square each with each -/
def CQ (A : Nat → Nat → Bool) (n : Nat) (CL : List Int32) : Prop := (∀ c, c ∈ CL → ∀ i j, bt c i = true → bt c j = true → ¬ i = j → A i j = true) ∧ (∀ c, c ∈ CL → ∀ t, bt c t = true → t < n) ∧ ∀ c, c ∈ CL → ∃ t, bt c t = true
/-- the corners of a list of rays: square each with each, of the list, with what is told ahead -/
theorem kb_cl {A : Nat → Nat → Bool} (hs : ∀ u v, A u v = A v u) : ∀ (r : Nat) (acc : Int32) (L : List Nat) (c : Int32), (∀ v, v ∈ L → v < 32) → (∀ i j, bt acc i = true → bt acc j = true → ¬ i = j → A i j = true) → (∀ v, v ∈ L → ∀ t, bt acc t = true → A v t = true) → c ∈ kb A r acc L → (∀ i j, bt c i = true → bt c j = true → ¬ i = j → A i j = true) ∧ (∀ t, bt c t = true → bt acc t = true ∨ t ∈ L) ∧ (∀ t, bt acc t = true → bt c t = true) ∧ (¬ r = 0 → ∃ t, bt c t = true)
  | 0, acc, L, c, _, h2, _, hc => by
    have e : c = acc := List.mem_singleton.mp hc
    rw [e]
    exact ⟨h2, fun t => Or.inl, fun t => id, fun z => absurd rfl z⟩
  | r + 1, acc, L, c, h1, h2, h3, hc => by
    induction L with
    | nil => cases hc
    | cons v L ih =>
      have v32 := h1 v List.mem_cons_self
      have l32 : ∀ u, u ∈ L → u < 32 := fun u hu => h1 u (List.mem_cons_of_mem v hu)
      rw [kb_c] at hc
      rcases List.mem_append.mp hc with q | q
      · have av : ∀ t, bt acc t = true → A v t = true := h3 v List.mem_cons_self
        obtain ⟨a, b, d, -⟩ := kb_cl hs r (bs acc v) (L.filter (A v)) c (fun u hu => l32 u (List.mem_filter.mp hu).1) (fun i j bi bj hij => by
          rw [bs_bt acc v32, Bool.or_eq_true] at bi bj
          rcases bi with x | x <;> rcases bj with y | y
          · exact h2 i j x y hij
          · rw [← of_decide_eq_true y, hs]; exact av i x
          · rw [← of_decide_eq_true x]; exact av j y
          · exact absurd ((of_decide_eq_true x).symm.trans (of_decide_eq_true y)) hij) (fun u hu t ht => by
          rw [bs_bt acc v32, Bool.or_eq_true] at ht
          rcases ht with x | x
          · exact h3 u (List.mem_cons_of_mem v (List.mem_filter.mp hu).1) t x
          · rw [← of_decide_eq_true x, hs]; exact (List.mem_filter.mp hu).2) q
        have cv : bt c v = true := d v (by rw [bs_bt acc v32, decide_eq_true rfl, Bool.or_true])
        refine ⟨a, fun t ht => ?_, fun t ht => d t (by rw [bs_bt acc v32, ht]; rfl), fun _ => ⟨v, cv⟩⟩
        rcases b t ht with x | x
        · rw [bs_bt acc v32, Bool.or_eq_true] at x
          rcases x with x | x
          · exact Or.inl x
          · rw [← of_decide_eq_true x]; exact Or.inr List.mem_cons_self
        · exact Or.inr (List.mem_cons_of_mem v (List.mem_filter.mp x).1)
      · obtain ⟨a, b, d, e⟩ := ih l32 (fun u hu => h3 u (List.mem_cons_of_mem v hu)) q
        exact ⟨a, fun t ht => (b t ht).imp id (List.mem_cons_of_mem v), d, e⟩
theorem kb_CQ {A : Nat → Nat → Bool} {n : Nat} (hn : n ≤ 18) (hs : ∀ u v, A u v = A v u) : CQ A n (kb A 4 0 (rl 0 n)) := by
  have k := fun (c : Int32) (hc : c ∈ kb A 4 0 (rl 0 n)) => kb_cl hs 4 0 (rl 0 n) c (fun v hv => by have := (rl_m hv).2; omega) (fun i j bi => by rw [bt_zr] at bi; cases bi) (fun v _ t ht => by rw [bt_zr] at ht; cases ht) hc
  refine ⟨fun c hc => (k c hc).1, fun c hc t ht => ?_, fun c hc => (k c hc).2.2.2 (by decide)⟩
  rcases (k c hc).2.1 t ht with x | x
  · rw [bt_zr] at x; cases x
  · exact (rl_m x).2
theorem SF_no {A : Nat → Nat → Bool} {CL : List Int32} {K s o : Int32} {n D : Nat} (hn : n ≤ 18) (cq : CQ A n CL) (hs : ∀ t, bt s t = decide (t < D)) (h : ¬ SF CL K o s) : nodeR (Qv A CL K) K n D o = (0, 0) := by
  unfold nodeR
  refine cm_0 _ o (fun v hv => by have := (rl_m (List.mem_filter.mp hv).1).2; omega) (fun S hS hQ => h (fun c hc hsub => ?_))
  have lt2 : pcI (c &&& o) < 2 := Classical.byContradiction fun q => by
    obtain ⟨u, v, u1, v1, hne⟩ := pcI_2 (x := c &&& o) (by omega) (by omega)
    rw [bt_and, Bool.and_eq_true] at u1 v1
    have := hQ.1 u v ((hS u).1 u1.2) ((hS v).1 v1.2)
    rw [cq.1 c hc u v u1.1 v1.1 hne] at this
    cases this
  refine ⟨lt2, ?_⟩
  by_cases q : sbI c s
  · refine Or.inr ?_
    obtain ⟨t, t1, t2⟩ := hQ.2 c hc hsub
    have tD : t < D := by
      have := q t t1
      rw [hs t] at this
      exact of_decide_eq_true this
    have to : bt o t = true := by
      rcases (hS t).2 t2 with x | x
      · exact x
      · have := (rl_m (List.mem_filter.mp x).1).1
        omega
    have nz : ¬ pcI (c &&& o) = 0 := fun z => pcI_0 z t (by rw [bt_and, t1, to]; rfl)
    omega
  · exact Or.inl q
theorem SF_go {A : Nat → Nat → Bool} {CL : List Int32} {K s o : Int32} {D : Nat} (ip : Ip A o) (hs : ∀ t, bt s t = decide (t < D)) (h : SF CL K o s) : Gw A CL K D o := by
  refine ⟨ip, fun c hc hsub hb => ?_⟩
  rcases (h c hc hsub).2 with q | q
  · exact absurd (fun t ht => by rw [hs t]; exact decide_eq_true (hb t ht)) q
  · obtain ⟨v, -, vb, -⟩ := pcI_1 q
    rw [bt_and, Bool.and_eq_true] at vb
    exact ⟨v, vb.1, vb.2⟩
noncomputable def curR (Q : Int32 → Prop) (K : Int32) (n D : Nat) (c : Int32) (o : Int32) : Nat × Nat := if c = 0 then nodeR Q K n D o else if c = 1 then altR Q K n D o else (0, 0)

/-- where the reference stands in its tree, and what is still to come -/
def S7 (A : Nat → Nat → Bool) (CL : List Int32) (K : Int32) (n : Nat) (ch : Nat → Int32) (l4 l5 : Int32) (R : Nat × Nat) : Prop := (l4 = -1 ∧ R = (0, 0)) ∨ ∃ D : Nat, l4.toInt = (D : Int) ∧ D ≤ n ∧ (∀ t, bt l5 t = true → t ≤ D ∧ t < n) ∧ Gw A CL K D (lwI l5 D) ∧ (∀ e, e < D → ¬ ch e = 0) ∧ (∀ e, D < e → e < n → ch e = 0) ∧ R = pj (if D = n then nodeR (Qv A CL K) K n n (lwI l5 n) else curR (Qv A CL K) K n D (ch D) (lwI l5 D)) (RB (Qv A CL K) K n ch l5 D)
theorem i_dec {x : Int32} {k : Nat} (h : x.toInt = ((k + 1 : Nat) : Int)) (hk : k < 2147483647) : (x + (-1)).toInt = (k : Int) := by
  have := i_add h (show (-1 : Int32).toInt = -1 from by decide) (by omega)
  rw [this]
  omega
theorem S7_back {A : Nat → Nat → Bool} {CL : List Int32} {K : Int32} {n : Nat} {ch : Nat → Int32} {l4 x : Int32} {D : Nat} (hn : n ≤ 18) (hD : D ≤ n) (e4 : l4.toInt = (D : Int)) (hb : ∀ t, bt x t = true → t < D) (gw : Gw A CL K D (lwI x D)) (c1 : ∀ e, e < D → ¬ ch e = 0) (c2 : ∀ e, D ≤ e → e < n → ch e = 0) : S7 A CL K n ch (l4 + (-1)) x (RB (Qv A CL K) K n ch x D) := by
  cases D with
  | zero =>
    refine Or.inl ⟨?_, rfl⟩
    have : l4 = 0 := Int32.toInt_inj.mp (by rw [e4]; rfl)
    rw [this]
    rfl
  | succ e =>
    refine Or.inr ⟨e, i_dec e4 (by omega), by omega, fun t ht => by have := hb t ht; exact ⟨by omega, by omega⟩, Gw_dn (by omega) (by omega) gw, fun i hi => c1 i (by omega), fun i hi hn' => c2 i (by omega) hn', ?_⟩
    rw [if_neg (by omega)]
    show pj (if ch e = 1 then altR (Qv A CL K) K n e (lwI x e) else (0, 0)) (RB (Qv A CL K) K n ch x e) = _
    unfold curR
    rw [if_neg (c1 e (Nat.lt_succ_self e))]
theorem S7_down {A : Nat → Nat → Bool} {CL : List Int32} {K : Int32} {n : Nat} {ch : Nat → Int32} {l4 y : Int32} {D : Nat} (hn : n ≤ 18) (hD : D < n) (e4 : l4.toInt = (D : Int)) (hb : ∀ t, bt y t = true → t < D + 1) (gw : Gw A CL K (D + 1) y) (c1 : ∀ e, e < D + 1 → ¬ ch e = 0) (c2 : ∀ e, D + 1 ≤ e → e < n → ch e = 0) : S7 A CL K n ch (l4 + 1) y (pj (nodeR (Qv A CL K) K n (D + 1) y) (pj (if ch D = 1 then altR (Qv A CL K) K n D (lwI y D) else (0, 0)) (RB (Qv A CL K) K n ch y D))) := by
  have ey : lwI y (D + 1) = y := lw_id (by omega) hb
  refine Or.inr ⟨D + 1, i_inc e4 (by omega), by omega, fun t ht => by have := hb t ht; exact ⟨by omega, by omega⟩, by rw [ey]; exact gw, c1, fun e he hn' => c2 e (by omega) hn', ?_⟩
  by_cases q : D + 1 = n
  · rw [if_pos q, ← q, ey]
    rfl
  · rw [if_neg q, ey]
    unfold curR
    rw [if_pos (c2 (D + 1) (Nat.le_refl _) (by omega))]
    rfl
theorem S7_stay {A : Nat → Nat → Bool} {CL : List Int32} {K : Int32} {n : Nat} {ch : Nat → Int32} {l4 x : Int32} {D : Nat} {R : Nat × Nat} (hD : D < n) (e4 : l4.toInt = (D : Int)) (hb : ∀ t, bt x t = true → t ≤ D ∧ t < n) (gw : Gw A CL K D (lwI x D)) (c1 : ∀ e, e < D → ¬ ch e = 0) (c2 : ∀ e, D < e → e < n → ch e = 0) (hR : R = pj (curR (Qv A CL K) K n D (ch D) (lwI x D)) (RB (Qv A CL K) K n ch x D)) : S7 A CL K n ch l4 x R :=
  Or.inr ⟨D, e4, by omega, hb, gw, c1, c2, by rw [if_neg (by omega)]; exact hR⟩
theorem cF_w {h : mh_T} {d : Nat} (v : Int32) (j : Nat) : cF (wI h 58 d v) j = if j = d then v.toNatClampNeg else cF h j := by
  show (mI (wI h 58 d v) 58 j).toNatClampNeg = _
  rw [mI_wI]
  by_cases q : j = d
  · rw [if_pos ⟨rfl, q⟩, if_pos q]
  · rw [if_neg (fun z => q z.2), if_neg q]
    rfl
theorem cM_at {a d : Nat} {h : mh_T} (hda : d < a) : cM a h (d : Int) = cT a (cF h) d + cR a d (cF h d) := by
  unfold cM
  rw [if_neg (by omega), if_neg (by omega), show (d : Int).toNat + 1 = d + 1 by omega]
  rfl
theorem cM_stay {a d : Nat} {h : mh_T} {v : Int32} (hda : d < a) (hv : v.toNatClampNeg = cF h d + 1) (hc2 : cF h d ≤ 1) (hz : ∀ j, d < j → j < a → mI h 58 j = 0) : cM a (wI h 58 d v) (d : Int) < cM a h (d : Int) ∧ cM a (wI h 58 d v) ((d + 1 : Nat) : Int) < cM a h (d : Int) := by
  have cTw : cT a (cF (wI h 58 d v)) d = cT a (cF h) d := cT_congr d (fun k hk => by rw [cF_w, if_neg (by omega)])
  have hcd : cF (wI h 58 d v) d = cF h d + 1 := by rw [cF_w, if_pos rfl, hv]
  have key : cR a d (cF h d) = cR a d (cF h d + 1) + (1 + cS (a - d - 1)) := by
    unfold cR
    rcases (show cF h d = 0 ∨ cF h d = 1 by omega) with q | q <;> rw [q] <;> omega
  have c0 := cM_at (h := h) hda
  have c1 := cM_at (h := wI h 58 d v) hda
  rw [cTw, hcd] at c1
  refine ⟨by omega, ?_⟩
  by_cases q : d + 1 = a
  · have e : cM a (wI h 58 d v) ((d + 1 : Nat) : Int) = cT a (cF h) d + cR a d (cF h d + 1) + 1 := by
      unfold cM
      rw [if_neg (by omega), if_pos (by omega), show cT a (cF (wI h 58 d v)) a = cT a (cF (wI h 58 d v)) (d + 1) by rw [q]]
      show cT a (cF (wI h 58 d v)) d + cR a d (cF (wI h 58 d v) d) + 1 = _
      rw [cTw, hcd]
    have s1 : cS (a - d - 1) = 1 := by rw [show a - d - 1 = 0 by omega]; rfl
    omega
  · have e0 : cF (wI h 58 d v) (d + 1) = 0 := by
      rw [cF_w, if_neg (by omega)]
      show (mI h 58 (d + 1)).toNatClampNeg = 0
      rw [hz (d + 1) (by omega) (by omega)]
      rfl
    have c2 := cM_at (a := a) (d := d + 1) (h := wI h 58 d v) (by omega)
    have e1 : cT a (cF (wI h 58 d v)) (d + 1) = cT a (cF h) d + cR a d (cF h d + 1) := by
      show cT a (cF (wI h 58 d v)) d + cR a d (cF (wI h 58 d v) d) = _
      rw [cTw, hcd]
    rw [e0, e1] at c2
    have s1 : cR a (d + 1) 0 = cS (a - d - 1) := by
      unfold cR
      rw [show a - d - 1 = (a - (d + 1) - 1) + 1 by omega]
      show _ = 3 + 2 * cS (a - (d + 1) - 1)
      omega
    omega
theorem cM_back {a d : Nat} {h : mh_T} {l4 : Int32} (hda : d < a) (a18 : a ≤ 18) (e4 : l4.toInt = (d : Int)) (h2 : cF h d = 2) : cM a (wI h 58 d 0) (l4 + (-1)).toInt < cM a h (d : Int) := by
  have cTw : cT a (cF (wI h 58 d 0)) d = cT a (cF h) d := cT_congr d (fun k hk => by rw [cF_w, if_neg (by omega)])
  have c0 := cM_at (h := h) hda
  have e2 : cR a d (cF h d) = 1 := by
    unfold cR
    rw [h2]
    omega
  have em : (l4 + (-1)).toInt = (d : Int) - 1 := by
    have := i_add e4 (show (-1 : Int32).toInt = -1 from by decide) (by omega)
    rw [this]
    omega
  rw [em]
  cases d with
  | zero =>
    have : cM a (wI h 58 0 0) (((0 : Nat) : Int) - 1) = 0 := by
      unfold cM
      rw [if_pos (by omega)]
    omega
  | succ d =>
    have : cM a (wI h 58 (d + 1) 0) (((d + 1 : Nat) : Int) - 1) = cT a (cF h) (d + 1) := by
      unfold cM
      rw [if_neg (by omega), if_neg (by omega), show (((d + 1 : Nat) : Int) - 1).toNat + 1 = d + 1 by omega, cTw]
    omega
theorem cM_leaf {a : Nat} {h k : mh_T} {l4 : Int32} (a18 : a ≤ 18) (e4 : l4.toInt = (a : Int)) (e : ∀ j, mI k 58 j = mI h 58 j) : cM a k (l4 + (-1)).toInt < cM a h (a : Int) := by
  have eF : cF k = cF h := by
    funext j
    show (mI k 58 j).toNatClampNeg = _
    rw [e]
    rfl
  have c0 : cM a h (a : Int) = cT a (cF h) a + 1 := by
    unfold cM
    rw [if_neg (by omega), if_pos rfl]
  have em : (l4 + (-1)).toInt = (a : Int) - 1 := by
    have := i_add e4 (show (-1 : Int32).toInt = -1 from by decide) (by omega)
    rw [this]
    omega
  rw [em]
  cases a with
  | zero =>
    have : cM 0 k (((0 : Nat) : Int) - 1) = 0 := by
      unfold cM
      rw [if_pos (by omega)]
    omega
  | succ a =>
    have : cM (a + 1) k (((a + 1 : Nat) : Int) - 1) = cT (a + 1) (cF h) (a + 1) := by
      unfold cM
      rw [if_neg (by omega), if_neg (by omega), show (((a + 1 : Nat) : Int) - 1).toNat + 1 = a + 1 by omega, eF]
    omega
theorem st_al : ∀ e, e < 18 → ∀ t, t < 32 → bt (((1 <<< (Int32.ofNat e &&& 31)) <<< (1 &&& 31)) - 1) t = decide (t < e + 1) := by decide +kernel
theorem st_bt {e : Nat} (he : e < 18) (t : Nat) : bt (((1 <<< (Int32.ofNat e &&& 31)) <<< (1 &&& 31)) - 1) t = decide (t < e + 1) := by
  by_cases ht : t < 32
  · exact st_al e he t ht
  · rw [decide_eq_false (by omega)]
    cases x : bt (((1 <<< (Int32.ofNat e &&& 31)) <<< (1 &&& 31)) - 1) t
    · rfl
    · exact absurd (bt_lt x) ht
def Ow (h0 h : mh_T) : Prop := Ok [300, 11, 58] h0 h ∧ mI h 11 34 = mI h0 11 34
theorem Ow_58 {h0 h : mh_T} {d : Nat} {v : Int32} (o : Ow h0 h) (f : R 0 2 v) : Ow h0 (wI h 58 d v) := ⟨Ok_w o.1 (k := 58) (j := d) (v := v) (lo := 0) (hi := 2) rfl f (by decide) (nt_k (by decide)), by rw [mI_wI, if_neg (fun z => absurd z.1 (by decide))]; exact o.2⟩
set_option maxHeartbeats 8000000 in
theorem w_colour_47 {g : gT} {h0 : mh_T} {P : mh_T → Prop} {A : Nat → Nat → Bool} {CL : List Int32} {n : Nat} (hn : n ≤ 18) (hs : ∀ u v, A u v = A v u) (hi : ∀ v, A v v = false) (cq : CQ A n CL) (c3 : CL.length ≤ 3060) (K l2 l3 : Int32) (mo : Nat) (em : l2.toInt = (mo : Int)) (en : l3.toInt = (n : Int)) (F : Nat × Nat) (hF : F.1 ≤ 262144) (sq : ∀ i j, i < n → j < n → bt (mI h0 57 i) j = A i j) (cn : Cn 56 11 34 h0 CL) (hp : ∀ (h' : mh_T) (a b : Nat), Ow h0 h' → (mI h' 11 36).toInt = (a : Int) → (mI h' 11 37).toInt = (b : Int) → ((a, b) = F ∨ (a = mo ∧ mo ≤ F.1)) → P h') : ∀ (f : Nat) (l4 l5 : Int32) (h : mh_T) (a b : Nat) (R : Nat × Nat), Ow h0 h → (mI h 11 36).toInt = (a : Int) → (mI h 11 37).toInt = (b : Int) → pj (a, b) R = F → S7 A CL K n (fun j => mI h 58 j) l4 l5 R → cM n h l4.toInt < f → ME g uX11_colour 47 [.ref 11, .int K, .int l2, .int l3, .int l4, .int l5, .retAddr 0, .retAddr 0, .retAddr 0] [] h (qV P) := by
  intro f
  induction f with
  | zero => intro _ _ _ _ _ _ _ _ _ _ _ hm; exact absurd hm (Nat.not_lt_zero _)
  | succ f ih =>
    intro l4 l5 h a b R ow ea eb eF st hm
    have z0 : (0 : Int32).toInt = 0 := by decide
    have hcn : ∀ c, c ∈ CL → ∀ t, bt c t = true → t < 18 := fun c hc t ht => by have := cq.2.1 c hc t ht; omega
    have cn' : ∀ {k : mh_T}, Ow h0 k → Cn 56 11 34 k CL := fun o => ⟨by rw [o.2]; exact cn.1, fun i hi => by rw [show mI _ 56 i = mI h0 56 i from Ok_eq o.1 (by decide)]; exact cn.2 i hi⟩
    rcases st with ⟨e4, eR⟩ | ⟨D, e4, hD, hb, gw, ch1, ch2, eR⟩
    · refine r_X11_colour_47 K l2 l3 l4 l5 ⟨fun _ => ?_, fun c => absurd (show l4 < 0 by rw [e4]; decide) c⟩
      rw [eR, pj_y] at eF
      exact hp h a b ow ea eb (Or.inl eF)
    · have eR : R = pj (if D = n then nodeR (Qv A CL K) K n n (lwI l5 n) else curR (Qv A CL K) K n D (mI h 58 D) (lwI l5 D)) (RB (Qv A CL K) K n (fun j => mI h 58 j) l5 D) := eR
      have a18 : a ≤ 262144 := by
        have := congrArg Prod.fst eF
        have : a + R.1 = F.1 := this
        omega
      have b32 : b ≤ F.2 := by
        have := congrArg Prod.snd eF
        have : max b R.2 = F.2 := this
        rw [← this]
        exact Nat.le_max_left _ _
      refine r_X11_colour_47 K l2 l3 l4 l5 ⟨fun c => ?_, fun _ => ⟨fun c2 x3 e3 x4 e4' => ?_, fun c2 => ?_⟩⟩
      · have c := i_lt.mp c
        rw [z0, e4] at c
        omega
      · have hDn : D < n := by
          have : ¬ l4.toInt = l3.toInt := fun z => c2 (Int32.toInt_inj.mp z)
          omega
        rw [if_neg (by omega)] at eR
        have eo : x4 = lwI l5 D := bt_ext2 (fun t => by
          rw [e4', e3, bt_clr e4 (by omega), lw_bt (by omega)]
          cases q : bt l5 t
          · rfl
          · have := hb t q
            rw [Bool.true_and, Bool.true_and]
            by_cases w : D = t
            · rw [decide_eq_true w, decide_eq_false (by omega)]; rfl
            · rw [decide_eq_false w, decide_eq_true (by omega)]; rfl)
        have ob : ∀ t, bt x4 t = true → t < D := fun t ht => by
          rw [eo, lw_bt (by omega), Bool.and_eq_true] at ht
          exact of_decide_eq_true ht.2
        have eo' : lwI x4 D = x4 := lw_id (by omega) ob
        rw [← eo] at gw eR
        have gw' : Gw A CL K D (lwI x4 D) := by rw [eo']; exact gw
        have rb : ∀ (v y : Int32), (∀ t, t < D → bt y t = bt l5 t) → RB (Qv A CL K) K n (fun j => mI (wI h 58 D v) 58 j) y D = RB (Qv A CL K) K n (fun j => mI h 58 j) l5 D := fun v y hy => RB_cg D (by omega) (fun e he => by
          show mI (wI h 58 D v) 58 e = mI h 58 e
          rw [mI_wI, if_neg (by omega)]) hy
        have yo : ∀ t, t < D → bt x4 t = bt l5 t := fun t ht => by rw [eo, lw_bt (by omega), decide_eq_true ht, Bool.and_true]
        have w1 : ∀ (v : Int32), ¬ v = 0 → ∀ e, e < D + 1 → ¬ mI (wI h 58 D v) 58 e = 0 := fun v hv e he => by
          rw [mI_wI]
          by_cases q : e = D
          · rw [if_pos ⟨rfl, q⟩]; exact hv
          · rw [if_neg (fun z => q z.2)]; exact ch1 e (by omega)
        have w2 : ∀ (v : Int32) e, D < e → e < n → mI (wI h 58 D v) 58 e = 0 := fun v e h1 h2 => by
          rw [mI_wI, if_neg (by omega)]
          exact ch2 e h1 h2
        have wD : ∀ v : Int32, mI (wI h 58 D v) 58 D = v := fun v => by rw [mI_wI, if_pos ⟨rfl, rfl⟩]
        have w36 : ∀ (v : Int32), (mI (wI h 58 D v) 11 36).toInt = (a : Int) ∧ (mI (wI h 58 D v) 11 37).toInt = (b : Int) := fun v => by
          rw [mI_wI, if_neg (fun z => absurd z.1 (by decide)), mI_wI, if_neg (fun z => absurd z.1 (by decide))]
          exact ⟨ea, eb⟩
        have fc : 0 ≤ (mI h 58 D).toInt ∧ (mI h 58 D).toInt ≤ 2 := GI_rd ow.1.1 58 D (lo := 0) (hi := 2) rfl
        have ei := i_inc e4 (by omega)
        have v19 : vp_in l4 19 := i_vp e4 (by omega)
        rw [i_nat e4]
        have stay : ∀ v : Int32, v = mI h 58 D + 1 → ¬ mI h 58 D = 2 → ∀ R' : Nat × Nat, pj (a, b) R' = F → R' = pj (curR (Qv A CL K) K n D v x4) (RB (Qv A CL K) K n (fun j => mI h 58 j) l5 D) → ME g uX11_colour 47 [.ref 11, .int K, .int l2, .int l3, .int l4, .int x4, .retAddr 0, .retAddr 0, .retAddr 0] [] (wI h 58 D v) (qV P) := fun v ev c3' R' h1 h2 => by
          have n2 : (mI h 58 D).toInt ≠ 2 := fun z => c3' (Int32.toInt_inj.mp (by rw [z]; decide))
          have f1 : (mI h 58 D + 1).toInt = (mI h 58 D).toInt + 1 := i_add rfl (by decide) (by have := fc.1; have := fc.2; omega)
          have fv : 0 ≤ v.toInt ∧ v.toInt ≤ 2 := by rw [ev]; exact ⟨by have := fc.1; omega, by have := fc.2; omega⟩
          have vz : ¬ v = 0 := fun z => by
            have := congrArg Int32.toInt (ev.symm.trans z)
            rw [f1, z0] at this
            have := fc.1
            omega
          have k := cM_stay (a := n) (h := h) (v := v) hDn (by show v.toInt.toNat = (mI h 58 D).toInt.toNat + 1; rw [ev, f1]; have := fc.1; omega) (by show (mI h 58 D).toInt.toNat ≤ 1; have := fc.2; omega) (fun j q1 q2 => ch2 j q1 q2)
          refine ih l4 x4 _ a b R' (Ow_58 ow fv) (w36 v).1 (w36 v).2 h1 (S7_stay hDn e4 (fun t ht => by have := ob t ht; exact ⟨by omega, by omega⟩) gw' (fun e he => w1 v vz e (by omega)) (w2 v) ?_) (by rw [e4]; rw [e4] at hm; omega)
          rw [rb v x4 yo, eo', wD]
          exact h2
        have down : ∀ (v y : Int32), v = mI h 58 D + 1 → ¬ mI h 58 D = 2 → (∀ t, bt y t = true → t < D + 1) → (∀ t, t < D → bt y t = bt l5 t) → Gw A CL K (D + 1) y → ∀ R' : Nat × Nat, pj (a, b) R' = F → R' = pj (nodeR (Qv A CL K) K n (D + 1) y) (pj (if v = 1 then altR (Qv A CL K) K n D x4 else (0, 0)) (RB (Qv A CL K) K n (fun j => mI h 58 j) l5 D)) → ME g uX11_colour 47 [.ref 11, .int K, .int l2, .int l3, .int (l4 + 1), .int y, .retAddr 0, .retAddr 0, .retAddr 0] [] (wI h 58 D v) (qV P) := fun v y ev c3' hy1 hy2 gy R' h1 h2 => by
          have n2 : (mI h 58 D).toInt ≠ 2 := fun z => c3' (Int32.toInt_inj.mp (by rw [z]; decide))
          have f1 : (mI h 58 D + 1).toInt = (mI h 58 D).toInt + 1 := i_add rfl (by decide) (by have := fc.1; have := fc.2; omega)
          have fv : 0 ≤ v.toInt ∧ v.toInt ≤ 2 := by rw [ev]; exact ⟨by have := fc.1; omega, by have := fc.2; omega⟩
          have vz : ¬ v = 0 := fun z => by
            have := congrArg Int32.toInt (ev.symm.trans z)
            rw [f1, z0] at this
            have := fc.1
            omega
          have k := cM_stay (a := n) (h := h) (v := v) hDn (by show v.toInt.toNat = (mI h 58 D).toInt.toNat + 1; rw [ev, f1]; have := fc.1; omega) (by show (mI h 58 D).toInt.toNat ≤ 1; have := fc.2; omega) (fun j q1 q2 => ch2 j q1 q2)
          have ey : lwI y D = x4 := bt_ext2 (fun t => by
            rw [lw_bt (by omega), eo, lw_bt (by omega)]
            by_cases ht : t < D
            · rw [hy2 t ht]
            · rw [decide_eq_false ht, Bool.and_false, Bool.and_false])
          have sd := S7_down (ch := fun j => mI (wI h 58 D v) 58 j) hn hDn e4 hy1 gy (w1 v vz) (fun e he hn' => w2 v e (by omega) hn')
          rw [rb v y hy2, ey] at sd
          rw [wD v, ← h2] at sd
          exact ih (l4 + 1) y _ a b R' (Ow_58 ow fv) (w36 v).1 (w36 v).2 h1 sd (by rw [ei]; rw [e4] at hm; omega)
        refine ⟨v19, fun c3' => ⟨v19, fun c4 => ⟨v19, v19, ?_⟩, fun c4 => ⟨v19, v19, fun k0 => ?_, fun k0 => ⟨i_vp e4 (by omega), fun q0 x23 e23 => ?_, fun q0 => ?_⟩⟩⟩, fun c3' => ⟨v19, ?_⟩⟩
        · have c0 : mI h 58 D = 0 := by
            have n2 : (mI h 58 D).toInt ≠ 2 := fun z => c3' (Int32.toInt_inj.mp (by rw [z]; decide))
            have n1 : (mI h 58 D).toInt ≠ 1 := fun z => c4 (Int32.toInt_inj.mp (by rw [z]; decide))
            exact Int32.toInt_inj.mp (by rw [z0]; have := fc.1; have := fc.2; omega)
          have ev1 : mI h 58 D + 1 = 1 := by rw [c0]; rfl
          have eR0 : R = pj (pj (altR (Qv A CL K) K n D x4) (nodeR (Qv A CL K) K n (D + 1) x4)) (RB (Qv A CL K) K n (fun j => mI h 58 j) l5 D) := by
            rw [eR]
            unfold curR
            rw [if_pos c0, node_s hDn]
          have st3 : ∀ t, bt ((x3 <<< (1 &&& 31)) - 1) t = decide (t < D + 1) := fun t => by rw [e3, i_of e4 (by omega)]; exact st_bt (by omega) t
          have ow1 : Ow h0 (wI h 58 D (mI h 58 D + 1)) := Ow_58 ow (by rw [ev1]; exact ⟨by decide, by decide⟩)
          refine v_isSoFar K x4 _ (cn' ow1) c3 hcn (fun sf => ⟨fun _ => ?_, fun z => absurd z (by decide)⟩) (fun sf => ⟨fun z => absurd rfl z, fun _ => ?_⟩)
          · refine down _ x4 rfl c3' (fun t ht => by have := ob t ht; omega) yo (SF_go gw.1 st3 sf) R eF ?_
            rw [ev1, if_pos rfl, eR0, pj_c (altR (Qv A CL K) K n D x4), pj_a]
          · refine stay _ rfl c3' R eF ?_
            rw [eR0, SF_no hn cq st3 sf, pj_y, ev1]
            unfold curR
            rw [if_neg (by decide), if_pos rfl]
        · refine stay _ rfl c3' R eF ?_
          have kD : ¬ bt K D = true := fun z => and_nz.mp k0 D z (by rw [e3, bt_1A e4 (by omega), decide_eq_true rfl])
          rw [eR, c4]
          unfold curR altR
          rw [if_neg (by decide), if_pos rfl, if_neg kD, if_neg (by decide), if_neg (by decide)]
        · have kD : bt K D = true := Classical.byContradiction fun z => k0 (and_nz.mpr (fun t t1 t2 => by
            rw [e3, bt_1A e4 (by omega)] at t2
            rw [← of_decide_eq_true t2] at t1
            exact z t1))
          have ev2 : mI h 58 D + 1 = 2 := by rw [c4]; rfl
          have e23' : x23 = bs x4 D := by rw [e23, e3]; exact bs_e e4 (by omega)
          have nq : ∀ t, bt x4 t = true → A D t = false := fun t ht => by
            have tD := ob t ht
            have := and_nz.mp q0 t
            rw [mI_wI, if_neg (fun z => absurd z.1 (by decide)), show mI h 57 D = mI h0 57 D from Ok_eq ow.1 (by decide), sq D t hDn (by omega)] at this
            cases y : A D t
            · rfl
            · exact absurd ht (this y)
          have ip' : Ip A (bs x4 D) := fun i j bi bj => by
            rw [bs_bt x4 (by omega), Bool.or_eq_true] at bi bj
            rcases bi with x | x <;> rcases bj with y | y
            · exact gw.1 i j x y
            · rw [← of_decide_eq_true y, hs]; exact nq i x
            · rw [← of_decide_eq_true x]; exact nq j y
            · rw [← of_decide_eq_true x, ← of_decide_eq_true y]; exact hi D
          have eR1 : R = pj (nodeR (Qv A CL K) K n (D + 1) (bs x4 D)) (RB (Qv A CL K) K n (fun j => mI h 58 j) l5 D) := by
            rw [eR, c4]
            unfold curR altR
            rw [if_neg (by decide), if_pos rfl, if_pos kD]
          have st3 : ∀ t, bt ((x3 <<< (1 &&& 31)) - 1) t = decide (t < D + 1) := fun t => by rw [e3, i_of e4 (by omega)]; exact st_bt (by omega) t
          have ow1 : Ow h0 (wI h 58 D (mI h 58 D + 1)) := Ow_58 ow (by rw [ev2]; exact ⟨by decide, by decide⟩)
          rw [e23']
          refine v_isSoFar K (bs x4 D) _ (cn' ow1) c3 hcn (fun sf => ⟨fun _ => ?_, fun z => absurd z (by decide)⟩) (fun sf => ⟨fun z => absurd rfl z, fun _ => ?_⟩)
          · refine down _ (bs x4 D) rfl c3' (fun t ht => ?_) (fun t ht => ?_) (SF_go ip' st3 sf) R eF ?_
            · rw [bs_bt x4 (by omega), Bool.or_eq_true] at ht
              rcases ht with x | x
              · have := ob t x; omega
              · have := of_decide_eq_true x; omega
            · rw [bs_bt x4 (by omega), decide_eq_false (by omega), Bool.or_false]
              exact yo t ht
            · rw [ev2, if_neg (by decide), pj_z, eR1]
          · refine stay _ rfl c3' R eF ?_
            rw [eR1, SF_no hn cq st3 sf, ev2]
            unfold curR
            rw [if_neg (by decide), if_neg (by decide)]
        · refine stay _ rfl c3' R eF ?_
          have kD : bt K D = true := Classical.byContradiction fun z => k0 (and_nz.mpr (fun t t1 t2 => by
            rw [e3, bt_1A e4 (by omega)] at t2
            rw [← of_decide_eq_true t2] at t1
            exact z t1))
          have ev2 : mI h 58 D + 1 = 2 := by rw [c4]; rfl
          have ex : ∃ t, bt (mI h0 57 D) t = true ∧ bt x4 t = true := Classical.byContradiction fun z => q0 (by
            rw [mI_wI, if_neg (fun z => absurd z.1 (by decide)), show mI h 57 D = mI h0 57 D from Ok_eq ow.1 (by decide)]
            exact and_nz.mpr (fun t t1 t2 => z ⟨t, t1, t2⟩))
          obtain ⟨t, t1, t2⟩ := ex
          have tD := ob t t2
          rw [sq D t hDn (by omega)] at t1
          have nz : nodeR (Qv A CL K) K n (D + 1) (bs x4 D) = (0, 0) := by
            unfold nodeR
            refine cm_0 _ _ (fun v hv => by have := (rl_m (List.mem_filter.mp hv).1).2; omega) (fun S hS hQ => ?_)
            have := hQ.1 D t ((hS D).1 (by rw [bs_bt x4 (by omega), decide_eq_true rfl, Bool.or_true])) ((hS t).1 (by rw [bs_bt x4 (by omega), t2]; rfl))
            rw [t1] at this
            cases this
          rw [eR, c4]
          unfold curR altR
          rw [if_neg (by decide), if_pos rfl, if_pos kD, nz, if_neg (by decide), if_neg (by decide)]
        · have sb := S7_back (ch := fun j => mI (wI h 58 D 0) 58 j) (x := x4) hn (by omega) e4 ob gw' (fun e he => by
            show ¬ mI (wI h 58 D 0) 58 e = 0
            rw [mI_wI, if_neg (by omega)]
            exact ch1 e he) (fun e h1 h2 => by
            show mI (wI h 58 D 0) 58 e = 0
            by_cases q : e = D
            · rw [mI_wI, if_pos ⟨rfl, q⟩]
            · exact w2 0 e (by omega) h2)
          rw [rb 0 x4 yo] at sb
          have eR2 : R = RB (Qv A CL K) K n (fun j => mI h 58 j) l5 D := by
            rw [eR, c3']
            unfold curR
            rw [if_neg (by decide), if_neg (by decide), pj_z]
          rw [← eR2] at sb
          have cb := cM_back (h := h) hDn hn e4 (by show (mI h 58 D).toInt.toNat = 2; rw [c3']; decide)
          exact ih (l4 + (-1)) x4 _ a b R (Ow_58 ow ⟨by decide, by decide⟩) (w36 0).1 (w36 0).2 eF sb (by rw [e4] at hm; omega)
      · have hDn : D = n := by
          rw [c2] at e4
          omega
        rw [if_pos hDn] at eR
        have lb : ∀ t, bt l5 t = true → t < n := fun t ht => (hb t ht).2
        have el : lwI l5 n = l5 := lw_id hn lb
        rw [hDn] at e4 gw eR ch1
        rw [el] at gw eR
        have qv : Qv A CL K l5 := ⟨gw.1, fun c hc hsub => gw.2 c hc hsub (cq.2.1 c hc)⟩
        have eN : nodeR (Qv A CL K) K n n l5 = (1, pcI l5) := by
          unfold nodeR
          rw [rl_n (Nat.le_refl n), List.filter_nil]
          exact cm_n1 qv
        rw [eN] at eR
        generalize hRB : RB (Qv A CL K) K n (fun j => mI h 58 j) l5 n = RB0 at eR
        have eF2 : pj (a + 1, max b (pcI l5)) RB0 = F := by
          rw [← eF, eR, ← pj_a]
          rfl
        have a1F : a + 1 + RB0.1 = F.1 := congrArg Prod.fst eF2
        have f36 : (mI h 11 36 + 1).toInt = ((a + 1 : Nat) : Int) := i_inc ea (by omega)
        have o1 := Ok_w ow.1 (k := 11) (j := 36) (v := mI h 11 36 + 1) (lo := -2147483648) (hi := 2147483647) (by decide) (R_full _) (by decide) (by decide)
        have e37 : mI (wI h 11 36 (mI h 11 36 + 1)) 11 37 = mI h 11 37 := by rw [mI_wI, if_neg (by decide)]
        have fin : ∀ v : Int32, v.toInt = ((max b (pcI l5) : Nat) : Int) → (¬ mI (wI (wI h 11 36 (mI h 11 36 + 1)) 11 37 v) 11 36 = l2 → ME g uX11_colour 47 [.ref 11, .int K, .int l2, .int l3, .int (l4 + (-1)), .int l5, .retAddr 0, .retAddr 0, .retAddr 0] [] (wI (wI h 11 36 (mI h 11 36 + 1)) 11 37 v) (qV P)) ∧ (mI (wI (wI h 11 36 (mI h 11 36 + 1)) 11 37 v) 11 36 = l2 → P (wI (wI h 11 36 (mI h 11 36 + 1)) 11 37 v)) := fun v hv => by
          have o2 := Ok_w o1 (k := 11) (j := 37) (v := v) (lo := -2147483648) (hi := 2147483647) (by decide) (R_full _) (by decide) (by decide)
          have ow2 : Ow h0 (wI (wI h 11 36 (mI h 11 36 + 1)) 11 37 v) := ⟨o2, by rw [mI_wI, if_neg (by decide), mI_wI, if_neg (by decide)]; exact ow.2⟩
          have k36 : (mI (wI (wI h 11 36 (mI h 11 36 + 1)) 11 37 v) 11 36).toInt = ((a + 1 : Nat) : Int) := by rw [mI_wI, if_neg (by decide), mI_wI, if_pos ⟨rfl, rfl⟩]; exact f36
          have k37 : (mI (wI (wI h 11 36 (mI h 11 36 + 1)) 11 37 v) 11 37).toInt = ((max b (pcI l5) : Nat) : Int) := by rw [mI_wI, if_pos ⟨rfl, rfl⟩]; exact hv
          have ws : ∀ j : Nat, mI (wI (wI h 11 36 (mI h 11 36 + 1)) 11 37 v) 58 j = mI h 58 j := fun j => by rw [mI_wI, if_neg (fun z => absurd z.1 (by decide)), mI_wI, if_neg (fun z => absurd z.1 (by decide))]
          refine ⟨fun _ => ?_, fun c => hp _ (a + 1) (max b (pcI l5)) ow2 k36 k37 (Or.inr ?_)⟩
          · have sb := S7_back (ch := fun j => mI h 58 j) (x := l5) hn (Nat.le_refl n) e4 lb (by rw [el]; exact gw) ch1 (fun e h1 h2 => by omega)
            rw [hRB] at sb
            refine ih (l4 + (-1)) l5 _ (a + 1) (max b (pcI l5)) RB0 ow2 k36 k37 eF2 ?_ ?_
            · rw [show (fun j => mI (wI (wI h 11 36 (mI h 11 36 + 1)) 11 37 v) 58 j) = fun j => mI h 58 j from funext ws]
              exact sb
            · have := cM_leaf (k := wI (wI h 11 36 (mI h 11 36 + 1)) 11 37 v) (h := h) hn e4 ws
              rw [e4] at hm
              omega
          · rw [c, em] at k36
            exact ⟨by omega, by omega⟩
        refine v_bits20 l5 (fun t ht => by have := lb t ht; omega) (fun r29 e29 => ⟨fun y => ?_, fun y => v_bits20 l5 (fun t ht => by have := lb t ht; omega) (fun r33 e33 => fin r33 ?_)⟩)
        · refine fin _ ?_
          rw [e37] at y ⊢
          rw [i_le, e29, eb] at y
          rw [eb, Nat.max_eq_left (by omega)]
        · rw [e37, i_le, e29, eb] at y
          rw [e33, Nat.max_eq_right (by omega)]
/-- the reference's colours of the rays K: all, or until there are so many -/
theorem w_colour {g : gT} {h : mh_T} {P : mh_T → Prop} {A : Nat → Nat → Bool} {CL : List Int32} {n : Nat} (hn : n ≤ 18) (hs : ∀ u v, A u v = A v u) (hi : ∀ v, A v v = false) (cq : CQ A n CL) (c3 : CL.length ≤ 3060) (K l2 : Int32) (mo : Nat) (em : l2.toInt = (mo : Int)) (hG : GI h) (en : (mI h 45 85).toInt = (n : Int)) (hF : (nodeR (Qv A CL K) K n 0 0).1 ≤ 262144) (sq : ∀ i j, i < n → j < n → bt (mI h 57 i) j = A i j) (cn : Cn 56 11 34 h CL) (hp : ∀ (h' : mh_T) (a b : Nat), Ok [300, 11, 58] h h' → mI h' 11 34 = mI h 11 34 → (mI h' 11 36).toInt = (a : Int) → (mI h' 11 37).toInt = (b : Int) → ((a, b) = nodeR (Qv A CL K) K n 0 0 ∨ (a = mo ∧ mo ≤ (nodeR (Qv A CL K) K n 0 0).1)) → P h') : MCv g yX11_colour uX11_colour [.ref 11, .int K, .int l2] h P := by
  refine e_X11_colour K l2 (fun x1 e1 => ?_)
  have ex : x1.toInt = (n : Int) := by rw [e1]; exact en
  have o1 := Ok_w (ms := [300, 11, 58]) (Ok_rf hG) (k := 11) (j := 36) (v := 0) (lo := -2147483648) (hi := 2147483647) (by decide) (R_full _) (by decide) (by decide)
  have o2 := Ok_w o1 (k := 11) (j := 37) (v := 0) (lo := -2147483648) (hi := 2147483647) (by decide) (R_full _) (by decide) (by decide)
  have s36 : mI (wI (wI h 11 36 0) 11 37 0) 11 36 = 0 := by rw [mI_wI, if_neg (by decide), mI_wI, if_pos ⟨rfl, rfl⟩]
  have s37 : mI (wI (wI h 11 36 0) 11 37 0) 11 37 = 0 := by rw [mI_wI, if_pos ⟨rfl, rfl⟩]
  have s34 : mI (wI (wI h 11 36 0) 11 37 0) 11 34 = mI h 11 34 := by rw [mI_wI, if_neg (by decide), mI_wI, if_neg (by decide)]
  generalize wI (wI h 11 36 0) 11 37 0 = h0 at o2 s36 s37 s34 ⊢
  have w0 : Ow h h0 := ⟨o2, s34⟩
  have sq0 : ∀ i j, i < n → j < n → bt (mI h0 57 i) j = A i j := fun i j hi' hj => by
    rw [show mI h0 57 i = mI h 57 i from Ok_eq o2 (by decide)]
    exact sq i j hi' hj
  have cn0 : Cn 56 11 34 h0 CL := ⟨by rw [s34]; exact cn.1, fun i hi' => by rw [show mI h0 56 i = mI h 56 i from Ok_eq o2 (by decide)]; exact cn.2 i hi'⟩
  have L : ∀ (m : Nat) (l4 : Int32) (k : Nat) (h1 : mh_T), l4.toInt = (k : Int) → k ≤ n + 1 → n + 1 - k < m → Ow h0 h1 → mI h1 11 36 = 0 → mI h1 11 37 = 0 → (∀ j, j < k → mI h1 58 j = 0) → ME g uX11_colour 21 [.ref 11, .int K, .int l2, .int x1, .int l4, .retAddr 0, .retAddr 0, .retAddr 0, .retAddr 0] [] h1 (qV P) := by
    intro m
    induction m with
    | zero => intro _ _ _ _ _ hm; exact absurd hm (Nat.not_lt_zero _)
    | succ m ih =>
      intro l4 k h1 e4 hk hm ow k36 k37 kz
      refine r_X11_colour_21 K l2 x1 l4 ⟨fun z => ?_, fun z => ?_⟩
      · have z := i_lt.mp z
        rw [ex, e4] at z
        have ek : k = n + 1 := by omega
        have ow' : Ow h h1 := ⟨Ok_tr o2 ow.1 (by decide), ow.2.trans s34⟩
        refine w_colour_47 (h0 := h) (F := nodeR (Qv A CL K) K n 0 0) hn hs hi cq c3 K l2 x1 mo em ex hF sq cn (fun h' a b o e36 e37 q => hp h' a b o.1 o.2 e36 e37 q) (cM n h1 (0 : Int32).toInt + 1) 0 0 h1 0 0 (nodeR (Qv A CL K) K n 0 0) ow' (by rw [k36]; rfl) (by rw [k37]; rfl) (pj_z _) ?_ (Nat.lt_succ_self _)
        refine Or.inr ⟨0, rfl, Nat.zero_le _, fun t ht => ?_, ⟨fun i j bi => ?_, fun c hc hsub hb => ?_⟩, fun e he => absurd he (Nat.not_lt_zero e), fun e _ he => kz e (by omega), ?_⟩
        · rw [bt_zr] at ht; cases ht
        · rw [lw_bt (by omega), bt_zr] at bi; cases bi
        · obtain ⟨t, ht⟩ := cq.2.2 c hc
          exact absurd (hb t ht) (Nat.not_lt_zero t)
        · have l0 : lwI 0 0 = 0 := bt_ext2 (fun t => by rw [lw_bt (by omega), bt_zr]; rfl)
          have ln : lwI 0 n = 0 := bt_ext2 (fun t => by rw [lw_bt hn, bt_zr]; rfl)
          show _ = pj _ (0, 0)
          rw [pj_y]
          by_cases q : 0 = n
          · rw [if_pos q, ln, ← q]
          · rw [if_neg q, l0]
            unfold curR
            rw [if_pos (kz 0 (by omega))]
      · have z := i_le.mp (nlt z)
        rw [ex, e4] at z
        rw [i_nat e4]
        refine ⟨i_vp e4 (by omega), ih (l4 + 1) (k + 1) _ (i_inc e4 (by omega)) (by omega) (by omega) (Ow_58 ow ⟨by decide, by decide⟩) (by rw [mI_wI, if_neg (fun z => absurd z.1 (by decide))]; exact k36) (by rw [mI_wI, if_neg (fun z => absurd z.1 (by decide))]; exact k37) (fun j hj => ?_)⟩
        rw [mI_wI]
        by_cases q : j = k
        · rw [if_pos ⟨rfl, q⟩]
        · rw [if_neg (fun z => q z.2)]
          exact kz j (by omega)
  exact L 20 0 0 h0 (by decide) (Nat.zero_le _) (by omega) ⟨Ok_rf o2.1, rfl⟩ s36 s37 (fun j hj => absurd hj (Nat.not_lt_zero j))
/-! colours, spare, critical: both sides -/
theorem cm_le {Q : Int32 → Prop} : ∀ (L : List Nat) (acc : Int32), (cm Q L acc).1 ≤ 2 ^ L.length
  | [], acc => by
    by_cases q : Q acc
    · rw [cm_n1 q]; exact Nat.le_refl _
    · rw [cm_n0 q]; exact Nat.zero_le _
  | v :: L, acc => by
    have a := cm_le (Q := Q) L (bs acc v)
    have b := cm_le (Q := Q) L acc
    show (cm Q L (bs acc v)).1 + (cm Q L acc).1 ≤ 2 ^ (L.length + 1)
    rw [Nat.pow_succ]
    omega
/-- how many colours of the rays K, the most ones -/
noncomputable def NV (A : Nat → Nat → Bool) (CL : List Int32) (n : Nat) (K : Int32) : Nat × Nat := nodeR (Qv A CL K) K n 0 0
theorem NV_le {A : Nat → Nat → Bool} {CL : List Int32} {n : Nat} (hn : n ≤ 18) (K : Int32) : (NV A CL n K).1 ≤ 262144 := by
  have a := cm_le (Q := Qv A CL K) ((rl 0 n).filter (fun t => bt K t)) 0
  have b : ((rl 0 n).filter (fun t => bt K t)).length ≤ n := Nat.le_trans (List.length_filter_le _ _) (by unfold rl; rw [rlk_len]; omega)
  have c := p2_le n hn
  have d : 2 ^ ((rl 0 n).filter (fun t => bt K t)).length ≤ 2 ^ n := Nat.pow_le_pow_right (by decide) b
  exact Nat.le_trans a (Nat.le_trans d c)
def alI (n : Nat) : Int32 := (1 <<< (Int32.ofNat n &&& 31)) - 1
def dlI (K : Int32) (k : Nat) : Int32 := K &&& ((1 <<< (Int32.ofNat k &&& 31)) ^^^ (-1))
theorem alI_bt {n : Nat} (hn : n ≤ 18) (t : Nat) : bt (alI n) t = decide (t < n) := al_bt hn t
theorem dlI_e {K l : Int32} {k : Nat} (e : l.toInt = (k : Int)) (hk : k < 2147483648) : K &&& ((1 <<< (l &&& 31)) ^^^ (-1)) = dlI K k := by rw [i_of e hk]; rfl
theorem alI_e {l : Int32} {n : Nat} (e : l.toInt = (n : Int)) (hn : n < 2147483648) : (1 <<< (l &&& 31)) - 1 = alI n := by rw [i_of e hn]; rfl
theorem dlI_lt {K : Int32} {k n : Nat} (hk : k < 32) (h : ∀ t, bt K t = true → t < n) : ∀ t, bt (dlI K k) t = true → t < n := fun t ht => by
  unfold dlI at ht
  rw [bt_clr (Int32.toInt_ofNat_of_lt (by omega)) hk, Bool.and_eq_true] at ht
  exact h t ht.1
/-- which rays are spare; which stay: the rays below k gone through -/
noncomputable def spF (A : Nat → Nat → Bool) (CL : List Int32) (n : Nat) : Nat → Int32
  | 0 => 0
  | k + 1 => if (NV A CL n (dlI (alI n) k)).1 = 0 then bs (spF A CL n k) k else spF A CL n k
noncomputable def stF (A : Nat → Nat → Bool) (CL : List Int32) (n : Nat) : Nat → Int32
  | 0 => alI n
  | k + 1 => if (NV A CL n (dlI (stF A CL n k) k)).1 = 0 then dlI (stF A CL n k) k else stF A CL n k
theorem stF_lt {A : Nat → Nat → Bool} {CL : List Int32} {n : Nat} (hn : n ≤ 18) : ∀ k, k ≤ n → ∀ t, bt (stF A CL n k) t = true → t < n
  | 0, _, t, ht => by
    rw [show stF A CL n 0 = alI n from rfl, alI_bt hn] at ht
    exact of_decide_eq_true ht
  | k + 1, hk, t, ht => by
    have ih := stF_lt (A := A) (CL := CL) hn k (by omega)
    unfold stF at ht
    split at ht
    · exact dlI_lt (by omega) ih t ht
    · exact ih t ht
theorem alI_lt {n : Nat} (hn : n ≤ 18) : ∀ t, bt (alI n) t = true → t < n := fun t ht => by
  rw [alI_bt hn] at ht
  exact of_decide_eq_true ht
theorem v_countColours {g : gT} {h : mh_T} {P : Int32 → mh_T → Prop} {A : Nat → Nat → Bool} {n : Nat} {CL : List Int32} (hn : n ≤ 18) (hs : ∀ u v, A u v = A v u) (hi : ∀ v, A v v = false) (cq : CQ A n CL) (w : KnC A n CL h) (l1 : Int32) (hb : ∀ t, bt l1 t = true → t < n) (hp : ∀ (r : Int32) (h' : mh_T), Ok [8] h h' → (∀ j, ¬ j = 9 → ¬ j = 10 → ¬ j = 11 → mI h' 8 j = mI h 8 j) → r.toInt = ((NV A CL n l1).1 : Int) → (mI h' 8 11).toInt = ((NV A CL n l1).2 : Int) → P r h') : MCi g yX3_countColours uX3_countColours [.ref 8, .int l1] h P := by
  refine e_X3_countColours l1 ?_
  have o1 := Ok_w (ms := [8]) (Ok_rf w.1) (k := 8) (j := 9) (v := l1) (lo := -2147483648) (hi := 2147483647) (by decide) (R_full _) (by decide) (by decide)
  have o2 := Ok_w o1 (k := 8) (j := 10) (v := 0) (lo := -2147483648) (hi := 2147483647) (by decide) (R_full _) (by decide) (by decide)
  have o3 := Ok_w o2 (k := 8) (j := 11) (v := 0) (lo := -2147483648) (hi := 2147483647) (by decide) (R_full _) (by decide) (by decide)
  have s9 : mI (wI (wI (wI h 8 9 l1) 8 10 0) 8 11 0) 8 9 = l1 := by rw [mI_wI, if_neg (by decide), mI_wI, if_neg (by decide), mI_wI, if_pos ⟨rfl, rfl⟩]
  have s10 : mI (wI (wI (wI h 8 9 l1) 8 10 0) 8 11 0) 8 10 = 0 := by rw [mI_wI, if_neg (by decide), mI_wI, if_pos ⟨rfl, rfl⟩]
  have s11 : mI (wI (wI (wI h 8 9 l1) 8 10 0) 8 11 0) 8 11 = 0 := by rw [mI_wI, if_pos ⟨rfl, rfl⟩]
  have sj : ∀ j, ¬ j = 9 → ¬ j = 10 → ¬ j = 11 → mI (wI (wI (wI h 8 9 l1) 8 10 0) 8 11 0) 8 j = mI h 8 j := fun j a b c => by rw [mI_wI, if_neg (fun z => c z.2), mI_wI, if_neg (fun z => b z.2), mI_wI, if_neg (fun z => a z.2)]
  generalize wI (wI (wI h 8 9 l1) 8 10 0) 8 11 0 = h0 at o3 s9 s10 s11 sj ⊢
  have w0 : KnC A n CL h0 := ⟨o3.1, by rw [sj 0 (by decide) (by decide) (by decide)]; exact w.2.1, fun i j hi' hj hij => by rw [show mI h0 32 i = mI h 32 i from Ok_eq o3 (by decide)]; exact w.2.2.1 i j hi' hj hij, by rw [sj 1 (by decide) (by decide) (by decide)]; exact w.2.2.2.1, fun i hi' => by rw [show mI h0 33 i = mI h 33 i from Ok_eq o3 (by decide)]; exact w.2.2.2.2 i hi'⟩
  have ln : (OL n l1).length ≤ 18 := Nat.le_trans (List.length_filter_le _ _) (by unfold rl; rw [rlk_len]; omega)
  refine v_colour hn hs hi cq.1 cq.2.1 20 30 l1 0 0 h0 _ 0 0 0 (by omega) (by decide) (by decide) (by omega) w0 hb (fun t ht => by rw [bt_zr] at ht; cases ht) (fun i j bi => by rw [bt_zr] at bi; cases bi) (fun i j _ bj => by rw [bt_zr] at bj; cases bj) (by rw [s10]; rfl) (by rw [s11]; rfl) ?_ (fun h' oc f10 f11 => ?_)
  · rw [s9, Nat.zero_add]
    exact NV_le hn l1
  · rw [s9, Nat.zero_add] at f10
    rw [s9, Nat.zero_max] at f11
    exact hp _ h' (Ok_tr o3 oc.1 (by decide)) (fun j a b c => (oc.2 j b c).trans (sj j a b c)) f10 f11
/-- what the class knows of the colours -/
def KV (A : Nat → Nat → Bool) (CL : List Int32) (n : Nat) (h : mh_T) : Prop := (mI h 8 2).toInt = ((NV A CL n (alI n)).1 : Int) ∧ (mI h 8 3).toInt = ((NV A CL n (alI n)).2 : Int) ∧ mI h 8 4 = (if (NV A CL n (alI n)).1 = 0 then spF A CL n n else 0) ∧ mI h 8 5 = (if (NV A CL n (alI n)).1 = 0 then stF A CL n n else alI n)
theorem KnC_k {A : Nat → Nat → Bool} {n : Nat} {CL : List Int32} {h h' : mh_T} (w : KnC A n CL h) (o : Ok [8] h h') (e0 : mI h' 8 0 = mI h 8 0) (e1 : mI h' 8 1 = mI h 8 1) : KnC A n CL h' := ⟨o.1, by rw [e0]; exact w.2.1, fun i j hi' hj hij => by rw [show mI h' 32 i = mI h 32 i from Ok_eq o (by decide)]; exact w.2.2.1 i j hi' hj hij, by rw [e1]; exact w.2.2.2.1, fun i hi' => by rw [show mI h' 33 i = mI h 33 i from Ok_eq o (by decide)]; exact w.2.2.2.2 i hi'⟩
theorem Ok_8 {ms : List Nat} {h0 h : mh_T} (a : Ok ms h0 h) (hm : 8 ∈ ms) {j : Nat} {v : Int32} (hj : j = 2 ∨ j = 3 ∨ j = 4 ∨ j = 5) : Ok ms h0 (wI h 8 j v) := Ok_w a (k := 8) (j := j) (v := v) (lo := -2147483648) (hi := 2147483647) (by rcases hj with e | e | e | e <;> rw [e] <;> rfl) (R_full _) (Or.inl ⟨hm, by decide⟩) (by rcases hj with e | e | e | e <;> rw [e] <;> decide)
set_option maxHeartbeats 4000000 in
theorem v_work {g : gT} {h : mh_T} {P : mh_T → Prop} {A : Nat → Nat → Bool} {n : Nat} {CL : List Int32} (hn : n ≤ 18) (hs : ∀ u v, A u v = A v u) (hi : ∀ v, A v v = false) (cq : CQ A n CL) (w : KnC A n CL h) (hk : mI h 8 8 = 0 ∨ KV A CL n h) (hp : ∀ h', Ok [8] h h' → mI h' 8 0 = mI h 8 0 → mI h' 8 1 = mI h 8 1 → KV A CL n h' → P h') : MCv g yX3_work uX3_work [.ref 8] h P := by
  refine e_X3_work ⟨fun z x2 e2 => ?_, fun z => hp h (Ok_rf w.1) rfl rfl (hk.resolve_left z)⟩
  have o1 := Ok_w (ms := [8]) (Ok_rf w.1) (k := 8) (j := 8) (v := 1) (lo := 0) (hi := 1) (by decide) ⟨by decide, by decide⟩ (by decide) (by decide)
  have j1 : ∀ j, ¬ j = 8 → mI (wI h 8 8 1) 8 j = mI h 8 j := fun j hj => by rw [mI_wI, if_neg (fun z => hj z.2)]
  have ex : x2 = alI n := by rw [e2, alI_e (by rw [j1 0 (by decide)]; exact w.2.1) (by omega)]
  have w1 := KnC_k w o1 (j1 0 (by decide)) (j1 1 (by decide))
  generalize wI h 8 8 1 = h1 at o1 j1 w1 ⊢
  rw [ex]
  refine v_countColours hn hs hi cq w1 (alI n) (alI_lt hn) (fun r4 h3 k3 j3 er e11 => ?_)
  have L : ∀ (m : Nat) (l2 : Int32) (k : Nat) (h5 : mh_T), l2.toInt = (k : Int) → k ≤ n → n - k < m → Ok [8] h h5 → mI h5 8 0 = mI h 8 0 → mI h5 8 1 = mI h 8 1 → (mI h5 8 2).toInt = ((NV A CL n (alI n)).1 : Int) → (mI h5 8 3).toInt = ((NV A CL n (alI n)).2 : Int) → ((¬ (NV A CL n (alI n)).1 = 0 ∧ mI h5 8 4 = 0 ∧ mI h5 8 5 = alI n) ∨ ((NV A CL n (alI n)).1 = 0 ∧ mI h5 8 4 = spF A CL n k ∧ mI h5 8 5 = stF A CL n k)) → ME g uX3_work 51 [.ref 8, .int (alI n), .int l2] [] h5 (qV P) := by
    intro m
    induction m with
    | zero => intro _ _ _ _ _ hm; exact absurd hm (Nat.not_lt_zero _)
    | succ m ih =>
      intro l2 k h5 el hk' hm o5 q0 q1 q2 q3 q45
      have w5 := KnC_k w o5 q0 q1
      refine r_X3_work_51 (alI n) l2 ⟨fun z => ?_, fun z => ⟨fun y => ?_, fun y => ?_⟩⟩
      · have nz : ¬ (NV A CL n (alI n)).1 = 0 := fun e => z (Int32.toInt_inj.mp (by rw [q2, e]; rfl))
        obtain ⟨-, a, b⟩ := q45.resolve_right (fun q => nz q.1)
        exact hp h5 o5 q0 q1 ⟨q2, q3, by rw [if_neg nz]; exact a, by rw [if_neg nz]; exact b⟩
      · rw [i_le, w5.2.1, el] at y
        have e0 : (NV A CL n (alI n)).1 = 0 := by
          have := congrArg Int32.toInt z
          rw [q2, show (0 : Int32).toInt = 0 from by decide] at this
          omega
        obtain ⟨-, a, b⟩ := q45.resolve_left (fun q => q.1 e0)
        have ek : k = n := by omega
        rw [ek] at a b
        exact hp h5 o5 q0 q1 ⟨q2, q3, by rw [if_pos e0]; exact a, by rw [if_pos e0]; exact b⟩
      · rw [i_le, w5.2.1, el] at y
        have e0 : (NV A CL n (alI n)).1 = 0 := by
          have := congrArg Int32.toInt z
          rw [q2, show (0 : Int32).toInt = 0 from by decide] at this
          omega
        obtain ⟨-, a4, a5⟩ := q45.resolve_left (fun q => q.1 e0)
        have el' := i_inc el (by omega)
        have z0 : (0 : Int32).toInt = 0 := by decide
        rw [dlI_e (K := alI n) el (by omega)]
        refine v_countColours hn hs hi cq w5 _ (dlI_lt (by omega) (alI_lt hn)) (fun r h6 k6 j6 er6 _ => ?_)
        have o6 : Ok [8] h h6 := Ok_tr o5 k6 (by decide)
        have f5 : mI h6 8 5 = stF A CL n k := (j6 5 (by decide) (by decide) (by decide)).trans a5
        have f4 : mI h6 8 4 = spF A CL n k := (j6 4 (by decide) (by decide) (by decide)).trans a4
        have f2 : (mI h6 8 2).toInt = ((NV A CL n (alI n)).1 : Int) := by rw [j6 2 (by decide) (by decide) (by decide)]; exact q2
        have f3 : (mI h6 8 3).toInt = ((NV A CL n (alI n)).2 : Int) := by rw [j6 3 (by decide) (by decide) (by decide)]; exact q3
        have f0 : mI h6 8 0 = mI h 8 0 := (j6 0 (by decide) (by decide) (by decide)).trans q0
        have f1 : mI h6 8 1 = mI h 8 1 := (j6 1 (by decide) (by decide) (by decide)).trans q1
        -- the second count, of those that stay
        have two : ∀ h7 : mh_T, Ok [8] h h7 → mI h7 8 0 = mI h 8 0 → mI h7 8 1 = mI h 8 1 → (mI h7 8 2).toInt = ((NV A CL n (alI n)).1 : Int) → (mI h7 8 3).toInt = ((NV A CL n (alI n)).2 : Int) → mI h7 8 4 = spF A CL n (k + 1) → mI h7 8 5 = stF A CL n k → MCi g yX3_countColours uX3_countColours [.ref 8, .int ((mI h7 8 5) &&& ((1 <<< (l2 &&& 31)) ^^^ (-1)))] h7 (fun r7 h6 => (¬ r7 = 0 → ME g uX3_work 51 [.ref 8, .int (alI n), .int (l2 + 1)] [] h6 (qV P)) ∧ (r7 = 0 → ME g uX3_work 51 [.ref 8, .int (alI n), .int (l2 + 1)] [] (wI h6 8 5 ((mI h6 8 5) &&& ((1 <<< (l2 &&& 31)) ^^^ (-1)))) (qV P))) := fun h7 o7 p0 p1 p2 p3 p4 p5 => by
          rw [p5, dlI_e el (by omega)]
          refine v_countColours hn hs hi cq (KnC_k w o7 p0 p1) _ (dlI_lt (by omega) (stF_lt hn k (by omega))) (fun r9 h9 k9 j9 er9 _ => ?_)
          have o9 : Ok [8] h h9 := Ok_tr o7 k9 (by decide)
          have n0 := (j9 0 (by decide) (by decide) (by decide)).trans p0
          have n1 := (j9 1 (by decide) (by decide) (by decide)).trans p1
          have n4 := (j9 4 (by decide) (by decide) (by decide)).trans p4
          have n5 := (j9 5 (by decide) (by decide) (by decide)).trans p5
          have n2 : (mI h9 8 2).toInt = ((NV A CL n (alI n)).1 : Int) := by rw [j9 2 (by decide) (by decide) (by decide)]; exact p2
          have n3 : (mI h9 8 3).toInt = ((NV A CL n (alI n)).2 : Int) := by rw [j9 3 (by decide) (by decide) (by decide)]; exact p3
          refine ⟨fun c => ih (l2 + 1) (k + 1) h9 el' (by omega) (by omega) o9 n0 n1 n2 n3 (Or.inr ⟨e0, n4, ?_⟩), fun c => ih (l2 + 1) (k + 1) _ el' (by omega) (by omega) (Ok_8 o9 (by decide) (Or.inr (Or.inr (Or.inr rfl)))) (by rw [mI_wI, if_neg (by decide)]; exact n0) (by rw [mI_wI, if_neg (by decide)]; exact n1) (by rw [mI_wI, if_neg (by decide)]; exact n2) (by rw [mI_wI, if_neg (by decide)]; exact n3) (Or.inr ⟨e0, by rw [mI_wI, if_neg (by decide)]; exact n4, ?_⟩)⟩
          · have nz : ¬ (NV A CL n (dlI (stF A CL n k) k)).1 = 0 := fun e => c (Int32.toInt_inj.mp (by rw [er9, e]; rfl))
            rw [n5]
            show _ = if (NV A CL n (dlI (stF A CL n k) k)).1 = 0 then dlI (stF A CL n k) k else stF A CL n k
            rw [if_neg nz]
          · have nz : (NV A CL n (dlI (stF A CL n k) k)).1 = 0 := by
              have := congrArg Int32.toInt c
              rw [er9, z0] at this
              omega
            rw [mI_wI, if_pos ⟨rfl, rfl⟩, n5, dlI_e el (by omega)]
            show _ = if (NV A CL n (dlI (stF A CL n k) k)).1 = 0 then dlI (stF A CL n k) k else stF A CL n k
            rw [if_pos nz]
        refine ⟨fun c => two h6 o6 f0 f1 f2 f3 ?_ f5, fun c => ?_⟩
        · have nz : ¬ (NV A CL n (dlI (alI n) k)).1 = 0 := fun e => c (Int32.toInt_inj.mp (by rw [er6, e]; rfl))
          rw [f4]
          show _ = if (NV A CL n (dlI (alI n) k)).1 = 0 then bs (spF A CL n k) k else spF A CL n k
          rw [if_neg nz]
        · have nz : (NV A CL n (dlI (alI n) k)).1 = 0 := by
            have := congrArg Int32.toInt c
            rw [er6, z0] at this
            omega
          refine two _ (Ok_8 o6 (by decide) (Or.inr (Or.inr (Or.inl rfl)))) (by rw [mI_wI, if_neg (by decide)]; exact f0) (by rw [mI_wI, if_neg (by decide)]; exact f1) (by rw [mI_wI, if_neg (by decide)]; exact f2) (by rw [mI_wI, if_neg (by decide)]; exact f3) ?_ (by rw [mI_wI, if_neg (by decide)]; exact f5)
          rw [mI_wI, if_pos ⟨rfl, rfl⟩, f4, bs_e el (by omega)]
          show _ = if (NV A CL n (dlI (alI n) k)).1 = 0 then bs (spF A CL n k) k else spF A CL n k
          rw [if_pos nz]
  have o3 : Ok [8] h h3 := Ok_tr o1 k3 (by decide)
  have s11 : mI (wI h3 8 2 r4) 8 11 = mI h3 8 11 := by rw [mI_wI, if_neg (by decide)]
  rw [s11]
  have oz := Ok_8 (v := alI n) (Ok_8 (v := 0) (Ok_8 (v := mI h3 8 11) (Ok_8 (v := r4) o3 (by decide) (Or.inl rfl)) (by decide) (Or.inr (Or.inl rfl))) (by decide) (Or.inr (Or.inr (Or.inl rfl)))) (by decide) (Or.inr (Or.inr (Or.inr rfl)))
  refine L (n + 1) 0 0 _ (by decide) (Nat.zero_le _) (by omega) oz ?_ ?_ ?_ ?_ ?_
  · rw [mI_wI, if_neg (by decide), mI_wI, if_neg (by decide), mI_wI, if_neg (by decide), mI_wI, if_neg (by decide), j3 0 (by decide) (by decide) (by decide), j1 0 (by decide)]
  · rw [mI_wI, if_neg (by decide), mI_wI, if_neg (by decide), mI_wI, if_neg (by decide), mI_wI, if_neg (by decide), j3 1 (by decide) (by decide) (by decide), j1 1 (by decide)]
  · rw [mI_wI, if_neg (by decide), mI_wI, if_neg (by decide), mI_wI, if_neg (by decide), mI_wI, if_pos ⟨rfl, rfl⟩]
    exact er
  · rw [mI_wI, if_neg (by decide), mI_wI, if_neg (by decide), mI_wI, if_pos ⟨rfl, rfl⟩]
    exact e11
  · by_cases q : (NV A CL n (alI n)).1 = 0
    · exact Or.inr ⟨q, by rw [mI_wI, if_neg (by decide), mI_wI, if_pos ⟨rfl, rfl⟩]; rfl, by rw [mI_wI, if_pos ⟨rfl, rfl⟩]; rfl⟩
    · exact Or.inl ⟨q, by rw [mI_wI, if_neg (by decide), mI_wI, if_pos ⟨rfl, rfl⟩], by rw [mI_wI, if_pos ⟨rfl, rfl⟩]⟩
/-- the reference knows the rays, the squares, the corners -/
def KnM (A : Nat → Nat → Bool) (n : Nat) (CL : List Int32) (h : mh_T) : Prop := GI h ∧ (mI h 45 85).toInt = (n : Int) ∧ (∀ i j, i < n → j < n → bt (mI h 57 i) j = A i j) ∧ Cn 56 11 34 h CL
theorem KnM_o {A : Nat → Nat → Bool} {n : Nat} {CL : List Int32} {h h' : mh_T} (w : KnM A n CL h) (o : Ok [300, 11, 58] h h') (e : mI h' 11 34 = mI h 11 34) : KnM A n CL h' := ⟨o.1, by rw [o.2.2.2.2.1 45 85 (by decide)]; exact w.2.1, fun i j hi' hj => by rw [show mI h' 57 i = mI h 57 i from Ok_eq o (by decide)]; exact w.2.2.1 i j hi' hj, by rw [e]; exact w.2.2.2.1, fun i hi' => by rw [show mI h' 56 i = mI h 56 i from Ok_eq o (by decide)]; exact w.2.2.2.2 i hi'⟩
theorem w_hasColour {g : gT} {h : mh_T} {P : Int32 → mh_T → Prop} {A : Nat → Nat → Bool} {n : Nat} {CL : List Int32} (hn : n ≤ 18) (hs : ∀ u v, A u v = A v u) (hi : ∀ v, A v v = false) (cq : CQ A n CL) (c3 : CL.length ≤ 3060) (w : KnM A n CL h) (K : Int32) (h1 : ∀ h', Ok [300, 11, 58] h h' → mI h' 11 34 = mI h 11 34 → ¬ (NV A CL n K).1 = 0 → P 1 h') (h0 : ∀ h', Ok [300, 11, 58] h h' → mI h' 11 34 = mI h 11 34 → (NV A CL n K).1 = 0 → P 0 h') : MCi g yX11_hasColour uX11_hasColour [.ref 11, .int K] h P := by
  refine e_X11_hasColour K (w_colour hn hs hi cq c3 K 1 1 (by decide) w.1 w.2.1 (NV_le hn K) w.2.2.1 w.2.2.2 (fun h' a b o e34 ea eb q => ⟨fun z => ?_, fun z => ?_⟩))
  · rw [i_le, ea, show (0 : Int32).toInt = 0 from by decide] at z
    refine h0 h' o e34 ?_
    rcases q with q | ⟨q1, q2⟩
    · have := congrArg Prod.fst q
      have : a = (NV A CL n K).1 := this
      omega
    · omega
  · rw [i_le, ea, show (0 : Int32).toInt = 0 from by decide] at z
    refine h1 h' o e34 ?_
    rcases q with q | ⟨q1, q2⟩
    · have := congrArg Prod.fst q
      have : a = (NV A CL n K).1 := this
      omega
    · have q2 : 1 ≤ (NV A CL n K).1 := q2
      omega
theorem w_spare {g : gT} {h0 : mh_T} {P : Int32 → mh_T → Prop} {A : Nat → Nat → Bool} {n : Nat} {CL : List Int32} (hn : n ≤ 18) (hs : ∀ u v, A u v = A v u) (hi : ∀ v, A v v = false) (cq : CQ A n CL) (c3 : CL.length ≤ 3060) (w0 : KnM A n CL h0) (hp : ∀ h', Ok [300, 11, 58] h0 h' → P (spF A CL n n) h') : ME g uX11_spare 38 [.ref 11, .int 0, .int 0] [] h0 (qI P) := by
  have L : ∀ (m : Nat) (l2 : Int32) (k : Nat) (h : mh_T), l2.toInt = (k : Int) → k ≤ n → n - k < m → Ok [300, 11, 58] h0 h → mI h 11 34 = mI h0 11 34 → ME g uX11_spare 38 [.ref 11, .int (spF A CL n k), .int l2] [] h (qI P) := by
    intro m
    induction m with
    | zero => intro _ _ _ _ _ hm; exact absurd hm (Nat.not_lt_zero _)
    | succ m ih =>
      intro l2 k h e2 hk hm o e34
      have w := KnM_o w0 o e34
      have e85 : (mI h 45 (Int32.toNatClampNeg 85)).toInt = (n : Int) := w.2.1
      refine r_X11_spare_38 _ l2 ⟨fun z => ?_, fun z => ?_⟩
      · rw [i_le, e85, e2] at z
        have ek : k = n := by omega
        rw [ek]
        exact hp h o
      · rw [i_le, e85, e2] at z
        have e2' := i_inc e2 (by omega)
        refine e_X11_allRays ?_
        rw [alI_e e85 (by omega), dlI_e e2 (by omega)]
        refine w_hasColour hn hs hi cq c3 w _ (fun h' o' e' nz => ⟨fun y => absurd y (by decide), fun _ x8 ex => ?_⟩) (fun h' o' e' nz => ⟨fun _ x7 ex => ?_, fun y => absurd rfl y⟩)
        · have e : x8 = spF A CL n (k + 1) := by
            rw [ex, show spF A CL n k ||| 0 = spF A CL n k from bt_ext2 (fun t => by rw [bt_or2, bt_zr, Bool.or_false])]
            show _ = if (NV A CL n (dlI (alI n) k)).1 = 0 then bs (spF A CL n k) k else spF A CL n k
            rw [if_neg nz]
          rw [e]
          exact ih (l2 + 1) (k + 1) h' e2' (by omega) (by omega) (Ok_tr o o' (by decide)) (e'.trans e34)
        · have e : x7 = spF A CL n (k + 1) := by
            rw [ex, bs_e e2 (by omega)]
            show _ = if (NV A CL n (dlI (alI n) k)).1 = 0 then bs (spF A CL n k) k else spF A CL n k
            rw [if_pos nz]
          rw [e]
          exact ih (l2 + 1) (k + 1) h' e2' (by omega) (by omega) (Ok_tr o o' (by decide)) (e'.trans e34)
  exact L (n + 1) 0 0 h0 (by decide) (Nat.zero_le _) (by omega) (Ok_rf w0.1) rfl
theorem w_critical {g : gT} {h0 : mh_T} {P : Int32 → mh_T → Prop} {A : Nat → Nat → Bool} {n : Nat} {CL : List Int32} (hn : n ≤ 18) (hs : ∀ u v, A u v = A v u) (hi : ∀ v, A v v = false) (cq : CQ A n CL) (c3 : CL.length ≤ 3060) (w0 : KnM A n CL h0) (hp : ∀ h', Ok [300, 11, 58] h0 h' → P (stF A CL n n) h') : ME g uX11_critical 46 [.ref 11, .int (alI n), .int 0] [] h0 (qI P) := by
  have L : ∀ (m : Nat) (l2 : Int32) (k : Nat) (h : mh_T), l2.toInt = (k : Int) → k ≤ n → n - k < m → Ok [300, 11, 58] h0 h → mI h 11 34 = mI h0 11 34 → ME g uX11_critical 46 [.ref 11, .int (stF A CL n k), .int l2] [] h (qI P) := by
    intro m
    induction m with
    | zero => intro _ _ _ _ _ hm; exact absurd hm (Nat.not_lt_zero _)
    | succ m ih =>
      intro l2 k h e2 hk hm o e34
      have w := KnM_o w0 o e34
      have e85 : (mI h 45 (Int32.toNatClampNeg 85)).toInt = (n : Int) := w.2.1
      refine r_X11_critical_46 _ l2 ⟨fun z => ?_, fun z => ?_⟩
      · rw [i_le, e85, e2] at z
        have ek : k = n := by omega
        rw [ek]
        exact hp h o
      · rw [i_le, e85, e2] at z
        have e2' := i_inc e2 (by omega)
        rw [dlI_e e2 (by omega)]
        refine w_hasColour hn hs hi cq c3 w _ (fun h' o' e' nz => ⟨fun _ => ?_, fun y => absurd y (by decide)⟩) (fun h' o' e' nz => ⟨fun y => absurd rfl y, fun _ x5 ex => ?_⟩)
        · have e : stF A CL n k = stF A CL n (k + 1) := by
            show _ = if (NV A CL n (dlI (stF A CL n k) k)).1 = 0 then dlI (stF A CL n k) k else stF A CL n k
            rw [if_neg nz]
          rw [e]
          exact ih (l2 + 1) (k + 1) h' e2' (by omega) (by omega) (Ok_tr o o' (by decide)) (e'.trans e34)
        · have e : x5 = stF A CL n (k + 1) := by
            rw [ex]
            show _ = if (NV A CL n (dlI (stF A CL n k) k)).1 = 0 then dlI (stF A CL n k) k else stF A CL n k
            rw [if_pos nz]
          rw [e]
          exact ih (l2 + 1) (k + 1) h' e2' (by omega) (by omega) (Ok_tr o o' (by decide)) (e'.trans e34)
  exact L (n + 1) 0 0 h0 (by decide) (Nat.zero_le _) (by omega) (Ok_rf w0.1) rfl
