/-! the reference's lines: run, names -/
theorem b_st_end {g : gT} {h : mh_T} {P : mh_T → Prop} {l : Nat} (l1 l2 : Int32) (hl : l < 4) (e1 : l1.toInt = (l : Int)) (hp : P (wI (wI h 46 (159 + l) l2) 46 158 ((mI h 46 158) + 1))) : ME g uX11_runLine 21 [.ref 11, .int l1, .int l2, .int 0, .retAddr 0] [] h (qV P) := by
  have i9 := i_1p (c := 159) (d := 159) e1 (by decide) (by omega) (by decide)
  refine r_X11_runLine_21 l1 l2 0 ⟨fun _ => ⟨i_vp i9 (by omega), ?_⟩, fun z => absurd rfl z⟩
  rw [i_nat i9, show Int32.toNatClampNeg 158 = 158 from by decide, mI_wI, if_neg (fun z => by have := z.2; omega)]
  exact hp
theorem b_st {g : gT} {h0 : mh_T} {P : mh_T → Prop} {T : Nat → Int32} {n l : Nat} (l1 : Int32) (hl : l < 4) (e1 : l1.toInt = (l : Int)) : ∀ (r : Nat) (l2 : Int32) (e : Nat) (f : Nat → Int32) (h : mh_T), Ms h0 T n e f h → (f 158).toInt = (l : Int) → r ≤ 6 → l2.toInt = ((6 - r : Nat) : Int) → (∀ h', Mo h0 T n (rx_st T n l r e f) h' → P h') → ME g uX11_runLine 21 [.ref 11, .int l1, .int l2, .int 1, .retAddr 0] [] h (qV P) := by
  have i0 : (0 : Int32).toInt = 0 := by decide
  have i1 : (1 : Int32).toInt = 1 := by decide
  have i6 : (6 : Int32).toInt = 6 := by decide
  intro r
  induction r with
  | zero =>
    intro l2 e f h c f158 hr e2 hp
    have e6 : l2 = 6 := Int32.toInt_inj.mp (by rw [e2]; decide)
    refine r_X11_runLine_21 l1 l2 1 ⟨fun z => absurd z (by decide), fun _ => ?_⟩
    refine b_namedL c 0 _ Un_0 (fun rr k en er hk _ => ⟨fun y => absurd c.2.2.2.2.2 y, fun _ => ⟨fun y => absurd e6 y, fun _ => b_wrong c 5 (fun mx => ⟨fun y => absurd y (Mx_ne mx), fun _ => hp _ (Mo_no mx ?_)⟩)⟩⟩) (fun rr k _ _ _ q => by cases q) (fun w hw en mx => ⟨fun _ => ⟨fun y => absurd y (Mx_ne mx), fun _ => hp _ (Mo_no mx ?_)⟩, fun y => absurd y (Mx_ne mx)⟩)
    · show rx_bind (rx_name T n true e f) _ = _
      rw [en]
      rfl
    · show rx_bind (rx_name T n true e f) _ = _
      rw [en]
      rfl
  | succ r ih =>
    intro l2 e f h c f158 hr e2 hp
    have e6 : ¬ l2 = 6 := fun q => by
      rw [q, i6] at e2
      omega
    have m6 : (6 * l1).toInt = 6 * (l : Int) := by
      rw [Int32.toInt_mul, e1, i6, bm (by omega) (by omega)]
    have ia : ((163 + (6 * l1)) + l2).toInt = ((163 + 6 * l + (5 - r) : Nat) : Int) := by
      have b : (163 + (6 * l1)).toInt = 163 + 6 * (l : Int) := i_add (by decide) m6 (by omega)
      rw [i_add b e2 (by omega)]
      omega
    have ib : ((187 + (6 * l1)) + l2).toInt = ((187 + 6 * l + (5 - r) : Nat) : Int) := by
      have b : (187 + (6 * l1)).toInt = 187 + 6 * (l : Int) := i_add (by decide) m6 (by omega)
      rw [i_add b e2 (by omega)]
      omega
    have va := i_vp (n := 346) ia (by omega)
    have vb := i_vp (n := 346) ib (by omega)
    have ra := rgp_46_12 (j := 163 + 6 * l + (5 - r)) (by omega) (by omega)
    have rb := rgp_46_13 (j := 187 + 6 * l + (5 - r)) (by omega) (by omega)
    have rc := rgp_46_11 (j := 159 + l) (by omega) (by omega)
    have e2' : (l2 + 1).toInt = ((6 - r : Nat) : Int) := by
      rw [i_inc e2 (by omega)]
      omega
    have o2 : l2 + 1 = Int32.ofNat (6 - r) := i_of e2' (by omega)
    have f158' := i_inc f158 (by omega)
    refine r_X11_runLine_21 l1 l2 1 ⟨fun z => absurd z (by decide), fun _ => ?_⟩
    refine b_namedL c 0 _ Un_0 (fun rr k en er hk _ => ⟨fun y => absurd c.2.2.2.2.2 y, fun _ => ⟨fun _ => ⟨fun _ => b_nx c (fun h2 c2 => ⟨va, ?_⟩), fun y => absurd c.2.2.2.2.2 y⟩, fun y => absurd y e6⟩⟩) (fun rr k _ _ _ q => by cases q) (fun w hw en mx => ⟨fun _ => ⟨fun y => absurd y (Mx_ne mx), fun _ => hp _ (Mo_no mx ?_)⟩, fun y => absurd y (Mx_ne mx)⟩)
    · rw [i_nat ia]
      have er2 : rr = Int32.ofNat k := i_of er (by omega)
      have ca := Ms_w c2 ra (v := rr) ⟨by omega, by omega⟩
      have eo : rx_st T n l (r + 1) e f = rx_bind (rx_num T n 0 1 (rx_e T n e) f) (fun v e2 f2 => if rx_k T n e2 = 44 then rx_st T n l r (rx_e T n e2) (rx_set (rx_set f2 (163 + 6 * l + (5 - r)) (Int32.ofNat k)) (187 + 6 * l + (5 - r)) v) else .inr ((), e2, rx_set (rx_set (rx_set (rx_set f2 (163 + 6 * l + (5 - r)) (Int32.ofNat k)) (187 + 6 * l + (5 - r)) v) (159 + l) (Int32.ofNat (6 - r))) 158 (f 158 + 1))) := by
        show rx_bind (rx_name T n true e f) _ = _
        rw [en]
        rfl
      rw [eo] at hp
      have ncg : ∀ lo hi : Int32, ∀ e0 : Nat, ∀ f' : Nat → Int32, (∀ v, rx_num T n lo hi e0 f' = .inr (v, rx_e T n e0, f') → rx_num T n lo hi e0 f = .inr (v, rx_e T n e0, f)) ∧ (∀ w, rx_num T n lo hi e0 f' = rx_no T n e0 w → rx_num T n lo hi e0 f = rx_no T n e0 w) := by
        intro lo hi e0 f'
        unfold rx_num rx_no
        split
        · exact ⟨fun v z => (by cases z), fun w z => z⟩
        · split
          · exact ⟨fun v z => (by cases z; rfl), fun w z => (by cases z)⟩
          · exact ⟨fun v z => (by cases z), fun w z => z⟩
      refine b_number 0 1 ca (fun en2 k3 vr h3 c3 => ⟨vb, ?_⟩) (fun w hw en2 mx => ⟨vb, ?_⟩)
      · rw [i_nat ib]
        rw [(ncg 0 1 _ _).1 _ en2] at hp
        change ∀ h', Mo h0 T n (if rx_k T n (rx_e T n (rx_e T n e)) = 44 then rx_st T n l r (rx_e T n (rx_e T n (rx_e T n e))) (rx_set (rx_set f (163 + 6 * l + (5 - r)) (Int32.ofNat k)) (187 + 6 * l + (5 - r)) (rx_v T n (rx_e T n e))) else .inr ((), rx_e T n (rx_e T n e), rx_set (rx_set (rx_set (rx_set f (163 + 6 * l + (5 - r)) (Int32.ofNat k)) (187 + 6 * l + (5 - r)) (rx_v T n (rx_e T n e))) (159 + l) (Int32.ofNat (6 - r))) 158 (f 158 + 1))) h' → P h' at hp
        rw [← er2] at hp
        rw [i_le, i_le, i0, i1] at vr
        have cb := Ms_w c3 rb (v := rx_v T n (rx_e T n e)) ⟨by omega, by omega⟩
        refine b_comma cb (fun k44 h4 c4 => ?_) (fun k44 => ?_)
        · rw [if_pos k44] at hp
          refine ih (l2 + 1) _ _ _ c4 ?_ (by omega) e2' hp
          rw [rx_set_o (by omega), rx_set_o (by omega)]
          exact f158
        · rw [if_neg k44] at hp
          refine b_st_end l1 (l2 + 1) hl e1 ?_
          rw [cb.2.2.2.2.1 158 (by decide), rx_set_o (by omega), rx_set_o (by omega)]
          refine hp _ (Mo_ok (Ms_w (Ms_w cb rc (v := l2 + 1) ⟨by omega, by omega⟩) (lo := 0) (hi := 4) (by decide) (v := f 158 + 1) ⟨by omega, by omega⟩) ?_)
          rw [o2]
      · rw [i_nat ib]
        rw [(ncg 0 1 _ _).2 w en2] at hp
        have mb := Mx_w mx rb (v := 0) ⟨by decide, by decide⟩
        refine x_comma (Mx_ne mb) (b_st_end l1 (l2 + 1) hl e1 ?_)
        rw [mb.2.2.2.2 158 (by decide), rx_set_o (by omega), rx_set_o (by omega)]
        exact hp _ (Mo_no (Mx_w (Mx_w mb rc (v := l2 + 1) ⟨by omega, by omega⟩) (lo := 0) (hi := 4) (by decide) (v := f 158 + 1) ⟨by omega, by omega⟩) rfl)
    · show rx_bind (rx_name T n true e f) _ = _
      rw [en]
      rfl
theorem b_runLine {g : gT} {h0 h : mh_T} {P : mh_T → Prop} {T : Nat → Int32} {n e : Nat} {f : Nat → Int32} (c : Ms h0 T n e f h) (h8 : ¬ f 158 = 4) (hp : ∀ h', Mo h0 T n (rx_st T n (f 158).toNatClampNeg 6 e f) h' → P h') : MCv g yX11_runLine uX11_runLine [.ref 11] h P := by
  have c158 := c.2.2.2.2.1 158 (by decide)
  have r158 : R 0 4 (f 158) := by
    rw [← c158]
    exact GI_rd c.1.1 46 158 (by decide)
  obtain ⟨l, el, l0, l8⟩ := i_R r158 (by decide)
  have hl : l < 4 := by
    by_cases q : l = 4
    · exact absurd (Int32.toInt_inj.mp (by rw [el, q]; decide)) h8
    · omega
  rw [i_nat el] at hp
  refine e_X11_runLine ⟨fun _ x2 ex => ?_, fun y => absurd c.2.2.2.2.2 y⟩
  rw [show Int32.toNatClampNeg 158 = 158 from by decide, c158] at ex
  subst ex
  exact b_st _ hl el 6 0 e f h c el (Nat.le_refl _) (by decide) hp
/-- the first k letters of a new name -/
def rx_pp (T : Nat → Int32) (n e : Nat) (f : Nat → Int32) (J k : Nat) : Nat → Int32 := fun i => if 226 + 8 * J ≤ i ∧ i < 226 + 8 * J + k then T (rx_s T n e + (i - (226 + 8 * J))) else f i
theorem rx_pp_0 {T : Nat → Int32} {n e J : Nat} {f : Nat → Int32} : rx_pp T n e f J 0 = f := by
  funext i
  unfold rx_pp
  rw [if_neg (by omega)]
theorem rx_pp_s {T : Nat → Int32} {n e J k : Nat} {f : Nat → Int32} : rx_set (rx_pp T n e f J k) (226 + 8 * J + k) (T (rx_s T n e + k)) = rx_pp T n e f J (k + 1) := by
  funext i
  unfold rx_set rx_pp
  by_cases q : i = 226 + 8 * J + k
  · rw [if_pos q, if_pos (by omega), show i - (226 + 8 * J) = k by omega]
  · rw [if_neg q]
    by_cases z : 226 + 8 * J ≤ i ∧ i < 226 + 8 * J + k
    · rw [if_pos z, if_pos (by omega)]
    · rw [if_neg z, if_neg (by omega)]
theorem rx_pp_e {T : Nat → Int32} {n e J : Nat} {f : Nat → Int32} : rx_set (rx_pp T n e f J (rx_e T n e - rx_s T n e)) (211 + J) (Int32.ofNat (rx_e T n e - rx_s T n e)) = rx_put T n e f J := rfl
theorem b_nn_93 {g : gT} {h0 : mh_T} {P : mh_T → Prop} {T : Nat → Int32} {n e J ci : Nat} {f : Nat → Int32} (l1 l2 l3 l4 l5 : Int32) (k2 : rx_k T n e = 2) (hJ : J < 15) (e5 : l5.toInt = (J : Int)) (hc : ci = 50 ∨ ci = 51) (e1 : l1.toInt = (ci : Int)) {lo hi : Int} (er : rgT 46 ci = (lo, hi)) (fr : R lo hi (f ci + 1)) (hp : ∀ h1, Ms h0 T n (rx_e T n e) (rx_set (rx_put T n e f J) ci (f ci + 1)) h1 → MCi g yX11_comma uX11_comma [.ref 11] h1 (fun r7 h6 => ME g uX11_newNames 14 [.ref 11, .int l1, .int l2, .int l3, .int r7, .retAddr 0, .retAddr 0] [] h6 (qV P))) : ∀ (m : Nat) (l6 : Int32) (k : Nat) (h : mh_T), Ms h0 T n e (rx_pp T n e f J k) h → l6.toInt = (k : Int) → k ≤ rx_e T n e - rx_s T n e → 8 - k < m → ME g uX11_newNames 93 [.ref 11, .int l1, .int l2, .int l3, .int l4, .int l5, .int l6] [] h (qV P) := by
  obtain ⟨-, k1, k8, kl⟩ := rx_k2 k2
  intro m
  induction m with
  | zero => intro l6 k h _ _ _ hm; exact absurd hm (Nat.not_lt_zero _)
  | succ m ih =>
    intro l6 k h c e6 hk hm
    obtain ⟨e8, el⟩ := c.2.2.1.2.2.2.2 k2
    have i211 := i_1p (c := 211) (d := 211) e5 (by decide) (by omega) (by decide)
    have q8 : mI h 11 8 = Int32.ofNat (rx_e T n e - rx_s T n e) := i_of e8 (by omega)
    refine r_X11_newNames_93 l1 l2 l3 l4 l5 l6 ⟨fun z => ⟨i_vp i211 (by omega), i_vp e1 (by omega), i_vp e1 (by omega), ?_⟩, fun z => ?_⟩
    · rw [i_le, e8, e6] at z
      have ek : k = rx_e T n e - rx_s T n e := by omega
      subst ek
      rw [i_nat i211, i_nat e1, q8]
      have ca := Ms_w c (rgp_46_14 (j := 211 + J) (by omega) (by omega)) (v := Int32.ofNat (rx_e T n e - rx_s T n e)) (by rw [← q8]; exact ⟨by omega, by omega⟩)
      rw [rx_pp_e] at ca
      have ec : rx_put T n e f J ci = f ci := by
        unfold rx_put
        rw [if_neg (by omega), if_neg (by omega)]
      rw [ca.2.2.2.2.1 ci (by omega), ec]
      exact b_nx (Ms_w ca er fr) hp
    · rw [i_le, e8, e6] at z
      have i8 : (8 * l5).toInt = ((8 * J : Nat) : Int) := by
        rw [Int32.toInt_mul, e5, show (8 : Int32).toInt = 8 from by decide, bm (by omega) (by omega)]
        omega
      have ia : (226 + 8 * l5).toInt = ((226 + 8 * J : Nat) : Int) := i_1p (c := 226) (d := 226) i8 (by decide) (by omega) (by decide)
      have ib : ((226 + 8 * l5) + l6).toInt = ((226 + 8 * J + k : Nat) : Int) := by
        rw [i_add ia e6 (by omega)]; omega
      refine ⟨i_vp e6 (by omega), i_vp ib (by omega), ?_⟩
      rw [i_nat ib, i_nat e6, el k (by omega)]
      have ca := Ms_w c (rgg_46_1 (j := 226 + 8 * J + k) (by omega) (by omega)) (v := T (rx_s T n e + k)) (R_full _)
      rw [rx_pp_s] at ca
      exact ih (l6 + 1) (k + 1) _ ca (i_inc e6 (by omega)) (by omega) (by omega)
theorem b_nn {g : gT} {h0 : mh_T} {P : mh_T → Prop} {T : Nat → Int32} {n ci fs mo : Nat} (l1 l2 l3 : Int32) (hq : (ci = 50 ∧ fs = 0 ∧ mo = 6) ∨ (ci = 51 ∧ fs = 6 ∧ mo = 9)) (e1 : l1.toInt = (ci : Int)) (e2 : l2.toInt = (fs : Int)) (e3 : l3.toInt = (mo : Int)) : ∀ (k : Nat) (l4 : Int32) (e : Nat) (f : Nat → Int32) (h : mh_T), ¬ l4 = 0 → Ms h0 T n e f h → (mo : Int) < (f ci).toInt + k → (∀ h', Mo h0 T n (rx_nn T n ci fs l3 k e f) h' → P h') → ME g uX11_newNames 14 [.ref 11, .int l1, .int l2, .int l3, .int l4, .retAddr 0, .retAddr 0] [] h (qV P) := by
  have i0 : (0 : Int32).toInt = 0 := by decide
  have rgc : rgT 46 ci = (0, (mo : Int)) := by
    rcases hq with ⟨a, b, d⟩ | ⟨a, b, d⟩ <;> subst a b d <;> decide
  intro k
  induction k with
  | zero =>
    intro l4 e f h _ c hf _
    exfalso
    have := GI_rd c.1.1 46 ci rgc
    rw [c.2.2.2.2.1 ci (by omega)] at this
    have := this.2
    omega
  | succ k ih =>
    intro l4 e f h h4 c hf hp
    have rf := GI_rd c.1.1 46 ci rgc
    rw [c.2.2.2.2.1 ci (by omega)] at rf
    obtain ⟨m, em, m0, mm⟩ := i_R rf (by decide)
    have c13 := c.2.2.2.2.2
    have v1 := i_vp (n := 346) e1 (by omega)
    refine r_X11_newNames_14 l1 l2 l3 l4 ⟨fun z => absurd z h4, fun _ => b_mustName c (fun nm => ⟨fun y => absurd c13 y, fun _ => ?_⟩) (fun nm mx => ⟨fun _ => ⟨fun _ => ⟨fun y => absurd y (Mx_ne mx), fun _ => hp _ (Mo_no mx ?_)⟩, fun y => absurd y (Mx_ne mx)⟩, fun y => absurd y (Mx_ne mx)⟩)⟩
    · have k2 := (rx_nm_iff.mp nm).1
      refine b_find c k2 (fun r j fj er hj => ⟨fun y => ?_, fun y => b_wrong c 3 (fun mx => ⟨fun _ => ⟨fun y => absurd y (Mx_ne mx), fun _ => hp _ (Mo_no mx ?_)⟩, fun y => absurd y (Mx_ne mx)⟩)⟩) (fun fn => ⟨fun _ => ⟨fun y => absurd c13 y, fun _ => ⟨v1, ?_⟩⟩, fun y => absurd (by decide) y⟩)
      · rw [i_lt, er, i0] at y
        omega
      · show (if rx_nm T n e = true then (if (rx_fd T n e f).isSome = true then _ else _) else _) = _
        rw [if_pos nm, fj]
        rfl
      · rw [i_nat e1, c.2.2.2.2.1 ci (by omega)]
        have eo : rx_nn T n ci fs l3 (k + 1) e f = (if f ci = l3 then rx_no T n e 5 else (if rx_k T n (rx_e T n e) = 44 then rx_nn T n ci fs l3 k (rx_e T n (rx_e T n e)) (rx_set (rx_put T n e f (fs + (f ci).toNatClampNeg)) ci (f ci + 1)) else .inr ((), rx_e T n e, rx_set (rx_put T n e f (fs + (f ci).toNatClampNeg)) ci (f ci + 1)))) := by
          show (if rx_nm T n e = true then (if (rx_fd T n e f).isSome = true then _ else _) else _) = _
          rw [if_pos nm, fn]
          rfl
        rw [eo] at hp
        refine ⟨fun y => ⟨fun _ => ⟨v1, fun x ex => ?_⟩, fun q => absurd c13 q⟩, fun y => b_wrong c 5 (fun mx => ⟨fun q => absurd q (Mx_ne mx), fun _ => hp _ (Mo_no mx ?_)⟩)⟩
        · rw [if_neg y] at hp
          have hm : m < mo := by
            by_cases q : m = mo
            · exact absurd (Int32.toInt_inj.mp (by rw [em, e3, q])) y
            · omega
          have ex' : x.toInt = ((fs + m : Nat) : Int) := by
            rw [ex, i_add e2 em (by omega)]
            omega
          have em' := i_inc em (by omega)
          rw [i_nat em] at hp
          have cz : Ms h0 T n e (rx_pp T n e f (fs + m) 0) h := by
            rw [rx_pp_0]
            exact c
          refine b_nn_93 (f := f) (J := fs + m) (ci := ci) l1 l2 l3 l4 x k2 (by omega) ex' (by omega) e1 rgc ⟨by omega, by omega⟩ (fun h1 c1 => ?_) 9 0 0 h cz (by decide) (Nat.zero_le _) (by omega)
          refine b_comma c1 (fun k44 h2 c2 => ?_) (fun k44 => ?_)
          · rw [if_pos k44] at hp
            refine ih 1 _ _ _ (by decide) c2 ?_ hp
            rw [rx_set_i]
            omega
          · rw [if_neg k44] at hp
            exact r_X11_newNames_14 l1 l2 l3 0 ⟨fun _ => hp _ (Mo_ok c1 rfl), fun z => absurd rfl z⟩
        · rw [if_pos y]
    · show (if rx_nm T n e = true then _ else _) = _
      rw [if_neg nm]
theorem b_newNames {g : gT} {h0 h : mh_T} {P : mh_T → Prop} {T : Nat → Int32} {n e k ci fs mo : Nat} {f : Nat → Int32} (l1 l2 l3 : Int32) (hq : (ci = 50 ∧ fs = 0 ∧ mo = 6) ∨ (ci = 51 ∧ fs = 6 ∧ mo = 9)) (e1 : l1.toInt = (ci : Int)) (e2 : l2.toInt = (fs : Int)) (e3 : l3.toInt = (mo : Int)) (c : Ms h0 T n e f h) (hk : mo < k) (hp : ∀ h', Mo h0 T n (rx_nn T n ci fs l3 k e f) h' → P h') : MCv g yX11_newNames uX11_newNames [.ref 11, .int l1, .int l2, .int l3] h P := by
  have rgc : rgT 46 ci = (0, (mo : Int)) := by
    rcases hq with ⟨a, b, d⟩ | ⟨a, b, d⟩ <;> subst a b d <;> decide
  have rf := GI_rd c.1.1 46 ci rgc
  rw [c.2.2.2.2.1 ci (by omega)] at rf
  have := rf.1
  exact e_X11_newNames l1 l2 l3 ⟨fun y => absurd c.2.2.2.2.2 y, fun _ => b_nn l1 l2 l3 hq e1 e2 e3 k 1 e f h (by decide) c (by omega) hp⟩
theorem b_begins {g : gT} {h0 h : mh_T} {P : Int32 → mh_T → Prop} {T : Nat → Int32} {n e : Nat} {f : Nat → Int32} (l1 : Nat) (sl1 : l1 < nJS) (l2 l3 : Int32) (c : Ms h0 T n e f h) (h1 : rx_wd T n e (bytJS.getD l1 []) = true → ¬ l2 = 0 → ∀ h', Ms h0 T n (rx_e T n e) f h' → P 1 h') (hx : rx_wd T n e (bytJS.getD l1 []) = true → l2 = 0 → Mx h0 f l3 (rx_s T n e) (wr h l3) → P 1 (wr h l3)) (h0' : ¬ rx_wd T n e (bytJS.getD l1 []) = true → P 0 h) : MCi g yX11_begins uX11_begins [.ref 11, .ref (1000 + l1), .int l2, .int l3] h P :=
  e_X11_begins l1 l2 l3 sl1 (b_isWord l1 sl1 c (fun z => ⟨fun _ => ⟨fun y => ⟨fun x => absurd c.2.2.2.2.2 x, fun _ => b_nx c (h1 z y)⟩, fun y => b_wrong c l3 (fun mx => ⟨fun _ => hx z y mx, fun x => absurd x (Mx_ne mx)⟩)⟩, fun y => absurd y (by decide)⟩) (fun z => ⟨fun y => absurd rfl y, fun _ => h0' z⟩))
/-! no set without a law -/
def rx_kp {α : Type} (S : Nat → Prop) (f : Nat → Int32) (o : rx_O α) : Prop := ∀ a e1 f1, o = .inr (a, e1, f1) → ∀ i, S i → f1 i = f i
theorem kp_no {α : Type} {S : Nat → Prop} {f : Nat → Int32} {T : Nat → Int32} {n e0 : Nat} {w : Int32} : rx_kp (α := α) S f (rx_no T n e0 w) := fun _ _ _ h => by cases h
theorem kp_ok {α : Type} {S : Nat → Prop} {f f' : Nat → Int32} {e1 : Nat} {a : α} (h : ∀ i, S i → f' i = f i) : rx_kp S f (.inr (a, e1, f')) := fun _ _ _ z => by cases z; exact h
theorem kp_bind {α β : Type} {S : Nat → Prop} {f : Nat → Int32} {x : rx_O α} {k : α → Nat → (Nat → Int32) → rx_O β} (hx : rx_kp S f x) (hk : ∀ a e1 f1, (∀ i, S i → f1 i = f i) → rx_kp S f1 (k a e1 f1)) : rx_kp S f (rx_bind x k) := by
  intro b e2 f2 h i hi
  cases x with
  | inl q => cases h
  | inr q =>
    obtain ⟨a, e1, f1⟩ := q
    have h1 := hx a e1 f1 rfl
    rw [hk a e1 f1 h1 b e2 f2 h i hi]
    exact h1 i hi
theorem kp_tr {α : Type} {S : Nat → Prop} {f f' : Nat → Int32} {o : rx_O α} (h : ∀ i, S i → f' i = f i) (u : rx_kp S f' o) : rx_kp S f o := fun a e1 f1 z i hi => (u a e1 f1 z i hi).trans (h i hi)
theorem kp_word {S : Nat → Prop} {T : Nat → Int32} {n i e : Nat} {f : Nat → Int32} : rx_kp S f (rx_word T n i e f) := by
  unfold rx_word
  split
  · exact kp_ok (fun _ _ => rfl)
  · exact kp_no
theorem kp_sign {S : Nat → Prop} {T : Nat → Int32} {n e : Nat} {c : Int32} {f : Nat → Int32} : rx_kp S f (rx_sign T n c e f) := by
  unfold rx_sign
  split
  · exact kp_ok (fun _ _ => rfl)
  · exact kp_no
theorem kp_num {S : Nat → Prop} {T : Nat → Int32} {n e : Nat} {lo hi : Int32} {f : Nat → Int32} : rx_kp S f (rx_num T n lo hi e f) := by
  unfold rx_num
  split
  · exact kp_no
  · split
    · exact kp_ok (fun _ _ => rfl)
    · exact kp_no
theorem kp_name {S : Nat → Prop} {T : Nat → Int32} {n e : Nat} {b : Bool} {f : Nat → Int32} : rx_kp S f (rx_name T n b e f) := by
  unfold rx_name
  split
  · split
    · exact kp_no
    · split
      · exact kp_ok (fun _ _ => rfl)
      · exact kp_no
  · exact kp_no
theorem kp_nn {S : Nat → Prop} (hS : ∀ i, S i → i ≤ 49) {T : Nat → Int32} {n c fs : Nat} {mo : Int32} (hc : 50 ≤ c) : ∀ k e f, rx_kp S f (rx_nn T n c fs mo k e f)
  | 0, e, f => kp_no
  | k + 1, e, f => by
    have q : ∀ i, S i → rx_set (rx_put T n e f (fs + (f c).toNatClampNeg)) c (f c + 1) i = f i := fun i hi => by
      have := hS i hi
      rw [rx_set_o (by omega)]
      unfold rx_put
      rw [if_neg (by omega), if_neg (by omega)]
    unfold rx_nn
    split
    · split
      · exact kp_no
      · split
        · exact kp_no
        · split
          · exact kp_tr q (kp_nn hS hc k _ _)
          · exact kp_ok q
    · exact kp_no
theorem kp_tm {S : Nat → Prop} (hS : ∀ i, S i → i = 49) {T : Nat → Int32} {n s many : Nat} (hs : s < 8 ∧ many ≤ 4) : ∀ r sum e f, rx_kp S f (rx_tm T n s many r sum e f)
  | 0, sum, e, f => kp_ok (fun i hi => by have := hS i hi; rw [rx_set_o (by omega)])
  | r + 1, sum, e, f => by
    unfold rx_tm
    refine kp_bind ?_ (fun _ e0 f0 _ => kp_bind kp_num (fun v e1 f1 _ => ?_))
    · split
      · exact kp_ok (fun _ _ => rfl)
      · exact kp_sign
    · split
      · exact kp_no
      · exact kp_tr (fun i hi => by have := hS i hi; rw [rx_set_o (by omega)]) (kp_tm hS hs r _ _ _)
theorem kp_pt {S : Nat → Prop} (hS : ∀ i, S i → i ≤ 49) {T : Nat → Int32} {n l : Nat} : ∀ r u e f, rx_kp S f (rx_pt T n l r u e f)
  | 0, u, e, f => kp_ok (fun _ _ => rfl)
  | r + 1, u, e, f => by
    unfold rx_pt
    refine kp_bind ?_ (fun _ e0 f0 _ => kp_bind kp_name (fun v e1 f1 _ => ?_))
    · split
      · exact kp_ok (fun _ _ => rfl)
      · exact kp_sign
    · split
      · exact kp_no
      · exact kp_tr (fun i hi => by have := hS i hi; rw [rx_set_o (by omega)]) (kp_pt hS r _ _ _)
theorem kp_pa {S : Nat → Prop} (hS : ∀ i, S i → i ≤ 49) {T : Nat → Int32} {n l : Nat} : ∀ r an e f, rx_kp S f (rx_pa T n l r an e f)
  | 0, an, e, f => kp_ok (fun i hi => by have := hS i hi; rw [rx_set_o (by omega)])
  | r + 1, an, e, f => by
    unfold rx_pa
    refine kp_bind ?_ (fun _ e0 f0 _ => kp_bind kp_num (fun v e1 f1 _ => ?_))
    · split
      · exact kp_ok (fun _ _ => rfl)
      · exact kp_sign
    · split
      · exact kp_no
      · exact kp_tr (fun i hi => by have := hS i hi; rw [rx_set_o (by omega)]) (kp_pa hS r _ _ _)
theorem kp_st {S : Nat → Prop} (hS : ∀ i, S i → i ≤ 49) {T : Nat → Int32} {n l : Nat} : ∀ r e f, rx_kp S f (rx_st T n l r e f)
  | 0, e, f => kp_bind kp_name (fun _ _ _ _ => kp_no)
  | r + 1, e, f => by
    unfold rx_st
    refine kp_bind kp_name (fun k e1 f1 _ => kp_bind kp_num (fun v e2 f2 _ => ?_))
    split
    · exact kp_tr (fun i hi => by have := hS i hi; rw [rx_set_o (by omega), rx_set_o (by omega)]) (kp_st hS r _ _)
    · exact kp_ok (fun i hi => by have := hS i hi; rw [rx_set_o (by omega), rx_set_o (by omega), rx_set_o (by omega), rx_set_o (by omega)])
/-- where there is no law there is no set -/
def Lw (f : Nat → Int32) : Prop := f 49 = 0 → f 0 = 0
theorem lw_line {T : Nat → Int32} {n e e1 : Nat} {f f1 : Nat → Int32} (r0 : R 0 8 (f 0)) (lw : Lw f) (h : rx_line T n e f = .inr ((), e1, f1)) : Lw f1 := by
  have sm : ∀ {o : rx_O Unit}, rx_kp (fun i => i = 0 ∨ i = 49) f o → o = .inr ((), e1, f1) → Lw f1 := fun k z q => by
    have := k _ _ _ z
    rw [this 0 (Or.inl rfl)]
    rw [this 49 (Or.inr rfl)] at q
    exact lw q
  have hS : ∀ i, (i = 0 ∨ i = 49) → i ≤ 49 := fun i hi => by omega
  unfold rx_line at h
  split at h
  · unfold rx_lawL at h
    split at h
    · unfold rx_word at h
      split at h
      · change rx_bind (rx_num T n 1 60 (rx_e T n (rx_e T n e)) f) (fun v e2 f2 => .inr ((), e2, rx_set f2 49 v)) = _ at h
        unfold rx_num at h
        split at h
        · cases h
        · split at h
          · rename_i q
            cases h
            intro z
            rw [rx_set_i] at z
            rw [z, i_le] at q
            exact absurd q.1 (by decide)
          · cases h
      · cases h
    · cases h
  split at h
  · exact sm (kp_nn hS (by decide) _ _ _) h
  split at h
  · exact sm (kp_nn hS (by decide) _ _ _) h
  split at h
  · unfold rx_setL at h
    split at h
    · cases h
    · rename_i f49
      split at h
      · cases h
      · rename_i f8
        obtain ⟨s, es, s0, s8⟩ := i_R r0 (by decide)
        have hs : s < 8 := by
          by_cases q : s = 8
          · exact absurd (Int32.toInt_inj.mp (by rw [es, q]; decide)) f8
          · omega
        have T9 : ∀ one two e0 (f0 : Nat → Int32), (∀ i, i = 0 ∨ i = 49 → f0 i = f i) → rx_kp (fun i => i = 49) f0 (rx_tell T n one two e0 f0) := by
          intro one two e0 f0 hf
          unfold rx_tell
          rw [hf 0 (Or.inl rfl), i_nat es]
          refine kp_tr (f' := rx_set (rx_set f0 (1 + s) (Int32.ofNat one)) (9 + s) two) (fun i hi => by rw [rx_set_o (by omega), rx_set_o (by omega)]) (kp_bind kp_word (fun _ e1 f1 _ => ?_))
          split
          · exact kp_tm (fun i hi => hi) ⟨hs, by decide⟩ _ _ _ _
          · exact kp_tm (fun i hi => hi) ⟨hs, by decide⟩ _ _ _ _
        intro z
        exfalso
        apply f49
        rw [← z]
        symm
        have nm : ∀ e0 (f0 : Nat → Int32) k e2 (f2 : Nat → Int32), rx_name T n true e0 f0 = .inr (k, e2, f2) → f2 = f0 := by
          intro e0 f0 k e2 f2 q
          unfold rx_name at q
          split at q
          · split at q
            · cases q
            · split at q
              · cases q; rfl
              · cases q
          · cases q
        cases a : rx_name T n true (rx_e T n e) f with
        | inl q => rw [a] at h; cases h
        | inr q =>
          obtain ⟨one, e2, f2⟩ := q
          rw [a] at h
          have := nm _ _ _ _ _ a
          subst this
          change (if rx_k T n e2 = 44 then rx_bind (rx_name T n true (rx_e T n e2) f2) (fun two e2' f2' => if two = one then rx_no T n (rx_e T n e2) 3 else rx_tell T n one (Int32.ofNat two) e2' f2') else rx_tell T n one (-2) e2 f2) = _ at h
          split at h
          · cases b : rx_name T n true (rx_e T n e2) f2 with
            | inl q => rw [b] at h; cases h
            | inr q =>
              obtain ⟨two, e3, f3⟩ := q
              rw [b] at h
              have := nm _ _ _ _ _ b
              subst this
              change (if two = one then rx_no T n (rx_e T n e2) 3 else rx_tell T n one (Int32.ofNat two) e3 f3) = _ at h
              split at h
              · cases h
              · exact T9 _ _ _ f3 (fun _ _ => rfl) _ _ _ h 49 rfl
          · exact T9 _ _ _ f2 (fun _ _ => rfl) _ _ _ h 49 rfl
  split at h
  · unfold rx_lineL at h
    split at h
    · cases h
    · refine sm (kp_bind (kp_pt hS _ _ _ _) (fun _ e1 f1 _ => kp_bind kp_word (fun _ e2 f2 _ => ?_))) h
      split
      · exact kp_ok (fun i hi => by rw [rx_set_o (by omega), rx_set_o (by omega)])
      · split
        · exact kp_ok (fun i hi => by rw [rx_set_o (by omega)])
        · exact kp_no
  split at h
  · unfold rx_rayL at h
    split at h
    · cases h
    · exact sm (kp_pa hS _ _ _ _) h
  split at h
  · unfold rx_runL at h
    split at h
    · cases h
    · exact sm (kp_st hS _ _ _) h
  cases h
/-! the reference's readLine, book -/
def rl6 (g : gT) (P : mh_T → Prop) (b : Int32) (h : mh_T) : Prop := MCi g yX11_begins uX11_begins [.ref 11, .ref (1000 + 6), .int b, .int 5] h (fun r24 h23 => (r24 = 0 → MCv g yX11_wrong uX11_wrong [.ref 11, .int 1, .int (mI h23 11 4)] h23 (fun h26 => P h26)) ∧ (¬ r24 = 0 → MCv g yX11_runLine uX11_runLine [.ref 11] h23 (fun h27 => P h27)))
def rl5 (g : gT) (P : mh_T → Prop) (b : Int32) (h : mh_T) : Prop := MCi g yX11_begins uX11_begins [.ref 11, .ref (1000 + 5), .int b, .int 5] h (fun r20 h19 => (r20 = 0 → (4 ≤ (mI h19 46 (Int32.toNatClampNeg 158)) → rl6 g P 0 h19) ∧ (¬ 4 ≤ (mI h19 46 (Int32.toNatClampNeg 158)) → rl6 g P 1 h19)) ∧ (¬ r20 = 0 → MCv g yX11_rayLine uX11_rayLine [.ref 11] h19 (fun h33 => P h33)))
def rl4 (g : gT) (P : mh_T → Prop) (b : Int32) (h : mh_T) : Prop := MCi g yX11_begins uX11_begins [.ref 11, .ref (1000 + 4), .int b, .int 5] h (fun r16 h15 => (r16 = 0 → (18 ≤ (mI h15 46 (Int32.toNatClampNeg 85)) → rl5 g P 0 h15) ∧ (¬ 18 ≤ (mI h15 46 (Int32.toNatClampNeg 85)) → rl5 g P 1 h15)) ∧ (¬ r16 = 0 → MCv g yX11_lineLine uX11_lineLine [.ref 11] h15 (fun h49 => P h49)))
def rl1 (g : gT) (P : mh_T → Prop) (h : mh_T) : Prop := MCi g yX11_begins uX11_begins [.ref 11, .ref (1000 + 1), .int 1, .int 1] h (fun r6 h5 => (r6 = 0 → MCi g yX11_begins uX11_begins [.ref 11, .ref (1000 + 2), .int 1, .int 1] h5 (fun r9 h8 => (r9 = 0 → MCi g yX11_isWord uX11_isWord [.ref 11, .ref (1000 + 3)] h8 (fun r12 h11 => (r12 = 0 → (8 ≤ (mI h11 46 (Int32.toNatClampNeg 52)) → rl4 g P 0 h11) ∧ (¬ 8 ≤ (mI h11 46 (Int32.toNatClampNeg 52)) → rl4 g P 1 h11)) ∧ (¬ r12 = 0 → MCv g yX11_setLine uX11_setLine [.ref 11] h11 (fun h => P h)))) ∧ (¬ r9 = 0 → MCv g yX11_newNames uX11_newNames [.ref 11, .int 51, .int 6, .int 9] h8 (fun h => P h)))) ∧ (¬ r6 = 0 → MCv g yX11_newNames uX11_newNames [.ref 11, .int 50, .int 0, .int 6] h5 (fun h => P h)))
theorem b_readLine {g : gT} {h0 h : mh_T} {P : mh_T → Prop} {T : Nat → Int32} {n e : Nat} {f : Nat → Int32} (c : Ms h0 T n e f h) (lw : Lw f) (hp : ∀ h', Mo h0 T n (rx_line T n e f) h' → P h') : MCv g yX11_readLine uX11_readLine [.ref 11] h P := by
  have n49 : Int32.toNatClampNeg 49 = 49 := by decide
  have n52 : Int32.toNatClampNeg 52 = 52 := by decide
  have n85 : Int32.toNatClampNeg 85 = 85 := by decide
  have n158 : Int32.toNatClampNeg 158 = 158 := by decide
  have c49 := c.2.2.2.2.1 49 (by decide)
  have c52 := c.2.2.2.2.1 52 (by decide)
  have c85 := c.2.2.2.2.1 85 (by decide)
  have c158 := c.2.2.2.2.1 158 (by decide)
  have r52 : R 0 8 (f 52) := by rw [← c52]; exact GI_rd c.1.1 46 52 (by decide)
  have r85 : R 0 18 (f 85) := by rw [← c85]; exact GI_rd c.1.1 46 85 (by decide)
  have r158 : R 0 4 (f 158) := by rw [← c158]; exact GI_rd c.1.1 46 158 (by decide)
  have top : ∀ {x y : Int32} {m : Int}, R 0 m x → y.toInt = m → (y ≤ x ↔ x = y) := fun r ey => by
    rw [i_le, ← Int32.toInt_inj, ey]
    have := r.2
    omega
  have q52 : (8 : Int32) ≤ f 52 ↔ f 52 = 8 := top r52 (by decide)
  have q85 : (18 : Int32) ≤ f 85 ↔ f 85 = 18 := top r85 (by decide)
  have q158 : (4 : Int32) ≤ f 158 ↔ f 158 = 4 := top r158 (by decide)
  have L6 : (∀ i, i < 6 → ¬ rx_wd T n e (bytJS.getD i []) = true) → ∀ b : Int32, (b = 0 ↔ f 158 = 4) → rl6 g P b h := by
    intro hw b hb
    have eo : rx_line T n e f = if rx_wd T n e (bytJS.getD 6 []) = true then rx_runL T n e f else rx_no T n e 1 := by
      unfold rx_line
      rw [if_neg (hw 0 (by decide)), if_neg (hw 1 (by decide)), if_neg (hw 2 (by decide)), if_neg (hw 3 (by decide)), if_neg (hw 4 (by decide)), if_neg (hw 5 (by decide))]
    rw [eo] at hp
    unfold rl6
    refine b_begins 6 (by decide) b 5 c (fun w nb h' c' => ⟨fun y => absurd y (by decide), fun _ => b_runLine c' (fun q => nb (hb.mpr q)) (fun h2 m => hp h2 ?_)⟩) (fun w nb mx => ⟨fun y => absurd y (by decide), fun _ => x_runLine (Mx_ne mx) (hp _ (Mo_no mx ?_))⟩) (fun w => ⟨fun _ => b_wrong c 1 (fun mx => hp _ (Mo_no mx ?_)), fun y => absurd rfl y⟩)
    · rw [if_pos w]
      unfold rx_runL
      rw [if_neg (fun q => nb (hb.mpr q))]
      exact m
    · rw [if_pos w]
      unfold rx_runL
      rw [if_pos (hb.mp nb)]
    · rw [if_neg w]
  have L5 : (∀ i, i < 5 → ¬ rx_wd T n e (bytJS.getD i []) = true) → ∀ b : Int32, (b = 0 ↔ f 85 = 18) → rl5 g P b h := by
    intro hw b hb
    have eo : rx_wd T n e (bytJS.getD 5 []) = true → rx_line T n e f = rx_rayL T n e f := by
      intro w
      unfold rx_line
      rw [if_neg (hw 0 (by decide)), if_neg (hw 1 (by decide)), if_neg (hw 2 (by decide)), if_neg (hw 3 (by decide)), if_neg (hw 4 (by decide)), if_pos w]
    unfold rl5
    refine b_begins 5 (by decide) b 5 c (fun w nb h' c' => ⟨fun y => absurd y (by decide), fun _ => b_rayLine c' (fun q => nb (hb.mpr q)) (fun h2 m => hp h2 ?_)⟩) (fun w nb mx => ⟨fun y => absurd y (by decide), fun _ => x_rayLine (Mx_ne mx) (hp _ (Mo_no mx ?_))⟩) (fun w => ⟨fun _ => ?_, fun y => absurd rfl y⟩)
    · rw [eo w]
      unfold rx_rayL
      rw [if_neg (fun q => nb (hb.mpr q))]
      exact m
    · rw [eo w]
      unfold rx_rayL
      rw [if_pos (hb.mp nb)]
    · have hw' : ∀ i, i < 6 → ¬ rx_wd T n e (bytJS.getD i []) = true := fun i hi => by
        by_cases q : i = 5
        · rw [q]; exact w
        · exact hw i (by omega)
      rw [n158, c158, q158]
      exact ⟨fun z => L6 hw' 0 ⟨fun _ => z, fun _ => rfl⟩, fun z => L6 hw' 1 ⟨fun y => absurd y (by decide), fun y => absurd y z⟩⟩
  have L4 : (∀ i, i < 4 → ¬ rx_wd T n e (bytJS.getD i []) = true) → ∀ b : Int32, (b = 0 ↔ f 52 = 8) → rl4 g P b h := by
    intro hw b hb
    have eo : rx_wd T n e (bytJS.getD 4 []) = true → rx_line T n e f = rx_lineL T n e f := by
      intro w
      unfold rx_line
      rw [if_neg (hw 0 (by decide)), if_neg (hw 1 (by decide)), if_neg (hw 2 (by decide)), if_neg (hw 3 (by decide)), if_pos w]
    unfold rl4
    refine b_begins 4 (by decide) b 5 c (fun w nb h' c' => ⟨fun y => absurd y (by decide), fun _ => b_lineLine c' (fun q => nb (hb.mpr q)) (fun h2 m => hp h2 ?_)⟩) (fun w nb mx => ⟨fun y => absurd y (by decide), fun _ => x_lineLine (Mx_ne mx) (hp _ (Mo_no mx ?_))⟩) (fun w => ⟨fun _ => ?_, fun y => absurd rfl y⟩)
    · rw [eo w]
      unfold rx_lineL
      rw [if_neg (fun q => nb (hb.mpr q))]
      exact m
    · rw [eo w]
      unfold rx_lineL
      rw [if_pos (hb.mp nb)]
    · have hw' : ∀ i, i < 5 → ¬ rx_wd T n e (bytJS.getD i []) = true := fun i hi => by
        by_cases q : i = 4
        · rw [q]; exact w
        · exact hw i (by omega)
      rw [n85, c85, q85]
      exact ⟨fun z => L5 hw' 0 ⟨fun _ => z, fun _ => rfl⟩, fun z => L5 hw' 1 ⟨fun y => absurd y (by decide), fun y => absurd y z⟩⟩
  have L1 : ¬ rx_wd T n e (bytJS.getD 0 []) = true → rl1 g P h := by
    intro w0
    unfold rl1
    refine b_begins 1 (by decide) 1 1 c (fun w nb h' c' => ⟨fun y => absurd y (by decide), fun _ => b_newNames (ci := 50) (fs := 0) (mo := 6) (k := 7) 50 0 6 (by omega) (by decide) (by decide) (by decide) c' (by decide) (fun h2 m => hp h2 ?_)⟩) (fun w nb => absurd nb (by decide)) (fun w1 => ⟨fun _ => ?_, fun y => absurd rfl y⟩)
    · unfold rx_line
      rw [if_neg w0, if_pos w]
      exact m
    refine b_begins 2 (by decide) 1 1 c (fun w nb h' c' => ⟨fun y => absurd y (by decide), fun _ => b_newNames (ci := 51) (fs := 6) (mo := 9) (k := 10) 51 6 9 (by omega) (by decide) (by decide) (by decide) c' (by decide) (fun h2 m => hp h2 ?_)⟩) (fun w nb => absurd nb (by decide)) (fun w2 => ⟨fun _ => ?_, fun y => absurd rfl y⟩)
    · unfold rx_line
      rw [if_neg w0, if_neg w1, if_pos w]
      exact m
    refine b_isWord 3 (by decide) c (fun w => ⟨fun y => absurd y (by decide), fun _ => b_setLine c lw (fun h2 m => hp h2 ?_)⟩) (fun w3 => ⟨fun _ => ?_, fun y => absurd rfl y⟩)
    · unfold rx_line
      rw [if_neg w0, if_neg w1, if_neg w2, if_pos w]
      exact m
    have hw' : ∀ i, i < 4 → ¬ rx_wd T n e (bytJS.getD i []) = true := fun i hi => by
      rcases (show i = 0 ∨ i = 1 ∨ i = 2 ∨ i = 3 by omega) with q | q | q | q <;> subst q <;> assumption
    rw [n52, c52, q52]
    exact ⟨fun z => L4 hw' 0 ⟨fun _ => z, fun _ => rfl⟩, fun z => L4 hw' 1 ⟨fun y => absurd y (by decide), fun y => absurd y z⟩⟩
  refine e_X11_readLine ⟨fun z => ?_, fun z => ?_⟩
  · rw [n49, c49] at z
    refine b_begins 0 (by decide) 0 3 c (fun w nb => absurd rfl nb) (fun w nb mx => ⟨fun y => absurd y (by decide), fun _ => x_lawLine (Mx_ne mx) (hp _ (Mo_no mx ?_))⟩) (fun w => ⟨fun _ => L1 w, fun y => absurd rfl y⟩)
    unfold rx_line rx_lawL
    rw [if_pos w, if_neg z]
  · rw [n49, c49] at z
    refine b_begins 0 (by decide) 1 3 c (fun w nb h' c' => ⟨fun y => absurd y (by decide), fun _ => b_lawLine c' (fun h2 m => hp h2 ?_)⟩) (fun w nb => absurd nb (by decide)) (fun w => ⟨fun _ => L1 w, fun y => absurd rfl y⟩)
    unfold rx_line rx_lawL
    rw [if_pos w, if_pos z]
    exact m
theorem b_book_77 {g : gT} {h0 : mh_T} {P : Int32 → mh_T → Prop} {T : Nat → Int32} {n : Nat} (l1 l2 : Int32) : ∀ (k e : Nat) (f : Nat → Int32) (h : mh_T), Mo h0 T n (rx_line T n e f) h → R 0 8 (f 0) → Lw f → n - e < k → (∀ e1 f1 h', rx_text T n k e f = .inr ((), e1, f1) → Ms h0 T n e1 f1 h' → ¬ f1 49 = 0 → ME g uX11_book 179 [.ref 11, .int l1, .int 0] [] h' (qI P)) → (∀ w p f1 h', rx_text T n k e f = .inl (w, p) → Mx h0 f1 w p h' → P (-1) (wI h' 11 11 4)) → ME g uX11_book 77 [.ref 11, .int l1, .int l2] [] h (qI P) := by
  have n49 : Int32.toNatClampNeg 49 = 49 := by decide
  have n50 : Int32.toNatClampNeg 50 = 50 := by decide
  intro k
  induction k with
  | zero => intro e f h _ _ _ hk; exact absurd hk (Nat.not_lt_zero _)
  | succ k ih =>
    intro e f h mo r0 lw hk hs hx
    have un : rx_text T n (k + 1) e f = rx_bind (rx_line T n e f) (fun _ e1 f1 => if rx_k T n e1 = 0 then (if f1 49 = 0 ∨ f1 50 = 0 then rx_no T n e1 6 else .inr ((), e1, f1)) else if rx_k T n e1 = 59 then rx_text T n k (rx_e T n e1) f1 else rx_no T n e1 1) := rfl
    rw [un] at hs hx
    rcases mo with ⟨e1, f1, eo, c⟩ | ⟨w, p, f1, eo, mx⟩
    · rw [eo] at hs hx
      have hs : ∀ e1' f1' h', (if rx_k T n e1 = 0 then (if f1 49 = 0 ∨ f1 50 = 0 then rx_no T n e1 6 else .inr ((), e1, f1)) else if rx_k T n e1 = 59 then rx_text T n k (rx_e T n e1) f1 else rx_no T n e1 1) = .inr ((), e1', f1') → Ms h0 T n e1' f1' h' → ¬ f1' 49 = 0 → ME g uX11_book 179 [.ref 11, .int l1, .int 0] [] h' (qI P) := hs
      have hx : ∀ w p f1' h', (if rx_k T n e1 = 0 then (if f1 49 = 0 ∨ f1 50 = 0 then rx_no T n e1 6 else .inr ((), e1, f1)) else if rx_k T n e1 = 59 then rx_text T n k (rx_e T n e1) f1 else rx_no T n e1 1) = .inl (w, p) → Mx h0 f1' w p h' → P (-1) (wI h' 11 11 4) := hx
      have c13 := c.2.2.2.2.2
      have c6 := c.2.2.1.2.2.1
      have ue := up_line (T := T) (n := n) (e := e) (f := f) _ _ _ eo
      refine r_X11_book_77 l1 l2 ⟨fun y => absurd c13 y, fun _ => ⟨fun z => ⟨fun y => absurd c13 y, fun _ => ⟨fun y => ⟨fun y => absurd c13 y, fun _ => ?_⟩, fun y => ?_⟩⟩, fun z => ?_⟩⟩
      · rw [c6] at y
        rw [if_pos y] at hs hx
        rw [n49, n50, c.2.2.2.2.1 49 (by decide), c.2.2.2.2.1 50 (by decide)]
        have w6 : (f1 49 = 0 ∨ f1 50 = 0) → MCv g yX11_wrong uX11_wrong [.ref 11, .int 6, .int (mI h 11 4)] h (fun h8 => ((mI h8 11 13) = 0 → ME g uX11_book 179 [.ref 11, .int l1, .int 0] [] h8 (qI P)) ∧ (¬ (mI h8 11 13) = 0 → MCi g yX11_no uX11_no [.ref 11, .int 4] h8 (fun r11 h10 => P r11 h10))) := fun q => by
          rw [if_pos q] at hx
          exact b_wrong c 6 (fun mx => ⟨fun x => absurd x (Mx_ne mx), fun _ => e_X11_no 4 (hx _ _ _ _ rfl mx)⟩)
        refine ⟨fun q => w6 (Or.inl q), fun q => ⟨fun x => ⟨fun _ => ?_, fun x => absurd c13 x⟩, fun x => w6 (Or.inr x)⟩⟩
        rw [if_neg (by rintro (a | a); exact q a; exact x a)] at hs
        exact hs _ _ h rfl c q
      · rw [c6] at y z
        rw [if_neg y, if_neg z] at hx
        exact b_wrong c 1 (fun mx => ⟨fun _ => ⟨fun x => absurd x (Mx_ne mx), fun _ => e_X11_no 4 (hx _ _ _ _ rfl mx)⟩, fun x => absurd x (Mx_ne mx)⟩)
      · rw [c6] at z
        have y : ¬ rx_k T n e1 = 0 := by rw [z]; decide
        rw [if_neg y, if_pos z] at hs hx
        have g0 := rx_kn y
        have g1 := rx_e_gt (rx_kn y)
        have g2 := rx_s_ge T n e1
        have lw1 := lw_line r0 lw eo
        refine b_nx c (fun h2 c2 => b_readLine c2 lw1 (fun h3 mo3 => ?_))
        refine ih _ f1 h3 mo3 ?_ lw1 (by omega) hs hx
        rw [← c.2.2.2.2.1 0 (by decide)]
        exact GI_rd c.1.1 46 0 (by decide)
    · rw [eo] at hx
      refine r_X11_book_77 l1 l2 ⟨fun _ => ⟨fun _ => ⟨fun _ => ⟨fun y => absurd y (Mx_ne mx), fun _ => e_X11_no 4 (hx _ _ _ _ rfl mx)⟩, fun y => absurd y (Mx_ne mx)⟩, fun y => absurd y (Mx_ne mx)⟩, fun y => absurd y (Mx_ne mx)⟩
theorem v_noCoins {g : gT} {h0 : mh_T} {P : mh_T → Prop} (hG : GI h0) (hp : ∀ h', Ok [47] h0 h' → (∀ j, j < 32 → h'.1 47 j = 0) → P h') : MCv g yX11_noCoins uX11_noCoins [.ref 11] h0 P := by
  have L : ∀ (n : Nat) (l1 : Int32) (q : Nat) (h : mh_T), l1.toInt = (q : Int) → q ≤ 32 → 32 - q < n → Ok [47] h0 h → (∀ j, j < q → h.1 47 j = 0) → ME g uX11_noCoins 2 [.ref 11, .int l1] [] h (qV P) := by
    intro n
    induction n with
    | zero => intro l1 q h _ _ hn; exact absurd hn (Nat.not_lt_zero _)
    | succ n ih =>
      intro l1 q h e1 hq hn ok hz
      have z32 : (32 : Int32).toInt = 32 := by decide
      refine r_X11_noCoins_2 l1 ⟨fun c => hp h ok (fun j hj => hz j ?_), fun c => ?_⟩
      · have c := i_le.mp c
        omega
      · have c := i_lt.mp (nle c)
        rw [i_nat e1]
        refine ⟨i_vp e1 (by omega), ih (l1 + 1) (q + 1) _ (i_inc e1 (by omega)) (by omega) (by omega) (Ok_w ok (k := 47) (rgc_47 _) (R_full _) (by decide) (nt_k (by decide))) (fun j hj => ?_)⟩
        rw [wI_i]
        by_cases e : j = q
        · rw [if_pos e]
        · rw [if_neg e]
          exact hz j (by omega)
  exact e_X11_noCoins (L 33 0 0 h0 (by decide) (Nat.zero_le _) (by omega) (Ok_rf hG) (fun j hj => absurd hj (Nat.not_lt_zero _)))
theorem b_book_179 {g : gT} {P : Int32 → mh_T → Prop} (l1 : Int32) (k0 : mh_T) (t0 : TVs k0) (law : ¬ mI k0 46 49 = 0) (hp : ∀ h', GI h' → Fr [11, 45, 47] k0 h' → TVs h' → (∀ j, j < 14 → mI h' 11 j = mI k0 11 j) → (∀ j, j < 346 → mI h' 45 j = mI k0 46 j) → (mI h' 11 14 = 1 ∧ (∀ j, j < 32 → h'.1 47 j = 0) ∧ mI h' 11 24 = 0 ∧ mI h' 11 25 = 0 ∧ mI h' 11 26 = 0) → P (mI k0 46 50) h') : ∀ (n : Nat) (l2 : Int32) (q : Nat) (k : mh_T), l2.toInt = (q : Int) → q ≤ 346 → 346 - q < n → GI k → Fr [45] k0 k → (∀ j, j < q → k.1 45 j = k0.1 46 j) → ME g uX11_book 179 [.ref 11, .int l1, .int l2] [] k (qI P) := by
  intro n
  induction n with
  | zero => intro l2 q k _ _ hn; exact absurd hn (Nat.not_lt_zero _)
  | succ n ih =>
    intro l2 q k eq hq hn kG kk cc
    have c1 : R 1 1 1 := ⟨by decide, by decide⟩
    have z0 : R 0 0 0 := ⟨by decide, by decide⟩
    have z6 : (346 : Int32).toInt = 346 := by decide
    have e46 := (kk 46 (by decide) (by decide)).1
    have e11 : ∀ j, mI k 11 j = mI k0 11 j := fun j => congrFun (kk 11 (by decide) (by decide)).1 j
    refine r_X11_book_179 l1 l2 ⟨fun c => ?_, fun c => ?_⟩
    · have c := i_le.mp c
      have : q = 346 := by omega
      subst this
      have tk : TVs k := by
        refine ⟨TQ_i (fun s hs => ?_), ?_, ?_, ?_, ?_, fun _ => ?_⟩
        · have b : ∀ o, o < 4 → 0 ≤ (k.1 45 (17 + 4 * s + o)).toInt ∧ (k.1 45 (17 + 4 * s + o)).toInt ≤ 60 := fun o ho => by
            rw [cc _ (by omega), ← e46]
            exact GI_rd kG 46 (17 + 4 * s + o) (rgp_46_15 (by omega) (by omega))
          have b0 := b 0 (by omega)
          have b1 := b 1 (by omega)
          have b2 := b 2 (by omega)
          have b3 := b 3 (by omega)
          rw [Nat.add_zero] at b0
          exact tq_v rfl rfl rfl rfl (by omega)
        · rw [(kk 48 (by decide) (by decide)).1]; exact t0.2.1
        · rw [(kk 49 (by decide) (by decide)).1]; exact t0.2.2.1
        · rw [(kk 50 (by decide) (by decide)).1]; exact t0.2.2.2.1
        · rw [(kk 51 (by decide) (by decide)).1]; exact t0.2.2.2.2.1
        · have r49 : R 0 60 (mI k 46 49) := GI_rd kG 46 49 rfl
          have r1 : 0 ≤ (k.1 46 49).toInt := r49.1
          rw [cc 49 (by omega), ← e46]
          have ne : ¬ (k.1 46 49).toInt = 0 := fun z => law (by
            show k0.1 46 49 = 0
            rw [← e46]
            exact Int32.toInt_inj.mp (by rw [z, i_0]))
          omega
      have g1 : GI (wI k 11 14 1) := GI_w kG (k := 11) (j := 14) (lo := 0) (hi := 1) (by decide) (R_w c1 (by decide))
      have o1 : Ok [301, 11, 47] (wI k 11 14 1) (wI k 11 14 1) := Ok_rf g1
      refine v_noCoins o1.1 (fun h2 k2 k47 => ?_)
      have o2 := Ok_tr o1 k2 (by decide)
      have o3 := Ok_w o2 (k := 11) (j := 24) (v := 0) (lo := 0) (hi := 20) (by decide) (R_w z0 (by decide)) (by decide) (by decide)
      have o4 := Ok_w o3 (k := 11) (j := 25) (v := 0) (lo := 0) (hi := 20) (by decide) (R_w z0 (by decide)) (by decide) (by decide)
      have o5 := Ok_w o4 (k := 11) (j := 26) (v := 0) (lo := 0) (hi := 4) (by decide) (R_w z0 (by decide)) (by decide) (by decide)
      have ev : ∀ j, j < 346 → mI (wI (wI (wI h2 11 24 0) 11 25 0) 11 26 0) 45 j = mI k0 46 j := fun j hj => by
        have e : mI (wI (wI (wI h2 11 24 0) 11 25 0) 11 26 0) 45 j = mI (wI k 11 14 1) 45 j := congrFun (OkC o5 (k := 45) (by decide)) j
        rw [e, mI_wI, if_neg (fun z => absurd z.1 (by decide))]
        exact cc j hj
      rw [show Int32.toNatClampNeg 50 = 50 from by decide, ev 50 (by decide)]
      have e11' : ∀ j, mI h2 11 j = mI (wI k 11 14 1) 11 j := fun j => congrFun (OkC k2 (k := 11) (by decide)) j
      refine hp _ o5.1 (fun k hk hm => ((Fr_t2 (ms := [301, 11, 45, 47]) (Fr_w (Fr_t2 (Fr_rf k0) kk (by decide)) (by decide)) o5.2.1 (by decide)) k hk (fun z => (List.mem_cons.mp z).elim (fun y => by omega) hm))) (TVs_11 (TVs_11 (TVs_11 (TVs_47 (TVs_11 tk) k2)))) (fun j hj => ?_) ev ⟨?_, fun j hj => ?_, ?_, ?_, ?_⟩
      · rw [mI_wI, if_neg (by omega), mI_wI, if_neg (by omega), mI_wI, if_neg (by omega), e11', mI_wI, if_neg (by omega)]
        exact e11 j
      · rw [mI_wI, if_neg (by decide), mI_wI, if_neg (by decide), mI_wI, if_neg (by decide), e11', mI_wI, if_pos ⟨rfl, rfl⟩]
      · rw [wI_o (by decide), wI_o (by decide), wI_o (by decide)]
        exact k47 j hj
      · rw [mI_wI, if_neg (by decide), mI_wI, if_neg (by decide), mI_wI, if_pos ⟨rfl, rfl⟩]
      · rw [mI_wI, if_neg (by decide), mI_wI, if_pos ⟨rfl, rfl⟩]
      · rw [mI_wI, if_pos ⟨rfl, rfl⟩]
    · have c := i_lt.mp (nle c)
      refine ⟨i_vp eq (by omega), i_vp eq (by omega), ?_⟩
      rw [i_nat eq]
      refine ih (l2 + 1) (q + 1) _ (i_inc eq (by omega)) (by omega) (by omega) (GI_w kG (k := 45) (j := q) (lo := (rgT 45 q).1) (hi := (rgT 45 q).2) rfl (R_w (kG.1 46 _) (rg4645 _ (by omega)))) (Fr_w kk (by decide)) (fun j hj => ?_)
      rw [wI_i]
      by_cases e : j = q
      · rw [if_pos e, e]
        show k.1 46 q = _
        rw [e46]
      · rw [if_neg e]
        exact cc j (by omega)
theorem b_book_39 {g : gT} {h0 : mh_T} {P : Int32 → mh_T → Prop} {T : Nat → Int32} {n : Nat} (l1 : Int32) (e1 : l1.toInt = (n : Int)) (hn : n ≤ 900) (hT : ∀ j, j < n → mI h0 43 j = T j) (hB : ∀ j, j < n → 0 ≤ (T j).toInt) (hs : ∀ e f h', rx_book T n = .inr ((), e, f) → Ms h0 T n e f h' → ¬ f 49 = 0 → ME g uX11_book 179 [.ref 11, .int l1, .int 0] [] h' (qI P)) (hx : ∀ w p f h', rx_book T n = .inl (w, p) → Mx h0 f w p h' → P (-1) (wI h' 11 11 4)) : ∀ (m : Nat) (l2 : Int32) (q : Nat) (k : mh_T), l2.toInt = (q : Int) → q ≤ 346 → 346 - q < m → Og h0 k → mI k 11 13 = 0 → (∀ j, j < q → mI k 46 j = 0) → ME g uX11_book 39 [.ref 11, .int l1, .int l2] [] k (qI P) := by
  intro m
  induction m with
  | zero => intro l2 q k _ _ hm; exact absurd hm (Nat.not_lt_zero _)
  | succ m ih =>
    intro l2 q k e2 hq hm og k13 hz
    have z6 : (346 : Int32).toInt = 346 := by decide
    refine r_X11_book_39 l1 l2 ⟨fun c => ?_, fun c => ?_⟩
    · rw [i_le, z6, e2] at c
      have o : ∀ kk j, ¬ (kk = 11 ∧ (j = 3 ∨ j = 5)) → mI (wI (wI k 11 3 l1) 11 5 0) kk j = mI k kk j := fun kk j h => by rw [mI_wI, if_neg (by omega), mI_wI, if_neg (by omega)]
      have g5 : GI (wI (wI k 11 3 l1) 11 5 0) := GI_w (GI_w og.1 (k := 11) (j := 3) (lo := 0) (hi := 900) (by decide) ⟨by omega, by omega⟩) (k := 11) (j := 5) (lo := 0) (hi := 900) (by decide) ⟨by decide, by decide⟩
      have og5 : Og h0 (wI (wI k 11 3 l1) 11 5 0) := ⟨g5, Fr_w (Fr_w og.2.1 (by decide)) (by decide), fun j hj => by rw [o 11 j (by omega)]; exact og.2.2.1 j hj, H62_w (H62_w og.2.2.2 (by decide)) (by decide)⟩
      have mp5 : Mp (wI (wI k 11 3 l1) 11 5 0) T n := by
        refine ⟨?_, hn, fun j hj => ?_, hB⟩
        · rw [mI_wI, if_neg (by decide), mI_wI, if_pos ⟨rfl, rfl⟩]; exact e1
        · rw [o 43 j (by omega), ← hT j hj]
          exact congrFun (og.2.1 43 (by decide) (by decide)).1 j
      have mc5 : Mc (wI (wI k 11 3 l1) 11 5 0) (fun _ => 0) := fun j hj => by
        rw [o 46 j (by omega)]
        exact hz j (by omega)
      refine b_next (e := 0) g5 mp5 (by rw [mI_wI, if_pos ⟨rfl, rfl⟩]; decide) (Nat.zero_le _) (fun h2 k2 t2 => ?_)
      have c2 : Ms h0 T n 0 (fun _ => 0) h2 := ⟨Og_kq og5 k2, Mp_k k2 mp5, t2, Nat.zero_le _, Mc_kq k2 mc5, by rw [k2.2.2.1 13 (by decide), o 11 13 (by omega)]; exact k13⟩
      refine b_readLine c2 (fun _ => rfl) (fun h3 mo => ?_)
      exact b_book_77 l1 l2 (n + 1) 0 _ h3 mo ⟨by decide, by decide⟩ (fun _ => rfl) (by omega) hs hx
    · rw [i_le, z6, e2] at c
      rw [i_nat e2]
      refine ⟨i_vp e2 (by omega), ih (l2 + 1) (q + 1) _ (i_inc e2 (by omega)) (by omega) (by omega) (Og_w og (lo := (rgT 46 q).1) (hi := (rgT 46 q).2) rfl ?_ (by decide) (by decide)) ?_ (fun j hj => ?_)⟩
      · have := rg46_0 q (by omega)
        unfold R
        rw [show (0 : Int32).toInt = 0 from by decide]
        exact this
      · rw [mI_wI, if_neg (by omega)]; exact k13
      · rw [mI_wI]
        by_cases z : j = q
        · rw [if_pos ⟨rfl, z⟩]
        · rw [if_neg (fun y => z y.2)]
          exact hz j (by omega)
/-- the reference's book: what it answers, what stays -/
theorem b_book {g : gT} {h : mh_T} {P : Int32 → mh_T → Prop} {T : Nat → Int32} (l1 : Int32) (hG : GI h) (hI : TVs h) (hT : ∀ j : Nat, (j : Int) < (mI h 11 2).toInt → mI h 43 j = T j ∧ 0 ≤ (T j).toInt) (hn : ¬ (0 ≤ l1.toInt ∧ l1.toInt ≤ (mI h 11 2).toInt) → P (-1) (wI (wI (wI h 11 0 0) 11 11 0) 11 11 2)) (hs : ∀ (n e : Nat) (f : Nat → Int32) (h' : mh_T), l1.toInt = (n : Int) → (n : Int) ≤ (mI h 11 2).toInt → rx_book T n = .inr ((), e, f) → GI h' → Fr msM h h' → TVs h' → mI h' 11 0 = 0 ∧ mI h' 11 2 = 0 ∧ mI h' 11 9 = 0 ∧ mI h' 11 11 = 0 → ((∀ j, j < 346 → mI h' 45 j = f j) ∧ mI h' 11 14 = 1 ∧ (∀ j, j < 32 → h'.1 47 j = 0) ∧ mI h' 11 24 = 0 ∧ mI h' 11 25 = 0 ∧ mI h' 11 26 = 0) → P (f 50) h') (hx : ∀ (n : Nat) (w : Int32) (p : Nat) (h' : mh_T), l1.toInt = (n : Int) → (n : Int) ≤ (mI h 11 2).toInt → rx_book T n = .inl (w, p) → GI h' → Fr msM h h' → TVs h' → mI h' 11 0 = 0 ∧ mI h' 11 2 = 0 ∧ mI h' 11 9 = w ∧ mI h' 11 11 = 4 → (mI h' 11 10).toInt = (p : Int) → (h'.1 45 = h.1 45 ∧ mI h' 11 14 = mI h 11 14 ∧ h'.1 47 = h.1 47 ∧ H62 h h' ∧ ∀ j, 24 ≤ j → j ≤ 26 → mI h' 11 j = mI h 11 j) → P (-1) h') : MCi g yX11_book uX11_book [.ref 11, .int l1] h P := by
  have z0 : (0 : Int32).toInt = 0 := by decide
  have f2 : R 0 900 (mI h 11 2) := GI_rd hG 11 2 (by decide)
  have e2 : mI (wI (wI h 11 0 0) 11 11 0) 11 2 = mI h 11 2 := by rw [mI_wI, if_neg (by decide), mI_wI, if_neg (by decide)]
  refine e_X11_book l1 (e_X11_good (b_within l1 0 _ (fun q => ⟨fun _ => ?_, fun y => absurd y (by decide)⟩) (fun q => ⟨fun y => absurd rfl y, fun _ => e_X11_no 2 (hn (fun y => q ?_))⟩)))
  · rw [i_le, i_le, z0, e2] at q
    obtain ⟨n, en⟩ : ∃ n : Nat, l1.toInt = (n : Int) := ⟨l1.toInt.toNat, by omega⟩
    have n9 : n ≤ 900 := by have := f2.2; omega
    have o : ∀ kk j, ¬ (kk = 11 ∧ (j = 0 ∨ j = 2 ∨ j = 9 ∨ j = 11 ∨ j = 13)) → mI (wI (wI (wI (wI (wI h 11 0 0) 11 11 0) 11 2 0) 11 9 0) 11 13 0) kk j = mI h kk j := fun kk j z => by rw [mI_wI, if_neg (by omega), mI_wI, if_neg (by omega), mI_wI, if_neg (by omega), mI_wI, if_neg (by omega), mI_wI, if_neg (by omega)]
    have v : ∀ j, (j = 0 ∨ j = 2 ∨ j = 9 ∨ j = 11 ∨ j = 13) → mI (wI (wI (wI (wI (wI h 11 0 0) 11 11 0) 11 2 0) 11 9 0) 11 13 0) 11 j = 0 := fun j z => by
      rcases z with z | z | z | z | z <;> subst z <;> simp only [mI_wI] <;> rfl
    have g3 : GI (wI (wI (wI (wI (wI h 11 0 0) 11 11 0) 11 2 0) 11 9 0) 11 13 0) := GI_w (GI_w (GI_w (GI_w (GI_w hG (k := 11) (j := 0) (lo := -2147483648) (hi := 2147483647) (by decide) (R_full _)) (k := 11) (j := 11) (lo := -2147483648) (hi := 2147483647) (by decide) (R_full _)) (k := 11) (j := 2) (lo := 0) (hi := 900) (by decide) ⟨by decide, by decide⟩) (k := 11) (j := 9) (lo := -2147483648) (hi := 2147483647) (by decide) (R_full _)) (k := 11) (j := 13) (lo := 0) (hi := 1) (by decide) ⟨by decide, by decide⟩
    have fr3 : Fr [11] h (wI (wI (wI (wI (wI h 11 0 0) 11 11 0) 11 2 0) 11 9 0) 11 13 0) := Fr_w (Fr_w (Fr_w (Fr_w (Fr_w (Fr_rf h) (by decide)) (by decide)) (by decide)) (by decide)) (by decide)
    have t3 : TVs (wI (wI (wI (wI (wI h 11 0 0) 11 11 0) 11 2 0) 11 9 0) 11 13 0) := TVs_11 (TVs_11 (TVs_11 (TVs_11 (TVs_11 hI))))
    have t43 : ∀ j, j < n → mI (wI (wI (wI (wI (wI h 11 0 0) 11 11 0) 11 2 0) 11 9 0) 11 13 0) 43 j = T j := fun j hj => by
      rw [o 43 j (by omega)]
      exact (hT j (by omega)).1
    have h3 : H62 h (wI (wI (wI (wI (wI h 11 0 0) 11 11 0) 11 2 0) 11 9 0) 11 13 0) := H62_w (H62_w (H62_w (H62_w (H62_w (fun _ _ => rfl) (by decide)) (by decide)) (by decide)) (by decide)) (by decide)
    have v24 : ∀ j, 24 ≤ j → j ≤ 26 → mI (wI (wI (wI (wI (wI h 11 0 0) 11 11 0) 11 2 0) 11 9 0) 11 13 0) 11 j = mI h 11 j := fun j h1 h2 => o 11 j (by omega)
    have v14 : mI (wI (wI (wI (wI (wI h 11 0 0) 11 11 0) 11 2 0) 11 9 0) 11 13 0) 11 14 = mI h 11 14 := o 11 14 (by omega)
    generalize wI (wI (wI (wI (wI h 11 0 0) 11 11 0) 11 2 0) 11 9 0) 11 13 0 = k3 at v g3 fr3 t3 t43 v14 h3 v24
    refine b_book_39 l1 en n9 t43 (fun j hj => (hT j (by omega)).2) (fun e f h' ro c law => ?_) (fun w p f h' ro mx => ?_) 347 0 0 k3 (by decide) (Nat.zero_le _) (by omega) (Og_rf g3) (v 13 (by omega)) (fun j hj => absurd hj (Nat.not_lt_zero _))
    · have th : TVs h' := TVs_fr c.1.2.1 (by decide) t3
      refine b_book_179 l1 h' th (by rw [c.2.2.2.2.1 49 (by decide)]; exact law) (fun h2 o2g o2f t2 k2 k45 k14 => ?_) 347 0 0 h' (by decide) (Nat.zero_le _) (by omega) c.1.1 (Fr_rf h') (fun j hj => absurd hj (Nat.not_lt_zero _))
      rw [c.2.2.2.2.1 50 (by decide)]
      have fr : Fr msM h h2 := Fr_t2 (Fr_t2 (Fr_t2 (Fr_rf h) fr3 (by decide)) c.1.2.1 (by decide)) o2f (by decide)
      have kv : ∀ j, (j = 0 ∨ j = 2 ∨ j = 9 ∨ j = 11) → mI h2 11 j = 0 := fun j hj => by
        rw [k2 j (by omega), c.1.2.2.1 j (by omega)]
        exact v j (by omega)
      exact hs n e f h2 en (by omega) ro o2g fr t2 ⟨kv 0 (by omega), kv 2 (by omega), kv 9 (by omega), kv 11 (by omega)⟩ ⟨fun j hj => (k45 j hj).trans (c.2.2.2.2.1 j hj), k14⟩
    · have th : TVs h' := TVs_fr mx.1.2.1 (by decide) t3
      have fr : Fr msM h (wI h' 11 11 4) := Fr_w (Fr_t2 (Fr_t2 (Fr_rf h) fr3 (by decide)) mx.1.2.1 (by decide)) (by decide)
      have kv : ∀ j, (j = 0 ∨ j = 2) → mI (wI h' 11 11 4) 11 j = 0 := fun j hj => by
        rw [mI_wI, if_neg (by omega), mx.1.2.2.1 j (by omega)]
        exact v j (by omega)
      refine hx n w p _ en (by omega) ro (GI_w mx.1.1 (k := 11) (j := 11) (lo := -2147483648) (hi := 2147483647) (by decide) (R_full _)) fr (TVs_11 th) ⟨kv 0 (by omega), kv 2 (by omega), ?_, ?_⟩ ?_ ⟨?_, ?_, ?_, ?_, ?_⟩
      · rw [mI_wI, if_neg (by decide)]; exact mx.2.2.1
      · rw [mI_wI, if_pos ⟨rfl, rfl⟩]
      · rw [mI_wI, if_neg (by decide)]; exact mx.2.2.2.1
      · exact ((Fr_w (ms := [11]) (Fr_rf h') (by decide)) 45 (by decide) (by decide)).1.trans ((mx.1.2.1 45 (by decide) (by decide)).1.trans (fr3 45 (by decide) (by decide)).1)
      · rw [mI_wI, if_neg (by decide), mx.1.2.2.1 14 (by omega)]; exact v14
      · exact ((Fr_w (ms := [11]) (Fr_rf h') (by decide)) 47 (by decide) (by decide)).1.trans ((mx.1.2.1 47 (by decide) (by decide)).1.trans (fr3 47 (by decide) (by decide)).1)
      · exact H62_w (H62_tr h3 mx.1.2.2.2) (by decide)
      · intro j h1 h2
        rw [mI_wI, if_neg (by omega), mx.1.2.2.1 j (by omega)]
        exact v24 j h1 h2
  · rw [i_le, i_le, z0, e2]
    exact y
/-! the class's book: THE TABLE, the rays, what it answers -/
theorem v_clearCoins {g : gT} {h0 : mh_T} {P : mh_T → Prop} (hG : GI h0) (hp : ∀ h', Ok [27] h0 h' → (∀ j, j < 32 → h'.1 27 j = 0) → P h') : MCv g yX8_clearCoins uX8_clearCoins [.ref 3] h0 P := by
  have L : ∀ (n : Nat) (l1 : Int32) (q : Nat) (h : mh_T), l1.toInt = (q : Int) → q ≤ 32 → 32 - q < n → Ok [27] h0 h → (∀ j, j < q → h.1 27 j = 0) → ME g uX8_clearCoins 2 [.ref 3, .int l1] [] h (qV P) := by
    intro n
    induction n with
    | zero => intro l1 q h _ _ hn; exact absurd hn (Nat.not_lt_zero _)
    | succ n ih =>
      intro l1 q h e1 hq hn ok hz
      have z32 : (32 : Int32).toInt = 32 := by decide
      refine r_X8_clearCoins_2 l1 ⟨fun c => hp h ok (fun j hj => hz j ?_), fun c => ?_⟩
      · have c := i_le.mp c
        omega
      · have c := i_lt.mp (nle c)
        rw [i_nat e1]
        refine ⟨i_vp e1 (by omega), ih (l1 + 1) (q + 1) _ (i_inc e1 (by omega)) (by omega) (by omega) (Ok_w ok (k := 27) (rgc_27 _) (R_full _) (by decide) (nt_k (by decide))) (fun j hj => ?_)⟩
        rw [wI_i]
        by_cases e : j = q
        · rw [if_pos e]
        · rw [if_neg e]
          exact hz j (by omega)
  exact e_X8_clearCoins (L 33 0 0 h0 (by decide) (Nat.zero_le _) (by omega) (Ok_rf hG) (fun j hj => absurd hj (Nat.not_lt_zero _)))
set_option maxRecDepth 100000 in
set_option maxHeartbeats 4000000 in
theorem v_X8_open {g : gT} {h : mh_T} {P : mh_T → Prop} (hG : GI h) (hp : ∀ h', GI h' → Fr [3, 24, 25, 26, 27] h h' → (mI h' 3 0 = mI h 2 0 ∧ mI h' 3 1 = mI h 2 1 ∧ mI h' 3 2 = mI h 2 3 ∧ (∀ j, j < 8 → h'.1 24 j = h.1 15 j) ∧ (∀ j, j < 8 → h'.1 25 j = h.1 16 j) ∧ (∀ j, j < 32 → h'.1 26 j = h.1 17 j) ∧ ∀ j, j < 32 → h'.1 27 j = 0) → P h') : MCv g yX8_open uX8_open [.ref 3, .ref 2] h P := by
  refine e_X8_open ?_
  have e1 : mI (wI h 3 0 (mI h 2 0)) 2 1 = mI h 2 1 := by rw [mI_wI, if_neg (by decide)]
  rw [e1]
  have e3 : mI (wI (wI h 3 0 (mI h 2 0)) 3 1 (mI h 2 1)) 2 3 = mI h 2 3 := by rw [mI_wI, if_neg (by decide), mI_wI, if_neg (by decide)]
  rw [e3]
  have g1 := GI_w hG (k := 3) (j := 0) (v := mI h 2 0) (lo := 0) (hi := 60) (by decide) (GI_rd hG 2 0 (by decide))
  have g2 := GI_w g1 (k := 3) (j := 1) (v := mI h 2 1) (lo := 0) (hi := 6) (by decide) (GI_rd hG 2 1 (by decide))
  have g3 := GI_w g2 (k := 3) (j := 2) (v := mI h 2 3) (lo := 0) (hi := 8) (by decide) (GI_rd hG 2 3 (by decide))
  have v0 : mI (wI (wI (wI h 3 0 (mI h 2 0)) 3 1 (mI h 2 1)) 3 2 (mI h 2 3)) 3 0 = mI h 2 0 := by rw [mI_wI, if_neg (by decide), mI_wI, if_neg (by decide), mI_wI, if_pos ⟨rfl, rfl⟩]
  have v1 : mI (wI (wI (wI h 3 0 (mI h 2 0)) 3 1 (mI h 2 1)) 3 2 (mI h 2 3)) 3 1 = mI h 2 1 := by rw [mI_wI, if_neg (by decide), mI_wI, if_pos ⟨rfl, rfl⟩]
  have v2 : mI (wI (wI (wI h 3 0 (mI h 2 0)) 3 1 (mI h 2 1)) 3 2 (mI h 2 3)) 3 2 = mI h 2 3 := by rw [mI_wI, if_pos ⟨rfl, rfl⟩]
  have r3 : Fr [3, 24, 25, 26, 27] h (wI (wI (wI h 3 0 (mI h 2 0)) 3 1 (mI h 2 1)) 3 2 (mI h 2 3)) := Fr_w (Fr_w (Fr_w (Fr_rf h) (by decide)) (by decide)) (by decide)
  generalize wI (wI (wI h 3 0 (mI h 2 0)) 3 1 (mI h 2 1)) 3 2 (mI h 2 3) = h3 at g3 v0 v1 v2 r3
  have g4 := GI_cp g3 (k0 := 15) (sp := (Int32.toNatClampNeg 0)) (k1 := 24) (dp := (Int32.toNatClampNeg 0)) (n := (Int32.toNatClampNeg 8)) (cp_ok (sp := 0) (dp := 0) (n := 8) (by decide))
  have g5 := GI_cp g4 (k0 := 16) (sp := (Int32.toNatClampNeg 0)) (k1 := 25) (dp := (Int32.toNatClampNeg 0)) (n := (Int32.toNatClampNeg 8)) (cp_ok (sp := 0) (dp := 0) (n := 8) (by decide))
  have g6 := GI_cp g5 (k0 := 17) (sp := (Int32.toNatClampNeg 0)) (k1 := 26) (dp := (Int32.toNatClampNeg 0)) (n := (Int32.toNatClampNeg 32)) (cp_ok (sp := 0) (dp := 0) (n := 32) (by decide))
  refine v_clearCoins g6 (fun h1 k1 k27 => ?_)
  have c3 : ∀ j, mI h1 3 j = mI h3 3 j := fun j => by
    rw [Ok_eq k1 (by decide), mI_cpI, if_neg (fun z => absurd z.1 (by decide)), mI_cpI, if_neg (fun z => absurd z.1 (by decide)), mI_cpI, if_neg (fun z => absurd z.1 (by decide))]
  refine hp _ (GI_w k1.1 (k := 3) (j := 3) (lo := -2147483648) (hi := 2147483647) (by decide) (R_full _)) (Fr_w (Fr_t2 (Fr_cp (Fr_cp (Fr_cp r3 (by decide)) (by decide)) (by decide)) k1.2.1 (by decide)) (by decide)) ⟨?_, ?_, ?_, fun j hj => ?_, fun j hj => ?_, fun j hj => ?_, fun j hj => ?_⟩
  · rw [mI_wI, if_neg (by decide), c3]; exact v0
  · rw [mI_wI, if_neg (by decide), c3]; exact v1
  · rw [mI_wI, if_neg (by decide), c3]; exact v2
  · rw [wI_o (by decide), OkC k1 (k := 24) (by decide), ← (r3 15 (by decide) (by decide)).1]
    refine (mI_cpI _ _ _ _ _ _ _ _).trans ((if_neg (fun z => absurd z.1 (by decide))).trans ((mI_cpI _ _ _ _ _ _ _ _).trans ((if_neg (fun z => absurd z.1 (by decide))).trans ((mI_cpI _ _ _ _ _ _ _ _).trans ((if_pos ⟨rfl, Nat.zero_le _, hj⟩).trans ?_)))))
    show h3.1 15 (0 + (j - 0)) = _
    rw [Nat.zero_add, Nat.sub_zero]
  · rw [wI_o (by decide), OkC k1 (k := 25) (by decide), ← (r3 16 (by decide) (by decide)).1]
    refine (mI_cpI _ _ _ _ _ _ _ _).trans ((if_neg (fun z => absurd z.1 (by decide))).trans ((mI_cpI _ _ _ _ _ _ _ _).trans ((if_pos ⟨rfl, Nat.zero_le _, hj⟩).trans ((mI_cpI _ _ _ _ _ _ _ _).trans ((if_neg (fun z => absurd z.1 (by decide))).trans ?_)))))
    show h3.1 16 (0 + (j - 0)) = _
    rw [Nat.zero_add, Nat.sub_zero]
  · rw [wI_o (by decide), OkC k1 (k := 26) (by decide), ← (r3 17 (by decide) (by decide)).1]
    refine (mI_cpI _ _ _ _ _ _ _ _).trans ((if_pos ⟨rfl, Nat.zero_le _, hj⟩).trans ((mI_cpI _ _ _ _ _ _ _ _).trans ((if_neg (fun z => absurd z.1 (by decide))).trans ((mI_cpI _ _ _ _ _ _ _ _).trans ((if_neg (fun z => absurd z.1 (by decide))).trans ?_)))))
    show h3.1 17 (0 + (j - 0)) = _
    rw [Nat.zero_add, Nat.sub_zero]
  · rw [wI_o (by decide)]
    exact k27 j hj
/-- the product of two rays -/
def dtk (x : Nat → Int32) (i j : Nat) : Nat → Int32
  | 0 => 0
  | k + 1 => dtk x i j k + x (4 * i + k) * x (4 * j + k)
theorem dtk_cg {x y : Nat → Int32} {i j : Nat} : ∀ k, k ≤ 4 → (∀ q, q < 4 → x (4 * i + q) = y (4 * i + q) ∧ x (4 * j + q) = y (4 * j + q)) → dtk x i j k = dtk y i j k
  | 0, _, _ => rfl
  | k + 1, hk, h => by
    show dtk x i j k + x (4 * i + k) * x (4 * j + k) = dtk y i j k + y (4 * i + k) * y (4 * j + k)
    rw [dtk_cg k (by omega) h, (h k (by omega)).1, (h k (by omega)).2]
theorem v_product {g : gT} {h : mh_T} {P : Int32 → mh_T → Prop} {i j : Nat} (l1 l2 : Int32) (e1 : l1.toInt = (i : Int)) (e2 : l2.toInt = (j : Int)) (hi : i < 18) (hj : j < 18) (hp : P (dtk (fun q => mI h 20 q) i j 4) h) : MCi g yX3_product uX3_product [.ref 20, .int l1, .int l2] h P := by
  have i4 : (4 : Int32).toInt = 4 := by decide
  have L : ∀ (m : Nat) (l3 l4 : Int32) (k : Nat), l4.toInt = (k : Int) → k ≤ 4 → 4 - k < m → l3 = dtk (fun q => mI h 20 q) i j k → ME g uX3_product 5 [.ref 20, .int l1, .int l2, .int l3, .int l4] [] h (qI P) := by
    intro m
    induction m with
    | zero => intro l3 l4 k _ _ hm; exact absurd hm (Nat.not_lt_zero _)
    | succ m ih =>
      intro l3 l4 k e4 hk hm e3
      refine r_X3_product_5 l1 l2 l3 l4 ⟨fun z => ?_, fun z => ?_⟩
      · rw [i_le, i4, e4] at z
        have : k = 4 := by omega
        subst this
        rw [e3]
        exact hp
      · rw [i_le, i4, e4] at z
        have ia := i_4t e1 hi e4 (by omega)
        have ib := i_4t e2 hj e4 (by omega)
        refine ⟨i_vp ia (by omega), i_vp ib (by omega), fun x4 ex => ih x4 (l4 + 1) (k + 1) (i_inc e4 (by omega)) (by omega) (by omega) ?_⟩
        rw [ex, i_nat ia, i_nat ib, e3]
        rfl
  exact e_X3_product l1 l2 (L 5 0 0 0 (by decide) (by omega) (by omega) rfl)
theorem sm_n18 : ∀ p, p < 18 → ((nI p &&& 31).toBitVec.smod 32) = BitVec.ofNat 32 p ∧ (BitVec.ofNat 32 p).toNat = p := by decide
theorem bt_or18 {x r : Int32} {p q : Nat} (e : r.toInt = (p : Int)) (hp : p < 18) (hq : q < 18) : bt (x ||| (1 <<< (r &&& 31))) q = (q == p || bt x q) := by
  have er : r = nI p := i_nI e (by omega)
  subst er
  obtain ⟨s1, s2⟩ := sm_n18 p hp
  unfold bt
  rw [Int32.toBitVec_or, Int32.toBitVec_shiftLeft, s1]
  have h1 : (1 : Int32).toBitVec = 1#32 := rfl
  rw [h1, BitVec.getLsbD_or]
  have : (1#32 <<< BitVec.ofNat 32 p).getLsbD q = (q == p) := by
    rw [BitVec.shiftLeft_eq', s2, BitVec.getLsbD_shiftLeft]
    have d : ∀ p, p < 18 → ∀ q, q < 18 → (decide (q < 32) && !decide (q < p) && (1#32).getLsbD (q - p)) = (q == p) := by decide +kernel
    exact d p hp q hq
  rw [this, Bool.or_comm]
theorem bt_s18 {x r : Int32} {p : Nat} (e : r.toInt = (p : Int)) (hp : p < 18) : ((x >>> (r &&& 31)) &&& 1) = if bt x p = true then 1 else 0 := by
  have er : r = nI p := i_nI e (by omega)
  subst er
  obtain ⟨s1, s2⟩ := sm_n18 p hp
  have key : (x.toBitVec.sshiftRight p)[0] = x.toBitVec.getLsbD p := by
    rw [← BitVec.getLsbD_eq_getElem (by decide), BitVec.getLsbD_sshiftRight]
    simp [show p < 32 by omega]
  have b : ((x >>> (nI p &&& 31)) &&& 1) = 0 ∨ ((x >>> (nI p &&& 31)) &&& 1) = 1 := R_z (R_and (x := x >>> (nI p &&& 31)) (y := 1) (c := 1) (d := 1) ⟨by decide, by decide⟩ (by decide))
  have z : ((x >>> (nI p &&& 31)) &&& 1) = 0 ↔ bt x p = false := by
    rw [← Int32.toBitVec_inj, Int32.toBitVec_and, Int32.toBitVec_shiftRight, s1]
    have h1 : (1 : Int32).toBitVec = 1#32 := rfl
    have h0 : (0 : Int32).toBitVec = 0#32 := rfl
    rw [h1, h0]
    unfold bt
    constructor
    · intro h
      have := congrArg (fun b => b.getLsbD 0) h
      simp [BitVec.sshiftRight', s2] at this
      rw [key] at this
      exact this
    · intro h
      apply BitVec.eq_of_getLsbD_eq
      intro i hi
      by_cases z : i = 0
      · subst z
        simp [BitVec.sshiftRight', s2]
        rw [key]
        exact h
      · simp [z]
  cases q : bt x p
  · rw [z.mpr q]
    rfl
  · rcases b with b | b
    · rw [z.mp b] at q
      cases q
    · rw [b]
      rfl
theorem bt_00 : ∀ q, q < 18 → bt 0 q = false := by
  unfold bt
  decide
/-- which rays are square to which -/
theorem v_X3_open {g : gT} {h : mh_T} {P : mh_T → Prop} {c : Nat} (hG : GI h) (ec : (mI h 2 5).toInt = (c : Int)) (hc : c ≤ 18) (hp : ∀ h', GI h' → Fr [8, 32, 33] h h' → mI h' 8 0 = mI h 2 5 → (∀ i j, i < c → j < c → ¬ j = i → (bt (mI h' 32 i) j = true ↔ dtk (fun q => mI h 20 q) i j 4 = 0)) → P h') : MCv g yX3_open uX3_open [.ref 8, .ref 2] h P := by
  refine e_X3_open ?_
  have g0 : GI (wI (wI h 8 0 (mI h 2 5)) 8 8 0) := GI_w (GI_w hG (k := 8) (j := 0) (lo := 0) (hi := 18) (by decide) (GI_rd hG 2 5 (by decide))) (k := 8) (j := 8) (lo := 0) (hi := 1) (by decide) ⟨by decide, by decide⟩
  have r0 : Fr [8, 32, 33] h (wI (wI h 8 0 (mI h 2 5)) 8 8 0) := Fr_w (Fr_w (Fr_rf h) (by decide)) (by decide)
  have v0 : mI (wI (wI h 8 0 (mI h 2 5)) 8 8 0) 8 0 = mI h 2 5 := by rw [mI_wI, if_neg (by decide), mI_wI, if_pos ⟨rfl, rfl⟩]
  have w20 : (fun q => mI (wI (wI h 8 0 (mI h 2 5)) 8 8 0) 20 q) = fun q => mI h 20 q := by
    funext q
    rw [mI_wI, if_neg (fun z => absurd z.1 (by decide)), mI_wI, if_neg (fun z => absurd z.1 (by decide))]
  rw [← w20] at hp
  generalize wI (wI h 8 0 (mI h 2 5)) 8 8 0 = h0 at g0 r0 v0 hp
  have k80 : ∀ {k : mh_T}, Ok [32] h0 k → mI k 8 0 = mI h 2 5 := fun o => by rw [Ok_eq o (by decide)]; exact v0
  have k20 : ∀ {k : mh_T}, Ok [32] h0 k → (fun q => mI k 20 q) = fun q => mI h0 20 q := fun o => by
    funext q
    exact Ok_eq o (by decide)
  have L : ∀ (m : Nat), (∀ (l2 : Int32) (i : Nat) (k : mh_T), l2.toInt = (i : Int) → i ≤ c → 400 - 20 * i < m → Ok [32] h0 k → (∀ a b, a < i → b < c → ¬ b = a → (bt (mI k 32 a) b = true ↔ dtk (fun q => mI h0 20 q) a b 4 = 0)) → ME g uX3_open 15 [.ref 8, .ref 2, .int l2, .retAddr 0] [] k (qV P)) ∧ (∀ (l2 l3 : Int32) (i j : Nat) (k : mh_T), l2.toInt = (i : Int) → i < c → l3.toInt = (j : Int) → j ≤ c → 400 - 20 * i - 1 - j < m → Ok [32] h0 k → (∀ a b, a < i → b < c → ¬ b = a → (bt (mI k 32 a) b = true ↔ dtk (fun q => mI h0 20 q) a b 4 = 0)) → (∀ b, b < j → ¬ b = i → (bt (mI k 32 i) b = true ↔ dtk (fun q => mI h0 20 q) i b 4 = 0)) → (∀ b, j ≤ b → b < 18 → bt (mI k 32 i) b = false) → ME g uX3_open 32 [.ref 8, .ref 2, .int l2, .int l3] [] k (qV P)) := by
    intro m
    induction m with
    | zero => exact ⟨fun _ _ _ _ _ hm => absurd hm (Nat.not_lt_zero _), fun _ _ _ _ _ _ _ _ _ hm => absurd hm (Nat.not_lt_zero _)⟩
    | succ m ih =>
      refine ⟨fun l2 i k e2 hi hm ok d => ?_, fun l2 l3 i j k e2 hi e3 hj hm ok d d1 d0 => ?_⟩
      · refine r_X3_open_15 l2 ⟨fun z => ?_, fun z => ?_⟩
        · rw [k80 ok, i_le, ec, e2] at z
          have : i = c := by omega
          subst this
          refine s_X3_findCorners ok.1 (fun h2 k2 => hp h2 k2.1 (Fr_t2 (Fr_t2 r0 ok.2.1 (by decide)) k2.2.1 (by decide)) ?_ (fun a b ha hb hab => ?_))
          · rw [k2.2.2.2.2.1 8 0 (by decide)]
            exact k80 ok
          · rw [show mI h2 32 a = mI k 32 a from Ok_eq k2 (by decide)]
            exact d a b ha hb hab
        · rw [k80 ok, i_le, ec, e2] at z
          rw [i_nat e2]
          refine ⟨i_vp e2 (by omega), ih.2 l2 0 i 0 _ e2 (by omega) (by decide) (Nat.zero_le _) (by omega) (Ok_w ok (k := 32) (rgc_32 _) (R_full _) (by decide) (nt_k (by decide))) (fun a b ha hb hab => ?_) (fun b hb => absurd hb (Nat.not_lt_zero b)) (fun b _ hb => ?_)⟩
          · rw [mI_wI, if_neg (by omega)]
            exact d a b ha hb hab
          · rw [mI_wI, if_pos ⟨rfl, rfl⟩]
            exact bt_00 b hb
      · have e3' := i_inc e3 (by omega)
        refine r_X3_open_32 l2 l3 ⟨fun z => ?_, fun z => ⟨fun y => ?_, fun y => ?_⟩⟩
        · rw [k80 ok, i_le, ec, e3] at z
          have : j = c := by omega
          subst this
          refine ih.1 (l2 + 1) (i + 1) k (i_inc e2 (by omega)) (by omega) (by omega) ok (fun a b ha hb hab => ?_)
          by_cases q : a = i
          · subst q
            exact d1 b hb hab
          · exact d a b (by omega) hb hab
        · rw [k80 ok, i_le, ec, e3] at z
          have yij : j = i := by
            have := congrArg Int32.toInt y
            rw [e3, e2] at this
            omega
          exact ih.2 l2 (l3 + 1) i (j + 1) k e2 hi e3' (by omega) (by omega) ok d (fun b hb hbi => d1 b (by omega) hbi) (fun b hb h18 => d0 b (by omega) h18)
        · rw [k80 ok, i_le, ec, e3] at z
          have yij : ¬ j = i := fun q => y (Int32.toInt_inj.mp (by rw [e3, e2, q]))
          refine v_product l2 l3 e2 e3 (by omega) (by omega) ?_
          rw [k20 ok]
          refine ⟨fun w => ?_, fun w => ?_⟩
          · refine ih.2 l2 (l3 + 1) i (j + 1) k e2 hi e3' (by omega) (by omega) ok d (fun b hb hbi => ?_) (fun b hb h18 => d0 b (by omega) h18)
            by_cases q : b = j
            · subst q
              rw [d0 b (Nat.le_refl _) (by omega)]
              exact ⟨fun x => (by cases x), fun x => absurd x w⟩
            · exact d1 b (by omega) hbi
          · rw [i_nat e2]
            refine ⟨i_vp e2 (by omega), i_vp e2 (by omega), ih.2 l2 (l3 + 1) i (j + 1) _ e2 hi e3' (by omega) (by omega) (Ok_w ok (k := 32) (rgc_32 _) (R_full _) (by decide) (nt_k (by decide))) (fun a b ha hb hab => ?_) (fun b hb hbi => ?_) (fun b hb h18 => ?_)⟩
            · rw [mI_wI, if_neg (by omega)]
              exact d a b ha hb hab
            · rw [mI_wI, if_pos ⟨rfl, rfl⟩, bt_or18 e3 (by omega) (by omega)]
              by_cases q : b = j
              · subst q
                simp [w]
              · rw [beq_false_of_ne q, Bool.false_or]
                exact d1 b (by omega) hbi
            · rw [mI_wI, if_pos ⟨rfl, rfl⟩, bt_or18 e3 (by omega) h18, beq_false_of_ne (by omega), Bool.false_or]
              exact d0 b (by omega) h18
  exact (L 500).1 0 0 h0 (by decide) (Nat.zero_le _) (by omega) (Ok_rf g0) (fun a b ha => absurd ha (Nat.not_lt_zero a))
/-! LINES: how many of the values make all lines so -/
def bv (v x : Int32) : Int32 := (v >>> (x &&& 31)) &&& 1
def rs (f : Nat → Int32) (v : Int32) (l : Nat) : Int32 := ((0 + bv v (f (53 + 3 * l))) + bv v (f (54 + 3 * l))) + bv v (f (55 + 3 * l))
abbrev lnc (f : Nat → Int32) (v : Int32) (l : Nat) : Prop := rs f v l - rs f v l / 2 * 2 = f (77 + l)
/-- the lines that a value makes so, as bits -/
def slb (f : Nat → Int32) (v : Int32) : Nat → Int32
  | 0 => 0
  | k + 1 => if lnc f v k then slb f v k ||| (1 <<< (Int32.ofNat k &&& 31)) else slb f v k
def wyc (f : Nat → Int32) (n : Nat) : Nat → Int32
  | 0 => 0
  | v + 1 => if slb f (Int32.ofNat v) n = (1 <<< (Int32.ofNat n &&& 31)) - 1 then wyc f n v + 1 else wyc f n v
theorem slb_cg {f g : Nat → Int32} {v : Int32} : ∀ k, k ≤ 8 → (∀ i, 53 ≤ i → i < 85 → f i = g i) → slb f v k = slb g v k
  | 0, _, _ => rfl
  | k + 1, hk, h => by
    have e : lnc f v k ↔ lnc g v k := by
      unfold lnc rs
      rw [h _ (by omega) (by omega), h _ (by omega) (by omega), h _ (by omega) (by omega), h _ (by omega) (by omega)]
    show (if lnc f v k then _ else _) = (if lnc g v k then _ else _)
    rw [slb_cg k (by omega) h]
    by_cases q : lnc g v k
    · rw [if_pos q, if_pos (e.mpr q)]
    · rw [if_neg q, if_neg (fun z => q (e.mp z))]
theorem wyc_cg {f g : Nat → Int32} {n : Nat} (hn : n ≤ 8) (h : ∀ i, 53 ≤ i → i < 85 → f i = g i) : ∀ v, wyc f n v = wyc g n v
  | 0 => rfl
  | v + 1 => by
    show (if slb f (Int32.ofNat v) n = _ then _ else _) = (if slb g (Int32.ofNat v) n = _ then _ else _)
    rw [slb_cg n hn h, wyc_cg hn h v]
/-- how many bits of nine -/
def S9 (g : Nat → Bool) : Nat := (g 0).toNat + (g 1).toNat + (g 2).toNat + (g 3).toNat + (g 4).toNat + (g 5).toNat + (g 6).toNat + (g 7).toNat + (g 8).toNat
def bcE (l0 : Int32) : Int32 :=
  let x1 := (l0 - (((l0.toUInt32 >>> (Int32.toUInt32 1 &&& Int32.toUInt32 31)).toInt32) &&& 1431655765))
  let x2 := ((x1 &&& 858993459) + (((x1.toUInt32 >>> (Int32.toUInt32 2 &&& Int32.toUInt32 31)).toInt32) &&& 858993459))
  let x3 := ((x2 + ((x2.toUInt32 >>> (Int32.toUInt32 4 &&& Int32.toUInt32 31)).toInt32)) &&& 252645135)
  let x4 := (x3 + ((x3.toUInt32 >>> (Int32.toUInt32 8 &&& Int32.toUInt32 31)).toInt32))
  let x5 := (x4 + ((x4.toUInt32 >>> (Int32.toUInt32 16 &&& Int32.toUInt32 31)).toInt32))
  (x5 &&& 63)
theorem v_bitCount {g : gT} {h : mh_T} {P : Int32 → mh_T → Prop} (l0 : Int32) (hp : P (bcE l0) h) : MCi g yJ6_bitCount_0f7a4 uJ6_bitCount_0f7a4 [.int l0] h P := by
  refine e_J6_bitCount_0f7a4 l0 (fun x1 e1 x2 e2 x3 e3 x4 e4 x5 e5 => ?_)
  subst e1 e2 e3 e4 e5
  exact hp
set_option maxRecDepth 100000 in
theorem bc_n : ∀ n, n < 512 → bcE (Int32.ofNat n) = Int32.ofNat (S9 (fun t => bt (Int32.ofNat n) t)) := by decide +kernel
theorem s9_1 (g : Nat → Bool) (a : Nat) (ha : a < 9) : S9 (fun t => g t && t == a) = (g a).toNat := by
  rcases (show a = 0 ∨ a = 1 ∨ a = 2 ∨ a = 3 ∨ a = 4 ∨ a = 5 ∨ a = 6 ∨ a = 7 ∨ a = 8 by omega) with q | q | q | q | q | q | q | q | q <;> subst q <;> simp [S9]
theorem s9_3 (g : Nat → Bool) (m : Nat → Bool) (a b c : Nat) (ha : a < 9) (hb : b < 9) (hc : c < 9) (ab : ¬ a = b) (ac : ¬ a = c) (bc : ¬ b = c) (hm : ∀ t, t < 9 → (m t = true ↔ t = a ∨ t = b ∨ t = c)) : S9 (fun t => g t && m t) = (g a).toNat + (g b).toNat + (g c).toNat := by
  have p : ∀ t, t < 9 → (g t && m t).toNat = (g t && t == a).toNat + (g t && t == b).toNat + (g t && t == c).toNat := fun t ht => by
    have h := hm t ht
    by_cases ea : t = a
    · have : m t = true := h.mpr (Or.inl ea)
      rw [this, ea, beq_self_eq_true, beq_false_of_ne ab, beq_false_of_ne ac]
      simp
    · by_cases eb : t = b
      · have : m t = true := h.mpr (Or.inr (Or.inl eb))
        rw [this, eb, beq_self_eq_true, beq_false_of_ne (fun z => ab z.symm), beq_false_of_ne bc]
        simp
      · by_cases ec : t = c
        · have : m t = true := h.mpr (Or.inr (Or.inr ec))
          rw [this, ec, beq_self_eq_true, beq_false_of_ne (fun z => ac z.symm), beq_false_of_ne (fun z => bc z.symm)]
          simp
        · have : m t = false := Bool.eq_false_iff.mpr (fun z => by rcases h.mp z with y | y | y; exact ea y; exact eb y; exact ec y)
          rw [this, beq_false_of_ne ea, beq_false_of_ne eb, beq_false_of_ne ec]
          simp
  have q1 := s9_1 g a ha
  have q2 := s9_1 g b hb
  have q3 := s9_1 g c hc
  unfold S9 at *
  dsimp only at q1 q2 q3
  rw [p 0 (by omega), p 1 (by omega), p 2 (by omega), p 3 (by omega), p 4 (by omega), p 5 (by omega), p 6 (by omega), p 7 (by omega), p 8 (by omega)]
  omega
theorem bv_b {v : Int32} {p : Nat} (hp : p < 9) : bv v (Int32.ofNat p) = Int32.ofNat (bt v p).toNat := by
  unfold bv
  rw [bt_s18 (r := Int32.ofNat p) (p := p) (Int32.toInt_ofNat_of_lt (by omega)) (by omega)]
  cases bt v p <;> rfl
theorem bt_and {x y : Int32} {t : Nat} : bt (x &&& y) t = (bt x t && bt y t) := by
  unfold bt
  rw [Int32.toBitVec_and, BitVec.getLsbD_and]
/-- both ways to count a line's ones agree -/
theorem bc_rs {v b x y z : Int32} {n : Nat} (ev : v.toInt = (n : Int)) (hn : n < 512) (lp : Lp b x y z) : bcE (v &&& b) = ((0 + bv v x) + bv v y) + bv v z := by
  obtain ⟨ps, p1, p2, ⟨ex, ey, ez⟩, p4⟩ := lp
  have rr : R 0 511 (v &&& b) := R_andl (x := v) (y := b) (c := 0) (d := 511) ⟨by omega, by omega⟩ (by decide)
  obtain ⟨k, ek, k0, k5⟩ := i_R rr (by decide)
  have e1 : v &&& b = Int32.ofNat k := i_of ek (by omega)
  rw [e1, bc_n k (by omega), ← e1]
  have s : S9 (fun t => bt (v &&& b) t) = (bt v (ps 0)).toNat + (bt v (ps 1)).toNat + (bt v (ps 2)).toNat := by
    have e : (fun t => bt (v &&& b) t) = fun t => bt v t && bt b t := by
      funext t
      exact bt_and
    rw [e]
    refine s9_3 (bt v) (bt b) (ps 0) (ps 1) (ps 2) (p1 0 (by decide)) (p1 1 (by decide)) (p1 2 (by decide)) (p2 0 1 (by decide) (by decide)) (p2 0 2 (by decide) (by decide)) (p2 1 2 (by decide) (by decide)) (fun t ht => ?_)
    rw [p4 t ht]
    constructor
    · rintro ⟨k, h1, h2⟩
      rcases (show k = 0 ∨ k = 1 ∨ k = 2 by omega) with q | q | q <;> subst q
      · exact Or.inl h2.symm
      · exact Or.inr (Or.inl h2.symm)
      · exact Or.inr (Or.inr h2.symm)
    · rintro (q | q | q)
      · exact ⟨0, by decide, q.symm⟩
      · exact ⟨1, by decide, q.symm⟩
      · exact ⟨2, by decide, q.symm⟩
  rw [s, ex, ey, ez, bv_b (p1 0 (by decide)), bv_b (p1 1 (by decide)), bv_b (p1 2 (by decide))]
  cases bt v (ps 0) <;> cases bt v (ps 1) <;> cases bt v (ps 2) <;> rfl
theorem shl_n {n : Nat} (h : n ≤ 30) : ((1 : Int32) <<< (Int32.ofNat n &&& 31)).toInt = (2 : Int) ^ n := shl_all n h
theorem slb_R {f : Nat → Int32} {v : Int32} : ∀ k, k ≤ 8 → R 0 255 (slb f v k)
  | 0, _ => show R 0 255 (0 : Int32) from ⟨by decide, by decide⟩
  | k + 1, hk => by
    show R 0 255 (if lnc f v k then slb f v k ||| (1 <<< (Int32.ofNat k &&& 31)) else slb f v k)
    split
    · have e := shl_n (n := k) (by omega)
      have b : (2 : Int) ^ k ≤ 128 := by
        rcases (show k = 0 ∨ k = 1 ∨ k = 2 ∨ k = 3 ∨ k = 4 ∨ k = 5 ∨ k = 6 ∨ k = 7 by omega) with q | q | q | q | q | q | q | q <;> subst q <;> decide
      have b0 : (0 : Int) ≤ 2 ^ k := by
        rcases (show k = 0 ∨ k = 1 ∨ k = 2 ∨ k = 3 ∨ k = 4 ∨ k = 5 ∨ k = 6 ∨ k = 7 by omega) with q | q | q | q | q | q | q | q <;> subst q <;> decide
      exact R_or (slb_R k (by omega)) (c := 0) (d := 128) ⟨by omega, by omega⟩ 8 255 (by decide)
    · exact slb_R k (by omega)
theorem v_soLines {g : gT} {h : mh_T} {P : Int32 → mh_T → Prop} {f : Nat → Int32} {n vn : Nat} (l2 : Int32) (ev : l2.toInt = (vn : Int)) (hv : vn < 512) (en : (mI h 7 1).toInt = (n : Int)) (hn : n ≤ 8) (hl : ∀ l : Nat, l < n → mI h 19 l = f (77 + l) ∧ Lp (mI h 18 l) (f (53 + 3 * l)) (f (54 + 3 * l)) (f (55 + 3 * l))) (hp : P (slb f l2 n) h) : MCi g yX5_soLines uX5_soLines [.ref 7, .ref 2, .int l2] h P := by
  have L : ∀ (m : Nat) (l3 l4 : Int32) (k : Nat), l4.toInt = (k : Int) → k ≤ n → n - k < m → l3 = slb f l2 k → ME g uX5_soLines 5 [.ref 7, .ref 2, .int l2, .int l3, .int l4] [] h (qI P) := by
    intro m
    induction m with
    | zero => intro l3 l4 k _ _ hm; exact absurd hm (Nat.not_lt_zero _)
    | succ m ih =>
      intro l3 l4 k e4 hk hm e3
      refine r_X5_soLines_5 l2 l3 l4 ⟨fun z => ?_, fun z => ?_⟩
      · rw [i_le, en, e4] at z
        have : k = n := by omega
        subst this
        rw [e3]
        exact hp
      · rw [i_le, en, e4] at z
        have v8 := i_vp (n := 8) e4 (by omega)
        obtain ⟨l19, lp⟩ := hl k (by omega)
        refine ⟨v8, v_bitCount _ ⟨v8, ?_⟩⟩
        rw [i_nat e4, bc_rs ev hv lp, l19]
        have ec : (rs f l2 k - rs f l2 k / 2 * 2 = f (77 + k)) ↔ lnc f l2 k := Iff.rfl
        have e4' := i_inc e4 (by omega)
        refine ⟨fun y => ih l3 (l4 + 1) (k + 1) e4' (by omega) (by omega) ?_, fun y x7 ex => ih x7 (l4 + 1) (k + 1) e4' (by omega) (by omega) ?_⟩
        · show l3 = (if lnc f l2 k then _ else _)
          rw [if_neg (fun q => y (ec.mpr q))]
          exact e3
        · show x7 = (if lnc f l2 k then _ else _)
          rw [if_pos (ec.mp y), ex, e3, i_of e4 (by omega)]
  exact e_X5_soLines l2 (L (n + 1) 0 0 0 (by decide) (Nat.zero_le _) (by omega) rfl)
/-! LINES: sets of lines as bits -/
def An (n : Nat) : Int32 := (1 <<< (Int32.ofNat n &&& 31)) - 1
abbrev sv (f : Nat → Int32) (n v : Nat) : Int32 := slb f (Int32.ofNat v) n
def clr (b t : Nat) : Nat := if bt (Int32.ofNat b) t = true then b - 2 ^ t else b
set_option maxRecDepth 100000 in
theorem clr_n : ∀ b, b < 256 → ∀ t, t < 8 → (Int32.ofNat b &&& ((1 <<< (Int32.ofNat t &&& 31)) ^^^ (-1))).toInt = (clr b t : Int) ∧ clr b t ≤ b := by decide +kernel
set_option maxRecDepth 100000 in
theorem clr_b : ∀ b, b < 256 → ∀ t, t < 8 → ∀ i, i < 8 → bt (Int32.ofNat (clr b t)) i = (bt (Int32.ofNat b) i && !(i == t)) := by decide +kernel
def V8 (g : Nat → Bool) : Nat := (g 0).toNat + 2 * (g 1).toNat + 4 * (g 2).toNat + 8 * (g 3).toNat + 16 * (g 4).toNat + 32 * (g 5).toNat + 64 * (g 6).toNat + 128 * (g 7).toNat
set_option maxRecDepth 100000 in
theorem v8_n : ∀ a, a < 256 → V8 (bt (Int32.ofNat a)) = a := by decide +kernel
theorem bx {a b : Nat} (ha : a < 256) (hb : b < 256) (h : ∀ i, i < 8 → bt (Int32.ofNat a) i = bt (Int32.ofNat b) i) : a = b := by
  rw [← v8_n a ha, ← v8_n b hb]
  unfold V8
  rw [h 0 (by decide), h 1 (by decide), h 2 (by decide), h 3 (by decide), h 4 (by decide), h 5 (by decide), h 6 (by decide), h 7 (by decide)]
theorem p2n {n : Nat} (hn : n ≤ 8) : 1 ≤ 2 ^ n ∧ 2 ^ n ≤ 256 ∧ ((2 ^ n : Nat) : Int) = (2 : Int) ^ n := by
  rcases (show n = 0 ∨ n = 1 ∨ n = 2 ∨ n = 3 ∨ n = 4 ∨ n = 5 ∨ n = 6 ∨ n = 7 ∨ n = 8 by omega) with q | q | q | q | q | q | q | q | q <;> subst q <;> decide
theorem slb_lt {f : Nat → Int32} {v : Int32} : ∀ k, k ≤ 8 → 0 ≤ (slb f v k).toInt ∧ (slb f v k).toInt < (2 : Int) ^ k
  | 0, _ => show 0 ≤ (0 : Int32).toInt ∧ (0 : Int32).toInt < (2 : Int) ^ 0 from by decide
  | k + 1, hk => by
    have ih := slb_lt (f := f) (v := v) k (by omega)
    have e := shl_n (n := k) (by omega)
    show 0 ≤ (if lnc f v k then slb f v k ||| (1 <<< (Int32.ofNat k &&& 31)) else slb f v k).toInt ∧ (if lnc f v k then slb f v k ||| (1 <<< (Int32.ofNat k &&& 31)) else slb f v k).toInt < (2 : Int) ^ (k + 1)
    split
    · have P : ∀ (x y : Int32), 0 ≤ x.toInt ∧ x.toInt < (2 : Int) ^ k → y.toInt = (2 : Int) ^ k → 0 ≤ (x ||| y).toInt ∧ (x ||| y).toInt < (2 : Int) ^ (k + 1) := fun x y hx hy => by
        have r : R 0 (2 ^ (k + 1) - 1) (x ||| y) := by
          rcases (show k = 0 ∨ k = 1 ∨ k = 2 ∨ k = 3 ∨ k = 4 ∨ k = 5 ∨ k = 6 ∨ k = 7 by omega) with q | q | q | q | q | q | q | q <;> subst q
          · exact R_or (a := 0) (b := 0) (c := 0) (d := 1) ⟨hx.1, by have := hx.2; omega⟩ ⟨by omega, by omega⟩ 1 _ (by decide)
          · exact R_or (a := 0) (b := 1) (c := 0) (d := 2) ⟨hx.1, by have := hx.2; omega⟩ ⟨by omega, by omega⟩ 2 _ (by decide)
          · exact R_or (a := 0) (b := 3) (c := 0) (d := 4) ⟨hx.1, by have := hx.2; omega⟩ ⟨by omega, by omega⟩ 3 _ (by decide)
          · exact R_or (a := 0) (b := 7) (c := 0) (d := 8) ⟨hx.1, by have := hx.2; omega⟩ ⟨by omega, by omega⟩ 4 _ (by decide)
          · exact R_or (a := 0) (b := 15) (c := 0) (d := 16) ⟨hx.1, by have := hx.2; omega⟩ ⟨by omega, by omega⟩ 5 _ (by decide)
          · exact R_or (a := 0) (b := 31) (c := 0) (d := 32) ⟨hx.1, by have := hx.2; omega⟩ ⟨by omega, by omega⟩ 6 _ (by decide)
          · exact R_or (a := 0) (b := 63) (c := 0) (d := 64) ⟨hx.1, by have := hx.2; omega⟩ ⟨by omega, by omega⟩ 7 _ (by decide)
          · exact R_or (a := 0) (b := 127) (c := 0) (d := 128) ⟨hx.1, by have := hx.2; omega⟩ ⟨by omega, by omega⟩ 8 _ (by decide)
        exact ⟨r.1, by have := r.2; omega⟩
      exact P _ _ ih e
    · have : (2 : Int) ^ (k + 1) = 2 ^ k * 2 := Int.pow_succ 2 k
      exact ⟨ih.1, by omega⟩
theorem sv_nat {f : Nat → Int32} {v : Int32} {n : Nat} (hn : n ≤ 8) : ∃ w : Nat, (slb f v n).toInt = (w : Int) ∧ w < 2 ^ n ∧ slb f v n = Int32.ofNat w := by
  have a := slb_lt (f := f) (v := v) n hn
  have p := p2n hn
  refine ⟨(slb f v n).toInt.toNat, by omega, by omega, i_of (by omega) (by omega)⟩
theorem bt_or2 {x y : Int32} {t : Nat} : bt (x ||| y) t = (bt x t || bt y t) := by
  unfold bt
  rw [Int32.toBitVec_or, BitVec.getLsbD_or]
theorem bt_not {x : Int32} {t : Nat} (ht : t < 32) : bt (x ^^^ (-1)) t = !bt x t := by
  unfold bt
  rw [Int32.toBitVec_xor, BitVec.getLsbD_xor, show (-1 : Int32).toBitVec = BitVec.allOnes 32 from by decide, BitVec.getLsbD_allOnes, decide_eq_true ht, Bool.xor_true]
theorem bt_zr {t : Nat} : bt 0 t = false := by
  unfold bt
  rw [show (0 : Int32).toBitVec = 0#32 from by decide, BitVec.getLsbD_zero]
theorem bt_lo {a n t : Nat} (hn : n ≤ 8) (ha : a < 256) (h : a < 2 ^ n) (ht : ¬ t < n) : bt (Int32.ofNat a) t = false := by
  show (BitVec.ofNat 32 a).getLsbD t = false
  rw [BitVec.getLsbD_ofNat]
  have : a.testBit t = false := Nat.testBit_lt_two_pow (Nat.lt_of_lt_of_le h (Nat.pow_le_pow_right (n := 2) (by decide) (by omega)))
  rw [this, Bool.and_false]
/-- what a closed family holds, it holds with less -/
theorem pth_h {H : Nat → Prop} {n : Nat} (hn : n ≤ 8) (c : ∀ s, s < 2 ^ n → H s → ∀ t, t < 8 → H (clr s t)) {s s' : Nat} (hs : s < 2 ^ n) (hs' : s' < 2 ^ n) (sub : ∀ t, t < 8 → bt (Int32.ofNat s) t = true → bt (Int32.ofNat s') t = true) (h : H s') : H s := by
  have p := p2n hn
  have A : ∀ t, t ≤ 8 → ∃ x, x < 2 ^ n ∧ H x ∧ ∀ i, i < 8 → bt (Int32.ofNat x) i = if i < t then bt (Int32.ofNat s) i else bt (Int32.ofNat s') i := by
    intro t
    induction t with
    | zero => intro _; exact ⟨s', hs', h, fun i _ => by rw [if_neg (Nat.not_lt_zero _)]⟩
    | succ t ih =>
      intro ht
      obtain ⟨x, x1, x2, x3⟩ := ih (by omega)
      by_cases q : bt (Int32.ofNat s) t = true
      · refine ⟨x, x1, x2, fun i hi => ?_⟩
        rw [x3 i hi]
        by_cases e : i = t
        · subst e
          rw [if_neg (by omega), if_pos (by omega), q, sub i hi q]
        · by_cases l : i < t
          · rw [if_pos l, if_pos (by omega)]
          · rw [if_neg l, if_neg (by omega)]
      · have cn := clr_n x (by omega) t (by omega)
        refine ⟨clr x t, by omega, c x x1 x2 t (by omega), fun i hi => ?_⟩
        rw [clr_b x (by omega) t (by omega) i hi, x3 i hi]
        by_cases e : i = t
        · subst e
          rw [if_neg (by omega), if_pos (by omega), beq_self_eq_true, Bool.not_true, Bool.and_false]
          exact (Bool.eq_false_iff.mpr q).symm
        · rw [beq_false_of_ne e, Bool.not_false, Bool.and_true]
          by_cases l : i < t
          · rw [if_pos l, if_pos (by omega)]
          · rw [if_neg l, if_neg (by omega)]
  obtain ⟨x, x1, x2, x3⟩ := A 8 (by omega)
  have : x = s := bx (by omega) (by omega) (fun i hi => by rw [x3 i hi, if_pos hi])
  rw [← this]
  exact x2
abbrev sbs (s s' : Nat) : Prop := ∀ t, t < 8 → bt (Int32.ofNat s) t = true → bt (Int32.ofNat s') t = true
theorem clr_sbs {b t : Nat} (hb : b < 256) (ht : t < 8) : sbs (clr b t) b := fun i hi h => by
  rw [clr_b b hb t ht i hi] at h
  exact (Bool.and_eq_true_iff.mp h).1
theorem v_spread {g : gT} {h : mh_T} {P : mh_T → Prop} {n : Nat} {E : Nat → Prop} (hG : GI h) (en : (mI h 7 1).toInt = (n : Int)) (hn : n ≤ 8) (hE : ∀ s, s < 2 ^ n → (¬ mI h 31 s = 0 ↔ E s)) (hp : ∀ h', Ok [31] h h' → (∀ s, s < 2 ^ n → (¬ mI h' 31 s = 0 ↔ ∃ s', s' < 2 ^ n ∧ E s' ∧ sbs s s')) → P h') : MCv g yX5_spread uX5_spread [.ref 7] h P := by
  have p := p2n hn
  have z0 : (0 : Int32).toInt = 0 := by decide
  have z1 : ¬ (1 : Int32) = 0 := by decide
  have B : ∀ (b : Nat) (l1 : Int32) (k : mh_T), l1.toInt = (b : Int) → b < 2 ^ n → Ok [31] h k → (∀ s, s < 2 ^ n → ¬ mI k 31 s = 0 → ∃ s', s' < 2 ^ n ∧ E s' ∧ sbs s s') → (∀ s, s < 2 ^ n → E s → ¬ mI k 31 s = 0) → (∀ s, s < 2 ^ n → b < s → ¬ mI k 31 s = 0 → ∀ t, t < n → ¬ mI k 31 (clr s t) = 0) → ME g uX5_spread 9 [.ref 7, .int l1, .retAddr 0] [] k (qV P) := by
    intro b
    induction b with
    | zero =>
      intro l1 k e1 hb ok i1 i2 i3
      refine r_X5_spread_9 l1 ⟨fun _ => hp k ok (fun s hs => ⟨i1 s hs, fun ⟨s', h1, h2, h3⟩ => ?_⟩), fun z => absurd (by rw [i_le, z0, e1]; omega) z⟩
      refine pth_h (H := fun s => ¬ mI k 31 s = 0) hn (fun x hx hh t ht => ?_) hs h1 h3 (i2 s' h1 h2)
      by_cases q : bt (Int32.ofNat x) t = true
      · by_cases y : t < n
        · by_cases w : x = 0
          · subst w
            have : clr 0 t = 0 := by have := (clr_n 0 (by omega) t ht).2; omega
            rw [this]
            exact hh
          · exact i3 x hx (by omega) hh t y
        · exact absurd (bt_lo (by omega) (by omega) hx y) (by rw [q]; decide)
      · unfold clr
        rw [if_neg q]
        exact hh
    | succ b ih =>
      intro l1 k e1 hb ok i1 i2 i3
      refine r_X5_spread_9 l1 ⟨fun z => by rw [i_le, z0, e1] at z; omega, fun _ => ?_⟩
      have ed : (l1 + (-1)).toInt = (b : Int) := by rw [i_add e1 (show (-1 : Int32).toInt = -1 by decide) (by omega)]; omega
      have L : ∀ (q : Nat) (l2 : Int32) (c : Nat) (k : mh_T), l2.toInt = (c : Int) → c ≤ n → n - c < q → Ok [31] h k → (∀ s, s < 2 ^ n → ¬ mI k 31 s = 0 → ∃ s', s' < 2 ^ n ∧ E s' ∧ sbs s s') → (∀ s, s < 2 ^ n → E s → ¬ mI k 31 s = 0) → (∀ s, s < 2 ^ n → b + 1 < s → ¬ mI k 31 s = 0 → ∀ t, t < n → ¬ mI k 31 (clr s t) = 0) → (∀ t, t < c → ¬ mI k 31 (clr (b + 1) t) = 0) → ME g uX5_spread 15 [.ref 7, .int l1, .int l2] [] k (qV P) := by
        intro q
        induction q with
        | zero => intro l2 c k _ _ hq; exact absurd hq (Nat.not_lt_zero _)
        | succ q ih2 =>
          intro l2 c k e2 hc hq ok i1 i2 i3 i4
          have e7 : mI k 7 1 = mI h 7 1 := Ok_eq ok (by decide)
          refine r_X5_spread_15 l1 l2 ⟨i_vp e1 (by omega), ?_⟩
          rw [i_nat e1, e7]
          refine ⟨fun z => ih _ k ed (by omega) ok i1 i2 (fun s hs hb' hh t ht => ?_), fun z => ⟨fun y => ih _ k ed (by omega) ok i1 i2 (fun s hs hb' hh t ht => ?_), fun y => ?_⟩⟩
          · by_cases w : s = b + 1
            · subst w; exact absurd z hh
            · exact i3 s hs (by omega) hh t ht
          · rw [i_le, en, e2] at y
            by_cases w : s = b + 1
            · subst w; exact i4 t (by omega)
            · exact i3 s hs (by omega) hh t ht
          · rw [i_le, en, e2] at y
            have cn := clr_n (b + 1) (by omega) c (by omega)
            rw [← i_of e1 (by omega), ← i_of e2 (by omega)] at cn
            have m : ∀ s, ¬ mI k 31 s = 0 → ¬ mI (wI k 31 (clr (b + 1) c) 1) 31 s = 0 := fun s hs => by
              rw [mI_wI]
              split
              · exact z1
              · exact hs
            refine ⟨i_vp cn.1 (by omega), ?_⟩
            rw [i_nat cn.1]
            refine ih2 (l2 + 1) (c + 1) _ (i_inc e2 (by omega)) (by omega) (by omega) (Ok_w ok (k := 31) (lo := 0) (hi := 1) rfl ⟨by decide, by decide⟩ (by decide) (nt_k (by decide))) (fun s hs hh => ?_) (fun s hs hh => m s (i2 s hs hh)) (fun s hs hb' hh t ht => m _ (i3 s hs hb' ?_ t ht)) (fun t ht => ?_)
            · by_cases w : s = clr (b + 1) c
              · obtain ⟨s', a1, a2, a3⟩ := i1 (b + 1) hb z
                subst w
                exact ⟨s', a1, a2, fun t ht hx => a3 t ht (clr_sbs (by omega) (by omega) t ht hx)⟩
              · rw [mI_wI, if_neg (fun x => w x.2)] at hh
                exact i1 s hs hh
            · rw [mI_wI, if_neg (fun x => by have := x.2; omega)] at hh
              exact hh
            · by_cases w : t = c
              · subst w
                rw [mI_wI, if_pos ⟨rfl, rfl⟩]
                exact z1
              · exact m _ (i4 t (by omega))
      exact L (n + 1) 0 0 k (by decide) (Nat.zero_le _) (by omega) ok i1 i2 i3 (fun t ht => absurd ht (Nat.not_lt_zero _))
  refine e_X5_spread (fun x1 ex => ?_)
  have ex1 : x1.toInt = ((2 ^ n - 1 : Nat) : Int) := by
    rw [ex, i_of en (by omega), i_sub (shl_n (n := n) (by omega)) (show (1 : Int32).toInt = 1 by decide) (by omega)]
    omega
  exact B (2 ^ n - 1) x1 h ex1 (by omega) (Ok_rf hG) (fun s hs hh => ⟨s, hs, (hE s hs).mp hh, fun _ _ q => q⟩) (fun s hs hh => (hE s hs).mpr hh) (fun s hs hb => absurd hb (by omega))
