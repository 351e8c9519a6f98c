/-! the reference's lines: run, names -/
theorem b_st_end {g : gT} {h : mh_T} {P : mh_T → Prop} {l : Nat} (l1 l2 : Int32) (hl : l < 4) (e1 : l1.toInt = (l : Int)) (hp : P (wI (wI h 46 (159 + l) l2) 46 158 ((mI h 46 158) + 1))) : ME g uX11_runLine 21 [.ref 11, .int l1, .int l2, .int 0, .retAddr 0] [] h (qV P) := by
  have i9 := i_1p (c := 159) (d := 159) e1 (by decide) (by omega) (by decide)
  refine r_X11_runLine_21 l1 l2 0 ⟨fun _ => ⟨i_vp i9 (by omega), ?_⟩, fun z => absurd rfl z⟩
  rw [i_nat i9, show Int32.toNatClampNeg 158 = 158 from by decide, mI_wI, if_neg (fun z => by have := z.2; omega)]
  exact hp
theorem b_st {g : gT} {h0 : mh_T} {P : mh_T → Prop} {T : Nat → Int32} {n l : Nat} (l1 : Int32) (hl : l < 4) (e1 : l1.toInt = (l : Int)) : ∀ (r : Nat) (l2 : Int32) (e : Nat) (f : Nat → Int32) (h : mh_T), Ms h0 T n e f h → (f 158).toInt = (l : Int) → r ≤ 6 → l2.toInt = ((6 - r : Nat) : Int) → (∀ h', Mo h0 T n (rx_st T n l r e f) h' → P h') → ME g uX11_runLine 21 [.ref 11, .int l1, .int l2, .int 1, .retAddr 0] [] h (qV P) := by
  have i0 : (0 : Int32).toInt = 0 := by decide
  have i1 : (1 : Int32).toInt = 1 := by decide
  have i6 : (6 : Int32).toInt = 6 := by decide
  intro r
  induction r with
  | zero =>
    intro l2 e f h c f158 hr e2 hp
    have e6 : l2 = 6 := Int32.toInt_inj.mp (by rw [e2]; decide)
    refine r_X11_runLine_21 l1 l2 1 ⟨fun z => absurd z (by decide), fun _ => ?_⟩
    refine b_namedL c 0 _ Un_0 (fun rr k en er hk _ => ⟨fun y => absurd c.2.2.2.2.2 y, fun _ => ⟨fun y => absurd e6 y, fun _ => b_wrong c 5 (fun mx => ⟨fun y => absurd y (Mx_ne mx), fun _ => hp _ (Mo_no mx ?_)⟩)⟩⟩) (fun rr k _ _ _ q => by cases q) (fun w hw en mx => ⟨fun _ => ⟨fun y => absurd y (Mx_ne mx), fun _ => hp _ (Mo_no mx ?_)⟩, fun y => absurd y (Mx_ne mx)⟩)
    · show rx_bind (rx_name T n true e f) _ = _
      rw [en]
      rfl
    · show rx_bind (rx_name T n true e f) _ = _
      rw [en]
      rfl
  | succ r ih =>
    intro l2 e f h c f158 hr e2 hp
    have e6 : ¬ l2 = 6 := fun q => by
      rw [q, i6] at e2
      omega
    have m6 : (6 * l1).toInt = 6 * (l : Int) := by
      rw [Int32.toInt_mul, e1, i6, bm (by omega) (by omega)]
    have ia : ((163 + (6 * l1)) + l2).toInt = ((163 + 6 * l + (5 - r) : Nat) : Int) := by
      have b : (163 + (6 * l1)).toInt = 163 + 6 * (l : Int) := i_add (by decide) m6 (by omega)
      rw [i_add b e2 (by omega)]
      omega
    have ib : ((187 + (6 * l1)) + l2).toInt = ((187 + 6 * l + (5 - r) : Nat) : Int) := by
      have b : (187 + (6 * l1)).toInt = 187 + 6 * (l : Int) := i_add (by decide) m6 (by omega)
      rw [i_add b e2 (by omega)]
      omega
    have va := i_vp (n := 346) ia (by omega)
    have vb := i_vp (n := 346) ib (by omega)
    have ra := rgp_46_12 (j := 163 + 6 * l + (5 - r)) (by omega) (by omega)
    have rb := rgp_46_13 (j := 187 + 6 * l + (5 - r)) (by omega) (by omega)
    have rc := rgp_46_11 (j := 159 + l) (by omega) (by omega)
    have e2' : (l2 + 1).toInt = ((6 - r : Nat) : Int) := by
      rw [i_inc e2 (by omega)]
      omega
    have o2 : l2 + 1 = Int32.ofNat (6 - r) := i_of e2' (by omega)
    have f158' := i_inc f158 (by omega)
    refine r_X11_runLine_21 l1 l2 1 ⟨fun z => absurd z (by decide), fun _ => ?_⟩
    refine b_namedL c 0 _ Un_0 (fun rr k en er hk _ => ⟨fun y => absurd c.2.2.2.2.2 y, fun _ => ⟨fun _ => ⟨fun _ => b_nx c (fun h2 c2 => ⟨va, ?_⟩), fun y => absurd c.2.2.2.2.2 y⟩, fun y => absurd y e6⟩⟩) (fun rr k _ _ _ q => by cases q) (fun w hw en mx => ⟨fun _ => ⟨fun y => absurd y (Mx_ne mx), fun _ => hp _ (Mo_no mx ?_)⟩, fun y => absurd y (Mx_ne mx)⟩)
    · rw [i_nat ia]
      have er2 : rr = Int32.ofNat k := i_of er (by omega)
      have ca := Ms_w c2 ra (v := rr) ⟨by omega, by omega⟩
      have eo : rx_st T n l (r + 1) e f = rx_bind (rx_num T n 0 1 (rx_e T n e) f) (fun v e2 f2 => if rx_k T n e2 = 44 then rx_st T n l r (rx_e T n e2) (rx_set (rx_set f2 (163 + 6 * l + (5 - r)) (Int32.ofNat k)) (187 + 6 * l + (5 - r)) v) else .inr ((), e2, rx_set (rx_set (rx_set (rx_set f2 (163 + 6 * l + (5 - r)) (Int32.ofNat k)) (187 + 6 * l + (5 - r)) v) (159 + l) (Int32.ofNat (6 - r))) 158 (f 158 + 1))) := by
        show rx_bind (rx_name T n true e f) _ = _
        rw [en]
        rfl
      rw [eo] at hp
      have ncg : ∀ lo hi : Int32, ∀ e0 : Nat, ∀ f' : Nat → Int32, (∀ v, rx_num T n lo hi e0 f' = .inr (v, rx_e T n e0, f') → rx_num T n lo hi e0 f = .inr (v, rx_e T n e0, f)) ∧ (∀ w, rx_num T n lo hi e0 f' = rx_no T n e0 w → rx_num T n lo hi e0 f = rx_no T n e0 w) := by
        intro lo hi e0 f'
        unfold rx_num rx_no
        split
        · exact ⟨fun v z => (by cases z), fun w z => z⟩
        · split
          · exact ⟨fun v z => (by cases z; rfl), fun w z => (by cases z)⟩
          · exact ⟨fun v z => (by cases z), fun w z => z⟩
      refine b_number 0 1 ca (fun en2 k3 vr h3 c3 => ⟨vb, ?_⟩) (fun w hw en2 mx => ⟨vb, ?_⟩)
      · rw [i_nat ib]
        rw [(ncg 0 1 _ _).1 _ en2] at hp
        change ∀ h', Mo h0 T n (if rx_k T n (rx_e T n (rx_e T n e)) = 44 then rx_st T n l r (rx_e T n (rx_e T n (rx_e T n e))) (rx_set (rx_set f (163 + 6 * l + (5 - r)) (Int32.ofNat k)) (187 + 6 * l + (5 - r)) (rx_v T n (rx_e T n e))) else .inr ((), rx_e T n (rx_e T n e), rx_set (rx_set (rx_set (rx_set f (163 + 6 * l + (5 - r)) (Int32.ofNat k)) (187 + 6 * l + (5 - r)) (rx_v T n (rx_e T n e))) (159 + l) (Int32.ofNat (6 - r))) 158 (f 158 + 1))) h' → P h' at hp
        rw [← er2] at hp
        rw [i_le, i_le, i0, i1] at vr
        have cb := Ms_w c3 rb (v := rx_v T n (rx_e T n e)) ⟨by omega, by omega⟩
        refine b_comma cb (fun k44 h4 c4 => ?_) (fun k44 => ?_)
        · rw [if_pos k44] at hp
          refine ih (l2 + 1) _ _ _ c4 ?_ (by omega) e2' hp
          rw [rx_set_o (by omega), rx_set_o (by omega)]
          exact f158
        · rw [if_neg k44] at hp
          refine b_st_end l1 (l2 + 1) hl e1 ?_
          rw [cb.2.2.2.2.1 158 (by decide), rx_set_o (by omega), rx_set_o (by omega)]
          refine hp _ (Mo_ok (Ms_w (Ms_w cb rc (v := l2 + 1) ⟨by omega, by omega⟩) (lo := 0) (hi := 4) (by decide) (v := f 158 + 1) ⟨by omega, by omega⟩) ?_)
          rw [o2]
      · rw [i_nat ib]
        rw [(ncg 0 1 _ _).2 w en2] at hp
        have mb := Mx_w mx rb (v := 0) ⟨by decide, by decide⟩
        refine x_comma (Mx_ne mb) (b_st_end l1 (l2 + 1) hl e1 ?_)
        rw [mb.2.2.2.2 158 (by decide), rx_set_o (by omega), rx_set_o (by omega)]
        exact hp _ (Mo_no (Mx_w (Mx_w mb rc (v := l2 + 1) ⟨by omega, by omega⟩) (lo := 0) (hi := 4) (by decide) (v := f 158 + 1) ⟨by omega, by omega⟩) rfl)
    · show rx_bind (rx_name T n true e f) _ = _
      rw [en]
      rfl
theorem b_runLine {g : gT} {h0 h : mh_T} {P : mh_T → Prop} {T : Nat → Int32} {n e : Nat} {f : Nat → Int32} (c : Ms h0 T n e f h) (h8 : ¬ f 158 = 4) (hp : ∀ h', Mo h0 T n (rx_st T n (f 158).toNatClampNeg 6 e f) h' → P h') : MCv g yX11_runLine uX11_runLine [.ref 11] h P := by
  have c158 := c.2.2.2.2.1 158 (by decide)
  have r158 : R 0 4 (f 158) := by
    rw [← c158]
    exact GI_rd c.1.1 46 158 (by decide)
  obtain ⟨l, el, l0, l8⟩ := i_R r158 (by decide)
  have hl : l < 4 := by
    by_cases q : l = 4
    · exact absurd (Int32.toInt_inj.mp (by rw [el, q]; decide)) h8
    · omega
  rw [i_nat el] at hp
  refine e_X11_runLine ⟨fun _ x2 ex => ?_, fun y => absurd c.2.2.2.2.2 y⟩
  rw [show Int32.toNatClampNeg 158 = 158 from by decide, c158] at ex
  subst ex
  exact b_st _ hl el 6 0 e f h c el (Nat.le_refl _) (by decide) hp
/-- the first k letters of a new name -/
def rx_pp (T : Nat → Int32) (n e : Nat) (f : Nat → Int32) (J k : Nat) : Nat → Int32 := fun i => if 226 + 8 * J ≤ i ∧ i < 226 + 8 * J + k then T (rx_s T n e + (i - (226 + 8 * J))) else f i
theorem rx_pp_0 {T : Nat → Int32} {n e J : Nat} {f : Nat → Int32} : rx_pp T n e f J 0 = f := by
  funext i
  unfold rx_pp
  rw [if_neg (by omega)]
theorem rx_pp_s {T : Nat → Int32} {n e J k : Nat} {f : Nat → Int32} : rx_set (rx_pp T n e f J k) (226 + 8 * J + k) (T (rx_s T n e + k)) = rx_pp T n e f J (k + 1) := by
  funext i
  unfold rx_set rx_pp
  by_cases q : i = 226 + 8 * J + k
  · rw [if_pos q, if_pos (by omega), show i - (226 + 8 * J) = k by omega]
  · rw [if_neg q]
    by_cases z : 226 + 8 * J ≤ i ∧ i < 226 + 8 * J + k
    · rw [if_pos z, if_pos (by omega)]
    · rw [if_neg z, if_neg (by omega)]
theorem rx_pp_e {T : Nat → Int32} {n e J : Nat} {f : Nat → Int32} : rx_set (rx_pp T n e f J (rx_e T n e - rx_s T n e)) (211 + J) (Int32.ofNat (rx_e T n e - rx_s T n e)) = rx_put T n e f J := rfl
theorem b_nn_93 {g : gT} {h0 : mh_T} {P : mh_T → Prop} {T : Nat → Int32} {n e J ci : Nat} {f : Nat → Int32} (l1 l2 l3 l4 l5 : Int32) (k2 : rx_k T n e = 2) (hJ : J < 15) (e5 : l5.toInt = (J : Int)) (hc : ci = 50 ∨ ci = 51) (e1 : l1.toInt = (ci : Int)) {lo hi : Int} (er : rgT 46 ci = (lo, hi)) (fr : R lo hi (f ci + 1)) (hp : ∀ h1, Ms h0 T n (rx_e T n e) (rx_set (rx_put T n e f J) ci (f ci + 1)) h1 → MCi g yX11_comma uX11_comma [.ref 11] h1 (fun r7 h6 => ME g uX11_newNames 14 [.ref 11, .int l1, .int l2, .int l3, .int r7, .retAddr 0, .retAddr 0] [] h6 (qV P))) : ∀ (m : Nat) (l6 : Int32) (k : Nat) (h : mh_T), Ms h0 T n e (rx_pp T n e f J k) h → l6.toInt = (k : Int) → k ≤ rx_e T n e - rx_s T n e → 8 - k < m → ME g uX11_newNames 93 [.ref 11, .int l1, .int l2, .int l3, .int l4, .int l5, .int l6] [] h (qV P) := by
  obtain ⟨-, k1, k8, kl⟩ := rx_k2 k2
  intro m
  induction m with
  | zero => intro l6 k h _ _ _ hm; exact absurd hm (Nat.not_lt_zero _)
  | succ m ih =>
    intro l6 k h c e6 hk hm
    obtain ⟨e8, el⟩ := c.2.2.1.2.2.2.2 k2
    have i211 := i_1p (c := 211) (d := 211) e5 (by decide) (by omega) (by decide)
    have q8 : mI h 11 8 = Int32.ofNat (rx_e T n e - rx_s T n e) := i_of e8 (by omega)
    refine r_X11_newNames_93 l1 l2 l3 l4 l5 l6 ⟨fun z => ⟨i_vp i211 (by omega), i_vp e1 (by omega), i_vp e1 (by omega), ?_⟩, fun z => ?_⟩
    · rw [i_le, e8, e6] at z
      have ek : k = rx_e T n e - rx_s T n e := by omega
      subst ek
      rw [i_nat i211, i_nat e1, q8]
      have ca := Ms_w c (rgp_46_14 (j := 211 + J) (by omega) (by omega)) (v := Int32.ofNat (rx_e T n e - rx_s T n e)) (by rw [← q8]; exact ⟨by omega, by omega⟩)
      rw [rx_pp_e] at ca
      have ec : rx_put T n e f J ci = f ci := by
        unfold rx_put
        rw [if_neg (by omega), if_neg (by omega)]
      rw [ca.2.2.2.2.1 ci (by omega), ec]
      exact b_nx (Ms_w ca er fr) hp
    · rw [i_le, e8, e6] at z
      have i8 : (8 * l5).toInt = ((8 * J : Nat) : Int) := by
        rw [Int32.toInt_mul, e5, show (8 : Int32).toInt = 8 from by decide, bm (by omega) (by omega)]
        omega
      have ia : (226 + 8 * l5).toInt = ((226 + 8 * J : Nat) : Int) := i_1p (c := 226) (d := 226) i8 (by decide) (by omega) (by decide)
      have ib : ((226 + 8 * l5) + l6).toInt = ((226 + 8 * J + k : Nat) : Int) := by
        rw [i_add ia e6 (by omega)]; omega
      refine ⟨i_vp e6 (by omega), i_vp ib (by omega), ?_⟩
      rw [i_nat ib, i_nat e6, el k (by omega)]
      have ca := Ms_w c (rgg_46_1 (j := 226 + 8 * J + k) (by omega) (by omega)) (v := T (rx_s T n e + k)) (R_full _)
      rw [rx_pp_s] at ca
      exact ih (l6 + 1) (k + 1) _ ca (i_inc e6 (by omega)) (by omega) (by omega)
theorem b_nn {g : gT} {h0 : mh_T} {P : mh_T → Prop} {T : Nat → Int32} {n ci fs mo : Nat} (l1 l2 l3 : Int32) (hq : (ci = 50 ∧ fs = 0 ∧ mo = 6) ∨ (ci = 51 ∧ fs = 6 ∧ mo = 9)) (e1 : l1.toInt = (ci : Int)) (e2 : l2.toInt = (fs : Int)) (e3 : l3.toInt = (mo : Int)) : ∀ (k : Nat) (l4 : Int32) (e : Nat) (f : Nat → Int32) (h : mh_T), ¬ l4 = 0 → Ms h0 T n e f h → (mo : Int) < (f ci).toInt + k → (∀ h', Mo h0 T n (rx_nn T n ci fs l3 k e f) h' → P h') → ME g uX11_newNames 14 [.ref 11, .int l1, .int l2, .int l3, .int l4, .retAddr 0, .retAddr 0] [] h (qV P) := by
  have i0 : (0 : Int32).toInt = 0 := by decide
  have rgc : rgT 46 ci = (0, (mo : Int)) := by
    rcases hq with ⟨a, b, d⟩ | ⟨a, b, d⟩ <;> subst a b d <;> decide
  intro k
  induction k with
  | zero =>
    intro l4 e f h _ c hf _
    exfalso
    have := GI_rd c.1.1 46 ci rgc
    rw [c.2.2.2.2.1 ci (by omega)] at this
    have := this.2
    omega
  | succ k ih =>
    intro l4 e f h h4 c hf hp
    have rf := GI_rd c.1.1 46 ci rgc
    rw [c.2.2.2.2.1 ci (by omega)] at rf
    obtain ⟨m, em, m0, mm⟩ := i_R rf (by decide)
    have c13 := c.2.2.2.2.2
    have v1 := i_vp (n := 346) e1 (by omega)
    refine r_X11_newNames_14 l1 l2 l3 l4 ⟨fun z => absurd z h4, fun _ => b_mustName c (fun nm => ⟨fun y => absurd c13 y, fun _ => ?_⟩) (fun nm mx => ⟨fun _ => ⟨fun _ => ⟨fun y => absurd y (Mx_ne mx), fun _ => hp _ (Mo_no mx ?_)⟩, fun y => absurd y (Mx_ne mx)⟩, fun y => absurd y (Mx_ne mx)⟩)⟩
    · have k2 := (rx_nm_iff.mp nm).1
      refine b_find c k2 (fun r j fj er hj => ⟨fun y => ?_, fun y => b_wrong c 3 (fun mx => ⟨fun _ => ⟨fun y => absurd y (Mx_ne mx), fun _ => hp _ (Mo_no mx ?_)⟩, fun y => absurd y (Mx_ne mx)⟩)⟩) (fun fn => ⟨fun _ => ⟨fun y => absurd c13 y, fun _ => ⟨v1, ?_⟩⟩, fun y => absurd (by decide) y⟩)
      · rw [i_lt, er, i0] at y
        omega
      · show (if rx_nm T n e = true then (if (rx_fd T n e f).isSome = true then _ else _) else _) = _
        rw [if_pos nm, fj]
        rfl
      · rw [i_nat e1, c.2.2.2.2.1 ci (by omega)]
        have eo : rx_nn T n ci fs l3 (k + 1) e f = (if f ci = l3 then rx_no T n e 5 else (if rx_k T n (rx_e T n e) = 44 then rx_nn T n ci fs l3 k (rx_e T n (rx_e T n e)) (rx_set (rx_put T n e f (fs + (f ci).toNatClampNeg)) ci (f ci + 1)) else .inr ((), rx_e T n e, rx_set (rx_put T n e f (fs + (f ci).toNatClampNeg)) ci (f ci + 1)))) := by
          show (if rx_nm T n e = true then (if (rx_fd T n e f).isSome = true then _ else _) else _) = _
          rw [if_pos nm, fn]
          rfl
        rw [eo] at hp
        refine ⟨fun y => ⟨fun _ => ⟨v1, fun x ex => ?_⟩, fun q => absurd c13 q⟩, fun y => b_wrong c 5 (fun mx => ⟨fun q => absurd q (Mx_ne mx), fun _ => hp _ (Mo_no mx ?_)⟩)⟩
        · rw [if_neg y] at hp
          have hm : m < mo := by
            by_cases q : m = mo
            · exact absurd (Int32.toInt_inj.mp (by rw [em, e3, q])) y
            · omega
          have ex' : x.toInt = ((fs + m : Nat) : Int) := by
            rw [ex, i_add e2 em (by omega)]
            omega
          have em' := i_inc em (by omega)
          rw [i_nat em] at hp
          have cz : Ms h0 T n e (rx_pp T n e f (fs + m) 0) h := by
            rw [rx_pp_0]
            exact c
          refine b_nn_93 (f := f) (J := fs + m) (ci := ci) l1 l2 l3 l4 x k2 (by omega) ex' (by omega) e1 rgc ⟨by omega, by omega⟩ (fun h1 c1 => ?_) 9 0 0 h cz (by decide) (Nat.zero_le _) (by omega)
          refine b_comma c1 (fun k44 h2 c2 => ?_) (fun k44 => ?_)
          · rw [if_pos k44] at hp
            refine ih 1 _ _ _ (by decide) c2 ?_ hp
            rw [rx_set_i]
            omega
          · rw [if_neg k44] at hp
            exact r_X11_newNames_14 l1 l2 l3 0 ⟨fun _ => hp _ (Mo_ok c1 rfl), fun z => absurd rfl z⟩
        · rw [if_pos y]
    · show (if rx_nm T n e = true then _ else _) = _
      rw [if_neg nm]
theorem b_newNames {g : gT} {h0 h : mh_T} {P : mh_T → Prop} {T : Nat → Int32} {n e k ci fs mo : Nat} {f : Nat → Int32} (l1 l2 l3 : Int32) (hq : (ci = 50 ∧ fs = 0 ∧ mo = 6) ∨ (ci = 51 ∧ fs = 6 ∧ mo = 9)) (e1 : l1.toInt = (ci : Int)) (e2 : l2.toInt = (fs : Int)) (e3 : l3.toInt = (mo : Int)) (c : Ms h0 T n e f h) (hk : mo < k) (hp : ∀ h', Mo h0 T n (rx_nn T n ci fs l3 k e f) h' → P h') : MCv g yX11_newNames uX11_newNames [.ref 11, .int l1, .int l2, .int l3] h P := by
  have rgc : rgT 46 ci = (0, (mo : Int)) := by
    rcases hq with ⟨a, b, d⟩ | ⟨a, b, d⟩ <;> subst a b d <;> decide
  have rf := GI_rd c.1.1 46 ci rgc
  rw [c.2.2.2.2.1 ci (by omega)] at rf
  have := rf.1
  exact e_X11_newNames l1 l2 l3 ⟨fun y => absurd c.2.2.2.2.2 y, fun _ => b_nn l1 l2 l3 hq e1 e2 e3 k 1 e f h (by decide) c (by omega) hp⟩
theorem b_begins {g : gT} {h0 h : mh_T} {P : Int32 → mh_T → Prop} {T : Nat → Int32} {n e : Nat} {f : Nat → Int32} (l1 : Nat) (sl1 : l1 < nJS) (l2 l3 : Int32) (c : Ms h0 T n e f h) (h1 : rx_wd T n e (bytJS.getD l1 []) = true → ¬ l2 = 0 → ∀ h', Ms h0 T n (rx_e T n e) f h' → P 1 h') (hx : rx_wd T n e (bytJS.getD l1 []) = true → l2 = 0 → Mx h0 f l3 (rx_s T n e) (wr h l3) → P 1 (wr h l3)) (h0' : ¬ rx_wd T n e (bytJS.getD l1 []) = true → P 0 h) : MCi g yX11_begins uX11_begins [.ref 11, .ref (1000 + l1), .int l2, .int l3] h P :=
  e_X11_begins l1 l2 l3 sl1 (b_isWord l1 sl1 c (fun z => ⟨fun _ => ⟨fun y => ⟨fun x => absurd c.2.2.2.2.2 x, fun _ => b_nx c (h1 z y)⟩, fun y => b_wrong c l3 (fun mx => ⟨fun _ => hx z y mx, fun x => absurd x (Mx_ne mx)⟩)⟩, fun y => absurd y (by decide)⟩) (fun z => ⟨fun y => absurd rfl y, fun _ => h0' z⟩))
