set_option maxRecDepth 100000 in
theorem r_X6_next_0 {g : gT} {h : mh_T} {P : mh_T → Prop}  (q : ((mI h 1 6) ≤ (mI h 1 7) → ME g uX6_next 56 [.ref 1] [] (wI (wL (wI h 1 9 (mI h 1 7)) 1 10 0) 1 11 0) (qV P)) ∧ (¬ (mI h 1 6) ≤ (mI h 1 7) → (vp_in (mI h 1 7) 900) ∧ ((¬ (mI h 12 (mI h 1 7).toNatClampNeg) = 32 → ME g uX6_next 56 [.ref 1] [] (wI (wL (wI h 1 9 (mI h 1 7)) 1 10 0) 1 11 0) (qV P)) ∧ ((mI h 12 (mI h 1 7).toNatClampNeg) = 32 → ME g uX6_next 0 [.ref 1] [] (wI h 1 7 ((mI h 1 7) + 1)) (qV P))))) : ME g uX6_next 0 [.ref 1] [] h (qV P) := by
  refine m_aload_n dX6_next_0 rfl ?_
  refine gf_X6_48 rfl dX6_next_1 ?_
  refine m_aload_n dX6_next_4 rfl ?_
  refine gf_X6_45 rfl dX6_next_5 ?_
  refine m_icmp_ge 38 dX6_next_8 (by decide) (fun c1 => ?_) (fun c1 => ?_)
  · replace q := q.1 c1
    refine m_aload_n dX6_next_38 rfl ?_
    refine m_aload_n dX6_next_39 rfl ?_
    refine gf_X6_48 rfl dX6_next_40 ?_
    refine pf_X6_189 rfl dX6_next_43 ?_
    refine m_aload_n dX6_next_46 rfl ?_
    refine m_lconst (v := 0) dX6_next_47 (by decide) ?_
    refine pf_X6_131 rfl dX6_next_48 ?_
    refine m_aload_n dX6_next_51 rfl ?_
    refine m_iconst (v := 0) dX6_next_52 (by decide) ?_
    refine pf_X6_122 rfl dX6_next_53 ?_
    exact q
  · replace q := q.2 c1
    refine m_aload_n dX6_next_11 rfl ?_
    refine gf_X6_25 rfl dX6_next_12 ?_
    refine m_aload_n dX6_next_15 rfl ?_
    refine gf_X6_48 rfl dX6_next_16 ?_
    obtain ⟨b2, q⟩ := q
    refine m_iaload dX6_next_19 rfl (by decide) b2 ?_
    refine m_bipush (v := 32) dX6_next_20 (by decide) ?_
    refine m_icmp_ne 38 dX6_next_22 (by decide) (fun c3 => ?_) (fun c3 => ?_)
    · replace q := q.1 c3
      refine m_aload_n dX6_next_38 rfl ?_
      refine m_aload_n dX6_next_39 rfl ?_
      refine gf_X6_48 rfl dX6_next_40 ?_
      refine pf_X6_189 rfl dX6_next_43 ?_
      refine m_aload_n dX6_next_46 rfl ?_
      refine m_lconst (v := 0) dX6_next_47 (by decide) ?_
      refine pf_X6_131 rfl dX6_next_48 ?_
      refine m_aload_n dX6_next_51 rfl ?_
      refine m_iconst (v := 0) dX6_next_52 (by decide) ?_
      refine pf_X6_122 rfl dX6_next_53 ?_
      exact q
    · replace q := q.2 c3
      refine m_aload_n dX6_next_25 rfl ?_
      refine m_dup dX6_next_26 rfl ?_
      refine gf_X6_48 rfl dX6_next_27 ?_
      refine m_iconst (v := 1) dX6_next_30 (by decide) ?_
      refine m_iadd dX6_next_31 ?_
      refine pf_X6_48 rfl dX6_next_32 ?_
      refine m_goto 0 dX6_next_35 (by decide) ?_
      exact q
