set_option maxRecDepth 100000 in
set_option maxHeartbeats 4000000 in
theorem lc_17 {g : gT} {h : mh_T} {Q : Nat × Nat} (i : Int32) (k : Nat) (ei : i.toInt = (k : Int)) (hk : k + 7 ≤ gN g) (hN : gN g ≤ 3584) (hJ : JJ h) (he : RR h) (hq : Q.1 ≤ 601024 ∧ Q.2 ≤ 7293034) (K : ∀ h', JJ h' → RR h' → LE g uL 1583 [.ref 900, .ref 0, .ref 11, .ref 61, .int i, .retAddr 0, .retAddr 0] [] h' Q) : LE g uL 791 [.ref 900, .ref 0, .ref 11, .ref 61, .int i, .retAddr 0, .retAddr 0] [] h Q := by
  refine l_aload_n dL_law_791 rfl ?_
  refine cl_L_93 dL_law_792 hq (Nat.le_of_ble_eq_true rfl) (LCi_go (P := fun r h' => LE g uL 795 [.ref 900, .ref 0, .ref 11, .ref 61, .int i, .retAddr 0, .retAddr 0] (.int r :: []) h' Q) ?_ (fun _ _ q => q))
  refine k_X10_wins  hJ (fun r1 h1 hJ1 s1 => ?_)
  refine l_pop dL_law_795 rfl ?_
  refine l_aload_n dL_law_796 rfl ?_
  refine cl_L_96 dL_law_797 hq (Nat.le_of_ble_eq_true rfl) (LCi_go (P := fun r h' => LE g uL 800 [.ref 900, .ref 0, .ref 11, .ref 61, .int i, .retAddr 0, .retAddr 0] (.int r :: []) h' Q) ?_ (fun _ _ q => q))
  refine k_X11_wins  hJ1 (fun r2 h2 hJ2 s2 => ?_)
  refine l_pop dL_law_800 rfl ?_
  refine l_goto 1583 dL_law_801 (by decide) ?_
  exact K h2 hJ2 (RR_s hJ1 s2 (RR_s hJ s1 he))
set_option maxRecDepth 100000 in
set_option maxHeartbeats 4000000 in
theorem lc_18 {g : gT} {h : mh_T} {Q : Nat × Nat} (i : Int32) (k : Nat) (ei : i.toInt = (k : Int)) (hk : k + 7 ≤ gN g) (hN : gN g ≤ 3584) (hJ : JJ h) (he : RR h) (hq : Q.1 ≤ 601024 ∧ Q.2 ≤ 7293034) (K : ∀ h', JJ h' → RR h' → LE g uL 1583 [.ref 900, .ref 0, .ref 11, .ref 61, .int i, .retAddr 0, .retAddr 0] [] h' Q) : LE g uL 804 [.ref 900, .ref 0, .ref 11, .ref 61, .int i, .retAddr 0, .retAddr 0] [] h Q := by
  refine l_aload_n dL_law_804 rfl ?_
  refine cl_L_97 dL_law_805 hq (Nat.le_of_ble_eq_true rfl) (LCi_go (P := fun r h' => LE g uL 808 [.ref 900, .ref 0, .ref 11, .ref 61, .int i, .retAddr 0, .retAddr 0] (.int r :: []) h' Q) ?_ (fun _ _ q => q))
  refine k_X10_worst  hJ (fun r1 h1 hJ1 s1 => ?_)
  refine l_pop dL_law_808 rfl ?_
  refine l_aload_n dL_law_809 rfl ?_
  refine cl_L_100 dL_law_810 hq (Nat.le_of_ble_eq_true rfl) (LCi_go (P := fun r h' => LE g uL 813 [.ref 900, .ref 0, .ref 11, .ref 61, .int i, .retAddr 0, .retAddr 0] (.int r :: []) h' Q) ?_ (fun _ _ q => q))
  refine k_X11_worst  hJ1 (fun r2 h2 hJ2 s2 => ?_)
  refine l_pop dL_law_813 rfl ?_
  refine l_goto 1583 dL_law_814 (by decide) ?_
  exact K h2 hJ2 (RR_s hJ1 s2 (RR_s hJ s1 he))
set_option maxRecDepth 100000 in
set_option maxHeartbeats 4000000 in
theorem lc_19 {g : gT} {h : mh_T} {Q : Nat × Nat} (i : Int32) (k : Nat) (ei : i.toInt = (k : Int)) (hk : k + 7 ≤ gN g) (hN : gN g ≤ 3584) (hJ : JJ h) (he : RR h) (hq : Q.1 ≤ 601024 ∧ Q.2 ≤ 7293034) (K : ∀ h', JJ h' → RR h' → LE g uL 1583 [.ref 900, .ref 0, .ref 11, .ref 61, .int i, .retAddr 0, .retAddr 0] [] h' Q) : LE g uL 817 [.ref 900, .ref 0, .ref 11, .ref 61, .int i, .retAddr 0, .retAddr 0] [] h Q := by
  refine l_aload_n dL_law_817 rfl ?_
  refine cl_L_101 dL_law_818 hq (Nat.le_of_ble_eq_true rfl) (LCi_go (P := fun r h' => LE g uL 821 [.ref 900, .ref 0, .ref 11, .ref 61, .int i, .retAddr 0, .retAddr 0] (.int r :: []) h' Q) ?_ (fun _ _ q => q))
  refine k_X10_worstAt  hJ (fun r1 h1 hJ1 s1 => ?_)
  refine l_pop dL_law_821 rfl ?_
  refine l_aload_n dL_law_822 rfl ?_
  refine cl_L_104 dL_law_823 hq (Nat.le_of_ble_eq_true rfl) (LCi_go (P := fun r h' => LE g uL 826 [.ref 900, .ref 0, .ref 11, .ref 61, .int i, .retAddr 0, .retAddr 0] (.int r :: []) h' Q) ?_ (fun _ _ q => q))
  refine k_X11_worstAt  hJ1 (fun r2 h2 hJ2 s2 => ?_)
  refine l_pop dL_law_826 rfl ?_
  refine l_goto 1583 dL_law_827 (by decide) ?_
  exact K h2 hJ2 (RR_s hJ1 s2 (RR_s hJ s1 he))
set_option maxRecDepth 100000 in
set_option maxHeartbeats 4000000 in
theorem lc_20 {g : gT} {h : mh_T} {Q : Nat × Nat} (i : Int32) (k : Nat) (ei : i.toInt = (k : Int)) (hk : k + 7 ≤ gN g) (hN : gN g ≤ 3584) (hJ : JJ h) (he : RR h) (hq : Q.1 ≤ 601024 ∧ Q.2 ≤ 7293034) (K : ∀ h', JJ h' → RR h' → LE g uL 1583 [.ref 900, .ref 0, .ref 11, .ref 61, .int i, .retAddr 0, .retAddr 0] [] h' Q) : LE g uL 830 [.ref 900, .ref 0, .ref 11, .ref 61, .int i, .retAddr 0, .retAddr 0] [] h Q := by
  refine l_aload_n dL_law_830 rfl ?_
  refine cl_L_105 dL_law_831 hq (Nat.le_of_ble_eq_true rfl) (LCi_go (P := fun r h' => LE g uL 834 [.ref 900, .ref 0, .ref 11, .ref 61, .int i, .retAddr 0, .retAddr 0] (.int r :: []) h' Q) ?_ (fun _ _ q => q))
  refine k_X10_bars  hJ (fun r1 h1 hJ1 s1 => ?_)
  refine l_pop dL_law_834 rfl ?_
  refine l_aload_n dL_law_835 rfl ?_
  refine cl_L_108 dL_law_836 hq (Nat.le_of_ble_eq_true rfl) (LCi_go (P := fun r h' => LE g uL 839 [.ref 900, .ref 0, .ref 11, .ref 61, .int i, .retAddr 0, .retAddr 0] (.int r :: []) h' Q) ?_ (fun _ _ q => q))
  refine k_X11_bars  hJ1 (fun r2 h2 hJ2 s2 => ?_)
  refine l_pop dL_law_839 rfl ?_
  refine l_goto 1583 dL_law_840 (by decide) ?_
  exact K h2 hJ2 (RR_s hJ1 s2 (RR_s hJ s1 he))
set_option maxRecDepth 100000 in
set_option maxHeartbeats 4000000 in
theorem lc_21 {g : gT} {h : mh_T} {Q : Nat × Nat} (i : Int32) (k : Nat) (ei : i.toInt = (k : Int)) (hk : k + 7 ≤ gN g) (hN : gN g ≤ 3584) (hJ : JJ h) (he : RR h) (hq : Q.1 ≤ 601024 ∧ Q.2 ≤ 7293034) (K : ∀ h', JJ h' → RR h' → LE g uL 1583 [.ref 900, .ref 0, .ref 11, .ref 61, .int i, .retAddr 0, .retAddr 0] [] h' Q) : LE g uL 843 [.ref 900, .ref 0, .ref 11, .ref 61, .int i, .retAddr 0, .retAddr 0] [] h Q := by
  have hin1 : vp_in (i + 1) (gN g) := l_in ei (c := 1) (d := 1) (by decide) (by omega) (by omega)
  refine l_aload_n dL_law_843 rfl ?_
  refine l_aload_n dL_law_844 rfl ?_
  refine l_iload dL_law_845 rfl ?_
  refine l_iconst (v := 1) dL_law_847 (by decide) ?_
  refine l_iadd dL_law_848 ?_
  refine l_sld dL_law_849 hin1 ?_
  suffices hj1 : ∀ v1 : Int32, v1 = (if (gx g (i + 1).toNatClampNeg) = 0 then 0 else 1) → LE g uL 858 [.ref 900, .ref 0, .ref 11, .ref 61, .int i, .retAddr 0, .retAddr 0] [.int v1, .ref 0] h Q from l_if_eq 857 dL_law_850 (by decide) (fun z => l_iconst (v := 0) dL_law_857 (by decide) (hj1 0 (if_pos z).symm)) (fun z => l_iconst (v := 1) dL_law_853 (by decide) (l_goto 858 dL_law_854 (by decide) (hj1 1 (if_neg z).symm)))
  intro v1 hv1
  refine cl_L_109 dL_law_858 hq (Nat.le_of_ble_eq_true rfl) (LCi_go (P := fun r h' => LE g uL 861 [.ref 900, .ref 0, .ref 11, .ref 61, .int i, .retAddr 0, .retAddr 0] (.int r :: []) h' Q) ?_ (fun _ _ q => q))
  refine k_X10_fair v1 hJ (fun r1 h1 hJ1 s1 => ?_)
  refine l_pop dL_law_861 rfl ?_
  refine l_aload_n dL_law_862 rfl ?_
  refine l_aload_n dL_law_863 rfl ?_
  refine l_iload dL_law_864 rfl ?_
  refine l_iconst (v := 1) dL_law_866 (by decide) ?_
  refine l_iadd dL_law_867 ?_
  refine l_sld dL_law_868 hin1 ?_
  suffices hj2 : ∀ v2 : Int32, v2 = (if (gx g (i + 1).toNatClampNeg) = 0 then 0 else 1) → LE g uL 877 [.ref 900, .ref 0, .ref 11, .ref 61, .int i, .retAddr 0, .retAddr 0] [.int v2, .ref 11] h1 Q from l_if_eq 876 dL_law_869 (by decide) (fun z => l_iconst (v := 0) dL_law_876 (by decide) (hj2 0 (if_pos z).symm)) (fun z => l_iconst (v := 1) dL_law_872 (by decide) (l_goto 877 dL_law_873 (by decide) (hj2 1 (if_neg z).symm)))
  intro v2 hv2
  rw [show v2 = v1 from hv2.trans hv1.symm]
  refine cl_L_112 dL_law_877 hq (Nat.le_of_ble_eq_true rfl) (LCi_go (P := fun r h' => LE g uL 880 [.ref 900, .ref 0, .ref 11, .ref 61, .int i, .retAddr 0, .retAddr 0] (.int r :: []) h' Q) ?_ (fun _ _ q => q))
  refine k_X11_fair v1 hJ1 (fun r2 h2 hJ2 s2 => ?_)
  refine l_pop dL_law_880 rfl ?_
  refine l_goto 1583 dL_law_881 (by decide) ?_
  exact K h2 hJ2 (RR_s hJ1 s2 (RR_s hJ s1 he))
set_option maxRecDepth 100000 in
set_option maxHeartbeats 4000000 in
theorem lc_22 {g : gT} {h : mh_T} {Q : Nat × Nat} (i : Int32) (k : Nat) (ei : i.toInt = (k : Int)) (hk : k + 7 ≤ gN g) (hN : gN g ≤ 3584) (hJ : JJ h) (he : RR h) (hq : Q.1 ≤ 601024 ∧ Q.2 ≤ 7293034) (K : ∀ h', JJ h' → RR h' → LE g uL 1583 [.ref 900, .ref 0, .ref 11, .ref 61, .int i, .retAddr 0, .retAddr 0] [] h' Q) : LE g uL 884 [.ref 900, .ref 0, .ref 11, .ref 61, .int i, .retAddr 0, .retAddr 0] [] h Q := by
  refine l_aload_n dL_law_884 rfl ?_
  refine cl_L_113 dL_law_885 hq (Nat.le_of_ble_eq_true rfl) (LCi_go (P := fun r h' => LE g uL 888 [.ref 900, .ref 0, .ref 11, .ref 61, .int i, .retAddr 0, .retAddr 0] (.int r :: []) h' Q) ?_ (fun _ _ q => q))
  refine k_X10_ways  hJ (fun r1 h1 hJ1 s1 => ?_)
  refine l_pop dL_law_888 rfl ?_
  refine l_aload_n dL_law_889 rfl ?_
  refine cl_L_116 dL_law_890 hq (Nat.le_of_ble_eq_true rfl) (LCi_go (P := fun r h' => LE g uL 893 [.ref 900, .ref 0, .ref 11, .ref 61, .int i, .retAddr 0, .retAddr 0] (.int r :: []) h' Q) ?_ (fun _ _ q => q))
  refine k_X11_ways  hJ1 (fun r2 h2 hJ2 s2 => ?_)
  refine l_pop dL_law_893 rfl ?_
  refine l_goto 1583 dL_law_894 (by decide) ?_
  exact K h2 hJ2 (RR_s hJ1 s2 (RR_s hJ s1 he))
set_option maxRecDepth 100000 in
set_option maxHeartbeats 4000000 in
theorem lc_23 {g : gT} {h : mh_T} {Q : Nat × Nat} (i : Int32) (k : Nat) (ei : i.toInt = (k : Int)) (hk : k + 7 ≤ gN g) (hN : gN g ≤ 3584) (hJ : JJ h) (he : RR h) (hq : Q.1 ≤ 601024 ∧ Q.2 ≤ 7293034) (K : ∀ h', JJ h' → RR h' → LE g uL 1583 [.ref 900, .ref 0, .ref 11, .ref 61, .int i, .retAddr 0, .retAddr 0] [] h' Q) : LE g uL 897 [.ref 900, .ref 0, .ref 11, .ref 61, .int i, .retAddr 0, .retAddr 0] [] h Q := by
  have hin1 : vp_in (i + 1) (gN g) := l_in ei (c := 1) (d := 1) (by decide) (by omega) (by omega)
  refine l_aload_n dL_law_897 rfl ?_
  refine l_aload_n dL_law_898 rfl ?_
  refine l_iload dL_law_899 rfl ?_
  refine l_iconst (v := 1) dL_law_901 (by decide) ?_
  refine l_iadd dL_law_902 ?_
  refine l_sld dL_law_903 hin1 ?_
  refine cl_L_117 dL_law_904 hq (Nat.le_of_ble_eq_true rfl) (LCi_go (P := fun r h' => LE g uL 907 [.ref 900, .ref 0, .ref 11, .ref 61, .int i, .retAddr 0, .retAddr 0] (.int r :: []) h' Q) ?_ (fun _ _ q => q))
  refine k_X10_forced (gx g (i + 1).toNatClampNeg) hJ (fun r1 h1 hJ1 s1 => ?_)
  refine l_pop dL_law_907 rfl ?_
  refine l_aload_n dL_law_908 rfl ?_
  refine l_aload_n dL_law_909 rfl ?_
  refine l_iload dL_law_910 rfl ?_
  refine l_iconst (v := 1) dL_law_912 (by decide) ?_
  refine l_iadd dL_law_913 ?_
  refine l_sld dL_law_914 hin1 ?_
  refine cl_L_120 dL_law_915 hq (Nat.le_of_ble_eq_true rfl) (LCi_go (P := fun r h' => LE g uL 918 [.ref 900, .ref 0, .ref 11, .ref 61, .int i, .retAddr 0, .retAddr 0] (.int r :: []) h' Q) ?_ (fun _ _ q => q))
  refine k_X11_forced (gx g (i + 1).toNatClampNeg) hJ1 (fun r2 h2 hJ2 s2 => ?_)
  refine l_pop dL_law_918 rfl ?_
  refine l_goto 1583 dL_law_919 (by decide) ?_
  exact K h2 hJ2 (RR_s hJ1 s2 (RR_s hJ s1 he))
set_option maxRecDepth 100000 in
set_option maxHeartbeats 4000000 in
theorem lc_24 {g : gT} {h : mh_T} {Q : Nat × Nat} (i : Int32) (k : Nat) (ei : i.toInt = (k : Int)) (hk : k + 7 ≤ gN g) (hN : gN g ≤ 3584) (hJ : JJ h) (he : RR h) (hq : Q.1 ≤ 601024 ∧ Q.2 ≤ 7293034) (K : ∀ h', JJ h' → RR h' → LE g uL 1583 [.ref 900, .ref 0, .ref 11, .ref 61, .int i, .retAddr 0, .retAddr 0] [] h' Q) : LE g uL 922 [.ref 900, .ref 0, .ref 11, .ref 61, .int i, .retAddr 0, .retAddr 0] [] h Q := by
  refine l_aload_n dL_law_922 rfl ?_
  refine cl_L_121 dL_law_923 hq (Nat.le_of_ble_eq_true rfl) (LCi_go (P := fun r h' => LE g uL 926 [.ref 900, .ref 0, .ref 11, .ref 61, .int i, .retAddr 0, .retAddr 0] (.int r :: []) h' Q) ?_ (fun _ _ q => q))
  refine k_X10_core  hJ (fun r1 h1 hJ1 s1 => ?_)
  refine l_pop dL_law_926 rfl ?_
  refine l_aload_n dL_law_927 rfl ?_
  refine cl_L_124 dL_law_928 hq (Nat.le_of_ble_eq_true rfl) (LCi_go (P := fun r h' => LE g uL 931 [.ref 900, .ref 0, .ref 11, .ref 61, .int i, .retAddr 0, .retAddr 0] (.int r :: []) h' Q) ?_ (fun _ _ q => q))
  refine k_X11_core  hJ1 (fun r2 h2 hJ2 s2 => ?_)
  refine l_pop dL_law_931 rfl ?_
  refine l_goto 1583 dL_law_932 (by decide) ?_
  exact K h2 hJ2 (RR_s hJ1 s2 (RR_s hJ s1 he))
set_option maxRecDepth 100000 in
set_option maxHeartbeats 4000000 in
theorem lc_25 {g : gT} {h : mh_T} {Q : Nat × Nat} (i : Int32) (k : Nat) (ei : i.toInt = (k : Int)) (hk : k + 7 ≤ gN g) (hN : gN g ≤ 3584) (hJ : JJ h) (he : RR h) (hq : Q.1 ≤ 601024 ∧ Q.2 ≤ 7293034) (K : ∀ h', JJ h' → RR h' → LE g uL 1583 [.ref 900, .ref 0, .ref 11, .ref 61, .int i, .retAddr 0, .retAddr 0] [] h' Q) : LE g uL 935 [.ref 900, .ref 0, .ref 11, .ref 61, .int i, .retAddr 0, .retAddr 0] [] h Q := by
  have hin1 : vp_in (i + 1) (gN g) := l_in ei (c := 1) (d := 1) (by decide) (by omega) (by omega)
  refine l_aload_n dL_law_935 rfl ?_
  refine l_aload_n dL_law_936 rfl ?_
  refine l_iload dL_law_937 rfl ?_
  refine l_iconst (v := 1) dL_law_939 (by decide) ?_
  refine l_iadd dL_law_940 ?_
  refine l_sld dL_law_941 hin1 ?_
  refine cl_L_125 dL_law_942 hq (Nat.le_of_ble_eq_true rfl) (LCi_go (P := fun r h' => LE g uL 945 [.ref 900, .ref 0, .ref 11, .ref 61, .int i, .retAddr 0, .retAddr 0] (.int r :: []) h' Q) ?_ (fun _ _ q => q))
  refine k_X10_can (gx g (i + 1).toNatClampNeg) hJ (fun r1 h1 hJ1 s1 => ?_)
  refine l_pop dL_law_945 rfl ?_
  refine l_aload_n dL_law_946 rfl ?_
  refine l_aload_n dL_law_947 rfl ?_
  refine l_iload dL_law_948 rfl ?_
  refine l_iconst (v := 1) dL_law_950 (by decide) ?_
  refine l_iadd dL_law_951 ?_
  refine l_sld dL_law_952 hin1 ?_
  refine cl_L_128 dL_law_953 hq (Nat.le_of_ble_eq_true rfl) (LCi_go (P := fun r h' => LE g uL 956 [.ref 900, .ref 0, .ref 11, .ref 61, .int i, .retAddr 0, .retAddr 0] (.int r :: []) h' Q) ?_ (fun _ _ q => q))
  refine k_X11_can (gx g (i + 1).toNatClampNeg) hJ1 (fun r2 h2 hJ2 s2 => ?_)
  refine l_pop dL_law_956 rfl ?_
  refine l_goto 1583 dL_law_957 (by decide) ?_
  exact K h2 hJ2 (RR_s hJ1 s2 (RR_s hJ s1 he))
set_option maxRecDepth 100000 in
set_option maxHeartbeats 4000000 in
theorem lc_26 {g : gT} {h : mh_T} {Q : Nat × Nat} (i : Int32) (k : Nat) (ei : i.toInt = (k : Int)) (hk : k + 7 ≤ gN g) (hN : gN g ≤ 3584) (hJ : JJ h) (he : RR h) (hq : Q.1 ≤ 601024 ∧ Q.2 ≤ 7293034) (K : ∀ h', JJ h' → RR h' → LE g uL 1583 [.ref 900, .ref 0, .ref 11, .ref 61, .int i, .retAddr 0, .retAddr 0] [] h' Q) : LE g uL 960 [.ref 900, .ref 0, .ref 11, .ref 61, .int i, .retAddr 0, .retAddr 0] [] h Q := by
  refine l_aload_n dL_law_960 rfl ?_
  refine cl_L_129 dL_law_961 hq (Nat.le_of_ble_eq_true rfl) (LCi_go (P := fun r h' => LE g uL 964 [.ref 900, .ref 0, .ref 11, .ref 61, .int i, .retAddr 0, .retAddr 0] (.int r :: []) h' Q) ?_ (fun _ _ q => q))
  refine k_X10_game  hJ (fun r1 h1 hJ1 s1 => ?_)
  refine l_pop dL_law_964 rfl ?_
  refine l_aload_n dL_law_965 rfl ?_
  refine cl_L_132 dL_law_966 hq (Nat.le_of_ble_eq_true rfl) (LCi_go (P := fun r h' => LE g uL 969 [.ref 900, .ref 0, .ref 11, .ref 61, .int i, .retAddr 0, .retAddr 0] (.int r :: []) h' Q) ?_ (fun _ _ q => q))
  refine k_X11_game  hJ1 (fun r2 h2 hJ2 s2 => ?_)
  refine l_pop dL_law_969 rfl ?_
  refine l_goto 1583 dL_law_970 (by decide) ?_
  exact K h2 hJ2 (RR_s hJ1 s2 (RR_s hJ s1 he))
set_option maxRecDepth 100000 in
set_option maxHeartbeats 4000000 in
theorem lc_27 {g : gT} {h : mh_T} {Q : Nat × Nat} (i : Int32) (k : Nat) (ei : i.toInt = (k : Int)) (hk : k + 7 ≤ gN g) (hN : gN g ≤ 3584) (hJ : JJ h) (he : RR h) (hq : Q.1 ≤ 601024 ∧ Q.2 ≤ 7293034) (K : ∀ h', JJ h' → RR h' → LE g uL 1583 [.ref 900, .ref 0, .ref 11, .ref 61, .int i, .retAddr 0, .retAddr 0] [] h' Q) : LE g uL 973 [.ref 900, .ref 0, .ref 11, .ref 61, .int i, .retAddr 0, .retAddr 0] [] h Q := by
  have hin1 : vp_in (i + 1) (gN g) := l_in ei (c := 1) (d := 1) (by decide) (by omega) (by omega)
  have hin2 : vp_in (i + 2) (gN g) := l_in ei (c := 2) (d := 2) (by decide) (by omega) (by omega)
  refine l_aload_n dL_law_973 rfl ?_
  refine l_aload_n dL_law_974 rfl ?_
  refine l_iload dL_law_975 rfl ?_
  refine l_iconst (v := 1) dL_law_977 (by decide) ?_
  refine l_iadd dL_law_978 ?_
  refine l_sld dL_law_979 hin1 ?_
  refine l_aload_n dL_law_980 rfl ?_
  refine l_iload dL_law_981 rfl ?_
  refine l_iconst (v := 2) dL_law_983 (by decide) ?_
  refine l_iadd dL_law_984 ?_
  refine l_sld dL_law_985 hin2 ?_
  refine cl_L_133 dL_law_986 hq (Nat.le_of_ble_eq_true rfl) (LCi_go (P := fun r h' => LE g uL 989 [.ref 900, .ref 0, .ref 11, .ref 61, .int i, .retAddr 0, .retAddr 0] (.int r :: []) h' Q) ?_ (fun _ _ q => q))
  refine k_X10_square (gx g (i + 1).toNatClampNeg) (gx g (i + 2).toNatClampNeg) hJ (fun r1 h1 hJ1 s1 => ?_)
  refine l_pop dL_law_989 rfl ?_
  refine l_aload_n dL_law_990 rfl ?_
  refine l_aload_n dL_law_991 rfl ?_
  refine l_iload dL_law_992 rfl ?_
  refine l_iconst (v := 1) dL_law_994 (by decide) ?_
  refine l_iadd dL_law_995 ?_
  refine l_sld dL_law_996 hin1 ?_
  refine l_aload_n dL_law_997 rfl ?_
  refine l_iload dL_law_998 rfl ?_
  refine l_iconst (v := 2) dL_law_1000 (by decide) ?_
  refine l_iadd dL_law_1001 ?_
  refine l_sld dL_law_1002 hin2 ?_
  refine cl_L_136 dL_law_1003 hq (Nat.le_of_ble_eq_true rfl) (LCi_go (P := fun r h' => LE g uL 1006 [.ref 900, .ref 0, .ref 11, .ref 61, .int i, .retAddr 0, .retAddr 0] (.int r :: []) h' Q) ?_ (fun _ _ q => q))
  refine k_X11_square (gx g (i + 1).toNatClampNeg) (gx g (i + 2).toNatClampNeg) hJ1 (fun r2 h2 hJ2 s2 => ?_)
  refine l_pop dL_law_1006 rfl ?_
  refine l_goto 1583 dL_law_1007 (by decide) ?_
  exact K h2 hJ2 (RR_s hJ1 s2 (RR_s hJ s1 he))
set_option maxRecDepth 100000 in
set_option maxHeartbeats 4000000 in
theorem lc_28 {g : gT} {h : mh_T} {Q : Nat × Nat} (i : Int32) (k : Nat) (ei : i.toInt = (k : Int)) (hk : k + 7 ≤ gN g) (hN : gN g ≤ 3584) (hJ : JJ h) (he : RR h) (hq : Q.1 ≤ 601024 ∧ Q.2 ≤ 7293034) (K : ∀ h', JJ h' → RR h' → LE g uL 1583 [.ref 900, .ref 0, .ref 11, .ref 61, .int i, .retAddr 0, .retAddr 0] [] h' Q) : LE g uL 1010 [.ref 900, .ref 0, .ref 11, .ref 61, .int i, .retAddr 0, .retAddr 0] [] h Q := by
  refine l_aload_n dL_law_1010 rfl ?_
  refine cl_L_137 dL_law_1011 hq (Nat.le_of_ble_eq_true rfl) (LCi_go (P := fun r h' => LE g uL 1014 [.ref 900, .ref 0, .ref 11, .ref 61, .int i, .retAddr 0, .retAddr 0] (.int r :: []) h' Q) ?_ (fun _ _ q => q))
  refine k_X10_corners  hJ (fun r1 h1 hJ1 s1 => ?_)
  refine l_pop dL_law_1014 rfl ?_
  refine l_aload_n dL_law_1015 rfl ?_
  refine cl_L_140 dL_law_1016 hq (Nat.le_of_ble_eq_true rfl) (LCi_go (P := fun r h' => LE g uL 1019 [.ref 900, .ref 0, .ref 11, .ref 61, .int i, .retAddr 0, .retAddr 0] (.int r :: []) h' Q) ?_ (fun _ _ q => q))
  refine k_X11_corners  hJ1 (fun r2 h2 hJ2 s2 => ?_)
  refine l_pop dL_law_1019 rfl ?_
  refine l_goto 1583 dL_law_1020 (by decide) ?_
  exact K h2 hJ2 (RR_s hJ1 s2 (RR_s hJ s1 he))
set_option maxRecDepth 100000 in
set_option maxHeartbeats 4000000 in
theorem lc_29 {g : gT} {h : mh_T} {Q : Nat × Nat} (i : Int32) (k : Nat) (ei : i.toInt = (k : Int)) (hk : k + 7 ≤ gN g) (hN : gN g ≤ 3584) (hJ : JJ h) (he : RR h) (hq : Q.1 ≤ 601024 ∧ Q.2 ≤ 7293034) (K : ∀ h', JJ h' → RR h' → LE g uL 1583 [.ref 900, .ref 0, .ref 11, .ref 61, .int i, .retAddr 0, .retAddr 0] [] h' Q) : LE g uL 1023 [.ref 900, .ref 0, .ref 11, .ref 61, .int i, .retAddr 0, .retAddr 0] [] h Q := by
  refine l_aload_n dL_law_1023 rfl ?_
  refine cl_L_141 dL_law_1024 hq (Nat.le_of_ble_eq_true rfl) (LCi_go (P := fun r h' => LE g uL 1027 [.ref 900, .ref 0, .ref 11, .ref 61, .int i, .retAddr 0, .retAddr 0] (.int r :: []) h' Q) ?_ (fun _ _ q => q))
  refine k_X10_colours  hJ (fun r1 h1 hJ1 s1 => ?_)
  refine l_pop dL_law_1027 rfl ?_
  refine l_aload_n dL_law_1028 rfl ?_
  refine cl_L_144 dL_law_1029 hq (Nat.le_of_ble_eq_true rfl) (LCi_go (P := fun r h' => LE g uL 1032 [.ref 900, .ref 0, .ref 11, .ref 61, .int i, .retAddr 0, .retAddr 0] (.int r :: []) h' Q) ?_ (fun _ _ q => q))
  refine k_X11_colours  hJ1 (fun r2 h2 hJ2 s2 => ?_)
  refine l_pop dL_law_1032 rfl ?_
  refine l_goto 1583 dL_law_1033 (by decide) ?_
  exact K h2 hJ2 (RR_s hJ1 s2 (RR_s hJ s1 he))
set_option maxRecDepth 100000 in
set_option maxHeartbeats 4000000 in
theorem lc_30 {g : gT} {h : mh_T} {Q : Nat × Nat} (i : Int32) (k : Nat) (ei : i.toInt = (k : Int)) (hk : k + 7 ≤ gN g) (hN : gN g ≤ 3584) (hJ : JJ h) (he : RR h) (hq : Q.1 ≤ 601024 ∧ Q.2 ≤ 7293034) (K : ∀ h', JJ h' → RR h' → LE g uL 1583 [.ref 900, .ref 0, .ref 11, .ref 61, .int i, .retAddr 0, .retAddr 0] [] h' Q) : LE g uL 1036 [.ref 900, .ref 0, .ref 11, .ref 61, .int i, .retAddr 0, .retAddr 0] [] h Q := by
  refine l_aload_n dL_law_1036 rfl ?_
  refine cl_L_145 dL_law_1037 hq (Nat.le_of_ble_eq_true rfl) (LCi_go (P := fun r h' => LE g uL 1040 [.ref 900, .ref 0, .ref 11, .ref 61, .int i, .retAddr 0, .retAddr 0] (.int r :: []) h' Q) ?_ (fun _ _ q => q))
  refine k_X10_ones  hJ (fun r1 h1 hJ1 s1 => ?_)
  refine l_pop dL_law_1040 rfl ?_
  refine l_aload_n dL_law_1041 rfl ?_
  refine cl_L_148 dL_law_1042 hq (Nat.le_of_ble_eq_true rfl) (LCi_go (P := fun r h' => LE g uL 1045 [.ref 900, .ref 0, .ref 11, .ref 61, .int i, .retAddr 0, .retAddr 0] (.int r :: []) h' Q) ?_ (fun _ _ q => q))
  refine k_X11_ones  hJ1 (fun r2 h2 hJ2 s2 => ?_)
  refine l_pop dL_law_1045 rfl ?_
  refine l_goto 1583 dL_law_1046 (by decide) ?_
  exact K h2 hJ2 (RR_s hJ1 s2 (RR_s hJ s1 he))
set_option maxRecDepth 100000 in
set_option maxHeartbeats 4000000 in
theorem lc_31 {g : gT} {h : mh_T} {Q : Nat × Nat} (i : Int32) (k : Nat) (ei : i.toInt = (k : Int)) (hk : k + 7 ≤ gN g) (hN : gN g ≤ 3584) (hJ : JJ h) (he : RR h) (hq : Q.1 ≤ 601024 ∧ Q.2 ≤ 7293034) (K : ∀ h', JJ h' → RR h' → LE g uL 1583 [.ref 900, .ref 0, .ref 11, .ref 61, .int i, .retAddr 0, .retAddr 0] [] h' Q) : LE g uL 1049 [.ref 900, .ref 0, .ref 11, .ref 61, .int i, .retAddr 0, .retAddr 0] [] h Q := by
  refine l_aload_n dL_law_1049 rfl ?_
  refine cl_L_149 dL_law_1050 hq (Nat.le_of_ble_eq_true rfl) (LCi_go (P := fun r h' => LE g uL 1053 [.ref 900, .ref 0, .ref 11, .ref 61, .int i, .retAddr 0, .retAddr 0] (.int r :: []) h' Q) ?_ (fun _ _ q => q))
  refine k_X10_spare  hJ (fun r1 h1 hJ1 s1 => ?_)
  refine l_pop dL_law_1053 rfl ?_
  refine l_aload_n dL_law_1054 rfl ?_
  refine cl_L_152 dL_law_1055 hq (Nat.le_of_ble_eq_true rfl) (LCi_go (P := fun r h' => LE g uL 1058 [.ref 900, .ref 0, .ref 11, .ref 61, .int i, .retAddr 0, .retAddr 0] (.int r :: []) h' Q) ?_ (fun _ _ q => q))
  refine k_X11_spare  hJ1 (fun r2 h2 hJ2 s2 => ?_)
  refine l_pop dL_law_1058 rfl ?_
  refine l_goto 1583 dL_law_1059 (by decide) ?_
  exact K h2 hJ2 (RR_s hJ1 s2 (RR_s hJ s1 he))
set_option maxRecDepth 100000 in
set_option maxHeartbeats 4000000 in
theorem lc_32 {g : gT} {h : mh_T} {Q : Nat × Nat} (i : Int32) (k : Nat) (ei : i.toInt = (k : Int)) (hk : k + 7 ≤ gN g) (hN : gN g ≤ 3584) (hJ : JJ h) (he : RR h) (hq : Q.1 ≤ 601024 ∧ Q.2 ≤ 7293034) (K : ∀ h', JJ h' → RR h' → LE g uL 1583 [.ref 900, .ref 0, .ref 11, .ref 61, .int i, .retAddr 0, .retAddr 0] [] h' Q) : LE g uL 1062 [.ref 900, .ref 0, .ref 11, .ref 61, .int i, .retAddr 0, .retAddr 0] [] h Q := by
  refine l_aload_n dL_law_1062 rfl ?_
  refine cl_L_153 dL_law_1063 hq (Nat.le_of_ble_eq_true rfl) (LCi_go (P := fun r h' => LE g uL 1066 [.ref 900, .ref 0, .ref 11, .ref 61, .int i, .retAddr 0, .retAddr 0] (.int r :: []) h' Q) ?_ (fun _ _ q => q))
  refine k_X10_critical  hJ (fun r1 h1 hJ1 s1 => ?_)
  refine l_pop dL_law_1066 rfl ?_
  refine l_aload_n dL_law_1067 rfl ?_
  refine cl_L_156 dL_law_1068 hq (Nat.le_of_ble_eq_true rfl) (LCi_go (P := fun r h' => LE g uL 1071 [.ref 900, .ref 0, .ref 11, .ref 61, .int i, .retAddr 0, .retAddr 0] (.int r :: []) h' Q) ?_ (fun _ _ q => q))
  refine k_X11_critical  hJ1 (fun r2 h2 hJ2 s2 => ?_)
  refine l_pop dL_law_1071 rfl ?_
  refine l_goto 1583 dL_law_1072 (by decide) ?_
  exact K h2 hJ2 (RR_s hJ1 s2 (RR_s hJ s1 he))
set_option maxRecDepth 100000 in
set_option maxHeartbeats 4000000 in
theorem lc_33 {g : gT} {h : mh_T} {Q : Nat × Nat} (i : Int32) (k : Nat) (ei : i.toInt = (k : Int)) (hk : k + 7 ≤ gN g) (hN : gN g ≤ 3584) (hJ : JJ h) (he : RR h) (hq : Q.1 ≤ 601024 ∧ Q.2 ≤ 7293034) (K : ∀ h', JJ h' → RR h' → LE g uL 1583 [.ref 900, .ref 0, .ref 11, .ref 61, .int i, .retAddr 0, .retAddr 0] [] h' Q) : LE g uL 1075 [.ref 900, .ref 0, .ref 11, .ref 61, .int i, .retAddr 0, .retAddr 0] [] h Q := by
  refine l_aload_n dL_law_1075 rfl ?_
  refine cl_L_157 dL_law_1076 hq (Nat.le_of_ble_eq_true rfl) (LCi_go (P := fun r h' => LE g uL 1079 [.ref 900, .ref 0, .ref 11, .ref 61, .int i, .retAddr 0, .retAddr 0] (.int r :: []) h' Q) ?_ (fun _ _ q => q))
  refine k_X10_memory  hJ (fun r1 h1 hJ1 s1 => ?_)
  refine l_pop dL_law_1079 rfl ?_
  refine l_aload_n dL_law_1080 rfl ?_
  refine cl_L_160 dL_law_1081 hq (Nat.le_of_ble_eq_true rfl) (LCi_go (P := fun r h' => LE g uL 1084 [.ref 900, .ref 0, .ref 11, .ref 61, .int i, .retAddr 0, .retAddr 0] (.int r :: []) h' Q) ?_ (fun _ _ q => q))
  refine k_X11_memory  hJ1 (fun r2 h2 hJ2 s2 => ?_)
  refine l_pop dL_law_1084 rfl ?_
  refine l_goto 1583 dL_law_1085 (by decide) ?_
  exact K h2 hJ2 (RR_s hJ1 s2 (RR_s hJ s1 he))
