set_option maxRecDepth 100000 in
set_option maxHeartbeats 4000000 in
theorem s_X11_trouble {g : gT} {h : mh_T} {P : Int32 → mh_T → Prop}  (hG : GI h)  (hp : ∀ (r : Int32) h', Ok [11] h h' → P r h') : MCi g yX11_trouble uX11_trouble [.ref 11] h P := by
  have ok : Ok [11] h h := Ok_rf hG
  refine e_X11_trouble   ?_
  have f_5 : R 0 0 0 := ⟨by decide, by decide⟩
  have ok_6 := Ok_w ok (k := 11) (j := 0) (v := 0) (lo := (-2147483648)) (hi := 2147483647) (by decide) (R_w f_5 (by decide)) (by decide) (by decide)
  have f_8 : R (-2147483648) 2147483647 (mI h 11 11) := R_full _
  have f_7 : R (-2147483648) 2147483647 (mI (wI h 11 0 0) 11 11) := (rd_nj f_8 (by decide))
  exact hp _ _ ok_6 
