set_option maxRecDepth 100000 in
set_option maxHeartbeats 4000000 in
theorem s_X6_nameAmong_v0 {g : gT} {h : mh_T} {P : Int32 → mh_T → Prop} (l1 nl1 : Nat) (l2 : Int32) (sl1 : shp l1 = (22, nl1, [])) (hG : GI h) (fl2 : R 0 6 l2) (hp : ∀ (r : Int32) h', Ok [1] h h' → R (-1) 5 r → P r h') : MCi g yX6_nameAmong uX6_nameAmong [.ref 1, .ref l1, .int l2] h P := by
  have ok : Ok [1] h h := Ok_rf hG
  refine e_X6_nameAmong l1 nl1 l2 sl1 ?_
  refine s_X6_isName ok.1 (fun r2 h1 ko_22 f_24 => ?_)
  have ok_23 := Ok_tr ok ko_22 (by decide)
  refine ⟨fun c_25 => ?_, fun c_25 => ?_⟩
  · have f_26 : R 0 0 0 := ⟨by decide, by decide⟩
    have f_27 : R 1 1 r2 := rf_ne_lo f_24 c_25 (by decide) 1 rfl
    refine s_X6_indexOf_v0 l1 nl1 l2 sl1 ok_23.1 (R_w fl2 (by decide)) (fun r5 f_28 => ?_)
    refine ⟨fun c_29 => ?_, fun c_29 => ?_⟩
    · have f_30 : R 0 0 0 := ⟨by decide, by decide⟩
      have f_31 : R 0 5 r5 := rf_le_r f_30 f_28 c_29 0 (by decide)
      exact hp _ _ ok_23 (R_w f_31 (by decide))
    · have f_32 : R 0 0 0 := ⟨by decide, by decide⟩
      have f_33 : R (-1) (-1) r5 := rf_lt_l f_28 f_32 (nle c_29) (-1) (by decide)
      refine s_X6_refuse 2 ok_23.1 (fun r8 h7 ko_34 f_36 => ?_)
      have ok_35 := Ok_tr ok_23 ko_34 (by decide)
      exact hp _ _ ok_35 (R_w f_33 (by decide))
  · have f_37 : R 0 0 0 := ⟨by decide, by decide⟩
    have f_38 : R 0 0 r2 := rf_eq f_37 c_25
    refine s_X6_refuse 1 ok_23.1 (fun r10 h9 ko_39 f_41 => ?_)
    have ok_40 := Ok_tr ok_23 ko_39 (by decide)
    have f_42 : R (-1) (-1) (-1) := ⟨by decide, by decide⟩
    exact hp _ _ ok_40 (R_w f_42 (by decide))
set_option maxRecDepth 100000 in
set_option maxHeartbeats 4000000 in
theorem s_X6_nameAmong_v1 {g : gT} {h : mh_T} {P : Int32 → mh_T → Prop} (l1 nl1 : Nat) (l2 : Int32) (sl1 : shp l1 = (22, nl1, [])) (hG : GI h) (fl2 : R 0 9 l2) (hp : ∀ (r : Int32) h', Ok [1] h h' → R (-1) 8 r → P r h') : MCi g yX6_nameAmong uX6_nameAmong [.ref 1, .ref l1, .int l2] h P := by
  have ok : Ok [1] h h := Ok_rf hG
  refine e_X6_nameAmong l1 nl1 l2 sl1 ?_
  refine s_X6_isName ok.1 (fun r2 h1 ko_22 f_24 => ?_)
  have ok_23 := Ok_tr ok ko_22 (by decide)
  refine ⟨fun c_25 => ?_, fun c_25 => ?_⟩
  · have f_26 : R 0 0 0 := ⟨by decide, by decide⟩
    have f_27 : R 1 1 r2 := rf_ne_lo f_24 c_25 (by decide) 1 rfl
    refine s_X6_indexOf_v1 l1 nl1 l2 sl1 ok_23.1 (R_w fl2 (by decide)) (fun r5 f_28 => ?_)
    refine ⟨fun c_29 => ?_, fun c_29 => ?_⟩
    · have f_30 : R 0 0 0 := ⟨by decide, by decide⟩
      have f_31 : R 0 8 r5 := rf_le_r f_30 f_28 c_29 0 (by decide)
      exact hp _ _ ok_23 (R_w f_31 (by decide))
    · have f_32 : R 0 0 0 := ⟨by decide, by decide⟩
      have f_33 : R (-1) (-1) r5 := rf_lt_l f_28 f_32 (nle c_29) (-1) (by decide)
      refine s_X6_refuse 2 ok_23.1 (fun r8 h7 ko_34 f_36 => ?_)
      have ok_35 := Ok_tr ok_23 ko_34 (by decide)
      exact hp _ _ ok_35 (R_w f_33 (by decide))
  · have f_37 : R 0 0 0 := ⟨by decide, by decide⟩
    have f_38 : R 0 0 r2 := rf_eq f_37 c_25
    refine s_X6_refuse 1 ok_23.1 (fun r10 h9 ko_39 f_41 => ?_)
    have ok_40 := Ok_tr ok_23 ko_39 (by decide)
    have f_42 : R (-1) (-1) (-1) := ⟨by decide, by decide⟩
    exact hp _ _ ok_40 (R_w f_42 (by decide))
set_option maxRecDepth 100000 in
set_option maxHeartbeats 4000000 in
theorem s_X6_pass {g : gT} {h : mh_T} {P : Int32 → mh_T → Prop} (l1 : Int32) (hG : GI h)  (hp : ∀ (r : Int32) h', Ok [1] h h' → R 0 1 r → P r h') : MCi g yX6_pass uX6_pass [.ref 1, .int l1] h P := by
  have ok : Ok [1] h h := Ok_rf hG
  refine e_X6_pass l1  ?_
  refine ⟨fun c_10 => ?_, fun c_10 => ?_⟩
  · have f_11 : R (-2147483648) 2147483647 (mI h 1 8) := R_full _
    refine s_X6_next ok.1 (fun h2 ko_12 => ?_)
    have ok_13 := Ok_tr ok ko_12 (by decide)
    have f_14 : R 1 1 1 := ⟨by decide, by decide⟩
    exact hp _ _ ok_13 (R_w f_14 (by decide))
  · have f_15 : R (-2147483648) 2147483647 (mI h 1 8) := R_full _
    refine s_X6_refuse 1 ok.1 (fun r4 h3 ko_16 f_18 => ?_)
    have ok_17 := Ok_tr ok ko_16 (by decide)
    exact ⟨R_z (R_w f_18 (by decide)), hp _ _ ok_17 (R_w f_18 (by decide))⟩
set_option maxRecDepth 100000 in
set_option maxHeartbeats 4000000 in
theorem s_X6_readTimes_L {g : gT} {h0 : mh_T} {P : Int32 → mh_T → Prop} (hG0 : GI h0) (hp : ∀ (r : Int32) h', Ok [1, 2, 17] h0 h' → R 0 1 r → P r h') : ∀ n : Nat, (∀ (l1 : Int32) (l2 : Int32) (l3 : Int32) (h : mh_T), Ok [1, 2, 17] h0 h → R 2 4 l1 → R (-2147483648) 2147483647 l2 → R 0 4 l3 → R 0 7 (mI h 2 3) → 1 * gap 4 l3 + 0 < n → ME g uX6_readTimes 4 [.ref 1, .int l1, .int l2, .int l3] [] h (qI P)) := by
  intro n
  induction n with
  | zero =>
    exact (fun _ _ _ _ _ _ _ _ _ hm => absurd hm (Nat.not_lt_zero _))
  | succ n ih =>
    intro l1 l2 l3 h  ok fl1 fl2 fl3 fi0    hm
    refine r_X6_readTimes_4 l1 l2 l3  ?_
    refine ⟨fun c_1500 => ?_, fun c_1500 => ?_⟩
    · have f_1501 : R 2 4 l3 := rf_le_r fl1 fl3 c_1500 2 (by decide)
      have f_1503 : R 1 1 1 := ⟨by decide, by decide⟩
      have f_1502 : R 1 8 ((mI h 2 3) + 1) := R_add fi0 f_1503 1 8 (by decide)
      have ok_1504 := Ok_w ok (k := 2) (j := 3) (v := ((mI h 2 3) + 1)) (lo := 0) (hi := 8) (by decide) (R_w f_1502 (by decide)) (by decide) (by decide)
      have f_1505 : R 1 1 1 := ⟨by decide, by decide⟩
      exact hp _ _ ok_1504 (R_w f_1505 (by decide))
    · have f_1506 : R 0 3 l3 := rf_lt_l fl3 fl1 (nle c_1500) 3 (by decide)
      refine ⟨fun c_1507 => ?_, fun c_1507 => ?_⟩
      · have f_1508 : R 0 0 0 := ⟨by decide, by decide⟩
        have f_1509 : R 0 0 l3 := rf_le_l f_1506 f_1508 c_1507 0 (by decide)
        have f_1510 : R 0 0 0 := ⟨by decide, by decide⟩
        have f_1511 : R 60 60 60 := ⟨by decide, by decide⟩
        have f_1512 : R 0 0 0 := ⟨by decide, by decide⟩
        have f_1513 : R 60 60 60 := ⟨by decide, by decide⟩
        have f_1514 : R 0 0 0 := ⟨by decide, by decide⟩
        have f_1515 : R 60 60 60 := ⟨by decide, by decide⟩
        refine s_X6_needWhole_v1 0 60 ok.1 (R_w f_1514 (by decide)) (R_w f_1515 (by decide)) (fun r4 h3 ko_1517 f_1519 im_1516 => ?_)
        have ok_1518 := Ok_tr ok ko_1517 (by decide)
        refine ⟨fun c_1520 => ?_, fun c_1520 => ?_⟩
        · have f_1521 : R 0 0 0 := ⟨by decide, by decide⟩
          have f_1522 := (im_1516 c_1520)
          have f_1523 : R 1 1 r4 := rf_ne_lo f_1519 c_1520 (by decide) 1 rfl
          intro x6 ex6
          have f_1524 : R (-2147483648) 2147483647 (l2 + (mI h3 1 11)) := R_full _
          have f_1525 : R (-2147483648) 2147483647 x6 := rf_eq f_1524 ex6
          refine ⟨fun c_1526 => ?_, fun c_1526 => ?_⟩
          · have f_1528 : R 1 1 1 := ⟨by decide, by decide⟩
            have f_1527 : R 1 3 (l1 - 1) := R_sub fl1 f_1528 1 3 (by decide)
            have f_1531 : R 4 4 4 := ⟨by decide, by decide⟩
            have f_1532 : R 0 7 (mI h3 2 3) := Ok_rd ko_1517 (by decide) fi0
            have f_1530 : R 0 28 (4 * (mI h3 2 3)) := R_mul f_1531 f_1532 0 28 (by decide)
            have f_1529 : R 0 28 ((4 * (mI h3 2 3)) + l3) := R_add f_1530 f_1509 0 28 (by decide)
            refine ⟨vin f_1529 (by decide), ?_⟩
            have ok_1533 := Ok_w ok_1518 (k := 17) (j := ((4 * (mI h3 2 3)) + l3).toNatClampNeg) (v := (mI h3 1 11)) (lo := (-2147483648)) (hi := 2147483647) (rgc_17 _) (R_w f_1522 (by decide)) (by decide) (nt_k (by decide))
            refine s_X6_next ok_1533.1 (fun h9 ko_1534 => ?_)
            have ok_1535 := Ok_tr ok_1533 ko_1534 (by decide)
            have f_1537 : R 1 1 1 := ⟨by decide, by decide⟩
            have f_1536 : R 1 1 (l3 + 1) := R_add f_1509 f_1537 1 1 (by decide)
            have f_1539 : R 0 7 (mI (wI h3 17 ((4 * (mI h3 2 3)) + l3).toNatClampNeg (mI h3 1 11)) 2 3) := (rd_ne f_1532 (by decide))
            have f_1538 : R 0 7 (mI h9 2 3) := Ok_rd ko_1534 (by decide) f_1539
            have g_1540 := gap_inc (N := 4) f_1509 (by decide)
            exact ih l1 x6 (l3 + 1) h9  ok_1535 (R_w fl1 (by decide)) (R_w f_1525 (by decide)) (R_w f_1536 (by decide)) (R_w f_1538 (by decide)) (by omega)
          · have f_1542 : R 1 1 1 := ⟨by decide, by decide⟩
            have f_1541 : R 1 3 (l1 - 1) := R_sub fl1 f_1542 1 3 (by decide)
            have f_1543 : R 1 3 l3 := rf_eq f_1541 c_1526
            exact (R_abs2 f_1509 f_1543 (by decide)).elim
        · have f_1544 : R 0 0 0 := ⟨by decide, by decide⟩
          have f_1545 : R 0 0 r4 := rf_eq f_1544 c_1520
          have f_1546 : R 0 0 0 := ⟨by decide, by decide⟩
          exact hp _ _ ok_1518 (R_w f_1546 (by decide))
      · have f_1547 : R 0 0 0 := ⟨by decide, by decide⟩
        have f_1548 : R 1 3 l3 := rf_lt_r f_1547 f_1506 (nle c_1507) 1 (by decide)
        refine s_X6_pass 44 ok.1 (fun r16 h15 ko_1549 f_1551 => ?_)
        have ok_1550 := Ok_tr ok ko_1549 (by decide)
        refine ⟨fun c_1552 => ?_, fun c_1552 => ?_⟩
        · have f_1553 : R 0 0 0 := ⟨by decide, by decide⟩
          have f_1554 : R 1 1 r16 := rf_ne_lo f_1551 c_1552 (by decide) 1 rfl
          have f_1555 : R 0 0 0 := ⟨by decide, by decide⟩
          have f_1556 : R 60 60 60 := ⟨by decide, by decide⟩
          have f_1557 : R 0 0 0 := ⟨by decide, by decide⟩
          have f_1558 : R 60 60 60 := ⟨by decide, by decide⟩
          have f_1559 : R 0 0 0 := ⟨by decide, by decide⟩
          have f_1560 : R 60 60 60 := ⟨by decide, by decide⟩
          refine s_X6_needWhole_v1 0 60 ok_1550.1 (R_w f_1559 (by decide)) (R_w f_1560 (by decide)) (fun r19 h18 ko_1562 f_1564 im_1561 => ?_)
          have ok_1563 := Ok_tr ok_1550 ko_1562 (by decide)
          refine ⟨fun c_1565 => ?_, fun c_1565 => ?_⟩
          · have f_1566 : R 0 0 0 := ⟨by decide, by decide⟩
            have f_1567 := (im_1561 c_1565)
            have f_1568 : R 1 1 r19 := rf_ne_lo f_1564 c_1565 (by decide) 1 rfl
            intro x21 ex21
            have f_1569 : R (-2147483648) 2147483647 (l2 + (mI h18 1 11)) := R_full _
            have f_1570 : R (-2147483648) 2147483647 x21 := rf_eq f_1569 ex21
            refine ⟨fun c_1571 => ?_, fun c_1571 => ?_⟩
            · have f_1573 : R 1 1 1 := ⟨by decide, by decide⟩
              have f_1572 : R 1 3 (l1 - 1) := R_sub fl1 f_1573 1 3 (by decide)
              have f_1576 : R 4 4 4 := ⟨by decide, by decide⟩
              have f_1578 : R 0 7 (mI h15 2 3) := Ok_rd ko_1549 (by decide) fi0
              have f_1577 : R 0 7 (mI h18 2 3) := Ok_rd ko_1562 (by decide) f_1578
              have f_1575 : R 0 28 (4 * (mI h18 2 3)) := R_mul f_1576 f_1577 0 28 (by decide)
              have f_1574 : R 1 31 ((4 * (mI h18 2 3)) + l3) := R_add f_1575 f_1548 1 31 (by decide)
              refine ⟨vin f_1574 (by decide), ?_⟩
              have ok_1579 := Ok_w ok_1563 (k := 17) (j := ((4 * (mI h18 2 3)) + l3).toNatClampNeg) (v := (mI h18 1 11)) (lo := (-2147483648)) (hi := 2147483647) (rgc_17 _) (R_w f_1567 (by decide)) (by decide) (nt_k (by decide))
              refine s_X6_next ok_1579.1 (fun h24 ko_1580 => ?_)
              have ok_1581 := Ok_tr ok_1579 ko_1580 (by decide)
              have f_1583 : R 1 1 1 := ⟨by decide, by decide⟩
              have f_1582 : R 2 4 (l3 + 1) := R_add f_1548 f_1583 2 4 (by decide)
              have f_1585 : R 0 7 (mI (wI h18 17 ((4 * (mI h18 2 3)) + l3).toNatClampNeg (mI h18 1 11)) 2 3) := (rd_ne f_1577 (by decide))
              have f_1584 : R 0 7 (mI h24 2 3) := Ok_rd ko_1580 (by decide) f_1585
              have g_1586 := gap_inc (N := 4) f_1548 (by decide)
              exact ih l1 x21 (l3 + 1) h24  ok_1581 (R_w fl1 (by decide)) (R_w f_1570 (by decide)) (R_w f_1582 (by decide)) (R_w f_1584 (by decide)) (by omega)
            · have f_1588 : R 1 1 1 := ⟨by decide, by decide⟩
              have f_1587 : R 1 3 (l1 - 1) := R_sub fl1 f_1588 1 3 (by decide)
              refine ⟨fun c_1589 => ?_, fun c_1589 => ?_⟩
              · have f_1592 : R 0 60 (mI h 2 0) := GI_rd ok.1 2 _ (by decide)
                have f_1591 : R 0 60 (mI h15 2 0) := Ok_rd ko_1549 (by decide) f_1592
                have f_1590 : R 0 60 (mI h18 2 0) := Ok_rd ko_1562 (by decide) f_1591
                have f_1593 : R 0 60 x21 := rf_eq f_1590 c_1589
                have f_1596 : R 4 4 4 := ⟨by decide, by decide⟩
                have f_1598 : R 0 7 (mI h15 2 3) := Ok_rd ko_1549 (by decide) fi0
                have f_1597 : R 0 7 (mI h18 2 3) := Ok_rd ko_1562 (by decide) f_1598
                have f_1595 : R 0 28 (4 * (mI h18 2 3)) := R_mul f_1596 f_1597 0 28 (by decide)
                have f_1594 : R 1 31 ((4 * (mI h18 2 3)) + l3) := R_add f_1595 f_1548 1 31 (by decide)
                refine ⟨vin f_1594 (by decide), ?_⟩
                have ok_1599 := Ok_w ok_1563 (k := 17) (j := ((4 * (mI h18 2 3)) + l3).toNatClampNeg) (v := (mI h18 1 11)) (lo := (-2147483648)) (hi := 2147483647) (rgc_17 _) (R_w f_1567 (by decide)) (by decide) (nt_k (by decide))
                refine s_X6_next ok_1599.1 (fun h27 ko_1600 => ?_)
                have ok_1601 := Ok_tr ok_1599 ko_1600 (by decide)
                have f_1603 : R 1 1 1 := ⟨by decide, by decide⟩
                have f_1602 : R 2 4 (l3 + 1) := R_add f_1548 f_1603 2 4 (by decide)
                have f_1605 : R 0 7 (mI (wI h18 17 ((4 * (mI h18 2 3)) + l3).toNatClampNeg (mI h18 1 11)) 2 3) := (rd_ne f_1597 (by decide))
                have f_1604 : R 0 7 (mI h27 2 3) := Ok_rd ko_1600 (by decide) f_1605
                have g_1606 := gap_inc (N := 4) f_1548 (by decide)
                exact ih l1 x21 (l3 + 1) h27  ok_1601 (R_w fl1 (by decide)) (R_w f_1593 (by decide)) (R_w f_1602 (by decide)) (R_w f_1604 (by decide)) (by omega)
              · have f_1609 : R 0 60 (mI h 2 0) := GI_rd ok.1 2 _ (by decide)
                have f_1608 : R 0 60 (mI h15 2 0) := Ok_rd ko_1549 (by decide) f_1609
                have f_1607 : R 0 60 (mI h18 2 0) := Ok_rd ko_1562 (by decide) f_1608
                refine s_X6_refuse 4 ok_1563.1 (fun r29 h28 ko_1610 f_1612 => ?_)
                have ok_1611 := Ok_tr ok_1563 ko_1610 (by decide)
                exact ⟨R_z (R_w f_1612 (by decide)), hp _ _ ok_1611 (R_w f_1612 (by decide))⟩
          · have f_1613 : R 0 0 0 := ⟨by decide, by decide⟩
            have f_1614 : R 0 0 r19 := rf_eq f_1613 c_1565
            have f_1615 : R 0 0 0 := ⟨by decide, by decide⟩
            exact hp _ _ ok_1563 (R_w f_1615 (by decide))
        · have f_1616 : R 0 0 0 := ⟨by decide, by decide⟩
          have f_1617 : R 0 0 r16 := rf_eq f_1616 c_1552
          have f_1618 : R 0 0 0 := ⟨by decide, by decide⟩
          exact hp _ _ ok_1550 (R_w f_1618 (by decide))
set_option maxRecDepth 100000 in
set_option maxHeartbeats 4000000 in
theorem s_X6_readTimes {g : gT} {h : mh_T} {P : Int32 → mh_T → Prop} (l1 : Int32) (hG : GI h) (fl1 : R 2 4 l1) (fi0 : R 0 7 (mI h 2 3)) (hp : ∀ (r : Int32) h', Ok [1, 2, 17] h h' → R 0 1 r → P r h') : MCi g yX6_readTimes uX6_readTimes [.ref 1, .int l1] h P := by
  have ok : Ok [1, 2, 17] h h := Ok_rf hG
  have L0 := s_X6_readTimes_L (g := g) hG hp 5
  refine e_X6_readTimes l1  ?_
  have f_1619 : R 0 0 0 := ⟨by decide, by decide⟩
  have f_1620 : R 0 0 0 := ⟨by decide, by decide⟩
  have f_1621 : R 0 0 0 := ⟨by decide, by decide⟩
  have g_1622 := gap_le (N := 4) f_1621 (m := 4) (by decide)
  exact L0 l1 0 0 h  ok (R_w fl1 (by decide)) (R_w f_1619 (by decide)) (R_w f_1620 (by decide)) (R_w fi0 (by decide)) (by omega)
set_option maxRecDepth 100000 in
set_option maxHeartbeats 4000000 in
theorem s_X6_readSet {g : gT} {h : mh_T} {P : Int32 → mh_T → Prop}  (hG : GI h)  (hp : ∀ (r : Int32) h', Ok [1, 2, 15, 16, 17] h h' → R 0 1 r → P r h') : MCi g yX6_readSet uX6_readSet [.ref 1] h P := by
  have ok : Ok [1, 2, 15, 16, 17] h h := Ok_rf hG
  refine e_X6_readSet   ?_
  refine ⟨fun c_131 => ?_, fun c_131 => ?_⟩
  · have f_132 : R 0 60 (mI h 2 0) := GI_rd ok.1 2 _ (by decide)
    have f_133 : R 0 0 0 := ⟨by decide, by decide⟩
    have f_134 : R 1 60 (mI h 2 0) := rf_ne_lo f_132 c_131 (by decide) 1 rfl
    refine ⟨fun c_135 => ?_, fun c_135 => ?_⟩
    · have f_136 : R 0 8 (mI h 2 3) := GI_rd ok.1 2 _ (by decide)
      have f_137 : R 8 8 8 := ⟨by decide, by decide⟩
      have f_138 : R 0 7 (mI h 2 3) := rf_lt_l f_136 f_137 c_135 7 (by decide)
      refine s_X6_next ok.1 (fun h3 ko_139 => ?_)
      have ok_140 := Ok_tr ok ko_139 (by decide)
      have f_142 : R 0 6 (mI h 2 1) := GI_rd ok.1 2 _ (by decide)
      have f_141 : R 0 6 (mI h3 2 1) := Ok_rd ko_139 (by decide) f_142
      refine s_X6_nameAmong_v0 13 6 (mI h3 2 1) rfl ok_140.1 (R_w f_141 (by decide)) (fun r5 h4 ko_143 f_145 => ?_)
      have ok_144 := Ok_tr ok_140 ko_143 (by decide)
      refine ⟨fun c_146 => ?_, fun c_146 => ?_⟩
      · have f_147 : R 0 0 0 := ⟨by decide, by decide⟩
        have f_148 : R 0 5 r5 := rf_le_r f_147 f_145 c_146 0 (by decide)
        refine s_X6_next ok_144.1 (fun h7 ko_149 => ?_)
        have ok_150 := Ok_tr ok_144 ko_149 (by decide)
        refine ⟨fun c_151 => ?_, fun c_151 => ?_⟩
        · have f_152 : R (-2147483648) 2147483647 (mI h7 1 8) := R_full _
          have f_153 : R 44 44 44 := ⟨by decide, by decide⟩
          have f_157 : R 8 8 8 := ⟨by decide, by decide⟩
          have f_156 : R 0 7 (mI h3 2 3) := Ok_rd ko_139 (by decide) f_138
          have f_155 : R 0 7 (mI h4 2 3) := Ok_rd ko_143 (by decide) f_156
          have f_154 : R 0 7 (mI h7 2 3) := Ok_rd ko_149 (by decide) f_155
          refine ⟨vin f_154 (by decide), ?_⟩
          have f_158 : R 0 7 (mI (wI h7 15 (mI h7 2 3).toNatClampNeg r5) 2 3) := (rd_ne f_154 (by decide))
          refine ⟨vin f_158 (by decide), ?_⟩
          have f_159 : R 0 0 0 := ⟨by decide, by decide⟩
          have ok_160 := Ok_w ok_150 (k := 15) (j := (mI h7 2 3).toNatClampNeg) (v := r5) (lo := 0) (hi := 5) rfl f_148 (by decide) (nt_k (by decide))
          have f_161 : R (-2) (-2) (-2) := ⟨by decide, by decide⟩
          have ok_162 := Ok_w ok_160 (k := 16) (j := (mI (wI h7 15 (mI h7 2 3).toNatClampNeg r5) 2 3).toNatClampNeg) (v := (-2)) (lo := (-2)) (hi := 5) rfl (R_w f_161 (by decide)) (by decide) (nt_k (by decide))
          refine s_X6_passWord 8 (by decide) ok_162.1 (fun r12 h11 ko_163 f_165 => ?_)
          have ok_164 := Ok_tr ok_162 ko_163 (by decide)
          refine ⟨fun c_166 => ?_, fun c_166 => ?_⟩
          · have f_167 : R 0 0 0 := ⟨by decide, by decide⟩
            have f_168 : R 0 0 r12 := rf_eq f_167 c_166
            have f_169 : R 0 0 0 := ⟨by decide, by decide⟩
            exact hp _ _ ok_164 (R_w f_169 (by decide))
          · have f_170 : R 0 0 0 := ⟨by decide, by decide⟩
            have f_171 : R 1 1 r12 := rf_ne_lo f_165 c_166 (by decide) 1 rfl
            have f_172 : R 2 2 2 := ⟨by decide, by decide⟩
            have f_174 : R 0 7 (mI (wI (wI h7 15 (mI h7 2 3).toNatClampNeg r5) 16 (mI (wI h7 15 (mI h7 2 3).toNatClampNeg r5) 2 3).toNatClampNeg (-2)) 2 3) := (rd_ne f_158 (by decide))
            have f_173 : R 0 7 (mI h11 2 3) := Ok_rd ko_163 (by decide) f_174
            refine s_X6_readTimes 2 ok_164.1 (R_w f_172 (by decide)) (R_w f_173 (by decide)) (fun r16 h15 ko_175 f_177 => ?_)
            have ok_176 := Ok_tr ok_164 ko_175 (by decide)
            refine ⟨fun c_178 => ?_, fun c_178 => ?_⟩
            · have f_179 : R 0 0 0 := ⟨by decide, by decide⟩
              have f_180 : R 0 0 r16 := rf_eq f_179 c_178
              have f_181 : R 0 0 0 := ⟨by decide, by decide⟩
              exact hp _ _ ok_176 (R_w f_181 (by decide))
            · have f_182 : R 0 0 0 := ⟨by decide, by decide⟩
              have f_183 : R 1 1 r16 := rf_ne_lo f_177 c_178 (by decide) 1 rfl
              have f_184 : R 1 1 1 := ⟨by decide, by decide⟩
              exact hp _ _ ok_176 (R_w f_184 (by decide))
        · have f_185 : R (-2147483648) 2147483647 (mI h7 1 8) := R_full _
          have f_186 : R 44 44 44 := ⟨by decide, by decide⟩
          have f_187 : R 44 44 (mI h7 1 8) := rf_eq f_186 c_151
          refine s_X6_next ok_150.1 (fun h18 ko_188 => ?_)
          have ok_189 := Ok_tr ok_150 ko_188 (by decide)
          have f_192 : R 0 6 (mI h4 2 1) := Ok_rd ko_143 (by decide) f_141
          have f_191 : R 0 6 (mI h7 2 1) := Ok_rd ko_149 (by decide) f_192
          have f_190 : R 0 6 (mI h18 2 1) := Ok_rd ko_188 (by decide) f_191
          refine s_X6_nameAmong_v0 13 6 (mI h18 2 1) rfl ok_189.1 (R_w f_190 (by decide)) (fun r20 h19 ko_193 f_195 => ?_)
          have ok_194 := Ok_tr ok_189 ko_193 (by decide)
          refine ⟨fun c_196 => ?_, fun c_196 => ?_⟩
          · have f_197 : R 0 0 0 := ⟨by decide, by decide⟩
            have f_198 : R 0 5 r20 := rf_le_r f_197 f_195 c_196 0 (by decide)
            refine ⟨fun c_199 => ?_, fun c_199 => ?_⟩
            · refine s_X6_next ok_194.1 (fun h23 ko_200 => ?_)
              have ok_201 := Ok_tr ok_194 ko_200 (by decide)
              have f_208 : R 8 8 8 := ⟨by decide, by decide⟩
              have f_207 : R 0 7 (mI h3 2 3) := Ok_rd ko_139 (by decide) f_138
              have f_206 : R 0 7 (mI h4 2 3) := Ok_rd ko_143 (by decide) f_207
              have f_205 : R 0 7 (mI h7 2 3) := Ok_rd ko_149 (by decide) f_206
              have f_204 : R 0 7 (mI h18 2 3) := Ok_rd ko_188 (by decide) f_205
              have f_203 : R 0 7 (mI h19 2 3) := Ok_rd ko_193 (by decide) f_204
              have f_202 : R 0 7 (mI h23 2 3) := Ok_rd ko_200 (by decide) f_203
              refine ⟨vin f_202 (by decide), ?_⟩
              have f_209 : R 0 7 (mI (wI h23 15 (mI h23 2 3).toNatClampNeg r5) 2 3) := (rd_ne f_202 (by decide))
              refine ⟨vin f_209 (by decide), ?_⟩
              have f_210 : R 0 0 0 := ⟨by decide, by decide⟩
              have ok_211 := Ok_w ok_201 (k := 15) (j := (mI h23 2 3).toNatClampNeg) (v := r5) (lo := 0) (hi := 5) rfl f_148 (by decide) (nt_k (by decide))
              have f_212 : R 0 0 0 := ⟨by decide, by decide⟩
              have ok_213 := Ok_w ok_211 (k := 16) (j := (mI (wI h23 15 (mI h23 2 3).toNatClampNeg r5) 2 3).toNatClampNeg) (v := r20) (lo := (-2)) (hi := 5) rfl (R_w f_198 (by decide)) (by decide) (nt_k (by decide))
              refine s_X6_passWord 8 (by decide) ok_213.1 (fun r27 h26 ko_214 f_216 => ?_)
              have ok_215 := Ok_tr ok_213 ko_214 (by decide)
              refine ⟨fun c_217 => ?_, fun c_217 => ?_⟩
              · have f_218 : R 0 0 0 := ⟨by decide, by decide⟩
                have f_219 : R 0 0 r27 := rf_eq f_218 c_217
                have f_220 : R 0 0 0 := ⟨by decide, by decide⟩
                exact hp _ _ ok_215 (R_w f_220 (by decide))
              · have f_221 : R 0 0 0 := ⟨by decide, by decide⟩
                have f_222 : R 1 1 r27 := rf_ne_lo f_216 c_217 (by decide) 1 rfl
                refine ⟨fun c_223 => ?_, fun c_223 => ?_⟩
                · have f_224 : R 0 0 0 := ⟨by decide, by decide⟩
                  have f_225 : R 4 4 4 := ⟨by decide, by decide⟩
                  have f_227 : R 0 7 (mI (wI (wI h23 15 (mI h23 2 3).toNatClampNeg r5) 16 (mI (wI h23 15 (mI h23 2 3).toNatClampNeg r5) 2 3).toNatClampNeg r20) 2 3) := (rd_ne f_209 (by decide))
                  have f_226 : R 0 7 (mI h26 2 3) := Ok_rd ko_214 (by decide) f_227
                  refine s_X6_readTimes 4 ok_215.1 (R_w f_225 (by decide)) (R_w f_226 (by decide)) (fun r31 h30 ko_228 f_230 => ?_)
                  have ok_229 := Ok_tr ok_215 ko_228 (by decide)
                  refine ⟨fun c_231 => ?_, fun c_231 => ?_⟩
                  · have f_232 : R 0 0 0 := ⟨by decide, by decide⟩
                    have f_233 : R 0 0 r31 := rf_eq f_232 c_231
                    have f_234 : R 0 0 0 := ⟨by decide, by decide⟩
                    exact hp _ _ ok_229 (R_w f_234 (by decide))
                  · have f_235 : R 0 0 0 := ⟨by decide, by decide⟩
                    have f_236 : R 1 1 r31 := rf_ne_lo f_230 c_231 (by decide) 1 rfl
                    have f_237 : R 1 1 1 := ⟨by decide, by decide⟩
                    exact hp _ _ ok_229 (R_w f_237 (by decide))
                · have f_238 : R 0 0 0 := ⟨by decide, by decide⟩
                  have f_239 : R 0 (-1) r20 := rf_lt_l f_198 f_238 (nle c_223) (-1) (by decide)
                  exact (R_abs f_239 (by decide)).elim
            · refine s_X6_refuse 3 ok_194.1 (fun r37 h36 ko_240 f_242 => ?_)
              have ok_241 := Ok_tr ok_194 ko_240 (by decide)
              exact ⟨R_z (R_w f_242 (by decide)), hp _ _ ok_241 (R_w f_242 (by decide))⟩
          · have f_243 : R 0 0 0 := ⟨by decide, by decide⟩
            have f_244 : R (-1) (-1) r20 := rf_lt_l f_195 f_243 (nle c_196) (-1) (by decide)
            have f_245 : R 0 0 0 := ⟨by decide, by decide⟩
            exact hp _ _ ok_194 (R_w f_245 (by decide))
      · have f_246 : R 0 0 0 := ⟨by decide, by decide⟩
        have f_247 : R (-1) (-1) r5 := rf_lt_l f_145 f_246 (nle c_146) (-1) (by decide)
        have f_248 : R 0 0 0 := ⟨by decide, by decide⟩
        exact hp _ _ ok_144 (R_w f_248 (by decide))
    · have f_249 : R 0 8 (mI h 2 3) := GI_rd ok.1 2 _ (by decide)
      have f_250 : R 8 8 8 := ⟨by decide, by decide⟩
      have f_251 : R 8 8 (mI h 2 3) := rf_le_r f_250 f_249 (nlt c_135) 8 (by decide)
      refine s_X6_refuse 5 ok.1 (fun r39 h38 ko_252 f_254 => ?_)
      have ok_253 := Ok_tr ok ko_252 (by decide)
      exact ⟨R_z (R_w f_254 (by decide)), hp _ _ ok_253 (R_w f_254 (by decide))⟩
  · have f_255 : R 0 60 (mI h 2 0) := GI_rd ok.1 2 _ (by decide)
    have f_256 : R 0 0 0 := ⟨by decide, by decide⟩
    have f_257 : R 0 0 (mI h 2 0) := rf_eq f_256 c_131
    refine s_X6_refuse 6 ok.1 (fun r41 h40 ko_258 f_260 => ?_)
    have ok_259 := Ok_tr ok ko_258 (by decide)
    exact ⟨R_z (R_w f_260 (by decide)), hp _ _ ok_259 (R_w f_260 (by decide))⟩
set_option maxRecDepth 100000 in
set_option maxHeartbeats 4000000 in
theorem s_X6_readParity_L {g : gT} {h0 : mh_T} {P : Int32 → mh_T → Prop} (hG0 : GI h0) (hp : ∀ (r : Int32) h', Ok [1, 2, 18, 19] h0 h' → R 0 1 r → P r h') : ∀ n : Nat, (∀ (l1 : Int32) (l2 : Int32) (h : mh_T), Ok [1, 2, 18, 19] h0 h → R 0 511 l1 → R 0 3 l2 → R 0 7 (mI h 2 4) → 1 * gap 3 l2 + 0 < n → ME g uX6_readParity 26 [.ref 1, .int l1, .int l2, .retAddr 0] [] h (qI P)) := by
  intro n
  induction n with
  | zero =>
    exact (fun _ _ _ _ _ _ _ hm => absurd hm (Nat.not_lt_zero _))
  | succ n ih =>
    intro l1 l2 h  ok fl1 fl2 fi0    hm
    refine r_X6_readParity_26 l1 l2  ?_
    refine ⟨fun c_420 => ?_, fun c_420 => ?_⟩
    · have f_421 : R 3 3 3 := ⟨by decide, by decide⟩
      have f_422 : R 3 3 l2 := rf_le_r f_421 fl2 c_420 3 (by decide)
      refine s_X6_passWord 9 (by decide) ok.1 (fun r3 h2 ko_423 f_425 => ?_)
      have ok_424 := Ok_tr ok ko_423 (by decide)
      refine ⟨fun c_426 => ?_, fun c_426 => ?_⟩
      · have f_427 : R 0 0 0 := ⟨by decide, by decide⟩
        have f_428 : R 1 1 r3 := rf_ne_lo f_425 c_426 (by decide) 1 rfl
        refine s_X6_says 10 (by decide) ok_424.1 (fun r6 f_429 => ?_)
        refine ⟨fun c_430 => ?_, fun c_430 => ?_⟩
        · have f_431 : R 0 0 0 := ⟨by decide, by decide⟩
          have f_432 : R 1 1 r6 := rf_ne_lo f_429 c_430 (by decide) 1 rfl
          have f_433 : R 0 7 (mI h2 2 4) := Ok_rd ko_423 (by decide) fi0
          refine ⟨vin f_433 (by decide), ?_⟩
          have ok_434 := Ok_w ok_424 (k := 18) (j := (mI h2 2 4).toNatClampNeg) (v := l1) (lo := (-2147483648)) (hi := 2147483647) (rgc_18 _) (R_w fl1 (by decide)) (by decide) (nt_k (by decide))
          refine s_X6_says 11 (by decide) ok_434.1 (fun r10 f_435 => ?_)
          refine ⟨fun c_436 => ?_, fun c_436 => ?_⟩
          · have f_437 : R 0 0 0 := ⟨by decide, by decide⟩
            have f_438 : R 0 0 r10 := rf_eq f_437 c_436
            have f_439 : R 0 7 (mI (wI h2 18 (mI h2 2 4).toNatClampNeg l1) 2 4) := (rd_ne f_433 (by decide))
            refine ⟨vin f_439 (by decide), ?_⟩
            have f_440 : R 0 0 0 := ⟨by decide, by decide⟩
            have ok_441 := Ok_w ok_434 (k := 19) (j := (mI (wI h2 18 (mI h2 2 4).toNatClampNeg l1) 2 4).toNatClampNeg) (v := 0) (lo := (-2147483648)) (hi := 2147483647) (rgc_19 _) (R_w f_440 (by decide)) (by decide) (nt_k (by decide))
            have f_443 : R 0 7 (mI (wI (wI h2 18 (mI h2 2 4).toNatClampNeg l1) 19 (mI (wI h2 18 (mI h2 2 4).toNatClampNeg l1) 2 4).toNatClampNeg 0) 2 4) := (rd_ne f_439 (by decide))
            have f_444 : R 1 1 1 := ⟨by decide, by decide⟩
            have f_442 : R 1 8 ((mI (wI (wI h2 18 (mI h2 2 4).toNatClampNeg l1) 19 (mI (wI h2 18 (mI h2 2 4).toNatClampNeg l1) 2 4).toNatClampNeg 0) 2 4) + 1) := R_add f_443 f_444 1 8 (by decide)
            have ok_445 := Ok_w ok_441 (k := 2) (j := 4) (v := ((mI (wI (wI h2 18 (mI h2 2 4).toNatClampNeg l1) 19 (mI (wI h2 18 (mI h2 2 4).toNatClampNeg l1) 2 4).toNatClampNeg 0) 2 4) + 1)) (lo := 0) (hi := 8) (by decide) (R_w f_442 (by decide)) (by decide) (by decide)
            refine s_X6_next ok_445.1 (fun h13 ko_446 => ?_)
            have ok_447 := Ok_tr ok_445 ko_446 (by decide)
            have f_448 : R 1 1 1 := ⟨by decide, by decide⟩
            exact hp _ _ ok_447 (R_w f_448 (by decide))
          · have f_449 : R 0 0 0 := ⟨by decide, by decide⟩
            have f_450 : R 1 1 r10 := rf_ne_lo f_435 c_436 (by decide) 1 rfl
            have f_451 : R 0 7 (mI (wI h2 18 (mI h2 2 4).toNatClampNeg l1) 2 4) := (rd_ne f_433 (by decide))
            refine ⟨vin f_451 (by decide), ?_⟩
            have f_452 : R 1 1 1 := ⟨by decide, by decide⟩
            have ok_453 := Ok_w ok_434 (k := 19) (j := (mI (wI h2 18 (mI h2 2 4).toNatClampNeg l1) 2 4).toNatClampNeg) (v := 1) (lo := (-2147483648)) (hi := 2147483647) (rgc_19 _) (R_w f_452 (by decide)) (by decide) (nt_k (by decide))
            have f_455 : R 0 7 (mI (wI (wI h2 18 (mI h2 2 4).toNatClampNeg l1) 19 (mI (wI h2 18 (mI h2 2 4).toNatClampNeg l1) 2 4).toNatClampNeg 1) 2 4) := (rd_ne f_451 (by decide))
            have f_456 : R 1 1 1 := ⟨by decide, by decide⟩
            have f_454 : R 1 8 ((mI (wI (wI h2 18 (mI h2 2 4).toNatClampNeg l1) 19 (mI (wI h2 18 (mI h2 2 4).toNatClampNeg l1) 2 4).toNatClampNeg 1) 2 4) + 1) := R_add f_455 f_456 1 8 (by decide)
            have ok_457 := Ok_w ok_453 (k := 2) (j := 4) (v := ((mI (wI (wI h2 18 (mI h2 2 4).toNatClampNeg l1) 19 (mI (wI h2 18 (mI h2 2 4).toNatClampNeg l1) 2 4).toNatClampNeg 1) 2 4) + 1)) (lo := 0) (hi := 8) (by decide) (R_w f_454 (by decide)) (by decide) (by decide)
            refine s_X6_next ok_457.1 (fun h15 ko_458 => ?_)
            have ok_459 := Ok_tr ok_457 ko_458 (by decide)
            have f_460 : R 1 1 1 := ⟨by decide, by decide⟩
            exact hp _ _ ok_459 (R_w f_460 (by decide))
        · have f_461 : R 0 0 0 := ⟨by decide, by decide⟩
          have f_462 : R 0 0 r6 := rf_eq f_461 c_430
          refine s_X6_says 11 (by decide) ok_424.1 (fun r17 f_463 => ?_)
          refine ⟨fun c_464 => ?_, fun c_464 => ?_⟩
          · have f_465 : R 0 0 0 := ⟨by decide, by decide⟩
            have f_466 : R 1 1 r17 := rf_ne_lo f_463 c_464 (by decide) 1 rfl
            have f_467 : R 0 7 (mI h2 2 4) := Ok_rd ko_423 (by decide) fi0
            refine ⟨vin f_467 (by decide), ?_⟩
            have ok_468 := Ok_w ok_424 (k := 18) (j := (mI h2 2 4).toNatClampNeg) (v := l1) (lo := (-2147483648)) (hi := 2147483647) (rgc_18 _) (R_w fl1 (by decide)) (by decide) (nt_k (by decide))
            refine s_X6_says 11 (by decide) ok_468.1 (fun r21 f_469 => ?_)
            refine ⟨fun c_470 => ?_, fun c_470 => ?_⟩
            · have f_471 : R 0 0 0 := ⟨by decide, by decide⟩
              have f_472 : R 0 0 r21 := rf_eq f_471 c_470
              have f_473 : R 0 7 (mI (wI h2 18 (mI h2 2 4).toNatClampNeg l1) 2 4) := (rd_ne f_467 (by decide))
              refine ⟨vin f_473 (by decide), ?_⟩
              have f_474 : R 0 0 0 := ⟨by decide, by decide⟩
              have ok_475 := Ok_w ok_468 (k := 19) (j := (mI (wI h2 18 (mI h2 2 4).toNatClampNeg l1) 2 4).toNatClampNeg) (v := 0) (lo := (-2147483648)) (hi := 2147483647) (rgc_19 _) (R_w f_474 (by decide)) (by decide) (nt_k (by decide))
              have f_477 : R 0 7 (mI (wI (wI h2 18 (mI h2 2 4).toNatClampNeg l1) 19 (mI (wI h2 18 (mI h2 2 4).toNatClampNeg l1) 2 4).toNatClampNeg 0) 2 4) := (rd_ne f_473 (by decide))
              have f_478 : R 1 1 1 := ⟨by decide, by decide⟩
              have f_476 : R 1 8 ((mI (wI (wI h2 18 (mI h2 2 4).toNatClampNeg l1) 19 (mI (wI h2 18 (mI h2 2 4).toNatClampNeg l1) 2 4).toNatClampNeg 0) 2 4) + 1) := R_add f_477 f_478 1 8 (by decide)
              have ok_479 := Ok_w ok_475 (k := 2) (j := 4) (v := ((mI (wI (wI h2 18 (mI h2 2 4).toNatClampNeg l1) 19 (mI (wI h2 18 (mI h2 2 4).toNatClampNeg l1) 2 4).toNatClampNeg 0) 2 4) + 1)) (lo := 0) (hi := 8) (by decide) (R_w f_476 (by decide)) (by decide) (by decide)
              refine s_X6_next ok_479.1 (fun h24 ko_480 => ?_)
              have ok_481 := Ok_tr ok_479 ko_480 (by decide)
              have f_482 : R 1 1 1 := ⟨by decide, by decide⟩
              exact hp _ _ ok_481 (R_w f_482 (by decide))
            · have f_483 : R 0 0 0 := ⟨by decide, by decide⟩
              have f_484 : R 1 1 r21 := rf_ne_lo f_469 c_470 (by decide) 1 rfl
              have f_485 : R 0 7 (mI (wI h2 18 (mI h2 2 4).toNatClampNeg l1) 2 4) := (rd_ne f_467 (by decide))
              refine ⟨vin f_485 (by decide), ?_⟩
              have f_486 : R 1 1 1 := ⟨by decide, by decide⟩
              have ok_487 := Ok_w ok_468 (k := 19) (j := (mI (wI h2 18 (mI h2 2 4).toNatClampNeg l1) 2 4).toNatClampNeg) (v := 1) (lo := (-2147483648)) (hi := 2147483647) (rgc_19 _) (R_w f_486 (by decide)) (by decide) (nt_k (by decide))
              have f_489 : R 0 7 (mI (wI (wI h2 18 (mI h2 2 4).toNatClampNeg l1) 19 (mI (wI h2 18 (mI h2 2 4).toNatClampNeg l1) 2 4).toNatClampNeg 1) 2 4) := (rd_ne f_485 (by decide))
              have f_490 : R 1 1 1 := ⟨by decide, by decide⟩
              have f_488 : R 1 8 ((mI (wI (wI h2 18 (mI h2 2 4).toNatClampNeg l1) 19 (mI (wI h2 18 (mI h2 2 4).toNatClampNeg l1) 2 4).toNatClampNeg 1) 2 4) + 1) := R_add f_489 f_490 1 8 (by decide)
              have ok_491 := Ok_w ok_487 (k := 2) (j := 4) (v := ((mI (wI (wI h2 18 (mI h2 2 4).toNatClampNeg l1) 19 (mI (wI h2 18 (mI h2 2 4).toNatClampNeg l1) 2 4).toNatClampNeg 1) 2 4) + 1)) (lo := 0) (hi := 8) (by decide) (R_w f_488 (by decide)) (by decide) (by decide)
              refine s_X6_next ok_491.1 (fun h26 ko_492 => ?_)
              have ok_493 := Ok_tr ok_491 ko_492 (by decide)
              have f_494 : R 1 1 1 := ⟨by decide, by decide⟩
              exact hp _ _ ok_493 (R_w f_494 (by decide))
          · have f_495 : R 0 0 0 := ⟨by decide, by decide⟩
            have f_496 : R 0 0 r17 := rf_eq f_495 c_464
            refine s_X6_refuse 1 ok_424.1 (fun r28 h27 ko_497 f_499 => ?_)
            have ok_498 := Ok_tr ok_424 ko_497 (by decide)
            exact ⟨R_z (R_w f_499 (by decide)), hp _ _ ok_498 (R_w f_499 (by decide))⟩
      · have f_500 : R 0 0 0 := ⟨by decide, by decide⟩
        have f_501 : R 0 0 r3 := rf_eq f_500 c_426
        have f_502 : R 0 0 0 := ⟨by decide, by decide⟩
        exact hp _ _ ok_424 (R_w f_502 (by decide))
    · have f_503 : R 3 3 3 := ⟨by decide, by decide⟩
      have f_504 : R 0 2 l2 := rf_lt_l fl2 f_503 (nle c_420) 2 (by decide)
      refine ⟨fun c_505 => ?_, fun c_505 => ?_⟩
      · have f_506 : R 0 0 0 := ⟨by decide, by decide⟩
        have f_507 : R 0 0 l2 := rf_le_l f_504 f_506 c_505 0 (by decide)
        have f_508 : R 0 9 (mI h 2 2) := GI_rd ok.1 2 _ (by decide)
        refine s_X6_nameAmong_v1 14 9 (mI h 2 2) rfl ok.1 (R_w f_508 (by decide)) (fun r31 h30 ko_509 f_511 => ?_)
        have ok_510 := Ok_tr ok ko_509 (by decide)
        refine ⟨fun c_512 => ?_, fun c_512 => ?_⟩
        · have f_513 : R 0 0 0 := ⟨by decide, by decide⟩
          have f_514 : R 0 8 r31 := rf_le_r f_513 f_511 c_512 0 (by decide)
          refine ⟨fun c_515 => ?_, fun c_515 => ?_⟩
          · have f_517 : R 1 1 1 := ⟨by decide, by decide⟩
            have f_516 : R 0 1 ((l1 >>> (r31 &&& 31)) &&& 1) := R_and f_517 (by decide)
            have f_518 : R 0 0 0 := ⟨by decide, by decide⟩
            have f_519 : R 0 0 ((l1 >>> (r31 &&& 31)) &&& 1) := rf_eq f_518 c_515
            intro x34 ex34
            have f_521 : R 1 256 (1 <<< (r31 &&& 31)) := R_shl f_514 1 256 0 8 (by decide)
            have f_520 : R 0 511 (l1 ||| (1 <<< (r31 &&& 31))) := R_or fl1 f_521 9 511 (by decide)
            have f_522 : R 0 511 x34 := rf_eq f_520 ex34
            refine s_X6_next ok_510.1 (fun h35 ko_523 => ?_)
            have ok_524 := Ok_tr ok_510 ko_523 (by decide)
            have f_526 : R 1 1 1 := ⟨by decide, by decide⟩
            have f_525 : R 1 1 (l2 + 1) := R_add f_507 f_526 1 1 (by decide)
            have f_528 : R 0 7 (mI h30 2 4) := Ok_rd ko_509 (by decide) fi0
            have f_527 : R 0 7 (mI h35 2 4) := Ok_rd ko_523 (by decide) f_528
            have g_529 := gap_inc (N := 3) f_507 (by decide)
            exact ih x34 (l2 + 1) h35  ok_524 (R_w f_522 (by decide)) (R_w f_525 (by decide)) (R_w f_527 (by decide)) (by omega)
          · have f_531 : R 1 1 1 := ⟨by decide, by decide⟩
            have f_530 : R 0 1 ((l1 >>> (r31 &&& 31)) &&& 1) := R_and f_531 (by decide)
            have f_532 : R 0 0 0 := ⟨by decide, by decide⟩
            have f_533 : R 1 1 ((l1 >>> (r31 &&& 31)) &&& 1) := rf_ne_lo f_530 c_515 (by decide) 1 rfl
            refine s_X6_refuse 3 ok_510.1 (fun r37 h36 ko_534 f_536 => ?_)
            have ok_535 := Ok_tr ok_510 ko_534 (by decide)
            exact ⟨R_z (R_w f_536 (by decide)), hp _ _ ok_535 (R_w f_536 (by decide))⟩
        · have f_537 : R 0 0 0 := ⟨by decide, by decide⟩
          have f_538 : R (-1) (-1) r31 := rf_lt_l f_511 f_537 (nle c_512) (-1) (by decide)
          have f_539 : R 0 0 0 := ⟨by decide, by decide⟩
          exact hp _ _ ok_510 (R_w f_539 (by decide))
      · have f_540 : R 0 0 0 := ⟨by decide, by decide⟩
        have f_541 : R 1 2 l2 := rf_lt_r f_540 f_504 (nle c_505) 1 (by decide)
        refine s_X6_pass 44 ok.1 (fun r39 h38 ko_542 f_544 => ?_)
        have ok_543 := Ok_tr ok ko_542 (by decide)
        refine ⟨fun c_545 => ?_, fun c_545 => ?_⟩
        · have f_546 : R 0 0 0 := ⟨by decide, by decide⟩
          have f_547 : R 1 1 r39 := rf_ne_lo f_544 c_545 (by decide) 1 rfl
          have f_549 : R 0 9 (mI h 2 2) := GI_rd ok.1 2 _ (by decide)
          have f_548 : R 0 9 (mI h38 2 2) := Ok_rd ko_542 (by decide) f_549
          refine s_X6_nameAmong_v1 14 9 (mI h38 2 2) rfl ok_543.1 (R_w f_548 (by decide)) (fun r42 h41 ko_550 f_552 => ?_)
          have ok_551 := Ok_tr ok_543 ko_550 (by decide)
          refine ⟨fun c_553 => ?_, fun c_553 => ?_⟩
          · have f_554 : R 0 0 0 := ⟨by decide, by decide⟩
            have f_555 : R 0 8 r42 := rf_le_r f_554 f_552 c_553 0 (by decide)
            refine ⟨fun c_556 => ?_, fun c_556 => ?_⟩
            · have f_558 : R 1 1 1 := ⟨by decide, by decide⟩
              have f_557 : R 0 1 ((l1 >>> (r42 &&& 31)) &&& 1) := R_and f_558 (by decide)
              have f_559 : R 0 0 0 := ⟨by decide, by decide⟩
              have f_560 : R 0 0 ((l1 >>> (r42 &&& 31)) &&& 1) := rf_eq f_559 c_556
              intro x45 ex45
              have f_562 : R 1 256 (1 <<< (r42 &&& 31)) := R_shl f_555 1 256 0 8 (by decide)
              have f_561 : R 0 511 (l1 ||| (1 <<< (r42 &&& 31))) := R_or fl1 f_562 9 511 (by decide)
              have f_563 : R 0 511 x45 := rf_eq f_561 ex45
              refine s_X6_next ok_551.1 (fun h46 ko_564 => ?_)
              have ok_565 := Ok_tr ok_551 ko_564 (by decide)
              have f_567 : R 1 1 1 := ⟨by decide, by decide⟩
              have f_566 : R 2 3 (l2 + 1) := R_add f_541 f_567 2 3 (by decide)
              have f_570 : R 0 7 (mI h38 2 4) := Ok_rd ko_542 (by decide) fi0
              have f_569 : R 0 7 (mI h41 2 4) := Ok_rd ko_550 (by decide) f_570
              have f_568 : R 0 7 (mI h46 2 4) := Ok_rd ko_564 (by decide) f_569
              have g_571 := gap_inc (N := 3) f_541 (by decide)
              exact ih x45 (l2 + 1) h46  ok_565 (R_w f_563 (by decide)) (R_w f_566 (by decide)) (R_w f_568 (by decide)) (by omega)
            · have f_573 : R 1 1 1 := ⟨by decide, by decide⟩
              have f_572 : R 0 1 ((l1 >>> (r42 &&& 31)) &&& 1) := R_and f_573 (by decide)
              have f_574 : R 0 0 0 := ⟨by decide, by decide⟩
              have f_575 : R 1 1 ((l1 >>> (r42 &&& 31)) &&& 1) := rf_ne_lo f_572 c_556 (by decide) 1 rfl
              refine s_X6_refuse 3 ok_551.1 (fun r48 h47 ko_576 f_578 => ?_)
              have ok_577 := Ok_tr ok_551 ko_576 (by decide)
              exact ⟨R_z (R_w f_578 (by decide)), hp _ _ ok_577 (R_w f_578 (by decide))⟩
          · have f_579 : R 0 0 0 := ⟨by decide, by decide⟩
            have f_580 : R (-1) (-1) r42 := rf_lt_l f_552 f_579 (nle c_553) (-1) (by decide)
            have f_581 : R 0 0 0 := ⟨by decide, by decide⟩
            exact hp _ _ ok_551 (R_w f_581 (by decide))
        · have f_582 : R 0 0 0 := ⟨by decide, by decide⟩
          have f_583 : R 0 0 r39 := rf_eq f_582 c_545
          have f_584 : R 0 0 0 := ⟨by decide, by decide⟩
          exact hp _ _ ok_543 (R_w f_584 (by decide))
set_option maxRecDepth 100000 in
set_option maxHeartbeats 4000000 in
theorem s_X6_readParity {g : gT} {h : mh_T} {P : Int32 → mh_T → Prop}  (hG : GI h)  (hp : ∀ (r : Int32) h', Ok [1, 2, 18, 19] h h' → R 0 1 r → P r h') : MCi g yX6_readParity uX6_readParity [.ref 1] h P := by
  have ok : Ok [1, 2, 18, 19] h h := Ok_rf hG
  have L0 := s_X6_readParity_L (g := g) hG hp 4
  refine e_X6_readParity   ?_
  refine ⟨fun c_585 => ?_, fun c_585 => ?_⟩
  · have f_586 : R 0 8 (mI h 2 4) := GI_rd ok.1 2 _ (by decide)
    have f_587 : R 8 8 8 := ⟨by decide, by decide⟩
    have f_588 : R 0 7 (mI h 2 4) := rf_lt_l f_586 f_587 c_585 7 (by decide)
    refine s_X6_next ok.1 (fun h2 ko_589 => ?_)
    have ok_590 := Ok_tr ok ko_589 (by decide)
    have f_591 : R 0 0 0 := ⟨by decide, by decide⟩
    have f_592 : R 0 0 0 := ⟨by decide, by decide⟩
    have f_594 : R 8 8 8 := ⟨by decide, by decide⟩
    have f_593 : R 0 7 (mI h2 2 4) := Ok_rd ko_589 (by decide) f_588
    have f_595 : R 0 0 0 := ⟨by decide, by decide⟩
    have g_596 := gap_le (N := 3) f_595 (m := 3) (by decide)
    exact L0 0 0 h2  ok_590 (R_w f_591 (by decide)) (R_w f_592 (by decide)) (R_w f_593 (by decide)) (by omega)
  · have f_597 : R 0 8 (mI h 2 4) := GI_rd ok.1 2 _ (by decide)
    have f_598 : R 8 8 8 := ⟨by decide, by decide⟩
    have f_599 : R 8 8 (mI h 2 4) := rf_le_r f_598 f_597 (nlt c_585) 8 (by decide)
    refine s_X6_refuse 5 ok.1 (fun r4 h3 ko_600 f_602 => ?_)
    have ok_601 := Ok_tr ok ko_600 (by decide)
    exact ⟨R_z (R_w f_602 (by decide)), hp _ _ ok_601 (R_w f_602 (by decide))⟩
set_option maxRecDepth 100000 in
set_option maxHeartbeats 4000000 in
theorem s_X6_readRay_L {g : gT} {h0 : mh_T} {P : Int32 → mh_T → Prop} (hG0 : GI h0) (hp : ∀ (r : Int32) h', Ok [1, 2, 20] h0 h' → R 0 1 r → P r h') : ∀ n : Nat, (∀ (l1 : Int32) (l2 : Int32) (h : mh_T), Ok [1, 2, 20] h0 h → R 0 3 l1 → R 0 4 l2 → R 0 17 (mI h 2 5) → 1 * gap 4 l2 + 0 < n → ME g uX6_readRay 26 [.ref 1, .int l1, .int l2, .retAddr 0] [] h (qI P)) := by
  intro n
  induction n with
  | zero =>
    exact (fun _ _ _ _ _ _ _ hm => absurd hm (Nat.not_lt_zero _))
  | succ n ih =>
    intro l1 l2 h  ok fl1 fl2 fi0    hm
    refine r_X6_readRay_26 l1 l2  ?_
    refine ⟨fun c_960 => ?_, fun c_960 => ?_⟩
    · have f_961 : R 4 4 4 := ⟨by decide, by decide⟩
      have f_962 : R 4 4 l2 := rf_le_r f_961 fl2 c_960 4 (by decide)
      have f_964 : R 1 1 1 := ⟨by decide, by decide⟩
      have f_963 : R 1 18 ((mI h 2 5) + 1) := R_add fi0 f_964 1 18 (by decide)
      have ok_965 := Ok_w ok (k := 2) (j := 5) (v := ((mI h 2 5) + 1)) (lo := 0) (hi := 18) (by decide) (R_w f_963 (by decide)) (by decide) (by decide)
      have f_966 : R 1 1 1 := ⟨by decide, by decide⟩
      exact hp _ _ ok_965 (R_w f_966 (by decide))
    · have f_967 : R 4 4 4 := ⟨by decide, by decide⟩
      have f_968 : R 0 3 l2 := rf_lt_l fl2 f_967 (nle c_960) 3 (by decide)
      refine ⟨fun c_969 => ?_, fun c_969 => ?_⟩
      · have f_970 : R 0 0 0 := ⟨by decide, by decide⟩
        have f_971 : R 0 0 l2 := rf_le_l f_968 f_970 c_969 0 (by decide)
        refine ⟨fun c_972 => ?_, fun c_972 => ?_⟩
        · have f_973 : R (-2147483648) 2147483647 (mI h 1 8) := R_full _
          have f_974 : R 45 45 45 := ⟨by decide, by decide⟩
          have f_975 : R 0 0 0 := ⟨by decide, by decide⟩
          have f_976 : R 3 3 3 := ⟨by decide, by decide⟩
          have f_977 : R 0 0 0 := ⟨by decide, by decide⟩
          have f_978 : R 3 3 3 := ⟨by decide, by decide⟩
          have f_979 : R 0 0 0 := ⟨by decide, by decide⟩
          have f_980 : R 3 3 3 := ⟨by decide, by decide⟩
          have f_981 : R 0 0 0 := ⟨by decide, by decide⟩
          have f_982 : R 3 3 3 := ⟨by decide, by decide⟩
          refine s_X6_needWhole_v2 0 3 ok.1 (R_w f_981 (by decide)) (R_w f_982 (by decide)) (fun r6 h5 ko_984 f_986 im_983 => ?_)
          have ok_985 := Ok_tr ok ko_984 (by decide)
          refine ⟨fun c_987 => ?_, fun c_987 => ?_⟩
          · have f_988 : R 0 0 0 := ⟨by decide, by decide⟩
            have f_989 := (im_983 c_987)
            have f_990 : R 1 1 r6 := rf_ne_lo f_986 c_987 (by decide) 1 rfl
            intro x8 ex8
            have f_991 : R 0 3 (l1 ||| (mI h5 1 11)) := R_or fl1 f_989 2 3 (by decide)
            have f_992 : R 0 3 x8 := rf_eq f_991 ex8
            refine ⟨fun c_993 => ?_, fun c_993 => ?_⟩
            · have f_994 : R 3 3 3 := ⟨by decide, by decide⟩
              have f_997 : R 4 4 4 := ⟨by decide, by decide⟩
              have f_998 : R 0 17 (mI h5 2 5) := Ok_rd ko_984 (by decide) fi0
              have f_996 : R 0 68 (4 * (mI h5 2 5)) := R_mul f_997 f_998 0 68 (by decide)
              have f_995 : R 0 68 ((4 * (mI h5 2 5)) + l2) := R_add f_996 f_971 0 68 (by decide)
              refine ⟨vin f_995 (by decide), ?_⟩
              have ok_999 := Ok_w ok_985 (k := 20) (j := ((4 * (mI h5 2 5)) + l2).toNatClampNeg) (v := (mI h5 1 11)) (lo := (-2147483648)) (hi := 2147483647) (rgc_20 _) (R_w f_989 (by decide)) (by decide) (nt_k (by decide))
              refine s_X6_next ok_999.1 (fun h12 ko_1000 => ?_)
              have ok_1001 := Ok_tr ok_999 ko_1000 (by decide)
              have f_1003 : R 1 1 1 := ⟨by decide, by decide⟩
              have f_1002 : R 1 1 (l2 + 1) := R_add f_971 f_1003 1 1 (by decide)
              have f_1005 : R 0 17 (mI (wI h5 20 ((4 * (mI h5 2 5)) + l2).toNatClampNeg (mI h5 1 11)) 2 5) := (rd_ne f_998 (by decide))
              have f_1004 : R 0 17 (mI h12 2 5) := Ok_rd ko_1000 (by decide) f_1005
              have g_1006 := gap_inc (N := 4) f_971 (by decide)
              exact ih x8 (l2 + 1) h12  ok_1001 (R_w f_992 (by decide)) (R_w f_1002 (by decide)) (R_w f_1004 (by decide)) (by omega)
            · have f_1007 : R 3 3 3 := ⟨by decide, by decide⟩
              have f_1008 : R 3 3 l2 := rf_eq f_1007 c_993
              exact (R_abs2 f_971 f_1008 (by decide)).elim
          · have f_1009 : R 0 0 0 := ⟨by decide, by decide⟩
            have f_1010 : R 0 0 r6 := rf_eq f_1009 c_987
            have f_1011 : R 0 0 0 := ⟨by decide, by decide⟩
            exact hp _ _ ok_985 (R_w f_1011 (by decide))
        · have f_1012 : R (-2147483648) 2147483647 (mI h 1 8) := R_full _
          have f_1013 : R 45 45 45 := ⟨by decide, by decide⟩
          have f_1014 : R 45 45 (mI h 1 8) := rf_eq f_1013 c_972
          refine s_X6_next ok.1 (fun h20 ko_1015 => ?_)
          have ok_1016 := Ok_tr ok ko_1015 (by decide)
          have f_1017 : R 0 0 0 := ⟨by decide, by decide⟩
          have f_1018 : R 3 3 3 := ⟨by decide, by decide⟩
          have f_1019 : R 0 0 0 := ⟨by decide, by decide⟩
          have f_1020 : R 3 3 3 := ⟨by decide, by decide⟩
          have f_1021 : R 0 0 0 := ⟨by decide, by decide⟩
          have f_1022 : R 3 3 3 := ⟨by decide, by decide⟩
          have f_1023 : R 0 0 0 := ⟨by decide, by decide⟩
          have f_1024 : R 3 3 3 := ⟨by decide, by decide⟩
          refine s_X6_needWhole_v2 0 3 ok_1016.1 (R_w f_1023 (by decide)) (R_w f_1024 (by decide)) (fun r22 h21 ko_1026 f_1028 im_1025 => ?_)
          have ok_1027 := Ok_tr ok_1016 ko_1026 (by decide)
          refine ⟨fun c_1029 => ?_, fun c_1029 => ?_⟩
          · have f_1030 : R 0 0 0 := ⟨by decide, by decide⟩
            have f_1031 := (im_1025 c_1029)
            have f_1032 : R 1 1 r22 := rf_ne_lo f_1028 c_1029 (by decide) 1 rfl
            intro x24 ex24
            have f_1033 : R 0 3 (l1 ||| (mI h21 1 11)) := R_or fl1 f_1031 2 3 (by decide)
            have f_1034 : R 0 3 x24 := rf_eq f_1033 ex24
            refine ⟨fun c_1035 => ?_, fun c_1035 => ?_⟩
            · have f_1036 : R 3 3 3 := ⟨by decide, by decide⟩
              have f_1039 : R 4 4 4 := ⟨by decide, by decide⟩
              have f_1041 : R 0 17 (mI h20 2 5) := Ok_rd ko_1015 (by decide) fi0
              have f_1040 : R 0 17 (mI h21 2 5) := Ok_rd ko_1026 (by decide) f_1041
              have f_1038 : R 0 68 (4 * (mI h21 2 5)) := R_mul f_1039 f_1040 0 68 (by decide)
              have f_1037 : R 0 68 ((4 * (mI h21 2 5)) + l2) := R_add f_1038 f_971 0 68 (by decide)
              refine ⟨vin f_1037 (by decide), ?_⟩
              have f_1042 : R (-3) 0 (-(mI h21 1 11)) := R_neg f_1031 (-3) 0 (by decide)
              have ok_1043 := Ok_w ok_1027 (k := 20) (j := ((4 * (mI h21 2 5)) + l2).toNatClampNeg) (v := (-(mI h21 1 11))) (lo := (-2147483648)) (hi := 2147483647) (rgc_20 _) (R_w f_1042 (by decide)) (by decide) (nt_k (by decide))
              refine s_X6_next ok_1043.1 (fun h28 ko_1044 => ?_)
              have ok_1045 := Ok_tr ok_1043 ko_1044 (by decide)
              have f_1047 : R 1 1 1 := ⟨by decide, by decide⟩
              have f_1046 : R 1 1 (l2 + 1) := R_add f_971 f_1047 1 1 (by decide)
              have f_1049 : R 0 17 (mI (wI h21 20 ((4 * (mI h21 2 5)) + l2).toNatClampNeg (-(mI h21 1 11))) 2 5) := (rd_ne f_1040 (by decide))
              have f_1048 : R 0 17 (mI h28 2 5) := Ok_rd ko_1044 (by decide) f_1049
              have g_1050 := gap_inc (N := 4) f_971 (by decide)
              exact ih x24 (l2 + 1) h28  ok_1045 (R_w f_1034 (by decide)) (R_w f_1046 (by decide)) (R_w f_1048 (by decide)) (by omega)
            · have f_1051 : R 3 3 3 := ⟨by decide, by decide⟩
              have f_1052 : R 3 3 l2 := rf_eq f_1051 c_1035
              exact (R_abs2 f_971 f_1052 (by decide)).elim
          · have f_1053 : R 0 0 0 := ⟨by decide, by decide⟩
            have f_1054 : R 0 0 r22 := rf_eq f_1053 c_1029
            have f_1055 : R 0 0 0 := ⟨by decide, by decide⟩
            exact hp _ _ ok_1027 (R_w f_1055 (by decide))
      · have f_1056 : R 0 0 0 := ⟨by decide, by decide⟩
        have f_1057 : R 1 3 l2 := rf_lt_r f_1056 f_968 (nle c_969) 1 (by decide)
        refine s_X6_pass 44 ok.1 (fun r36 h35 ko_1058 f_1060 => ?_)
        have ok_1059 := Ok_tr ok ko_1058 (by decide)
        refine ⟨fun c_1061 => ?_, fun c_1061 => ?_⟩
        · have f_1062 : R 0 0 0 := ⟨by decide, by decide⟩
          have f_1063 : R 1 1 r36 := rf_ne_lo f_1060 c_1061 (by decide) 1 rfl
          refine ⟨fun c_1064 => ?_, fun c_1064 => ?_⟩
          · have f_1065 : R (-2147483648) 2147483647 (mI h35 1 8) := R_full _
            have f_1066 : R 45 45 45 := ⟨by decide, by decide⟩
            have f_1067 : R 0 0 0 := ⟨by decide, by decide⟩
            have f_1068 : R 3 3 3 := ⟨by decide, by decide⟩
            have f_1069 : R 0 0 0 := ⟨by decide, by decide⟩
            have f_1070 : R 3 3 3 := ⟨by decide, by decide⟩
            have f_1071 : R 0 0 0 := ⟨by decide, by decide⟩
            have f_1072 : R 3 3 3 := ⟨by decide, by decide⟩
            have f_1073 : R 0 0 0 := ⟨by decide, by decide⟩
            have f_1074 : R 3 3 3 := ⟨by decide, by decide⟩
            refine s_X6_needWhole_v2 0 3 ok_1059.1 (R_w f_1073 (by decide)) (R_w f_1074 (by decide)) (fun r41 h40 ko_1076 f_1078 im_1075 => ?_)
            have ok_1077 := Ok_tr ok_1059 ko_1076 (by decide)
            refine ⟨fun c_1079 => ?_, fun c_1079 => ?_⟩
            · have f_1080 : R 0 0 0 := ⟨by decide, by decide⟩
              have f_1081 := (im_1075 c_1079)
              have f_1082 : R 1 1 r41 := rf_ne_lo f_1078 c_1079 (by decide) 1 rfl
              intro x43 ex43
              have f_1083 : R 0 3 (l1 ||| (mI h40 1 11)) := R_or fl1 f_1081 2 3 (by decide)
              have f_1084 : R 0 3 x43 := rf_eq f_1083 ex43
              refine ⟨fun c_1085 => ?_, fun c_1085 => ?_⟩
              · have f_1086 : R 3 3 3 := ⟨by decide, by decide⟩
                have f_1087 : R 1 2 l2 := rf_ne_hi f_1057 c_1085 (by decide) 2 rfl
                have f_1090 : R 4 4 4 := ⟨by decide, by decide⟩
                have f_1092 : R 0 17 (mI h35 2 5) := Ok_rd ko_1058 (by decide) fi0
                have f_1091 : R 0 17 (mI h40 2 5) := Ok_rd ko_1076 (by decide) f_1092
                have f_1089 : R 0 68 (4 * (mI h40 2 5)) := R_mul f_1090 f_1091 0 68 (by decide)
                have f_1088 : R 1 70 ((4 * (mI h40 2 5)) + l2) := R_add f_1089 f_1087 1 70 (by decide)
                refine ⟨vin f_1088 (by decide), ?_⟩
                have ok_1093 := Ok_w ok_1077 (k := 20) (j := ((4 * (mI h40 2 5)) + l2).toNatClampNeg) (v := (mI h40 1 11)) (lo := (-2147483648)) (hi := 2147483647) (rgc_20 _) (R_w f_1081 (by decide)) (by decide) (nt_k (by decide))
                refine s_X6_next ok_1093.1 (fun h47 ko_1094 => ?_)
                have ok_1095 := Ok_tr ok_1093 ko_1094 (by decide)
                have f_1097 : R 1 1 1 := ⟨by decide, by decide⟩
                have f_1096 : R 2 3 (l2 + 1) := R_add f_1087 f_1097 2 3 (by decide)
                have f_1099 : R 0 17 (mI (wI h40 20 ((4 * (mI h40 2 5)) + l2).toNatClampNeg (mI h40 1 11)) 2 5) := (rd_ne f_1091 (by decide))
                have f_1098 : R 0 17 (mI h47 2 5) := Ok_rd ko_1094 (by decide) f_1099
                have g_1100 := gap_inc (N := 4) f_1087 (by decide)
                exact ih x43 (l2 + 1) h47  ok_1095 (R_w f_1084 (by decide)) (R_w f_1096 (by decide)) (R_w f_1098 (by decide)) (by omega)
              · have f_1101 : R 3 3 3 := ⟨by decide, by decide⟩
                have f_1102 : R 3 3 l2 := rf_eq f_1101 c_1085
                refine ⟨fun c_1103 => ?_, fun c_1103 => ?_⟩
                · have f_1104 : R 0 0 0 := ⟨by decide, by decide⟩
                  have f_1105 : R 1 3 x43 := rf_ne_lo f_1084 c_1103 (by decide) 1 rfl
                  have f_1108 : R 4 4 4 := ⟨by decide, by decide⟩
                  have f_1110 : R 0 17 (mI h35 2 5) := Ok_rd ko_1058 (by decide) fi0
                  have f_1109 : R 0 17 (mI h40 2 5) := Ok_rd ko_1076 (by decide) f_1110
                  have f_1107 : R 0 68 (4 * (mI h40 2 5)) := R_mul f_1108 f_1109 0 68 (by decide)
                  have f_1106 : R 3 71 ((4 * (mI h40 2 5)) + l2) := R_add f_1107 f_1102 3 71 (by decide)
                  refine ⟨vin f_1106 (by decide), ?_⟩
                  have ok_1111 := Ok_w ok_1077 (k := 20) (j := ((4 * (mI h40 2 5)) + l2).toNatClampNeg) (v := (mI h40 1 11)) (lo := (-2147483648)) (hi := 2147483647) (rgc_20 _) (R_w f_1081 (by decide)) (by decide) (nt_k (by decide))
                  refine s_X6_next ok_1111.1 (fun h51 ko_1112 => ?_)
                  have ok_1113 := Ok_tr ok_1111 ko_1112 (by decide)
                  have f_1115 : R 1 1 1 := ⟨by decide, by decide⟩
                  have f_1114 : R 4 4 (l2 + 1) := R_add f_1102 f_1115 4 4 (by decide)
                  have f_1117 : R 0 17 (mI (wI h40 20 ((4 * (mI h40 2 5)) + l2).toNatClampNeg (mI h40 1 11)) 2 5) := (rd_ne f_1109 (by decide))
                  have f_1116 : R 0 17 (mI h51 2 5) := Ok_rd ko_1112 (by decide) f_1117
                  have g_1118 := gap_inc (N := 4) f_1102 (by decide)
                  exact ih x43 (l2 + 1) h51  ok_1113 (R_w f_1105 (by decide)) (R_w f_1114 (by decide)) (R_w f_1116 (by decide)) (by omega)
                · have f_1119 : R 0 0 0 := ⟨by decide, by decide⟩
                  have f_1120 : R 0 0 x43 := rf_eq f_1119 c_1103
                  refine s_X6_refuse 4 ok_1077.1 (fun r53 h52 ko_1121 f_1123 => ?_)
                  have ok_1122 := Ok_tr ok_1077 ko_1121 (by decide)
                  exact ⟨R_z (R_w f_1123 (by decide)), hp _ _ ok_1122 (R_w f_1123 (by decide))⟩
            · have f_1124 : R 0 0 0 := ⟨by decide, by decide⟩
              have f_1125 : R 0 0 r41 := rf_eq f_1124 c_1079
              have f_1126 : R 0 0 0 := ⟨by decide, by decide⟩
              exact hp _ _ ok_1077 (R_w f_1126 (by decide))
          · have f_1127 : R (-2147483648) 2147483647 (mI h35 1 8) := R_full _
            have f_1128 : R 45 45 45 := ⟨by decide, by decide⟩
            have f_1129 : R 45 45 (mI h35 1 8) := rf_eq f_1128 c_1064
            refine s_X6_next ok_1059.1 (fun h55 ko_1130 => ?_)
            have ok_1131 := Ok_tr ok_1059 ko_1130 (by decide)
            have f_1132 : R 0 0 0 := ⟨by decide, by decide⟩
            have f_1133 : R 3 3 3 := ⟨by decide, by decide⟩
            have f_1134 : R 0 0 0 := ⟨by decide, by decide⟩
            have f_1135 : R 3 3 3 := ⟨by decide, by decide⟩
            have f_1136 : R 0 0 0 := ⟨by decide, by decide⟩
            have f_1137 : R 3 3 3 := ⟨by decide, by decide⟩
            have f_1138 : R 0 0 0 := ⟨by decide, by decide⟩
            have f_1139 : R 3 3 3 := ⟨by decide, by decide⟩
            refine s_X6_needWhole_v2 0 3 ok_1131.1 (R_w f_1138 (by decide)) (R_w f_1139 (by decide)) (fun r57 h56 ko_1141 f_1143 im_1140 => ?_)
            have ok_1142 := Ok_tr ok_1131 ko_1141 (by decide)
            refine ⟨fun c_1144 => ?_, fun c_1144 => ?_⟩
            · have f_1145 : R 0 0 0 := ⟨by decide, by decide⟩
              have f_1146 := (im_1140 c_1144)
              have f_1147 : R 1 1 r57 := rf_ne_lo f_1143 c_1144 (by decide) 1 rfl
              intro x59 ex59
              have f_1148 : R 0 3 (l1 ||| (mI h56 1 11)) := R_or fl1 f_1146 2 3 (by decide)
              have f_1149 : R 0 3 x59 := rf_eq f_1148 ex59
              refine ⟨fun c_1150 => ?_, fun c_1150 => ?_⟩
              · have f_1151 : R 3 3 3 := ⟨by decide, by decide⟩
                have f_1152 : R 1 2 l2 := rf_ne_hi f_1057 c_1150 (by decide) 2 rfl
                have f_1155 : R 4 4 4 := ⟨by decide, by decide⟩
                have f_1158 : R 0 17 (mI h35 2 5) := Ok_rd ko_1058 (by decide) fi0
                have f_1157 : R 0 17 (mI h55 2 5) := Ok_rd ko_1130 (by decide) f_1158
                have f_1156 : R 0 17 (mI h56 2 5) := Ok_rd ko_1141 (by decide) f_1157
                have f_1154 : R 0 68 (4 * (mI h56 2 5)) := R_mul f_1155 f_1156 0 68 (by decide)
                have f_1153 : R 1 70 ((4 * (mI h56 2 5)) + l2) := R_add f_1154 f_1152 1 70 (by decide)
                refine ⟨vin f_1153 (by decide), ?_⟩
                have f_1159 : R (-3) 0 (-(mI h56 1 11)) := R_neg f_1146 (-3) 0 (by decide)
                have ok_1160 := Ok_w ok_1142 (k := 20) (j := ((4 * (mI h56 2 5)) + l2).toNatClampNeg) (v := (-(mI h56 1 11))) (lo := (-2147483648)) (hi := 2147483647) (rgc_20 _) (R_w f_1159 (by decide)) (by decide) (nt_k (by decide))
                refine s_X6_next ok_1160.1 (fun h63 ko_1161 => ?_)
                have ok_1162 := Ok_tr ok_1160 ko_1161 (by decide)
                have f_1164 : R 1 1 1 := ⟨by decide, by decide⟩
                have f_1163 : R 2 3 (l2 + 1) := R_add f_1152 f_1164 2 3 (by decide)
                have f_1166 : R 0 17 (mI (wI h56 20 ((4 * (mI h56 2 5)) + l2).toNatClampNeg (-(mI h56 1 11))) 2 5) := (rd_ne f_1156 (by decide))
                have f_1165 : R 0 17 (mI h63 2 5) := Ok_rd ko_1161 (by decide) f_1166
                have g_1167 := gap_inc (N := 4) f_1152 (by decide)
                exact ih x59 (l2 + 1) h63  ok_1162 (R_w f_1149 (by decide)) (R_w f_1163 (by decide)) (R_w f_1165 (by decide)) (by omega)
              · have f_1168 : R 3 3 3 := ⟨by decide, by decide⟩
                have f_1169 : R 3 3 l2 := rf_eq f_1168 c_1150
                refine ⟨fun c_1170 => ?_, fun c_1170 => ?_⟩
                · have f_1171 : R 0 0 0 := ⟨by decide, by decide⟩
                  have f_1172 : R 1 3 x59 := rf_ne_lo f_1149 c_1170 (by decide) 1 rfl
                  have f_1175 : R 4 4 4 := ⟨by decide, by decide⟩
                  have f_1178 : R 0 17 (mI h35 2 5) := Ok_rd ko_1058 (by decide) fi0
                  have f_1177 : R 0 17 (mI h55 2 5) := Ok_rd ko_1130 (by decide) f_1178
                  have f_1176 : R 0 17 (mI h56 2 5) := Ok_rd ko_1141 (by decide) f_1177
                  have f_1174 : R 0 68 (4 * (mI h56 2 5)) := R_mul f_1175 f_1176 0 68 (by decide)
                  have f_1173 : R 3 71 ((4 * (mI h56 2 5)) + l2) := R_add f_1174 f_1169 3 71 (by decide)
                  refine ⟨vin f_1173 (by decide), ?_⟩
                  have f_1179 : R (-3) 0 (-(mI h56 1 11)) := R_neg f_1146 (-3) 0 (by decide)
                  have ok_1180 := Ok_w ok_1142 (k := 20) (j := ((4 * (mI h56 2 5)) + l2).toNatClampNeg) (v := (-(mI h56 1 11))) (lo := (-2147483648)) (hi := 2147483647) (rgc_20 _) (R_w f_1179 (by decide)) (by decide) (nt_k (by decide))
                  refine s_X6_next ok_1180.1 (fun h67 ko_1181 => ?_)
                  have ok_1182 := Ok_tr ok_1180 ko_1181 (by decide)
                  have f_1184 : R 1 1 1 := ⟨by decide, by decide⟩
                  have f_1183 : R 4 4 (l2 + 1) := R_add f_1169 f_1184 4 4 (by decide)
                  have f_1186 : R 0 17 (mI (wI h56 20 ((4 * (mI h56 2 5)) + l2).toNatClampNeg (-(mI h56 1 11))) 2 5) := (rd_ne f_1176 (by decide))
                  have f_1185 : R 0 17 (mI h67 2 5) := Ok_rd ko_1181 (by decide) f_1186
                  have g_1187 := gap_inc (N := 4) f_1169 (by decide)
                  exact ih x59 (l2 + 1) h67  ok_1182 (R_w f_1172 (by decide)) (R_w f_1183 (by decide)) (R_w f_1185 (by decide)) (by omega)
                · have f_1188 : R 0 0 0 := ⟨by decide, by decide⟩
                  have f_1189 : R 0 0 x59 := rf_eq f_1188 c_1170
                  refine s_X6_refuse 4 ok_1142.1 (fun r69 h68 ko_1190 f_1192 => ?_)
                  have ok_1191 := Ok_tr ok_1142 ko_1190 (by decide)
                  exact ⟨R_z (R_w f_1192 (by decide)), hp _ _ ok_1191 (R_w f_1192 (by decide))⟩
            · have f_1193 : R 0 0 0 := ⟨by decide, by decide⟩
              have f_1194 : R 0 0 r57 := rf_eq f_1193 c_1144
              have f_1195 : R 0 0 0 := ⟨by decide, by decide⟩
              exact hp _ _ ok_1142 (R_w f_1195 (by decide))
        · have f_1196 : R 0 0 0 := ⟨by decide, by decide⟩
          have f_1197 : R 0 0 r36 := rf_eq f_1196 c_1061
          have f_1198 : R 0 0 0 := ⟨by decide, by decide⟩
          exact hp _ _ ok_1059 (R_w f_1198 (by decide))
set_option maxRecDepth 100000 in
set_option maxHeartbeats 4000000 in
theorem s_X6_readRay {g : gT} {h : mh_T} {P : Int32 → mh_T → Prop}  (hG : GI h)  (hp : ∀ (r : Int32) h', Ok [1, 2, 20] h h' → R 0 1 r → P r h') : MCi g yX6_readRay uX6_readRay [.ref 1] h P := by
  have ok : Ok [1, 2, 20] h h := Ok_rf hG
  have L0 := s_X6_readRay_L (g := g) hG hp 5
  refine e_X6_readRay   ?_
  refine ⟨fun c_1199 => ?_, fun c_1199 => ?_⟩
  · have f_1200 : R 0 18 (mI h 2 5) := GI_rd ok.1 2 _ (by decide)
    have f_1201 : R 18 18 18 := ⟨by decide, by decide⟩
    have f_1202 : R 0 17 (mI h 2 5) := rf_lt_l f_1200 f_1201 c_1199 17 (by decide)
    refine s_X6_next ok.1 (fun h2 ko_1203 => ?_)
    have ok_1204 := Ok_tr ok ko_1203 (by decide)
    have f_1205 : R 0 0 0 := ⟨by decide, by decide⟩
    have f_1206 : R 0 0 0 := ⟨by decide, by decide⟩
    have f_1208 : R 18 18 18 := ⟨by decide, by decide⟩
    have f_1207 : R 0 17 (mI h2 2 5) := Ok_rd ko_1203 (by decide) f_1202
    have f_1209 : R 0 0 0 := ⟨by decide, by decide⟩
    have g_1210 := gap_le (N := 4) f_1209 (m := 4) (by decide)
    exact L0 0 0 h2  ok_1204 (R_w f_1205 (by decide)) (R_w f_1206 (by decide)) (R_w f_1207 (by decide)) (by omega)
  · have f_1211 : R 0 18 (mI h 2 5) := GI_rd ok.1 2 _ (by decide)
    have f_1212 : R 18 18 18 := ⟨by decide, by decide⟩
    have f_1213 : R 18 18 (mI h 2 5) := rf_le_r f_1212 f_1211 (nlt c_1199) 18 (by decide)
    refine s_X6_refuse 5 ok.1 (fun r4 h3 ko_1214 f_1216 => ?_)
    have ok_1215 := Ok_tr ok ko_1214 (by decide)
    exact ⟨R_z (R_w f_1216 (by decide)), hp _ _ ok_1215 (R_w f_1216 (by decide))⟩
set_option maxRecDepth 100000 in
set_option maxHeartbeats 4000000 in
theorem s_X6_readRun_L {g : gT} {h0 : mh_T} {P : Int32 → mh_T → Prop} (hG0 : GI h0) (hp : ∀ (r : Int32) h', Ok [1, 2, 21, 22, 23] h0 h' → R 0 1 r → P r h') : ∀ n : Nat, (∀ (l1 : Int32) (h : mh_T), Ok [1, 2, 21, 22, 23] h0 h → R 0 6 l1 → R 0 3 (mI h 2 6) → 1 * gap 6 l1 + 0 < n → ME g uX6_readRun 19 [.ref 1, .int l1, .retAddr 0] [] h (qI P)) := by
  intro n
  induction n with
  | zero =>
    exact (fun _ _ _ _ _ hm => absurd hm (Nat.not_lt_zero _))
  | succ n ih =>
    intro l1 h  ok fl1 fi0    hm
    refine r_X6_readRun_19 l1  ?_
    refine ⟨fun c_632 => ?_, fun c_632 => ?_⟩
    · have f_633 : R 6 6 6 := ⟨by decide, by decide⟩
      have f_634 := rf_lt_l f_633 fl1 c_632 5 (by decide)
      exact (R_abs f_634 (by decide)).elim
    · have f_635 : R 6 6 6 := ⟨by decide, by decide⟩
      refine s_X6_next ok.1 (fun h4 ko_636 => ?_)
      have ok_637 := Ok_tr ok ko_636 (by decide)
      have f_639 : R 0 6 (mI h 2 1) := GI_rd ok.1 2 _ (by decide)
      have f_638 : R 0 6 (mI h4 2 1) := Ok_rd ko_636 (by decide) f_639
      refine s_X6_nameAmong_v0 13 6 (mI h4 2 1) rfl ok_637.1 (R_w f_638 (by decide)) (fun r6 h5 ko_640 f_642 => ?_)
      have ok_641 := Ok_tr ok_637 ko_640 (by decide)
      refine ⟨fun c_643 => ?_, fun c_643 => ?_⟩
      · have f_644 : R 0 0 0 := ⟨by decide, by decide⟩
        have f_645 : R 0 5 r6 := rf_le_r f_644 f_642 c_643 0 (by decide)
        refine ⟨fun c_646 => ?_, fun c_646 => ?_⟩
        · have f_647 : R 6 6 6 := ⟨by decide, by decide⟩
          have f_648 : R 0 5 l1 := rf_lt_l fl1 f_647 c_646 5 (by decide)
          refine s_X6_next ok_641.1 (fun h9 ko_649 => ?_)
          have ok_650 := Ok_tr ok_641 ko_649 (by decide)
          have f_651 : R 0 0 0 := ⟨by decide, by decide⟩
          have f_652 : R 1 1 1 := ⟨by decide, by decide⟩
          have f_653 : R 0 0 0 := ⟨by decide, by decide⟩
          have f_654 : R 1 1 1 := ⟨by decide, by decide⟩
          have f_655 : R 0 0 0 := ⟨by decide, by decide⟩
          have f_656 : R 1 1 1 := ⟨by decide, by decide⟩
          have f_657 : R 0 0 0 := ⟨by decide, by decide⟩
          have f_658 : R 1 1 1 := ⟨by decide, by decide⟩
          have f_659 : R 0 0 0 := ⟨by decide, by decide⟩
          have f_660 : R 1 1 1 := ⟨by decide, by decide⟩
          refine s_X6_needWhole_v3 0 1 ok_650.1 (R_w f_659 (by decide)) (R_w f_660 (by decide)) (fun r11 h10 ko_662 f_664 im_661 => ?_)
          have ok_663 := Ok_tr ok_650 ko_662 (by decide)
          refine ⟨fun c_665 => ?_, fun c_665 => ?_⟩
          · have f_666 : R 0 0 0 := ⟨by decide, by decide⟩
            have f_667 := (im_661 c_665)
            have f_668 : R 1 1 r11 := rf_ne_lo f_664 c_665 (by decide) 1 rfl
            have f_671 : R 6 6 6 := ⟨by decide, by decide⟩
            have f_675 : R 0 3 (mI h4 2 6) := Ok_rd ko_636 (by decide) fi0
            have f_674 : R 0 3 (mI h5 2 6) := Ok_rd ko_640 (by decide) f_675
            have f_673 : R 0 3 (mI h9 2 6) := Ok_rd ko_649 (by decide) f_674
            have f_672 : R 0 3 (mI h10 2 6) := Ok_rd ko_662 (by decide) f_673
            have f_670 : R 0 18 (6 * (mI h10 2 6)) := R_mul f_671 f_672 0 18 (by decide)
            have f_669 : R 0 23 ((6 * (mI h10 2 6)) + l1) := R_add f_670 f_648 0 23 (by decide)
            refine ⟨vin f_669 (by decide), ?_⟩
            have f_678 : R 6 6 6 := ⟨by decide, by decide⟩
            have f_679 : R 0 3 (mI (wI h10 22 ((6 * (mI h10 2 6)) + l1).toNatClampNeg r6) 2 6) := (rd_ne f_672 (by decide))
            have f_677 : R 0 18 (6 * (mI (wI h10 22 ((6 * (mI h10 2 6)) + l1).toNatClampNeg r6) 2 6)) := R_mul f_678 f_679 0 18 (by decide)
            have f_676 : R 0 23 ((6 * (mI (wI h10 22 ((6 * (mI h10 2 6)) + l1).toNatClampNeg r6) 2 6)) + l1) := R_add f_677 f_648 0 23 (by decide)
            refine ⟨vin f_676 (by decide), ?_⟩
            have f_680 : R 0 3 (mI (wI (wI h10 22 ((6 * (mI h10 2 6)) + l1).toNatClampNeg r6) 23 ((6 * (mI (wI h10 22 ((6 * (mI h10 2 6)) + l1).toNatClampNeg r6) 2 6)) + l1).toNatClampNeg (mI (wI h10 22 ((6 * (mI h10 2 6)) + l1).toNatClampNeg r6) 1 11)) 2 6) := (rd_ne f_679 (by decide))
            refine ⟨vin f_680 (by decide), ?_⟩
            have f_681 : R 0 0 0 := ⟨by decide, by decide⟩
            have ok_682 := Ok_w ok_663 (k := 22) (j := ((6 * (mI h10 2 6)) + l1).toNatClampNeg) (v := r6) (lo := 0) (hi := 5) rfl f_645 (by decide) (nt_k (by decide))
            have f_683 : R 0 1 (mI (wI h10 22 ((6 * (mI h10 2 6)) + l1).toNatClampNeg r6) 1 11) := (rd_ne f_667 (by decide))
            have ok_684 := Ok_w ok_682 (k := 23) (j := ((6 * (mI (wI h10 22 ((6 * (mI h10 2 6)) + l1).toNatClampNeg r6) 2 6)) + l1).toNatClampNeg) (v := (mI (wI h10 22 ((6 * (mI h10 2 6)) + l1).toNatClampNeg r6) 1 11)) (lo := 0) (hi := 1) rfl f_683 (by decide) (nt_k (by decide))
            have f_686 : R 1 1 1 := ⟨by decide, by decide⟩
            have f_685 : R 1 6 (l1 + 1) := R_add f_648 f_686 1 6 (by decide)
            have ok_687 := Ok_w ok_684 (k := 21) (j := (mI (wI (wI h10 22 ((6 * (mI h10 2 6)) + l1).toNatClampNeg r6) 23 ((6 * (mI (wI h10 22 ((6 * (mI h10 2 6)) + l1).toNatClampNeg r6) 2 6)) + l1).toNatClampNeg (mI (wI h10 22 ((6 * (mI h10 2 6)) + l1).toNatClampNeg r6) 1 11)) 2 6).toNatClampNeg) (v := (l1 + 1)) (lo := 0) (hi := 6) rfl (R_w f_685 (by decide)) (by decide) (nt_k (by decide))
            refine s_X6_next ok_687.1 (fun h16 ko_688 => ?_)
            have ok_689 := Ok_tr ok_687 ko_688 (by decide)
            refine ⟨fun c_690 => ?_, fun c_690 => ?_⟩
            · have f_691 : R (-2147483648) 2147483647 (mI h16 1 8) := R_full _
              have f_692 : R 44 44 44 := ⟨by decide, by decide⟩
              have f_693 : R 44 44 (mI h16 1 8) := rf_eq f_692 c_690
              have f_695 : R 0 3 (mI (wI (wI (wI h10 22 ((6 * (mI h10 2 6)) + l1).toNatClampNeg r6) 23 ((6 * (mI (wI h10 22 ((6 * (mI h10 2 6)) + l1).toNatClampNeg r6) 2 6)) + l1).toNatClampNeg (mI (wI h10 22 ((6 * (mI h10 2 6)) + l1).toNatClampNeg r6) 1 11)) 21 (mI (wI (wI h10 22 ((6 * (mI h10 2 6)) + l1).toNatClampNeg r6) 23 ((6 * (mI (wI h10 22 ((6 * (mI h10 2 6)) + l1).toNatClampNeg r6) 2 6)) + l1).toNatClampNeg (mI (wI h10 22 ((6 * (mI h10 2 6)) + l1).toNatClampNeg r6) 1 11)) 2 6).toNatClampNeg (l1 + 1)) 2 6) := (rd_ne f_680 (by decide))
              have f_694 : R 0 3 (mI h16 2 6) := Ok_rd ko_688 (by decide) f_695
              have g_696 := gap_inc (N := 6) f_648 (by decide)
              exact ih (l1 + 1) h16  ok_689 (R_w f_685 (by decide)) (R_w f_694 (by decide)) (by omega)
            · have f_697 : R (-2147483648) 2147483647 (mI h16 1 8) := R_full _
              have f_698 : R 44 44 44 := ⟨by decide, by decide⟩
              have f_701 : R 0 3 (mI (wI (wI (wI h10 22 ((6 * (mI h10 2 6)) + l1).toNatClampNeg r6) 23 ((6 * (mI (wI h10 22 ((6 * (mI h10 2 6)) + l1).toNatClampNeg r6) 2 6)) + l1).toNatClampNeg (mI (wI h10 22 ((6 * (mI h10 2 6)) + l1).toNatClampNeg r6) 1 11)) 21 (mI (wI (wI h10 22 ((6 * (mI h10 2 6)) + l1).toNatClampNeg r6) 23 ((6 * (mI (wI h10 22 ((6 * (mI h10 2 6)) + l1).toNatClampNeg r6) 2 6)) + l1).toNatClampNeg (mI (wI h10 22 ((6 * (mI h10 2 6)) + l1).toNatClampNeg r6) 1 11)) 2 6).toNatClampNeg (l1 + 1)) 2 6) := (rd_ne f_680 (by decide))
              have f_700 : R 0 3 (mI h16 2 6) := Ok_rd ko_688 (by decide) f_701
              have f_702 : R 1 1 1 := ⟨by decide, by decide⟩
              have f_699 : R 1 4 ((mI h16 2 6) + 1) := R_add f_700 f_702 1 4 (by decide)
              have ok_703 := Ok_w ok_689 (k := 2) (j := 6) (v := ((mI h16 2 6) + 1)) (lo := 0) (hi := 4) (by decide) (R_w f_699 (by decide)) (by decide) (by decide)
              have f_704 : R 1 1 1 := ⟨by decide, by decide⟩
              exact hp _ _ ok_703 (R_w f_704 (by decide))
          · have f_705 : R 0 0 0 := ⟨by decide, by decide⟩
            have f_706 : R 0 0 r11 := rf_eq f_705 c_665
            have f_707 : R 0 0 0 := ⟨by decide, by decide⟩
            exact hp _ _ ok_663 (R_w f_707 (by decide))
        · have f_708 : R 6 6 6 := ⟨by decide, by decide⟩
          have f_709 : R 6 6 l1 := rf_le_r f_708 fl1 (nlt c_646) 6 (by decide)
          refine s_X6_refuse 5 ok_641.1 (fun r19 h18 ko_710 f_712 => ?_)
          have ok_711 := Ok_tr ok_641 ko_710 (by decide)
          exact ⟨R_z (R_w f_712 (by decide)), hp _ _ ok_711 (R_w f_712 (by decide))⟩
      · have f_713 : R 0 0 0 := ⟨by decide, by decide⟩
        have f_714 : R (-1) (-1) r6 := rf_lt_l f_642 f_713 (nle c_643) (-1) (by decide)
        have f_715 : R 0 0 0 := ⟨by decide, by decide⟩
        exact hp _ _ ok_641 (R_w f_715 (by decide))
set_option maxRecDepth 100000 in
set_option maxHeartbeats 4000000 in
theorem s_X6_readRun {g : gT} {h : mh_T} {P : Int32 → mh_T → Prop}  (hG : GI h)  (hp : ∀ (r : Int32) h', Ok [1, 2, 21, 22, 23] h h' → R 0 1 r → P r h') : MCi g yX6_readRun uX6_readRun [.ref 1] h P := by
  have ok : Ok [1, 2, 21, 22, 23] h h := Ok_rf hG
  have L0 := s_X6_readRun_L (g := g) hG hp 7
  refine e_X6_readRun   ?_
  refine ⟨fun c_716 => ?_, fun c_716 => ?_⟩
  · have f_717 : R 0 4 (mI h 2 6) := GI_rd ok.1 2 _ (by decide)
    have f_718 : R 4 4 4 := ⟨by decide, by decide⟩
    have f_719 : R 0 3 (mI h 2 6) := rf_lt_l f_717 f_718 c_716 3 (by decide)
    have f_720 : R 0 0 0 := ⟨by decide, by decide⟩
    have f_721 : R 4 4 4 := ⟨by decide, by decide⟩
    have f_722 : R 0 0 0 := ⟨by decide, by decide⟩
    have g_723 := gap_le (N := 6) f_722 (m := 6) (by decide)
    exact L0 0 h  ok (R_w f_720 (by decide)) (R_w f_719 (by decide)) (by omega)
  · have f_724 : R 0 4 (mI h 2 6) := GI_rd ok.1 2 _ (by decide)
    have f_725 : R 4 4 4 := ⟨by decide, by decide⟩
    have f_726 : R 4 4 (mI h 2 6) := rf_le_r f_725 f_724 (nlt c_716) 4 (by decide)
    refine s_X6_refuse 5 ok.1 (fun r3 h2 ko_727 f_729 => ?_)
    have ok_728 := Ok_tr ok ko_727 (by decide)
    exact ⟨R_z (R_w f_729 (by decide)), hp _ _ ok_728 (R_w f_729 (by decide))⟩
set_option maxRecDepth 100000 in
set_option maxHeartbeats 4000000 in
theorem s_X6_readLine {g : gT} {h : mh_T} {P : Int32 → mh_T → Prop}  (hG : GI h)  (hp : ∀ (r : Int32) h', Ok [1, 2, 13, 14, 15, 16, 17, 18, 19, 20, 21, 22, 23] h h' → R 0 1 r → P r h') : MCi g yX6_readLine uX6_readLine [.ref 1] h P := by
  have ok : Ok [1, 2, 13, 14, 15, 16, 17, 18, 19, 20, 21, 22, 23] h h := Ok_rf hG
  refine e_X6_readLine   ?_
  refine s_X6_says 0 (by decide) ok.1 (fun r2 f_72 => ?_)
  refine ⟨fun c_73 => ?_, fun c_73 => ?_⟩
  · have f_74 : R 0 0 0 := ⟨by decide, by decide⟩
    have f_75 : R 0 0 r2 := rf_eq f_74 c_73
    refine s_X6_says 1 (by decide) ok.1 (fun r5 f_76 => ?_)
    refine ⟨fun c_77 => ?_, fun c_77 => ?_⟩
    · have f_78 : R 0 0 0 := ⟨by decide, by decide⟩
      have f_79 : R 0 0 r5 := rf_eq f_78 c_77
      refine s_X6_says 2 (by decide) ok.1 (fun r8 f_80 => ?_)
      refine ⟨fun c_81 => ?_, fun c_81 => ?_⟩
      · have f_82 : R 0 0 0 := ⟨by decide, by decide⟩
        have f_83 : R 0 0 r8 := rf_eq f_82 c_81
        refine s_X6_says 3 (by decide) ok.1 (fun r11 f_84 => ?_)
        refine ⟨fun c_85 => ?_, fun c_85 => ?_⟩
        · have f_86 : R 0 0 0 := ⟨by decide, by decide⟩
          have f_87 : R 0 0 r11 := rf_eq f_86 c_85
          refine s_X6_says 4 (by decide) ok.1 (fun r14 f_88 => ?_)
          refine ⟨fun c_89 => ?_, fun c_89 => ?_⟩
          · have f_90 : R 0 0 0 := ⟨by decide, by decide⟩
            have f_91 : R 0 0 r14 := rf_eq f_90 c_89
            refine s_X6_says 5 (by decide) ok.1 (fun r17 f_92 => ?_)
            refine ⟨fun c_93 => ?_, fun c_93 => ?_⟩
            · have f_94 : R 0 0 0 := ⟨by decide, by decide⟩
              have f_95 : R 0 0 r17 := rf_eq f_94 c_93
              refine s_X6_says 6 (by decide) ok.1 (fun r20 f_96 => ?_)
              refine ⟨fun c_97 => ?_, fun c_97 => ?_⟩
              · have f_98 : R 0 0 0 := ⟨by decide, by decide⟩
                have f_99 : R 0 0 r20 := rf_eq f_98 c_97
                refine s_X6_refuse 1 ok.1 (fun r23 h22 ko_100 f_102 => ?_)
                have ok_101 := Ok_tr ok ko_100 (by decide)
                exact ⟨R_z (R_w f_102 (by decide)), hp _ _ ok_101 (R_w f_102 (by decide))⟩
              · have f_103 : R 0 0 0 := ⟨by decide, by decide⟩
                have f_104 : R 1 1 r20 := rf_ne_lo f_96 c_97 (by decide) 1 rfl
                refine s_X6_readRun ok.1 (fun r25 h24 ko_105 f_107 => ?_)
                have ok_106 := Ok_tr ok ko_105 (by decide)
                exact ⟨R_z (R_w f_107 (by decide)), hp _ _ ok_106 (R_w f_107 (by decide))⟩
            · have f_108 : R 0 0 0 := ⟨by decide, by decide⟩
              have f_109 : R 1 1 r17 := rf_ne_lo f_92 c_93 (by decide) 1 rfl
              refine s_X6_readRay ok.1 (fun r27 h26 ko_110 f_112 => ?_)
              have ok_111 := Ok_tr ok ko_110 (by decide)
              exact ⟨R_z (R_w f_112 (by decide)), hp _ _ ok_111 (R_w f_112 (by decide))⟩
          · have f_113 : R 0 0 0 := ⟨by decide, by decide⟩
            have f_114 : R 1 1 r14 := rf_ne_lo f_88 c_89 (by decide) 1 rfl
            refine s_X6_readParity ok.1 (fun r29 h28 ko_115 f_117 => ?_)
            have ok_116 := Ok_tr ok ko_115 (by decide)
            exact ⟨R_z (R_w f_117 (by decide)), hp _ _ ok_116 (R_w f_117 (by decide))⟩
        · have f_118 : R 0 0 0 := ⟨by decide, by decide⟩
          have f_119 : R 1 1 r11 := rf_ne_lo f_84 c_85 (by decide) 1 rfl
          refine s_X6_readSet ok.1 (fun r31 h30 ko_120 f_122 => ?_)
          have ok_121 := Ok_tr ok ko_120 (by decide)
          exact ⟨R_z (R_w f_122 (by decide)), hp _ _ ok_121 (R_w f_122 (by decide))⟩
      · have f_123 : R 0 0 0 := ⟨by decide, by decide⟩
        have f_124 : R 1 1 r8 := rf_ne_lo f_80 c_81 (by decide) 1 rfl
        have f_125 : R 0 0 0 := ⟨by decide, by decide⟩
        have f_126 : R 0 0 0 := ⟨by decide, by decide⟩
        have f_127 : R 0 0 0 := ⟨by decide, by decide⟩
        refine s_X6_readNames_v1 14 9 0 rfl ⟨rfl, rfl⟩ ok.1 (R_w f_127 (by decide)) (fun r33 h32 ko_128 f_130 => ?_)
        have ok_129 := Ok_tr ok ko_128 (by decide)
        exact ⟨R_z (R_w f_130 (by decide)), hp _ _ ok_129 (R_w f_130 (by decide))⟩
    · have f_131 : R 0 0 0 := ⟨by decide, by decide⟩
      have f_132 : R 1 1 r5 := rf_ne_lo f_76 c_77 (by decide) 1 rfl
      have f_133 : R 1 1 1 := ⟨by decide, by decide⟩
      have f_134 : R 1 1 1 := ⟨by decide, by decide⟩
      refine s_X6_readNames_v0 13 6 1 rfl ⟨rfl, rfl⟩ ok.1 (R_w f_134 (by decide)) (fun r35 h34 ko_135 f_137 => ?_)
      have ok_136 := Ok_tr ok ko_135 (by decide)
      exact ⟨R_z (R_w f_137 (by decide)), hp _ _ ok_136 (R_w f_137 (by decide))⟩
  · have f_138 : R 0 0 0 := ⟨by decide, by decide⟩
    have f_139 : R 1 1 r2 := rf_ne_lo f_72 c_73 (by decide) 1 rfl
    refine s_X6_readLaw ok.1 (fun r37 h36 ko_140 f_142 => ?_)
    have ok_141 := Ok_tr ok ko_140 (by decide)
    exact ⟨R_z (R_w f_142 (by decide)), hp _ _ ok_141 (R_w f_142 (by decide))⟩
set_option maxRecDepth 100000 in
set_option maxHeartbeats 4000000 in
theorem s_X6_goesOn {g : gT} {h : mh_T} {P : Int32 → mh_T → Prop}  (hG : GI h)  (hp : ∀ (r : Int32) h', Ok [1] h h' → R 0 1 r → P r h') : MCi g yX6_goesOn uX6_goesOn [.ref 1] h P := by
  have ok : Ok [1] h h := Ok_rf hG
  refine e_X6_goesOn   ?_
  refine ⟨fun c_33 => ?_, fun c_33 => ?_⟩
  · have f_34 : R (-2147483648) 2147483647 (mI h 1 8) := R_full _
    have f_35 : R 0 0 0 := ⟨by decide, by decide⟩
    refine s_X6_pass 59 ok.1 (fun r3 h2 ko_36 f_38 => ?_)
    have ok_37 := Ok_tr ok ko_36 (by decide)
    exact ⟨R_z (R_w f_38 (by decide)), hp _ _ ok_37 (R_w f_38 (by decide))⟩
  · have f_39 : R (-2147483648) 2147483647 (mI h 1 8) := R_full _
    have f_40 : R 0 0 0 := ⟨by decide, by decide⟩
    have f_41 : R 0 0 (mI h 1 8) := rf_eq f_40 c_33
    refine ⟨fun c_42 => ?_, fun c_42 => ?_⟩
    · have f_43 : R 0 60 (mI h 2 0) := GI_rd ok.1 2 _ (by decide)
      have f_44 : R 0 0 0 := ⟨by decide, by decide⟩
      have f_45 : R 0 0 (mI h 2 0) := rf_eq f_44 c_42
      refine s_X6_refuse 6 ok.1 (fun r6 h5 ko_46 f_48 => ?_)
      have ok_47 := Ok_tr ok ko_46 (by decide)
      have f_49 : R 0 0 0 := ⟨by decide, by decide⟩
      exact hp _ _ ok_47 (R_w f_49 (by decide))
    · have f_50 : R 0 60 (mI h 2 0) := GI_rd ok.1 2 _ (by decide)
      have f_51 : R 0 0 0 := ⟨by decide, by decide⟩
      have f_52 : R 1 60 (mI h 2 0) := rf_ne_lo f_50 c_42 (by decide) 1 rfl
      refine ⟨fun c_53 => ?_, fun c_53 => ?_⟩
      · have f_54 : R 0 6 (mI h 2 1) := GI_rd ok.1 2 _ (by decide)
        have f_55 : R 0 0 0 := ⟨by decide, by decide⟩
        have f_56 : R 1 6 (mI h 2 1) := rf_ne_lo f_54 c_53 (by decide) 1 rfl
        have f_57 : R 0 0 0 := ⟨by decide, by decide⟩
        exact hp _ _ ok (R_w f_57 (by decide))
      · have f_58 : R 0 6 (mI h 2 1) := GI_rd ok.1 2 _ (by decide)
        have f_59 : R 0 0 0 := ⟨by decide, by decide⟩
        have f_60 : R 0 0 (mI h 2 1) := rf_eq f_59 c_53
        refine s_X6_refuse 6 ok.1 (fun r9 h8 ko_61 f_63 => ?_)
        have ok_62 := Ok_tr ok ko_61 (by decide)
        have f_64 : R 0 0 0 := ⟨by decide, by decide⟩
        exact hp _ _ ok_62 (R_w f_64 (by decide))
set_option maxRecDepth 100000 in
set_option maxHeartbeats 4000000 in
theorem s_X6_read_L {g : gT} {h0 : mh_T} {P : mh_T → Prop} (hG0 : GI h0) (hp : ∀ h', Ok [1, 2, 13, 14, 15, 16, 17, 18, 19, 20, 21, 22, 23] h0 h' → P h') : ∀ n : Nat, (∀ (l1 : Int32) (l2 : Int32) (l3 : Int32) (h : mh_T), Ok [1, 2, 13, 14, 15, 16, 17, 18, 19, 20, 21, 22, 23] h0 h → R 0 900 l1 → R 0 1 l2 → R 0 980 l3 → 1 * gap 980 l3 + 0 < n → ME g uX6_read 43 [.ref 1, .int l1, .int l2, .int l3] [] h (qV P)) := by
  intro n
  induction n with
  | zero =>
    exact (fun _ _ _ _ _ _ _ _ hm => absurd hm (Nat.not_lt_zero _))
  | succ n ih =>
    intro l1 l2 l3 h  ok fl1 fl2 fl3     hm
    refine r_X6_read_43 l1 l2 l3  ?_
    refine ⟨fun c_2364 => ?_, fun c_2364 => ?_⟩
    · have f_2365 : R 0 0 0 := ⟨by decide, by decide⟩
      have f_2366 : R 0 0 l2 := rf_eq f_2365 c_2364
      exact hp _ ok
    · have f_2367 : R 0 0 0 := ⟨by decide, by decide⟩
      have f_2368 : R 1 1 l2 := rf_ne_lo fl2 c_2364 (by decide) 1 rfl
      refine ⟨fun c_2369 => ?_, fun c_2369 => ?_⟩
      · have f_2370 : R 0 900 (mI h 1 6) := GI_rd ok.1 1 _ (by decide)
        have f_2371 : R 1 980 l3 := rf_lt_r f_2370 fl3 c_2369 1 (by decide)
        exact hp _ ok
      · have f_2372 : R 0 900 (mI h 1 6) := GI_rd ok.1 1 _ (by decide)
        have f_2373 : R 0 900 l3 := rf_le_l fl3 f_2372 (nlt c_2369) 900 (by decide)
        refine s_X6_readLine ok.1 (fun r4 h3 ko_2374 f_2376 => ?_)
        have ok_2375 := Ok_tr ok ko_2374 (by decide)
        refine ⟨fun c_2377 => ?_, fun c_2377 => ?_⟩
        · have f_2378 : R 0 0 0 := ⟨by decide, by decide⟩
          have f_2379 : R 0 0 r4 := rf_eq f_2378 c_2377
          have f_2380 : R 0 0 0 := ⟨by decide, by decide⟩
          have f_2382 : R 1 1 1 := ⟨by decide, by decide⟩
          have f_2381 : R 1 901 (l3 + 1) := R_add f_2373 f_2382 1 901 (by decide)
          have g_2383 := gap_inc (N := 980) f_2373 (by decide)
          exact ih l1 0 (l3 + 1) h3  ok_2375 (R_w fl1 (by decide)) (R_w f_2380 (by decide)) (R_w f_2381 (by decide)) (by omega)
        · have f_2384 : R 0 0 0 := ⟨by decide, by decide⟩
          have f_2385 : R 1 1 r4 := rf_ne_lo f_2376 c_2377 (by decide) 1 rfl
          refine s_X6_goesOn ok_2375.1 (fun r7 h6 ko_2386 f_2388 => ?_)
          have ok_2387 := Ok_tr ok_2375 ko_2386 (by decide)
          refine ⟨fun c_2389 => ?_, fun c_2389 => ?_⟩
          · have f_2390 : R 0 0 0 := ⟨by decide, by decide⟩
            have f_2391 : R 0 0 r7 := rf_eq f_2390 c_2389
            have f_2392 : R 0 0 0 := ⟨by decide, by decide⟩
            have f_2394 : R 1 1 1 := ⟨by decide, by decide⟩
            have f_2393 : R 1 901 (l3 + 1) := R_add f_2373 f_2394 1 901 (by decide)
            have g_2395 := gap_inc (N := 980) f_2373 (by decide)
            exact ih l1 0 (l3 + 1) h6  ok_2387 (R_w fl1 (by decide)) (R_w f_2392 (by decide)) (R_w f_2393 (by decide)) (by omega)
          · have f_2396 : R 0 0 0 := ⟨by decide, by decide⟩
            have f_2397 : R 1 1 r7 := rf_ne_lo f_2388 c_2389 (by decide) 1 rfl
            have f_2398 : R 1 1 1 := ⟨by decide, by decide⟩
            have f_2400 : R 1 1 1 := ⟨by decide, by decide⟩
            have f_2399 : R 1 901 (l3 + 1) := R_add f_2373 f_2400 1 901 (by decide)
            have g_2401 := gap_inc (N := 980) f_2373 (by decide)
            exact ih l1 1 (l3 + 1) h6  ok_2387 (R_w fl1 (by decide)) (R_w f_2398 (by decide)) (R_w f_2399 (by decide)) (by omega)
set_option maxRecDepth 100000 in
set_option maxHeartbeats 4000000 in
theorem s_X6_read {g : gT} {h : mh_T} {P : mh_T → Prop} (l1 : Int32) (hG : GI h) (fl1 : R 0 900 l1) (hp : ∀ h', Ok [1, 2, 13, 14, 15, 16, 17, 18, 19, 20, 21, 22, 23] h h' → P h') : MCv g yX6_read uX6_read [.ref 1, .int l1] h P := by
  have ok : Ok [1, 2, 13, 14, 15, 16, 17, 18, 19, 20, 21, 22, 23] h h := Ok_rf hG
  have L0 := s_X6_read_L (g := g) hG hp 981
  refine e_X6_read l1  ?_
  refine s_X1_clear ok.1 (fun h1 ko_2402 => ?_)
  have ok_2403 := Ok_tr ok ko_2402 (by decide)
  have f_2404 : R 0 0 0 := ⟨by decide, by decide⟩
  have ok_2405 := Ok_w ok_2403 (k := 1) (j := 1) (v := 0) (lo := (-2147483648)) (hi := 2147483647) (by decide) (R_w f_2404 (by decide)) (by decide) (by decide)
  have f_2406 : R 0 0 0 := ⟨by decide, by decide⟩
  have ok_2407 := Ok_w ok_2405 (k := 1) (j := 2) (v := 0) (lo := (-2147483648)) (hi := 2147483647) (by decide) (R_w f_2406 (by decide)) (by decide) (by decide)
  have f_2409 : R 900 900 900 := ⟨by decide, by decide⟩
  have f_2408 : R 0 900 (if 900 < l1 then 900 else l1) := R_ite (R_w f_2409 (by decide)) (R_w fl1 (by decide))
  have ok_2410 := Ok_w ok_2407 (k := 1) (j := 6) (v := (if 900 < l1 then 900 else l1)) (lo := 0) (hi := 900) (by decide) f_2408 (by decide) (by decide)
  have f_2411 : R 0 0 0 := ⟨by decide, by decide⟩
  have ok_2412 := Ok_w ok_2410 (k := 1) (j := 7) (v := 0) (lo := 0) (hi := 900) (by decide) (R_w f_2411 (by decide)) (by decide) (by decide)
  refine s_X6_next ok_2412.1 (fun h2 ko_2413 => ?_)
  have ok_2414 := Ok_tr ok_2412 ko_2413 (by decide)
  have f_2415 : R 1 1 1 := ⟨by decide, by decide⟩
  have f_2416 : R 0 0 0 := ⟨by decide, by decide⟩
  have f_2417 : R 0 0 0 := ⟨by decide, by decide⟩
  have g_2418 := gap_le (N := 980) f_2417 (m := 980) (by decide)
  exact L0 l1 1 0 h2  ok_2414 (R_w fl1 (by decide)) (R_w f_2415 (by decide)) (R_w f_2416 (by decide)) (by omega)
set_option maxRecDepth 100000 in
set_option maxHeartbeats 4000000 in
theorem s_X8_hasSet {g : gT} {h : mh_T} {P : Int32 → mh_T → Prop} (l1 : Int32) (hG : GI h)  (hp : ∀ r : Int32, R 0 1 r → (¬ r = 0 → R 0 7 l1 ∧ R 1 8 (mI h 3 2)) → P r h) : MCi g yX8_hasSet uX8_hasSet [.ref 3, .int l1] h P := by
  have ok : Ok [] h h := Ok_rf hG
  refine e_X8_hasSet l1  ?_
  refine ⟨fun c_16 => ?_, fun c_16 => ?_⟩
  · have f_17 : R 0 0 0 := ⟨by decide, by decide⟩
    have f_18 : R (-2147483648) (-1) l1 := rf_lt_l (R_full l1) f_17 c_16 (-1) (by decide)
    have f_19 : R 0 0 0 := ⟨by decide, by decide⟩
    exact hp _ (R_w f_19 (by decide)) (fun z => absurd rfl z)
  · have f_20 : R 0 0 0 := ⟨by decide, by decide⟩
    have f_21 : R 0 2147483647 l1 := rf_le_r f_20 (R_full l1) (nlt c_16) 0 (by decide)
    refine ⟨fun c_22 => ?_, fun c_22 => ?_⟩
    · have f_23 : R 0 8 (mI h 3 2) := GI_rd ok.1 3 _ (by decide)
      have f_24 : R 0 0 0 := ⟨by decide, by decide⟩
      exact hp _ (R_w f_24 (by decide)) (fun z => absurd rfl z)
    · have f_25 : R 0 8 (mI h 3 2) := GI_rd ok.1 3 _ (by decide)
      have f_26 : R 0 7 l1 := rf_lt_l f_21 f_25 (nle c_22) 7 (by decide)
      have f_27 : R 1 8 (mI h 3 2) := rf_lt_r f_21 f_25 (nle c_22) 1 (by decide)
      have f_28 : R 1 1 1 := ⟨by decide, by decide⟩
      have f_29 : R 1 1 1 := ⟨by decide, by decide⟩
      have f_30 : R 0 0 0 := ⟨by decide, by decide⟩
      exact hp _ (R_w f_28 (by decide)) (fun _ => ⟨R_w f_26 (by decide), R_w f_27 (by decide)⟩)
set_option maxRecDepth 100000 in
set_option maxHeartbeats 4000000 in
theorem s_X8_hasPair {g : gT} {h : mh_T} {P : Int32 → mh_T → Prop} (l1 : Int32) (hG : GI h)  (hp : ∀ r : Int32, R 0 1 r → (¬ r = 0 → R 0 7 l1) → P r h) : MCi g yX8_hasPair uX8_hasPair [.ref 3, .int l1] h P := by
  have ok : Ok [] h h := Ok_rf hG
  refine e_X8_hasPair l1  ?_
  refine s_X8_hasSet l1 ok.1 (fun r2 f_22 im_21 => ?_)
  refine ⟨fun c_23 => ?_, fun c_23 => ?_⟩
  · have f_24 : R 0 0 0 := ⟨by decide, by decide⟩
    have f_25 : R 0 0 r2 := rf_eq f_24 c_23
    have f_26 : R 0 0 0 := ⟨by decide, by decide⟩
    exact hp _ (R_w f_26 (by decide)) (fun z => absurd rfl z)
  · have f_27 : R 0 0 0 := ⟨by decide, by decide⟩
    have f_28 := (im_21 c_23).1
    have f_29 := (im_21 c_23).2
    have f_30 : R 1 1 r2 := rf_ne_lo f_22 c_23 (by decide) 1 rfl
    refine ⟨vin f_28 (by decide), ?_⟩
    refine ⟨fun c_31 => ?_, fun c_31 => ?_⟩
    · have f_32 : R (-2) 5 (mI h 25 l1.toNatClampNeg) := GI_rd ok.1 25 _ rfl
      have f_33 : R 0 0 0 := ⟨by decide, by decide⟩
      have f_34 : R (-2) (-1) (mI h 25 l1.toNatClampNeg) := rf_lt_l f_32 f_33 c_31 (-1) (by decide)
      have f_35 : R 0 0 0 := ⟨by decide, by decide⟩
      exact hp _ (R_w f_35 (by decide)) (fun z => absurd rfl z)
    · have f_36 : R (-2) 5 (mI h 25 l1.toNatClampNeg) := GI_rd ok.1 25 _ rfl
      have f_37 : R 0 0 0 := ⟨by decide, by decide⟩
      have f_38 : R 0 5 (mI h 25 l1.toNatClampNeg) := rf_le_r f_37 f_36 (nlt c_31) 0 (by decide)
      have f_39 : R 1 1 1 := ⟨by decide, by decide⟩
      have f_40 : R 1 1 1 := ⟨by decide, by decide⟩
      exact hp _ (R_w f_39 (by decide)) (fun _ => R_w f_28 (by decide))
set_option maxRecDepth 100000 in
set_option maxHeartbeats 4000000 in
theorem s_X7_looksOf {g : gT} {h : mh_T} {P : Int32 → mh_T → Prop} (l1 : Int32) (hG : GI h) (fl1 : R 0 7 l1) (hp : ∀ r : Int32, P r h) : MCi g yX7_looksOf uX7_looksOf [.ref 4, .int l1] h P := by
  have ok : Ok [] h h := Ok_rf hG
  refine e_X7_looksOf l1  ?_
  refine ⟨vin fl1 (by decide), ?_⟩
  refine ⟨vin fl1 (by decide), ?_⟩
  have f_8 : R 0 5 (mI h 24 l1.toNatClampNeg) := GI_rd ok.1 24 _ rfl
  have f_7 : R 1 32 (1 <<< ((mI h 24 l1.toNatClampNeg) &&& 31)) := R_shl f_8 1 32 0 5 (by decide)
  have f_10 : R (-2) 5 (mI h 25 l1.toNatClampNeg) := GI_rd ok.1 25 _ rfl
  have f_9 : R (-2147483648) 2147483647 (1 <<< ((mI h 25 l1.toNatClampNeg) &&& 31)) := R_full _
  have f_6 : R (-2147483648) 2147483647 ((1 <<< ((mI h 24 l1.toNatClampNeg) &&& 31)) ||| (1 <<< ((mI h 25 l1.toNatClampNeg) &&& 31))) := R_full _
  exact hp _ 
set_option maxRecDepth 100000 in
set_option maxHeartbeats 4000000 in
theorem s_X7_hangsTogether_L {g : gT} {h0 : mh_T} {P : Int32 → mh_T → Prop} (hG0 : GI h0) (hp : ∀ r : Int32, R 0 1 r → P r h0) : ∀ n : Nat, (∀ (l1 : Int32) (l2 : Int32) (l3 : Int32) (l4 : Int32), R (-2147483648) 2147483647 l1 → R (-2147483648) 2147483647 l2 → R (-2147483648) 2147483647 l3 → R 0 8 l4 → 10 * gap 8 l4 + 9 < n → ME g uX7_hangsTogether 8 [.ref 4, .int l1, .int l2, .int l3, .int l4, .retAddr 0] [] h0 (qI P)) ∧ (∀ (l1 : Int32) (l2 : Int32) (l3 : Int32) (l4 : Int32) (l5 : Int32), R (-2147483648) 2147483647 l1 → R (-2147483648) 2147483647 l2 → R (-2147483648) 2147483647 l3 → R 0 7 l4 → R 0 8 l5 → 1 * gap 8 l5 + 10 * gap 8 l4 + 0 < n → ME g uX7_hangsTogether 18 [.ref 4, .int l1, .int l2, .int l3, .int l4, .int l5] [] h0 (qI P)) := by
  intro n
  induction n with
  | zero =>
    exact ⟨(fun _ _ _ _ _ _ _ _ hm => absurd hm (Nat.not_lt_zero _)), (fun _ _ _ _ _ _ _ _ _ _ hm => absurd hm (Nat.not_lt_zero _))⟩
  | succ n ih =>
    refine ⟨?_, ?_⟩
    · intro l1 l2 l3 l4  fl1 fl2 fl3 fl4     hm
      have ok : Ok [] h0 h0 := Ok_rf hG0
      refine r_X7_hangsTogether_8 l1 l2 l3 l4  ?_
      refine ⟨fun c_690 => ?_, fun c_690 => ?_⟩
      · have f_691 : R 8 8 8 := ⟨by decide, by decide⟩
        have f_692 : R 8 8 l4 := rf_le_r f_691 fl4 c_690 8 (by decide)
        refine ⟨fun c_693 => ?_, fun c_693 => ?_⟩
        · have f_694 : R 0 0 0 := ⟨by decide, by decide⟩
          exact hp _ (R_w f_694 (by decide))
        · have f_695 : R 1 1 1 := ⟨by decide, by decide⟩
          exact hp _ (R_w f_695 (by decide))
      · have f_696 : R 8 8 8 := ⟨by decide, by decide⟩
        have f_697 : R 0 7 l4 := rf_lt_l fl4 f_696 (nle c_690) 7 (by decide)
        have f_698 : R 0 0 0 := ⟨by decide, by decide⟩
        have f_699 : R 0 0 0 := ⟨by decide, by decide⟩
        have g_700 := gap_le (N := 8) f_699 (m := 8) (by decide)
        exact (ih.2) l1 l2 l3 l4 0  (R_w fl1 (by decide)) (R_w fl2 (by decide)) (R_w fl3 (by decide)) (R_w f_697 (by decide)) (R_w f_698 (by decide)) (by omega)
    · intro l1 l2 l3 l4 l5  fl1 fl2 fl3 fl4 fl5     hm
      have ok : Ok [] h0 h0 := Ok_rf hG0
      refine r_X7_hangsTogether_18 l1 l2 l3 l4 l5  ?_
      refine ⟨fun c_701 => ?_, fun c_701 => ?_⟩
      · have f_702 : R 0 8 (mI h0 3 2) := GI_rd ok.1 3 _ (by decide)
        have f_704 : R 1 1 1 := ⟨by decide, by decide⟩
        have f_703 : R 1 8 (l4 + 1) := R_add fl4 f_704 1 8 (by decide)
        have g_705 := gap_inc (N := 8) fl4 (by decide)
        exact (ih.1) l1 l2 l3 (l4 + 1)  (R_w fl1 (by decide)) (R_w fl2 (by decide)) (R_w fl3 (by decide)) (R_w f_703 (by decide)) (by omega)
      · have f_706 : R 0 8 (mI h0 3 2) := GI_rd ok.1 3 _ (by decide)
        have f_707 : R 0 7 l5 := rf_lt_l fl5 f_706 (nle c_701) 7 (by decide)
        have f_708 : R 1 8 (mI h0 3 2) := rf_lt_r fl5 f_706 (nle c_701) 1 (by decide)
        refine ⟨fun c_709 => ?_, fun c_709 => ?_⟩
        · have f_711 : R 1 1 1 := ⟨by decide, by decide⟩
          have f_710 : R 0 1 ((l1 >>> (l5 &&& 31)) &&& 1) := R_and f_711 (by decide)
          have f_712 : R 0 0 0 := ⟨by decide, by decide⟩
          have f_713 : R 0 0 ((l1 >>> (l5 &&& 31)) &&& 1) := rf_eq f_712 c_709
          have f_715 : R 1 1 1 := ⟨by decide, by decide⟩
          have f_714 : R 1 8 (l5 + 1) := R_add f_707 f_715 1 8 (by decide)
          have g_716 := gap_inc (N := 8) f_707 (by decide)
          exact (ih.2) l1 l2 l3 l4 (l5 + 1)  (R_w fl1 (by decide)) (R_w fl2 (by decide)) (R_w fl3 (by decide)) (R_w fl4 (by decide)) (R_w f_714 (by decide)) (by omega)
        · have f_718 : R 1 1 1 := ⟨by decide, by decide⟩
          have f_717 : R 0 1 ((l1 >>> (l5 &&& 31)) &&& 1) := R_and f_718 (by decide)
          have f_719 : R 0 0 0 := ⟨by decide, by decide⟩
          have f_720 : R 1 1 ((l1 >>> (l5 &&& 31)) &&& 1) := rf_ne_lo f_717 c_709 (by decide) 1 rfl
          refine s_X7_looksOf l5 ok.1 (R_w f_707 (by decide)) (fun r4 => ?_)
          refine ⟨fun c_721 => ?_, fun c_721 => ?_⟩
          · have f_723 : R (-2147483648) 2147483647 r4 := R_full _
            have f_722 : R (-2147483648) 2147483647 (r4 &&& l3) := R_full _
            have f_724 : R 0 0 0 := ⟨by decide, by decide⟩
            have f_725 : R 0 0 (r4 &&& l3) := rf_eq f_724 c_721
            have f_727 : R 1 1 1 := ⟨by decide, by decide⟩
            have f_726 : R 1 8 (l5 + 1) := R_add f_707 f_727 1 8 (by decide)
            have g_728 := gap_inc (N := 8) f_707 (by decide)
            exact (ih.2) l1 l2 l3 l4 (l5 + 1)  (R_w fl1 (by decide)) (R_w fl2 (by decide)) (R_w fl3 (by decide)) (R_w fl4 (by decide)) (R_w f_726 (by decide)) (by omega)
          · have f_730 : R (-2147483648) 2147483647 r4 := R_full _
            have f_729 : R (-2147483648) 2147483647 (r4 &&& l3) := R_full _
            have f_731 : R 0 0 0 := ⟨by decide, by decide⟩
            refine s_X7_looksOf l5 ok.1 (R_w f_707 (by decide)) (fun r7 => ?_)
            intro x8 ex8
            have f_733 : R (-2147483648) 2147483647 r7 := R_full _
            have f_732 : R (-2147483648) 2147483647 (l3 ||| r7) := R_full _
            have f_734 : R (-2147483648) 2147483647 x8 := rf_eq f_732 ex8
            have f_736 : R 1 1 1 := ⟨by decide, by decide⟩
            have f_735 : R 1 8 (l5 + 1) := R_add f_707 f_736 1 8 (by decide)
            have g_737 := gap_inc (N := 8) f_707 (by decide)
            exact (ih.2) l1 l2 x8 l4 (l5 + 1)  (R_w fl1 (by decide)) (R_w fl2 (by decide)) (R_w f_734 (by decide)) (R_w fl4 (by decide)) (R_w f_735 (by decide)) (by omega)
set_option maxRecDepth 100000 in
set_option maxHeartbeats 4000000 in
theorem s_X7_hangsTogether {g : gT} {h : mh_T} {P : Int32 → mh_T → Prop} (l1 : Int32) (l2 : Int32) (hG : GI h)  (hp : ∀ r : Int32, R 0 1 r → P r h) : MCi g yX7_hangsTogether uX7_hangsTogether [.ref 4, .int l1, .int l2] h P := by
  have ok : Ok [] h h := Ok_rf hG
  have L0 := s_X7_hangsTogether_L (g := g) hG hp 90
  refine e_X7_hangsTogether l1 l2  ?_
  intro x1 ex1
  have f_739 : R (-2147483648) 2147483647 (-l2) := R_full _
  have f_738 : R (-2147483648) 2147483647 (l2 &&& (-l2)) := R_full _
  have f_740 : R (-2147483648) 2147483647 x1 := rf_eq f_738 ex1
  have f_741 : R 0 0 0 := ⟨by decide, by decide⟩
  have f_742 : R 0 0 0 := ⟨by decide, by decide⟩
  have g_743 := gap_le (N := 8) f_742 (m := 8) (by decide)
  exact (L0.1) l1 l2 x1 0  (R_w (R_full l1) (by decide)) (R_w (R_full l2) (by decide)) (R_w f_740 (by decide)) (R_w f_741 (by decide)) (by omega)
set_option maxRecDepth 100000 in
set_option maxHeartbeats 4000000 in
theorem s_X7_isRing_L {g : gT} {h0 : mh_T} {P : Int32 → mh_T → Prop} (hG0 : GI h0) (hp : ∀ r : Int32, R 0 1 r → P r h0) : ∀ n : Nat, (∀ (l1 : Int32) (l2 : Int32) (l3 : Int32) (l4 : Int32) (l5 : Int32), R 0 255 l1 → R (-2147483648) 2147483647 l2 → R (-2147483648) 2147483647 l3 → R (-2147483648) 2147483647 l4 → R 0 8 l5 → 1 * gap 8 l5 + 0 < n → ME g uX7_isRing 37 [.ref 4, .int l1, .int l2, .int l3, .int l4, .int l5, .retAddr 0] [] h0 (qI P)) := by
  intro n
  induction n with
  | zero =>
    exact (fun _ _ _ _ _ _ _ _ _ _ hm => absurd hm (Nat.not_lt_zero _))
  | succ n ih =>
    intro l1 l2 l3 l4 l5  fl1 fl2 fl3 fl4 fl5     hm
    have ok : Ok [] h0 h0 := Ok_rf hG0
    refine r_X7_isRing_37 l1 l2 l3 l4 l5  ?_
    refine ⟨fun c_708 => ?_, fun c_708 => ?_⟩
    · have f_709 : R 0 8 (mI h0 3 2) := GI_rd ok.1 3 _ (by decide)
      refine ⟨fun c_710 => ?_, fun c_710 => ?_⟩
      · have f_711 : R 0 0 0 := ⟨by decide, by decide⟩
        have f_712 : R 0 0 0 := ⟨by decide, by decide⟩
        exact hp _ (R_w f_712 (by decide))
      · have f_713 : R 0 0 0 := ⟨by decide, by decide⟩
        have f_714 : R 0 0 l4 := rf_eq f_713 c_710
        refine ⟨fun c_715 => ?_, fun c_715 => ?_⟩
        · have f_716 : R 0 0 0 := ⟨by decide, by decide⟩
          exact hp _ (R_w f_716 (by decide))
        · refine s_X7_hangsTogether l1 l2 ok.1 (fun r5 f_717 => ?_)
          refine ⟨fun c_718 => ?_, fun c_718 => ?_⟩
          · have f_719 : R 0 0 0 := ⟨by decide, by decide⟩
            have f_720 : R 0 0 r5 := rf_eq f_719 c_718
            have f_721 : R 0 0 0 := ⟨by decide, by decide⟩
            exact hp _ (R_w f_721 (by decide))
          · have f_722 : R 0 0 0 := ⟨by decide, by decide⟩
            have f_723 : R 1 1 r5 := rf_ne_lo f_717 c_718 (by decide) 1 rfl
            have f_724 : R 1 1 1 := ⟨by decide, by decide⟩
            exact hp _ (R_w f_724 (by decide))
    · have f_725 : R 0 8 (mI h0 3 2) := GI_rd ok.1 3 _ (by decide)
      have f_726 : R 0 7 l5 := rf_lt_l fl5 f_725 (nle c_708) 7 (by decide)
      have f_727 : R 1 8 (mI h0 3 2) := rf_lt_r fl5 f_725 (nle c_708) 1 (by decide)
      refine ⟨fun c_728 => ?_, fun c_728 => ?_⟩
      · have f_730 : R 1 1 1 := ⟨by decide, by decide⟩
        have f_729 : R 0 1 ((l1 >>> (l5 &&& 31)) &&& 1) := R_and f_730 (by decide)
        have f_731 : R 0 0 0 := ⟨by decide, by decide⟩
        have f_732 : R 0 0 ((l1 >>> (l5 &&& 31)) &&& 1) := rf_eq f_731 c_728
        have f_734 : R 1 1 1 := ⟨by decide, by decide⟩
        have f_733 : R 1 8 (l5 + 1) := R_add f_726 f_734 1 8 (by decide)
        have g_735 := gap_inc (N := 8) f_726 (by decide)
        exact ih l1 l2 l3 l4 (l5 + 1)  (R_w fl1 (by decide)) (R_w fl2 (by decide)) (R_w fl3 (by decide)) (R_w fl4 (by decide)) (R_w f_733 (by decide)) (by omega)
      · have f_737 : R 1 1 1 := ⟨by decide, by decide⟩
        have f_736 : R 0 1 ((l1 >>> (l5 &&& 31)) &&& 1) := R_and f_737 (by decide)
        have f_738 : R 0 0 0 := ⟨by decide, by decide⟩
        have f_739 : R 1 1 ((l1 >>> (l5 &&& 31)) &&& 1) := rf_ne_lo f_736 c_728 (by decide) 1 rfl
        refine s_X8_hasPair l5 ok.1 (fun r9 f_741 im_740 => ?_)
        refine ⟨fun c_742 => ?_, fun c_742 => ?_⟩
        · have f_743 : R 0 0 0 := ⟨by decide, by decide⟩
          have f_744 := (im_740 c_742)
          have f_745 : R 1 1 r9 := rf_ne_lo f_741 c_742 (by decide) 1 rfl
          refine s_X7_looksOf l5 ok.1 (R_w f_726 (by decide)) (fun r12 => ?_)
          intro x13 ex13
          have f_748 : R (-2147483648) 2147483647 r12 := R_full _
          have f_747 : R (-2147483648) 2147483647 (l3 &&& r12) := R_full _
          have f_746 : R (-2147483648) 2147483647 (l4 ||| (l3 &&& r12)) := R_full _
          have f_749 : R (-2147483648) 2147483647 x13 := rf_eq f_746 ex13
          intro x14 ex14
          have f_751 : R (-2147483648) 2147483647 (l2 &&& r12) := R_full _
          have f_750 : R (-2147483648) 2147483647 (l3 ||| (l2 &&& r12)) := R_full _
          have f_752 : R (-2147483648) 2147483647 x14 := rf_eq f_750 ex14
          intro x15 ex15
          have f_753 : R (-2147483648) 2147483647 (l2 ||| r12) := R_full _
          have f_754 : R (-2147483648) 2147483647 x15 := rf_eq f_753 ex15
          have f_756 : R 1 1 1 := ⟨by decide, by decide⟩
          have f_755 : R 1 8 (l5 + 1) := R_add f_726 f_756 1 8 (by decide)
          have g_757 := gap_inc (N := 8) f_726 (by decide)
          exact ih l1 x15 x14 x13 (l5 + 1)  (R_w fl1 (by decide)) (R_w f_754 (by decide)) (R_w f_752 (by decide)) (R_w f_749 (by decide)) (R_w f_755 (by decide)) (by omega)
        · have f_758 : R 0 0 0 := ⟨by decide, by decide⟩
          have f_759 : R 0 0 r9 := rf_eq f_758 c_742
          have f_760 : R 0 0 0 := ⟨by decide, by decide⟩
          exact hp _ (R_w f_760 (by decide))
set_option maxRecDepth 100000 in
set_option maxHeartbeats 4000000 in
theorem s_X7_isRing {g : gT} {h : mh_T} {P : Int32 → mh_T → Prop} (l1 : Int32) (hG : GI h)  (hp : ∀ r : Int32, R 0 1 r → P r h) : MCi g yX7_isRing uX7_isRing [.ref 4, .int l1] h P := by
  have ok : Ok [] h h := Ok_rf hG
  have L0 := s_X7_isRing_L (g := g) hG hp 9
  refine e_X7_isRing l1  ?_
  refine ⟨fun c_761 => ?_, fun c_761 => ?_⟩
  · have f_762 : R 0 0 0 := ⟨by decide, by decide⟩
    have f_763 : R (-2147483648) (-1) l1 := rf_lt_l (R_full l1) f_762 c_761 (-1) (by decide)
    have f_764 : R 0 0 0 := ⟨by decide, by decide⟩
    exact hp _ (R_w f_764 (by decide))
  · have f_765 : R 0 0 0 := ⟨by decide, by decide⟩
    have f_766 : R 0 2147483647 l1 := rf_le_r f_765 (R_full l1) (nlt c_761) 0 (by decide)
    refine ⟨fun c_767 => ?_, fun c_767 => ?_⟩
    · have f_769 : R 0 8 (mI h 3 2) := GI_rd ok.1 3 _ (by decide)
      have f_768 : R 1 256 (1 <<< ((mI h 3 2) &&& 31)) := R_shl f_769 1 256 0 8 (by decide)
      have f_770 : R 1 2147483647 l1 := rf_le_r f_768 f_766 c_767 1 (by decide)
      have f_771 : R 0 0 0 := ⟨by decide, by decide⟩
      exact hp _ (R_w f_771 (by decide))
    · have f_773 : R 0 8 (mI h 3 2) := GI_rd ok.1 3 _ (by decide)
      have f_772 : R 1 256 (1 <<< ((mI h 3 2) &&& 31)) := R_shl f_773 1 256 0 8 (by decide)
      have f_774 : R 0 255 l1 := rf_lt_l f_766 f_772 (nle c_767) 255 (by decide)
      refine s_J6_bitCount_0f7a4 l1 ok.1 (fun r4 f_775 => ?_)
      refine ⟨fun c_776 => ?_, fun c_776 => ?_⟩
      · have f_777 : R 3 3 3 := ⟨by decide, by decide⟩
        have f_778 : R 3 63 r4 := rf_le_r f_777 f_775 c_776 3 (by decide)
        have f_779 : R 0 0 0 := ⟨by decide, by decide⟩
        have f_780 : R 0 0 0 := ⟨by decide, by decide⟩
        have f_781 : R 0 0 0 := ⟨by decide, by decide⟩
        have f_782 : R 0 0 0 := ⟨by decide, by decide⟩
        have f_783 : R 0 0 0 := ⟨by decide, by decide⟩
        have g_784 := gap_le (N := 8) f_783 (m := 8) (by decide)
        exact L0 l1 0 0 0 0  (R_w f_774 (by decide)) (R_w f_779 (by decide)) (R_w f_780 (by decide)) (R_w f_781 (by decide)) (R_w f_782 (by decide)) (by omega)
      · have f_785 : R 3 3 3 := ⟨by decide, by decide⟩
        have f_786 : R 0 2 r4 := rf_lt_l f_775 f_785 (nle c_776) 2 (by decide)
        have f_787 : R 0 0 0 := ⟨by decide, by decide⟩
        exact hp _ (R_w f_787 (by decide))
set_option maxRecDepth 100000 in
set_option maxHeartbeats 4000000 in
theorem s_X7_number_L {g : gT} {h0 : mh_T} {P : Int32 → mh_T → Prop} (hG0 : GI h0) (hp : ∀ r : Int32, P r h0) : ∀ n : Nat, (∀ (l1 : Int32) (l2 : Int32), R (-2147483648) 2147483647 l1 → R 0 256 l2 → 1 * gap 256 l2 + 0 < n → ME g uX7_number 4 [.ref 4, .int l1, .int l2] [] h0 (qI P)) := by
  intro n
  induction n with
  | zero =>
    exact (fun _ _ _ _ hm => absurd hm (Nat.not_lt_zero _))
  | succ n ih =>
    intro l1 l2  fl1 fl2     hm
    have ok : Ok [] h0 h0 := Ok_rf hG0
    refine r_X7_number_4 l1 l2  ?_
    refine ⟨fun c_1157 => ?_, fun c_1157 => ?_⟩
    · have f_1159 : R 0 8 (mI h0 3 2) := GI_rd ok.1 3 _ (by decide)
      have f_1158 : R 1 256 (1 <<< ((mI h0 3 2) &&& 31)) := R_shl f_1159 1 256 0 8 (by decide)
      have f_1160 : R 1 256 l2 := rf_le_r f_1158 fl2 c_1157 1 (by decide)
      exact hp _ 
    · have f_1162 : R 0 8 (mI h0 3 2) := GI_rd ok.1 3 _ (by decide)
      have f_1161 : R 1 256 (1 <<< ((mI h0 3 2) &&& 31)) := R_shl f_1162 1 256 0 8 (by decide)
      have f_1163 : R 0 255 l2 := rf_lt_l fl2 f_1161 (nle c_1157) 255 (by decide)
      refine s_X7_isRing l2 ok.1 (fun r3 f_1164 => ?_)
      refine ⟨fun c_1165 => ?_, fun c_1165 => ?_⟩
      · have f_1166 : R 0 0 0 := ⟨by decide, by decide⟩
        have f_1167 : R 0 0 r3 := rf_eq f_1166 c_1165
        have f_1169 : R 1 1 1 := ⟨by decide, by decide⟩
        have f_1168 : R 1 256 (l2 + 1) := R_add f_1163 f_1169 1 256 (by decide)
        have g_1170 := gap_inc (N := 256) f_1163 (by decide)
        exact ih l1 (l2 + 1)  (R_w fl1 (by decide)) (R_w f_1168 (by decide)) (by omega)
      · have f_1171 : R 0 0 0 := ⟨by decide, by decide⟩
        have f_1172 : R 1 1 r3 := rf_ne_lo f_1164 c_1165 (by decide) 1 rfl
        have f_1174 : R 1 1 1 := ⟨by decide, by decide⟩
        have f_1173 : R (-2147483648) 2147483647 (l1 + 1) := R_full _
        have f_1176 : R 1 1 1 := ⟨by decide, by decide⟩
        have f_1175 : R 1 256 (l2 + 1) := R_add f_1163 f_1176 1 256 (by decide)
        have g_1177 := gap_inc (N := 256) f_1163 (by decide)
        exact ih (l1 + 1) (l2 + 1)  (R_w f_1173 (by decide)) (R_w f_1175 (by decide)) (by omega)
set_option maxRecDepth 100000 in
set_option maxHeartbeats 4000000 in
theorem s_X7_number {g : gT} {h : mh_T} {P : Int32 → mh_T → Prop}  (hG : GI h)  (hp : ∀ r : Int32, P r h) : MCi g yX7_number uX7_number [.ref 4] h P := by
  have ok : Ok [] h h := Ok_rf hG
  have L0 := s_X7_number_L (g := g) hG hp 257
  refine e_X7_number   ?_
  have f_1178 : R 0 0 0 := ⟨by decide, by decide⟩
  have f_1179 : R 0 0 0 := ⟨by decide, by decide⟩
  have f_1180 : R 0 0 0 := ⟨by decide, by decide⟩
  have g_1181 := gap_le (N := 256) f_1180 (m := 256) (by decide)
  exact L0 0 0  (R_w f_1178 (by decide)) (R_w f_1179 (by decide)) (by omega)
set_option maxRecDepth 100000 in
set_option maxHeartbeats 4000000 in
theorem s_X7_ringAt_L {g : gT} {h0 : mh_T} {P : Int32 → mh_T → Prop} (hG0 : GI h0) (hp : ∀ r : Int32, R (-1) 255 r → P r h0) : ∀ n : Nat, (∀ (l1 : Int32) (l2 : Int32) (l3 : Int32), R (-2147483648) 2147483647 l1 → R (-2147483648) 2147483647 l2 → R 0 256 l3 → 1 * gap 256 l3 + 0 < n → ME g uX7_ringAt 4 [.ref 4, .int l1, .int l2, .int l3] [] h0 (qI P)) := by
  intro n
  induction n with
  | zero =>
    exact (fun _ _ _ _ _ _ hm => absurd hm (Nat.not_lt_zero _))
  | succ n ih =>
    intro l1 l2 l3  fl1 fl2 fl3     hm
    have ok : Ok [] h0 h0 := Ok_rf hG0
    refine r_X7_ringAt_4 l1 l2 l3  ?_
    refine ⟨fun c_1320 => ?_, fun c_1320 => ?_⟩
    · have f_1322 : R 0 8 (mI h0 3 2) := GI_rd ok.1 3 _ (by decide)
      have f_1321 : R 1 256 (1 <<< ((mI h0 3 2) &&& 31)) := R_shl f_1322 1 256 0 8 (by decide)
      have f_1323 : R 1 256 l3 := rf_le_r f_1321 fl3 c_1320 1 (by decide)
      have f_1324 : R (-1) (-1) (-1) := ⟨by decide, by decide⟩
      exact hp _ (R_w f_1324 (by decide))
    · have f_1326 : R 0 8 (mI h0 3 2) := GI_rd ok.1 3 _ (by decide)
      have f_1325 : R 1 256 (1 <<< ((mI h0 3 2) &&& 31)) := R_shl f_1326 1 256 0 8 (by decide)
      have f_1327 : R 0 255 l3 := rf_lt_l fl3 f_1325 (nle c_1320) 255 (by decide)
      refine s_X7_isRing l3 ok.1 (fun r3 f_1328 => ?_)
      refine ⟨fun c_1329 => ?_, fun c_1329 => ?_⟩
      · have f_1330 : R 0 0 0 := ⟨by decide, by decide⟩
        have f_1331 : R 0 0 r3 := rf_eq f_1330 c_1329
        have f_1333 : R 1 1 1 := ⟨by decide, by decide⟩
        have f_1332 : R 1 256 (l3 + 1) := R_add f_1327 f_1333 1 256 (by decide)
        have g_1334 := gap_inc (N := 256) f_1327 (by decide)
        exact ih l1 l2 (l3 + 1)  (R_w fl1 (by decide)) (R_w fl2 (by decide)) (R_w f_1332 (by decide)) (by omega)
      · have f_1335 : R 0 0 0 := ⟨by decide, by decide⟩
        have f_1336 : R 1 1 r3 := rf_ne_lo f_1328 c_1329 (by decide) 1 rfl
        refine ⟨fun c_1337 => ?_, fun c_1337 => ?_⟩
        · have f_1339 : R 1 1 1 := ⟨by decide, by decide⟩
          have f_1338 : R (-2147483648) 2147483647 (l2 + 1) := R_full _
          have f_1341 : R 1 1 1 := ⟨by decide, by decide⟩
          have f_1340 : R 1 256 (l3 + 1) := R_add f_1327 f_1341 1 256 (by decide)
          have g_1342 := gap_inc (N := 256) f_1327 (by decide)
          exact ih l1 (l2 + 1) (l3 + 1)  (R_w fl1 (by decide)) (R_w f_1338 (by decide)) (R_w f_1340 (by decide)) (by omega)
        · exact hp _ (R_w f_1327 (by decide))
set_option maxRecDepth 100000 in
set_option maxHeartbeats 4000000 in
theorem s_X7_ringAt {g : gT} {h : mh_T} {P : Int32 → mh_T → Prop} (l1 : Int32) (hG : GI h)  (hp : ∀ r : Int32, R (-1) 255 r → P r h) : MCi g yX7_ringAt uX7_ringAt [.ref 4, .int l1] h P := by
  have ok : Ok [] h h := Ok_rf hG
  have L0 := s_X7_ringAt_L (g := g) hG hp 257
  refine e_X7_ringAt l1  ?_
  have f_1343 : R 0 0 0 := ⟨by decide, by decide⟩
  have f_1344 : R 0 0 0 := ⟨by decide, by decide⟩
  have f_1345 : R 0 0 0 := ⟨by decide, by decide⟩
  have g_1346 := gap_le (N := 256) f_1345 (m := 256) (by decide)
  exact L0 l1 0 0  (R_w (R_full l1) (by decide)) (R_w f_1343 (by decide)) (R_w f_1344 (by decide)) (by omega)
set_option maxRecDepth 100000 in
set_option maxHeartbeats 4000000 in
theorem s_X8_alike {g : gT} {h : mh_T} {P : Int32 → mh_T → Prop} (l1 : Int32) (hG : GI h) (fl1 : R 0 7 l1) (hp : ∀ r : Int32, P r h) : MCi g yX8_alike uX8_alike [.ref 3, .int l1] h P := by
  have ok : Ok [] h h := Ok_rf hG
  refine e_X8_alike l1  ?_
  intro x1 ex1
  have f_18 : R 4 4 4 := ⟨by decide, by decide⟩
  have f_17 : R 0 28 (4 * l1) := R_mul f_18 fl1 0 28 (by decide)
  have f_19 : R 0 28 x1 := rf_eq f_17 ex1
  refine ⟨vin f_19 (by decide), ?_⟩
  have f_21 : R 3 3 3 := ⟨by decide, by decide⟩
  have f_20 : R 3 31 (x1 + 3) := R_add f_19 f_21 3 31 (by decide)
  refine ⟨vin f_20 (by decide), ?_⟩
  have f_23 : R 1 1 1 := ⟨by decide, by decide⟩
  have f_22 : R 1 29 (x1 + 1) := R_add f_19 f_23 1 29 (by decide)
  refine ⟨vin f_22 (by decide), ?_⟩
  have f_25 : R 2 2 2 := ⟨by decide, by decide⟩
  have f_24 : R 2 30 (x1 + 2) := R_add f_19 f_25 2 30 (by decide)
  refine ⟨vin f_24 (by decide), ?_⟩
  have f_29 : R (-2147483648) 2147483647 (mI h 26 x1.toNatClampNeg) := R_full _
  have f_30 : R (-2147483648) 2147483647 (mI h 26 (x1 + 3).toNatClampNeg) := R_full _
  have f_28 : R (-2147483648) 2147483647 ((mI h 26 x1.toNatClampNeg) + (mI h 26 (x1 + 3).toNatClampNeg)) := R_full _
  have f_31 : R (-2147483648) 2147483647 (mI h 26 (x1 + 1).toNatClampNeg) := R_full _
  have f_27 : R (-2147483648) 2147483647 (((mI h 26 x1.toNatClampNeg) + (mI h 26 (x1 + 3).toNatClampNeg)) - (mI h 26 (x1 + 1).toNatClampNeg)) := R_full _
  have f_32 : R (-2147483648) 2147483647 (mI h 26 (x1 + 2).toNatClampNeg) := R_full _
  have f_26 : R (-2147483648) 2147483647 ((((mI h 26 x1.toNatClampNeg) + (mI h 26 (x1 + 3).toNatClampNeg)) - (mI h 26 (x1 + 1).toNatClampNeg)) - (mI h 26 (x1 + 2).toNatClampNeg)) := R_full _
  exact hp _ 
set_option maxRecDepth 100000 in
set_option maxHeartbeats 4000000 in
theorem s_X7_surplus_L {g : gT} {h0 : mh_T} {P : Int32 → mh_T → Prop} (hG0 : GI h0) (hp : ∀ r : Int32, P r h0) : ∀ n : Nat, (∀ (l1 : Int32) (l2 : Int32) (l3 : Int32) (l4 : Int32) (l5 : Int32), R (-2147483648) 2147483647 l1 → R (-2147483648) 2147483647 l2 → R (-2147483648) 2147483647 l3 → R (-2147483648) 2147483647 l4 → R 0 8 l5 → 1 * gap 8 l5 + 0 < n → ME g uX7_surplus 11 [.ref 4, .int l1, .int l2, .int l3, .int l4, .int l5, .retAddr 0] [] h0 (qI P)) := by
  intro n
  induction n with
  | zero =>
    exact (fun _ _ _ _ _ _ _ _ _ _ hm => absurd hm (Nat.not_lt_zero _))
  | succ n ih =>
    intro l1 l2 l3 l4 l5  fl1 fl2 fl3 fl4 fl5     hm
    have ok : Ok [] h0 h0 := Ok_rf hG0
    refine r_X7_surplus_11 l1 l2 l3 l4 l5  ?_
    refine ⟨fun c_3580 => ?_, fun c_3580 => ?_⟩
    · have f_3581 : R 0 8 (mI h0 3 2) := GI_rd ok.1 3 _ (by decide)
      refine ⟨fun c_3582 => ?_, fun c_3582 => ?_⟩
      · have f_3583 : R (-2147483648) 2147483647 (l4 - l4 / 2 * 2) := R_full _
        have f_3584 : R 1 1 1 := ⟨by decide, by decide⟩
        intro x3 ex3
        have f_3587 : R 2 2 2 := ⟨by decide, by decide⟩
        have f_3586 : R (-2147483648) 2147483647 (2 * l3) := R_full _
        have f_3585 : R (-2147483648) 2147483647 (l2 - (2 * l3)) := R_full _
        have f_3588 : R (-2147483648) 2147483647 x3 := rf_eq f_3585 ex3
        refine s_J6_bitCount_0f7a4 l1 ok.1 (fun r5 f_3589 => ?_)
        have f_3592 : R 0 60 (mI h0 3 0) := GI_rd ok.1 3 _ (by decide)
        have f_3594 : R 2 2 2 := ⟨by decide, by decide⟩
        have f_3593 : R (-2) 61 (r5 - 2) := R_sub f_3589 f_3594 (-2) 61 (by decide)
        have f_3591 : R (-2147483648) 2147483647 ((mI h0 3 0) * (r5 - 2)) := R_full _
        have f_3590 : R (-2147483648) 2147483647 (x3 - ((mI h0 3 0) * (r5 - 2))) := R_full _
        exact hp _ 
      · have f_3595 : R (-2147483648) 2147483647 (l4 - l4 / 2 * 2) := R_full _
        have f_3596 : R 1 1 1 := ⟨by decide, by decide⟩
        have f_3597 : R 1 1 (l4 - l4 / 2 * 2) := rf_eq f_3596 c_3582
        refine s_J6_bitCount_0f7a4 l1 ok.1 (fun r7 f_3598 => ?_)
        have f_3601 : R 0 60 (mI h0 3 0) := GI_rd ok.1 3 _ (by decide)
        have f_3603 : R 2 2 2 := ⟨by decide, by decide⟩
        have f_3602 : R (-2) 61 (r7 - 2) := R_sub f_3598 f_3603 (-2) 61 (by decide)
        have f_3600 : R (-2147483648) 2147483647 ((mI h0 3 0) * (r7 - 2)) := R_full _
        have f_3599 : R (-2147483648) 2147483647 (l2 - ((mI h0 3 0) * (r7 - 2))) := R_full _
        exact hp _ 
    · have f_3604 : R 0 8 (mI h0 3 2) := GI_rd ok.1 3 _ (by decide)
      have f_3605 : R 0 7 l5 := rf_lt_l fl5 f_3604 (nle c_3580) 7 (by decide)
      have f_3606 : R 1 8 (mI h0 3 2) := rf_lt_r fl5 f_3604 (nle c_3580) 1 (by decide)
      refine ⟨fun c_3607 => ?_, fun c_3607 => ?_⟩
      · have f_3609 : R 1 1 1 := ⟨by decide, by decide⟩
        have f_3608 : R 0 1 ((l1 >>> (l5 &&& 31)) &&& 1) := R_and f_3609 (by decide)
        have f_3610 : R 0 0 0 := ⟨by decide, by decide⟩
        have f_3611 : R 0 0 ((l1 >>> (l5 &&& 31)) &&& 1) := rf_eq f_3610 c_3607
        have f_3613 : R 1 1 1 := ⟨by decide, by decide⟩
        have f_3612 : R 1 8 (l5 + 1) := R_add f_3605 f_3613 1 8 (by decide)
        have g_3614 := gap_inc (N := 8) f_3605 (by decide)
        exact ih l1 l2 l3 l4 (l5 + 1)  (R_w fl1 (by decide)) (R_w fl2 (by decide)) (R_w fl3 (by decide)) (R_w fl4 (by decide)) (R_w f_3612 (by decide)) (by omega)
      · have f_3616 : R 1 1 1 := ⟨by decide, by decide⟩
        have f_3615 : R 0 1 ((l1 >>> (l5 &&& 31)) &&& 1) := R_and f_3616 (by decide)
        have f_3617 : R 0 0 0 := ⟨by decide, by decide⟩
        have f_3618 : R 1 1 ((l1 >>> (l5 &&& 31)) &&& 1) := rf_ne_lo f_3615 c_3607 (by decide) 1 rfl
        refine s_X8_alike l5 ok.1 (R_w f_3605 (by decide)) (fun r10 => ?_)
        intro x11 ex11
        have f_3621 : R (-2147483648) 2147483647 r10 := R_full _
        have f_3623 : R 0 0 0 := ⟨by decide, by decide⟩
        have f_3622 : R (-2147483648) 2147483647 (0 - r10) := R_full _
        have f_3620 : R (-2147483648) 2147483647 (if 0 ≤ r10 then r10 else 0 - r10) := R_ite (R_w f_3621 (by decide)) (R_w f_3622 (by decide))
        have f_3619 : R (-2147483648) 2147483647 (l2 + (if 0 ≤ r10 then r10 else 0 - r10)) := R_full _
        have f_3624 : R (-2147483648) 2147483647 x11 := rf_eq f_3619 ex11
        intro x12 ex12
        have f_3625 : R (-2147483648) 2147483647 (if (if 0 ≤ r10 then r10 else 0 - r10) < l3 then (if 0 ≤ r10 then r10 else 0 - r10) else l3) := R_ite (R_w f_3620 (by decide)) (R_w fl3 (by decide))
        have f_3626 : R (-2147483648) 2147483647 x12 := rf_eq f_3625 ex12
        refine ⟨fun c_3627 => ?_, fun c_3627 => ?_⟩
        · have f_3628 : R 0 0 0 := ⟨by decide, by decide⟩
          have f_3629 : R 0 2147483647 r10 := rf_le_r f_3628 f_3621 c_3627 0 (by decide)
          intro x14 ex14
          have f_3631 : R 0 0 0 := ⟨by decide, by decide⟩
          have f_3630 : R (-2147483648) 2147483647 (l4 + 0) := R_add fl4 f_3631 (-2147483648) 2147483647 (by decide)
          have f_3632 : R (-2147483648) 2147483647 x14 := rf_eq f_3630 ex14
          have f_3634 : R 1 1 1 := ⟨by decide, by decide⟩
          have f_3633 : R 1 8 (l5 + 1) := R_add f_3605 f_3634 1 8 (by decide)
          have g_3635 := gap_inc (N := 8) f_3605 (by decide)
          exact ih l1 x11 x12 x14 (l5 + 1)  (R_w fl1 (by decide)) (R_w f_3624 (by decide)) (R_w f_3626 (by decide)) (R_w f_3632 (by decide)) (R_w f_3633 (by decide)) (by omega)
        · have f_3636 : R 0 0 0 := ⟨by decide, by decide⟩
          have f_3637 : R (-2147483648) (-1) r10 := rf_lt_l f_3621 f_3636 (nle c_3627) (-1) (by decide)
          intro x15 ex15
          have f_3639 : R 1 1 1 := ⟨by decide, by decide⟩
          have f_3638 : R (-2147483648) 2147483647 (l4 + 1) := R_full _
          have f_3640 : R (-2147483648) 2147483647 x15 := rf_eq f_3638 ex15
          have f_3642 : R 1 1 1 := ⟨by decide, by decide⟩
          have f_3641 : R 1 8 (l5 + 1) := R_add f_3605 f_3642 1 8 (by decide)
          have g_3643 := gap_inc (N := 8) f_3605 (by decide)
          exact ih l1 x11 x12 x15 (l5 + 1)  (R_w fl1 (by decide)) (R_w f_3624 (by decide)) (R_w f_3626 (by decide)) (R_w f_3640 (by decide)) (R_w f_3641 (by decide)) (by omega)
set_option maxRecDepth 100000 in
set_option maxHeartbeats 4000000 in
theorem s_X7_surplus {g : gT} {h : mh_T} {P : Int32 → mh_T → Prop} (l1 : Int32) (hG : GI h)  (hp : ∀ r : Int32, P r h) : MCi g yX7_surplus uX7_surplus [.ref 4, .int l1] h P := by
  have ok : Ok [] h h := Ok_rf hG
  have L0 := s_X7_surplus_L (g := g) hG hp 9
  refine e_X7_surplus l1  ?_
  have f_3644 : R 0 0 0 := ⟨by decide, by decide⟩
  have f_3645 : R 60 60 60 := ⟨by decide, by decide⟩
  have f_3646 : R 0 0 0 := ⟨by decide, by decide⟩
  have f_3647 : R 0 0 0 := ⟨by decide, by decide⟩
  have f_3648 : R 0 0 0 := ⟨by decide, by decide⟩
  have g_3649 := gap_le (N := 8) f_3648 (m := 8) (by decide)
  exact L0 l1 0 60 0 0  (R_w (R_full l1) (by decide)) (R_w f_3644 (by decide)) (R_w f_3645 (by decide)) (R_w f_3646 (by decide)) (R_w f_3647 (by decide)) (by omega)
set_option maxRecDepth 100000 in
set_option maxHeartbeats 4000000 in
theorem s_X7_greatest_L {g : gT} {h0 : mh_T} {P : Int32 → mh_T → Prop} (hG0 : GI h0) (hp : ∀ r : Int32, R (-2) 255 r → P r h0) : ∀ n : Nat, (∀ (l1 : Int32) (l2 : Int32), R (-2) 255 l1 → R 0 256 l2 → 1 * gap 256 l2 + 0 < n → ME g uX7_greatest 5 [.ref 4, .int l1, .int l2] [] h0 (qI P)) := by
  intro n
  induction n with
  | zero =>
    exact (fun _ _ _ _ hm => absurd hm (Nat.not_lt_zero _))
  | succ n ih =>
    intro l1 l2  fl1 fl2     hm
    have ok : Ok [] h0 h0 := Ok_rf hG0
    refine r_X7_greatest_5 l1 l2  ?_
    refine ⟨fun c_1320 => ?_, fun c_1320 => ?_⟩
    · have f_1322 : R 0 8 (mI h0 3 2) := GI_rd ok.1 3 _ (by decide)
      have f_1321 : R 1 256 (1 <<< ((mI h0 3 2) &&& 31)) := R_shl f_1322 1 256 0 8 (by decide)
      have f_1323 : R 1 256 l2 := rf_le_r f_1321 fl2 c_1320 1 (by decide)
      exact hp _ (R_w fl1 (by decide))
    · have f_1325 : R 0 8 (mI h0 3 2) := GI_rd ok.1 3 _ (by decide)
      have f_1324 : R 1 256 (1 <<< ((mI h0 3 2) &&& 31)) := R_shl f_1325 1 256 0 8 (by decide)
      have f_1326 : R 0 255 l2 := rf_lt_l fl2 f_1324 (nle c_1320) 255 (by decide)
      refine s_X7_isRing l2 ok.1 (fun r3 f_1327 => ?_)
      refine ⟨fun c_1328 => ?_, fun c_1328 => ?_⟩
      · have f_1329 : R 0 0 0 := ⟨by decide, by decide⟩
        have f_1330 : R 0 0 r3 := rf_eq f_1329 c_1328
        have f_1332 : R 1 1 1 := ⟨by decide, by decide⟩
        have f_1331 : R 1 256 (l2 + 1) := R_add f_1326 f_1332 1 256 (by decide)
        have g_1333 := gap_inc (N := 256) f_1326 (by decide)
        exact ih l1 (l2 + 1)  (R_w fl1 (by decide)) (R_w f_1331 (by decide)) (by omega)
      · have f_1334 : R 0 0 0 := ⟨by decide, by decide⟩
        have f_1335 : R 1 1 r3 := rf_ne_lo f_1327 c_1328 (by decide) 1 rfl
        refine ⟨fun c_1336 => ?_, fun c_1336 => ?_⟩
        · have f_1337 : R 0 0 0 := ⟨by decide, by decide⟩
          have f_1338 : R (-2) (-1) l1 := rf_lt_l fl1 f_1337 c_1336 (-1) (by decide)
          have f_1340 : R 1 1 1 := ⟨by decide, by decide⟩
          have f_1339 : R 1 256 (l2 + 1) := R_add f_1326 f_1340 1 256 (by decide)
          have g_1341 := gap_inc (N := 256) f_1326 (by decide)
          exact ih l2 (l2 + 1)  (R_w f_1326 (by decide)) (R_w f_1339 (by decide)) (by omega)
        · have f_1342 : R 0 0 0 := ⟨by decide, by decide⟩
          have f_1343 : R 0 255 l1 := rf_le_r f_1342 fl1 (nlt c_1336) 0 (by decide)
          refine s_X7_surplus l2 ok.1 (fun r7 => ?_)
          refine s_X7_surplus l1 ok.1 (fun r9 => ?_)
          refine ⟨fun c_1344 => ?_, fun c_1344 => ?_⟩
          · have f_1345 : R (-2147483648) 2147483647 r7 := R_full _
            have f_1346 : R (-2147483648) 2147483647 r9 := R_full _
            have f_1348 : R 1 1 1 := ⟨by decide, by decide⟩
            have f_1347 : R 1 256 (l2 + 1) := R_add f_1326 f_1348 1 256 (by decide)
            have g_1349 := gap_inc (N := 256) f_1326 (by decide)
            exact ih l1 (l2 + 1)  (R_w f_1343 (by decide)) (R_w f_1347 (by decide)) (by omega)
          · have f_1350 : R (-2147483648) 2147483647 r7 := R_full _
            have f_1351 : R (-2147483648) 2147483647 r9 := R_full _
            have f_1352 : R (-2147483648) 2147483646 r9 := rf_lt_l f_1351 f_1350 (nle c_1344) 2147483646 (by decide)
            have f_1353 : R (-2147483647) 2147483647 r7 := rf_lt_r f_1351 f_1350 (nle c_1344) (-2147483647) (by decide)
            have f_1355 : R 1 1 1 := ⟨by decide, by decide⟩
            have f_1354 : R 1 256 (l2 + 1) := R_add f_1326 f_1355 1 256 (by decide)
            have g_1356 := gap_inc (N := 256) f_1326 (by decide)
            exact ih l2 (l2 + 1)  (R_w f_1326 (by decide)) (R_w f_1354 (by decide)) (by omega)
set_option maxRecDepth 100000 in
set_option maxHeartbeats 4000000 in
theorem s_X7_greatest {g : gT} {h : mh_T} {P : Int32 → mh_T → Prop}  (hG : GI h)  (hp : ∀ r : Int32, R (-2) 255 r → P r h) : MCi g yX7_greatest uX7_greatest [.ref 4] h P := by
  have ok : Ok [] h h := Ok_rf hG
  have L0 := s_X7_greatest_L (g := g) hG hp 257
  refine e_X7_greatest   ?_
  have f_1357 : R (-2) (-2) (-2) := ⟨by decide, by decide⟩
  have f_1358 : R 0 0 0 := ⟨by decide, by decide⟩
  have f_1359 : R 0 0 0 := ⟨by decide, by decide⟩
  have g_1360 := gap_le (N := 256) f_1359 (m := 256) (by decide)
  exact L0 (-2) 0  (R_w f_1357 (by decide)) (R_w f_1358 (by decide)) (by omega)
