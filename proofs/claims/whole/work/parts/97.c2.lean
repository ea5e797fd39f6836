section
variable {p : Program} {l : Launch} {e : Env} {s : State} {m : MethodId} {below : List Frame} {meth : Method} {c : Code} {b L : Nat} {xs : Nat → Int32}
variable {D : va_G} {cA : Nat → ClassId} {ad adR : Nat → Nat} {Q : State → Prop}
theorem zw_c18 (X : zw_Fx p s m meth c b L xs D cA ad) (Wd : zw_Wd l s D cA ad adR) {t : Nat} (ht : 7 * t + 7 ≤ L) (hL : L ≤ 3584) : zw_Case p l e s m below meth c b L D cA ad adR Q 1505 t := by
  intro M R H ls cells slots hcs HR w hl kk
  have hx := X.1
  have hb := X.2.1
  obtain ⟨k, v, M2, R2, h1, h2, h3, h4, h5⟩ := zw_agree (b := false) (c_watch HR (xs (7 * t + 1)) (xs (7 * t + 2)))
  refine lv_aload_n hx hb dw_1505 rfl (lv_at hl 2 rfl) ?_
  refine zw_arg (t := t) (j := 1) X w.1 ht (by decide) hL (lv_at hl 1 rfl) (lv_at hl 0 rfl) dw_1506 dw_1507 dw_1509 (by decide) dw_1510 dw_1511 ?_
  refine zw_arg (t := t) (j := 2) X w.1 ht (by decide) hL (lv_at hl 1 rfl) (lv_at hl 0 rfl) dw_1512 dw_1513 dw_1515 (by decide) dw_1516 dw_1517 ?_
  refine lv_aload_n hx hb dw_1518 rfl (lv_at hl 4 rfl) ?_
  refine zw_wrap X (n := 4) (As := [.ref 0, .int (xs (7 * t + 1)), .int (xs (7 * t + 2)), .ref 73]) (rest := []) (lw_watch Wd.1 (zEx_XOk ad) h1) (zz_inl (by decide +kernel)) ⟨by decide, by decide, by decide +kernel⟩ (by decide) rfl hl.1 (Nat.le_of_ble_eq_true rfl) hcs Wd.2.2.1 w.1 w.2.1 w.2.2 (zw_disC Wd) dw_1519 (fun H1 hS hP hPR => ?_)
  refine lv_istore (lv' := (5, .int k) :: zw_lv b ad adR t) hx hb dw_1522 hl (by decide) rfl (fun ls hl => ?_)
  refine lv_aload_n hx hb dw_1524 rfl (lv_at hl 4 rfl) ?_
  refine zw_arg (t := t) (j := 1) X hS ht (by decide) hL (lv_at hl 2 rfl) (lv_at hl 1 rfl) dw_1525 dw_1526 dw_1528 (by decide) dw_1529 dw_1530 ?_
  refine zw_arg (t := t) (j := 2) X hS ht (by decide) hL (lv_at hl 2 rfl) (lv_at hl 1 rfl) dw_1531 dw_1532 dw_1534 (by decide) dw_1535 dw_1536 ?_
  refine zw_virt X (n := 2) (S := zzSR) (ax := adR) (As := [.int (xs (7 * t + 1)), .int (xs (7 * t + 2))]) (rest := []) (v := some (.int v)) (mm_X12_watch Wd.2.1).1 h2 (ci := 10) rfl rfl (zz_inl (by decide +kernel)) ⟨rfl, by decide, by decide, by decide +kernel⟩ (by decide) rfl hl.1 (Nat.le_of_ble_eq_true rfl) hcs Wd.2.2.2.1 hS hPR hP (zw_disR Wd) dw_1537 (fun H1 hS hPR hP => ?_)
  refine lv_istore (lv' := (6, .int v) :: (5, .int k) :: zw_lv b ad adR t) hx hb dw_1540 hl (by decide) rfl (fun ls hl => ?_)
  exact zw_finI X Wd h3 h5 hcs ⟨hS, hP, hPR⟩ hl dw_1542 dw_1543 dw_1546 dw_1548 dw_1553 dw_1555 dw_1558 dw_1559 dw_1560 dw_1561 dw_1563 dw_1564 dw_1565 dw_1570 (by decide) (fun H1 w hl => kk M2 R2 H1 ls h4 w hl)
theorem zw_c19 (X : zw_Fx p s m meth c b L xs D cA ad) (Wd : zw_Wd l s D cA ad adR) {t : Nat} (ht : 7 * t + 7 ≤ L) (hL : L ≤ 3584) : zw_Case p l e s m below meth c b L D cA ad adR Q 1573 t := by
  intro M R H ls cells slots hcs HR w hl kk
  have hx := X.1
  have hb := X.2.1
  obtain ⟨k, v, M2, R2, h1, h2, h3, h4, h5⟩ := zw_agree (b := false) (c_next HR (xs (7 * t + 1)))
  refine lv_aload_n hx hb dw_1573 rfl (lv_at hl 2 rfl) ?_
  refine zw_arg (t := t) (j := 1) X w.1 ht (by decide) hL (lv_at hl 1 rfl) (lv_at hl 0 rfl) dw_1574 dw_1575 dw_1577 (by decide) dw_1578 dw_1579 ?_
  refine lv_aload_n hx hb dw_1580 rfl (lv_at hl 4 rfl) ?_
  refine zw_wrap X (n := 3) (As := [.ref 0, .int (xs (7 * t + 1)), .ref 73]) (rest := []) (lw_next Wd.1 (zEx_XOk ad) h1) (zz_inl (by decide +kernel)) ⟨by decide, by decide, by decide +kernel⟩ (by decide) rfl hl.1 (Nat.le_of_ble_eq_true rfl) hcs Wd.2.2.1 w.1 w.2.1 w.2.2 (zw_disC Wd) dw_1581 (fun H1 hS hP hPR => ?_)
  refine lv_istore (lv' := (5, .int k) :: zw_lv b ad adR t) hx hb dw_1584 hl (by decide) rfl (fun ls hl => ?_)
  refine lv_aload_n hx hb dw_1586 rfl (lv_at hl 4 rfl) ?_
  refine zw_arg (t := t) (j := 1) X hS ht (by decide) hL (lv_at hl 2 rfl) (lv_at hl 1 rfl) dw_1587 dw_1588 dw_1590 (by decide) dw_1591 dw_1592 ?_
  refine zw_virt X (n := 1) (S := zzSR) (ax := adR) (As := [.int (xs (7 * t + 1))]) (rest := []) (v := some (.int v)) (mm_X12_next Wd.2.1).1 h2 (ci := 10) rfl rfl (zz_inl (by decide +kernel)) ⟨rfl, by decide, by decide, by decide +kernel⟩ (by decide) rfl hl.1 (Nat.le_of_ble_eq_true rfl) hcs Wd.2.2.2.1 hS hPR hP (zw_disR Wd) dw_1593 (fun H1 hS hPR hP => ?_)
  refine lv_istore (lv' := (6, .int v) :: (5, .int k) :: zw_lv b ad adR t) hx hb dw_1596 hl (by decide) rfl (fun ls hl => ?_)
  exact zw_finI X Wd h3 h5 hcs ⟨hS, hP, hPR⟩ hl dw_1598 dw_1599 dw_1602 dw_1604 dw_1609 dw_1611 dw_1614 dw_1615 dw_1616 dw_1617 dw_1619 dw_1620 dw_1621 dw_1626 (by decide) (fun H1 w hl => kk M2 R2 H1 ls h4 w hl)
theorem zw_c20 (X : zw_Fx p s m meth c b L xs D cA ad) (Wd : zw_Wd l s D cA ad adR) {t : Nat} (ht : 7 * t + 7 ≤ L) (hL : L ≤ 3584) : zw_Case p l e s m below meth c b L D cA ad adR Q 1629 t := by
  intro M R H ls cells slots hcs HR w hl kk
  have hx := X.1
  have hb := X.2.1
  obtain ⟨k, v, M2, R2, h1, h2, h3, h4, h5⟩ := zw_agree (b := false) (c_list HR (xs (7 * t + 1)))
  refine lv_aload_n hx hb dw_1629 rfl (lv_at hl 2 rfl) ?_
  refine zw_arg (t := t) (j := 1) X w.1 ht (by decide) hL (lv_at hl 1 rfl) (lv_at hl 0 rfl) dw_1630 dw_1631 dw_1633 (by decide) dw_1634 dw_1635 ?_
  refine lv_aload_n hx hb dw_1636 rfl (lv_at hl 4 rfl) ?_
  refine zw_wrap X (n := 3) (As := [.ref 0, .int (xs (7 * t + 1)), .ref 73]) (rest := []) (lw_list Wd.1 (zEx_XOk ad) h1) (zz_inl (by decide +kernel)) ⟨by decide, by decide, by decide +kernel⟩ (by decide) rfl hl.1 (Nat.le_of_ble_eq_true rfl) hcs Wd.2.2.1 w.1 w.2.1 w.2.2 (zw_disC Wd) dw_1637 (fun H1 hS hP hPR => ?_)
  refine lv_istore (lv' := (5, .int k) :: zw_lv b ad adR t) hx hb dw_1640 hl (by decide) rfl (fun ls hl => ?_)
  refine lv_aload_n hx hb dw_1642 rfl (lv_at hl 4 rfl) ?_
  refine zw_arg (t := t) (j := 1) X hS ht (by decide) hL (lv_at hl 2 rfl) (lv_at hl 1 rfl) dw_1643 dw_1644 dw_1646 (by decide) dw_1647 dw_1648 ?_
  refine zw_virt X (n := 1) (S := zzSR) (ax := adR) (As := [.int (xs (7 * t + 1))]) (rest := []) (v := some (.int v)) (mm_X12_list Wd.2.1).1 h2 (ci := 10) rfl rfl (zz_inl (by decide +kernel)) ⟨rfl, by decide, by decide, by decide +kernel⟩ (by decide) rfl hl.1 (Nat.le_of_ble_eq_true rfl) hcs Wd.2.2.2.1 hS hPR hP (zw_disR Wd) dw_1649 (fun H1 hS hPR hP => ?_)
  refine lv_istore (lv' := (6, .int v) :: (5, .int k) :: zw_lv b ad adR t) hx hb dw_1652 hl (by decide) rfl (fun ls hl => ?_)
  exact zw_finI X Wd h3 h5 hcs ⟨hS, hP, hPR⟩ hl dw_1654 dw_1655 dw_1658 dw_1660 dw_1665 dw_1667 dw_1670 dw_1671 dw_1672 dw_1673 dw_1675 dw_1676 dw_1677 dw_1682 (by decide) (fun H1 w hl => kk M2 R2 H1 ls h4 w hl)
theorem zw_c21 (X : zw_Fx p s m meth c b L xs D cA ad) (Wd : zw_Wd l s D cA ad adR) {t : Nat} (ht : 7 * t + 7 ≤ L) (hL : L ≤ 3584) : zw_Case p l e s m below meth c b L D cA ad adR Q 1685 t := by
  intro M R H ls cells slots hcs HR w hl kk
  have hx := X.1
  have hb := X.2.1
  obtain ⟨k, v, M2, R2, h1, h2, h3, h4, h5⟩ := zw_agree (b := false) (c_compact HR (xs (7 * t + 1)))
  refine lv_aload_n hx hb dw_1685 rfl (lv_at hl 2 rfl) ?_
  refine zw_arg (t := t) (j := 1) X w.1 ht (by decide) hL (lv_at hl 1 rfl) (lv_at hl 0 rfl) dw_1686 dw_1687 dw_1689 (by decide) dw_1690 dw_1691 ?_
  refine lv_aload_n hx hb dw_1692 rfl (lv_at hl 4 rfl) ?_
  refine zw_wrap X (n := 3) (As := [.ref 0, .int (xs (7 * t + 1)), .ref 73]) (rest := []) (lw_compact Wd.1 (zEx_XOk ad) h1) (zz_inl (by decide +kernel)) ⟨by decide, by decide, by decide +kernel⟩ (by decide) rfl hl.1 (Nat.le_of_ble_eq_true rfl) hcs Wd.2.2.1 w.1 w.2.1 w.2.2 (zw_disC Wd) dw_1693 (fun H1 hS hP hPR => ?_)
  refine lv_istore (lv' := (5, .int k) :: zw_lv b ad adR t) hx hb dw_1696 hl (by decide) rfl (fun ls hl => ?_)
  refine lv_aload_n hx hb dw_1698 rfl (lv_at hl 4 rfl) ?_
  refine zw_arg (t := t) (j := 1) X hS ht (by decide) hL (lv_at hl 2 rfl) (lv_at hl 1 rfl) dw_1699 dw_1700 dw_1702 (by decide) dw_1703 dw_1704 ?_
  refine zw_virt X (n := 1) (S := zzSR) (ax := adR) (As := [.int (xs (7 * t + 1))]) (rest := []) (v := some (.int v)) (mm_X12_compact Wd.2.1).1 h2 (ci := 10) rfl rfl (zz_inl (by decide +kernel)) ⟨rfl, by decide, by decide, by decide +kernel⟩ (by decide) rfl hl.1 (Nat.le_of_ble_eq_true rfl) hcs Wd.2.2.2.1 hS hPR hP (zw_disR Wd) dw_1705 (fun H1 hS hPR hP => ?_)
  refine lv_istore (lv' := (6, .int v) :: (5, .int k) :: zw_lv b ad adR t) hx hb dw_1708 hl (by decide) rfl (fun ls hl => ?_)
  exact zw_finI X Wd h3 h5 hcs ⟨hS, hP, hPR⟩ hl dw_1710 dw_1711 dw_1714 dw_1716 dw_1721 dw_1723 dw_1726 dw_1727 dw_1728 dw_1729 dw_1731 dw_1732 dw_1733 dw_1738 (by decide) (fun H1 w hl => kk M2 R2 H1 ls h4 w hl)
theorem zw_c22 (X : zw_Fx p s m meth c b L xs D cA ad) (Wd : zw_Wd l s D cA ad adR) {t : Nat} (ht : 7 * t + 7 ≤ L) (hL : L ≤ 3584) : zw_Case p l e s m below meth c b L D cA ad adR Q 1741 t := by
  intro M R H ls cells slots hcs HR w hl kk
  have hx := X.1
  have hb := X.2.1
  obtain ⟨k, v, M2, R2, h1, h2, h3, h4, h5⟩ := zw_agree (b := false) (c_tick HR (xs (7 * t + 1)))
  refine lv_aload_n hx hb dw_1741 rfl (lv_at hl 2 rfl) ?_
  refine zw_arg (t := t) (j := 1) X w.1 ht (by decide) hL (lv_at hl 1 rfl) (lv_at hl 0 rfl) dw_1742 dw_1743 dw_1745 (by decide) dw_1746 dw_1747 ?_
  refine lv_aload_n hx hb dw_1748 rfl (lv_at hl 4 rfl) ?_
  refine zw_wrap X (n := 3) (As := [.ref 0, .int (xs (7 * t + 1)), .ref 73]) (rest := []) (lw_tick Wd.1 (zEx_XOk ad) h1) (zz_inl (by decide +kernel)) ⟨by decide, by decide, by decide +kernel⟩ (by decide) rfl hl.1 (Nat.le_of_ble_eq_true rfl) hcs Wd.2.2.1 w.1 w.2.1 w.2.2 (zw_disC Wd) dw_1749 (fun H1 hS hP hPR => ?_)
  refine lv_istore (lv' := (5, .int k) :: zw_lv b ad adR t) hx hb dw_1752 hl (by decide) rfl (fun ls hl => ?_)
  refine lv_aload_n hx hb dw_1754 rfl (lv_at hl 4 rfl) ?_
  refine zw_arg (t := t) (j := 1) X hS ht (by decide) hL (lv_at hl 2 rfl) (lv_at hl 1 rfl) dw_1755 dw_1756 dw_1758 (by decide) dw_1759 dw_1760 ?_
  refine zw_virt X (n := 1) (S := zzSR) (ax := adR) (As := [.int (xs (7 * t + 1))]) (rest := []) (v := some (.int v)) (mm_X12_tick Wd.2.1).1 h2 (ci := 10) rfl rfl (zz_inl (by decide +kernel)) ⟨rfl, by decide, by decide, by decide +kernel⟩ (by decide) rfl hl.1 (Nat.le_of_ble_eq_true rfl) hcs Wd.2.2.2.1 hS hPR hP (zw_disR Wd) dw_1761 (fun H1 hS hPR hP => ?_)
  refine lv_istore (lv' := (6, .int v) :: (5, .int k) :: zw_lv b ad adR t) hx hb dw_1764 hl (by decide) rfl (fun ls hl => ?_)
  exact zw_finI X Wd h3 h5 hcs ⟨hS, hP, hPR⟩ hl dw_1766 dw_1767 dw_1770 dw_1772 dw_1777 dw_1779 dw_1782 dw_1783 dw_1784 dw_1785 dw_1787 dw_1788 dw_1789 dw_1794 (by decide) (fun H1 w hl => kk M2 R2 H1 ls h4 w hl)
theorem zw_c23 (X : zw_Fx p s m meth c b L xs D cA ad) (Wd : zw_Wd l s D cA ad adR) {t : Nat} (ht : 7 * t + 7 ≤ L) (hL : L ≤ 3584) : zw_Case p l e s m below meth c b L D cA ad adR Q 1797 t := by
  intro M R H ls cells slots hcs HR w hl kk
  have hx := X.1
  have hb := X.2.1
  obtain ⟨k, v, M2, R2, h1, h2, h3, h4, h5⟩ := zw_agree (b := true) (c_beat HR (xs (7 * t + 1)))
  refine lv_aload_n hx hb dw_1797 rfl (lv_at hl 2 rfl) ?_
  refine zw_arg (t := t) (j := 1) X w.1 ht (by decide) hL (lv_at hl 1 rfl) (lv_at hl 0 rfl) dw_1798 dw_1799 dw_1801 (by decide) dw_1802 dw_1803 ?_
  refine lv_aload_n hx hb dw_1804 rfl (lv_at hl 4 rfl) ?_
  refine zw_wrap X (n := 3) (As := [.ref 0, .int (xs (7 * t + 1)), .ref 73]) (rest := []) (lw_beat Wd.1 (zEx_XOk ad) h1) (zz_inl (by decide +kernel)) ⟨by decide, by decide, by decide +kernel⟩ (by decide) rfl hl.1 (Nat.le_of_ble_eq_true rfl) hcs Wd.2.2.1 w.1 w.2.1 w.2.2 (zw_disC Wd) dw_1805 (fun H1 hS hP hPR => ?_)
  refine lv_istore (lv' := (5, .int k) :: zw_lv b ad adR t) hx hb dw_1808 hl (by decide) rfl (fun ls hl => ?_)
  refine lv_aload_n hx hb dw_1810 rfl (lv_at hl 4 rfl) ?_
  refine zw_arg (t := t) (j := 1) X hS ht (by decide) hL (lv_at hl 2 rfl) (lv_at hl 1 rfl) dw_1811 dw_1812 dw_1814 (by decide) dw_1815 dw_1816 ?_
  refine zw_virt X (n := 1) (S := zzSR) (ax := adR) (As := [.int (xs (7 * t + 1))]) (rest := []) (v := some (.int v)) (mm_X12_beat Wd.2.1).1 h2 (ci := 10) rfl rfl (zz_inl (by decide +kernel)) ⟨rfl, by decide, by decide, by decide +kernel⟩ (by decide) rfl hl.1 (Nat.le_of_ble_eq_true rfl) hcs Wd.2.2.2.1 hS hPR hP (zw_disR Wd) dw_1817 (fun H1 hS hPR hP => ?_)
  refine lv_istore (lv' := (6, .int v) :: (5, .int k) :: zw_lv b ad adR t) hx hb dw_1820 hl (by decide) rfl (fun ls hl => ?_)
  exact zw_finB X Wd h3 h5 hcs ⟨hS, hP, hPR⟩ hl dw_1822 dw_1823 dw_1826 dw_1828 dw_1833 dw_1835 dw_1838 dw_1839 dw_1840 dw_1841 dw_1843 dw_1846 dw_1847 dw_1850 dw_1851 dw_1852 dw_1857 (by decide) (fun H1 w hl => kk M2 R2 H1 ls h4 w hl)
theorem zw_c24 (X : zw_Fx p s m meth c b L xs D cA ad) (Wd : zw_Wd l s D cA ad adR) {t : Nat} (ht : 7 * t + 7 ≤ L) (hL : L ≤ 3584) : zw_Case p l e s m below meth c b L D cA ad adR Q 1860 t := by
  intro M R H ls cells slots hcs HR w hl kk
  have hx := X.1
  have hb := X.2.1
  obtain ⟨k, v, M2, R2, h1, h2, h3, h4, h5⟩ := zw_agree (b := false) (c_wish HR (xs (7 * t + 1)) (xs (7 * t + 2)))
  refine lv_aload_n hx hb dw_1860 rfl (lv_at hl 2 rfl) ?_
  refine zw_arg (t := t) (j := 1) X w.1 ht (by decide) hL (lv_at hl 1 rfl) (lv_at hl 0 rfl) dw_1861 dw_1862 dw_1864 (by decide) dw_1865 dw_1866 ?_
  refine zw_arg (t := t) (j := 2) X w.1 ht (by decide) hL (lv_at hl 1 rfl) (lv_at hl 0 rfl) dw_1867 dw_1868 dw_1870 (by decide) dw_1871 dw_1872 ?_
  refine lv_aload_n hx hb dw_1873 rfl (lv_at hl 4 rfl) ?_
  refine zw_wrap X (n := 4) (As := [.ref 0, .int (xs (7 * t + 1)), .int (xs (7 * t + 2)), .ref 73]) (rest := []) (lw_wish Wd.1 (zEx_XOk ad) h1) (zz_inl (by decide +kernel)) ⟨by decide, by decide, by decide +kernel⟩ (by decide) rfl hl.1 (Nat.le_of_ble_eq_true rfl) hcs Wd.2.2.1 w.1 w.2.1 w.2.2 (zw_disC Wd) dw_1874 (fun H1 hS hP hPR => ?_)
  refine lv_istore (lv' := (5, .int k) :: zw_lv b ad adR t) hx hb dw_1877 hl (by decide) rfl (fun ls hl => ?_)
  refine lv_aload_n hx hb dw_1879 rfl (lv_at hl 4 rfl) ?_
  refine zw_arg (t := t) (j := 1) X hS ht (by decide) hL (lv_at hl 2 rfl) (lv_at hl 1 rfl) dw_1880 dw_1881 dw_1883 (by decide) dw_1884 dw_1885 ?_
  refine zw_arg (t := t) (j := 2) X hS ht (by decide) hL (lv_at hl 2 rfl) (lv_at hl 1 rfl) dw_1886 dw_1887 dw_1889 (by decide) dw_1890 dw_1891 ?_
  refine zw_virt X (n := 2) (S := zzSR) (ax := adR) (As := [.int (xs (7 * t + 1)), .int (xs (7 * t + 2))]) (rest := []) (v := some (.int v)) (mm_X12_wish Wd.2.1).1 h2 (ci := 10) rfl rfl (zz_inl (by decide +kernel)) ⟨rfl, by decide, by decide, by decide +kernel⟩ (by decide) rfl hl.1 (Nat.le_of_ble_eq_true rfl) hcs Wd.2.2.2.1 hS hPR hP (zw_disR Wd) dw_1892 (fun H1 hS hPR hP => ?_)
  refine lv_istore (lv' := (6, .int v) :: (5, .int k) :: zw_lv b ad adR t) hx hb dw_1895 hl (by decide) rfl (fun ls hl => ?_)
  exact zw_finI X Wd h3 h5 hcs ⟨hS, hP, hPR⟩ hl dw_1897 dw_1898 dw_1901 dw_1903 dw_1908 dw_1910 dw_1913 dw_1914 dw_1915 dw_1916 dw_1918 dw_1919 dw_1920 dw_1925 (by decide) (fun H1 w hl => kk M2 R2 H1 ls h4 w hl)
theorem zw_c25 (X : zw_Fx p s m meth c b L xs D cA ad) (Wd : zw_Wd l s D cA ad adR) {t : Nat} (ht : 7 * t + 7 ≤ L) (hL : L ≤ 3584) : zw_Case p l e s m below meth c b L D cA ad adR Q 1928 t := by
  intro M R H ls cells slots hcs HR w hl kk
  have hx := X.1
  have hb := X.2.1
  obtain ⟨M2, R2, h4, ⟨v, h1, h2, -⟩ | ⟨e, v, -, -, -, h⟩⟩ := c_hub HR (zw_b01 (xs (7 * t + 1)))
  · refine lv_aload_n hx hb dw_1928 rfl (lv_at hl 2 rfl) ?_
    refine zw_arg (t := t) (j := 1) X w.1 ht (by decide) hL (lv_at hl 1 rfl) (lv_at hl 0 rfl) dw_1929 dw_1930 dw_1932 (by decide) dw_1933 dw_1934 ?_
    refine zw_bool X dw_1935 dw_1938 dw_1939 dw_1942 ?_
    refine zw_virt X (n := 1) (S := zzSC) (ax := ad) (As := [.int (zw_b (xs (7 * t + 1)))]) (rest := []) (v := some (.int v)) (mm_X11_hub Wd.1).1 h1 (ci := 9) rfl rfl (zz_inl (by decide +kernel)) ⟨rfl, by decide, by decide, by decide +kernel⟩ (by decide) rfl hl.1 (Nat.le_of_ble_eq_true rfl) ⟨Nat.le_trans (Nat.le_succ _) hcs.1, Nat.le_trans (Nat.le_add_right _ _) hcs.2⟩ Wd.2.2.1 w.1 w.2.1 w.2.2 (zw_disC Wd) dw_1943 (fun H1 hS hP hPR => ?_)
    refine lv_aload_n hx hb dw_1946 rfl (lv_at hl 3 rfl) ?_
    refine zw_arg (t := t) (j := 1) X hS ht (by decide) hL (lv_at hl 1 rfl) (lv_at hl 0 rfl) dw_1947 dw_1948 dw_1950 (by decide) dw_1951 dw_1952 ?_
    refine zw_bool X dw_1953 dw_1956 dw_1957 dw_1960 ?_
    refine zw_virt X (n := 1) (S := zzSR) (ax := adR) (As := [.int (zw_b (xs (7 * t + 1)))]) (rest := [.int v]) (v := some (.int v)) (mm_X12_hub Wd.2.1).1 h2 (ci := 10) rfl rfl (zz_inl (by decide +kernel)) ⟨rfl, by decide, by decide, by decide +kernel⟩ (by decide) rfl hl.1 (Nat.le_of_ble_eq_true rfl) ⟨Nat.le_trans (Nat.le_succ _) hcs.1, Nat.le_trans (Nat.le_add_right _ _) hcs.2⟩ Wd.2.2.2.1 hS hPR hP (zw_disR Wd) dw_1961 (fun H1 hS hPR hP => ?_)
    exact lv_icmp_eq (tgt := 2801) hx hb dw_1964 (by decide) (fun _ => fun T hT Y => kk M2 R2 H1 ls h4 ⟨hS, hP, hPR⟩ hl T hT (stand_widen Y (Nat.le_succ _) (Nat.le_add_right _ _))) (fun h => absurd rfl h)
  · exact absurd rfl h
theorem zw_c26 (X : zw_Fx p s m meth c b L xs D cA ad) (Wd : zw_Wd l s D cA ad adR) {t : Nat} (ht : 7 * t + 7 ≤ L) (hL : L ≤ 3584) : zw_Case p l e s m below meth c b L D cA ad adR Q 1969 t := by
  intro M R H ls cells slots hcs HR w hl kk
  have hx := X.1
  have hb := X.2.1
  obtain ⟨M2, R2, h4, ⟨v, h1, h2, -⟩ | ⟨e, v, -, -, -, h⟩⟩ := c_objects HR
  · refine lv_aload_n hx hb dw_1969 rfl (lv_at hl 2 rfl) ?_
    refine zw_virt X (n := 0) (S := zzSC) (ax := ad) (As := []) (rest := []) (v := some (.int v)) (mm_X11_objects Wd.1).1 h1 (ci := 9) rfl rfl (zz_inl (by decide +kernel)) ⟨rfl, by decide, by decide, by decide +kernel⟩ (by decide) rfl hl.1 (Nat.le_of_ble_eq_true rfl) ⟨Nat.le_trans (Nat.le_succ _) hcs.1, Nat.le_trans (Nat.le_add_right _ _) hcs.2⟩ Wd.2.2.1 w.1 w.2.1 w.2.2 (zw_disC Wd) dw_1970 (fun H1 hS hP hPR => ?_)
    refine lv_aload_n hx hb dw_1973 rfl (lv_at hl 3 rfl) ?_
    refine zw_virt X (n := 0) (S := zzSR) (ax := adR) (As := []) (rest := [.int v]) (v := some (.int v)) (mm_X12_objects Wd.2.1).1 h2 (ci := 10) rfl rfl (zz_inl (by decide +kernel)) ⟨rfl, by decide, by decide, by decide +kernel⟩ (by decide) rfl hl.1 (Nat.le_of_ble_eq_true rfl) ⟨Nat.le_trans (Nat.le_succ _) hcs.1, Nat.le_trans (Nat.le_add_right _ _) hcs.2⟩ Wd.2.2.2.1 hS hPR hP (zw_disR Wd) dw_1974 (fun H1 hS hPR hP => ?_)
    exact lv_icmp_eq (tgt := 2801) hx hb dw_1977 (by decide) (fun _ => fun T hT Y => kk M2 R2 H1 ls h4 ⟨hS, hP, hPR⟩ hl T hT (stand_widen Y (Nat.le_succ _) (Nat.le_add_right _ _))) (fun h => absurd rfl h)
  · exact absurd rfl h
end
