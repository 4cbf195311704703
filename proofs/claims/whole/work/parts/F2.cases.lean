section
theorem lc_24 {G : aG} {F : aF} {o : wO} {n s i L : Nat} {wx wm : wS} {u : Nat → Int64} {t : Tn} {z : Sy} {xs : Nat → Int32} {Q : aR → Prop} (hG : aGood G) (hT : aTxt G) (hX : aScr G L xs) (hN : aNc G) (h : LH F o n s) (r : RR t z o wx wm) (hi : i + 6 ≤ L) (hL : L ≤ 3072) (ih : IHs G i n s Q) : ∃ R, Q R ∧ AG G ML_law 1634 (lsL i) [] (F wx wm u) R := by
  obtain ⟨w', rm, F1, n1, s1, u1, k, e2, h1, ⟨b1, b2⟩, ha, ⟨z1, rr⟩, ek, ev⟩ := wr_habits (a1 := xs (i + 1)) (u := u) hG hN h r
  obtain ⟨R, hQ, K⟩ := ih F1 o t z1 w' rm.2 u1 n1 s1 h1 rr (by omega) (by omega)
  have hm := h1.2.1 w' u1
  have ho := h1.2.2.1 w' rm.2 u1
  refine ⟨R, hQ, ?_⟩
  refine g_aload_n dL_law_1634 rfl rfl ?_
  refine g_arg (i := i) (j := 1) hX (v := 1) dL_law_1635 dL_law_1636 dL_law_1638 dL_law_1639 dL_law_1640 rfl rfl rfl (by omega) hL ?_
  refine g_aload_n dL_law_1641 rfl rfl ?_
  refine g_callH (M' := ML_habits) (as := [.ref 40, .int (xs (i + 1)), .ref 132]) (v := some (.int k)) (aIn1 1156 (by decide +kernel) rfl) kH_habits (by decide) ha rfl (Nat.le_of_ble_eq_true rfl) dL_law_1642 ?_
  refine g_istore dL_law_1645 (by decide) rfl ?_
  refine g_aload_n dL_law_1647 rfl rfl ?_
  refine g_arg (i := i) (j := 1) hX (v := 1) dL_law_1648 dL_law_1649 dL_law_1651 dL_law_1652 dL_law_1653 rfl rfl rfl (by omega) hL ?_
  refine g_callV (M' := M_X10_habits) (as := [.int (xs (i + 1))]) (v := some (.int rm.1)) l_L_228 kV_X10_habits (by decide) (C_X10_habits hm e2) rfl (by decide) (hm.2.1 wm 0 _ rfl) ⟨_, _, rfl⟩ (Nat.le_of_ble_eq_true rfl) dL_law_1654 ?_
  refine g_istore dL_law_1657 (by decide) rfl ?_
  refine g_aload_n dL_law_1659 rfl rfl ?_
  refine g_callV (M' := M_X10_thrown) (as := []) (v := some (.int (rm.2.1 0))) l_L_149 kV_X10_thrown (by decide) (C_X10_thrown hm (thrown_s rm.2)) rfl (by decide) (hm.2.1 rm.2 0 _ rfl) ⟨_, _, rfl⟩ (Nat.le_of_ble_eq_true rfl) dL_law_1660 ?_
  refine g_iload dL_law_1663 rfl ?_
  refine g_icmp_eq (tgt := 1670) dL_law_1665 (by decide) (fun _ => ?_) (fun q => absurd ek q)
  refine g_iload dL_law_1670 rfl ?_
  have fin : AG G ML_law 1687 [some (.ref 0), some (.ref 40), some (.ref 100), some (.ref 132), some (.int (nI i)), some (.int k), some (.int rm.1)] [] (F1 w' rm.2 u1) R := by
    refine g_goto (tgt := 2947) dL_law_1687 (by decide) ?_
    refine g_none 5 ?_
    refine g_none 6 ?_
    exact K
  refine g_if_ne (tgt := 1687) dL_law_1672 (by decide) (fun _ => fin) (fun q => ?_)
  have hk0 : k = 0 := q
  refine g_aload_n dL_law_1675 rfl rfl ?_
  refine g_iconst (v := 0) dL_law_1676 (by decide) ?_
  refine g_lald dL_law_1677 (by decide) ho vp01 ?_
  refine g_iload dL_law_1678 rfl ?_
  refine g_i2l dL_law_1680 ?_
  refine g_lcmp dL_law_1681 ?_
  exact g_if_eq (tgt := 1687) dL_law_1682 (by decide) (fun _ => fin) (fun q => absurd (lg_0.2 (ev hk0)) q)
theorem lc_25 {G : aG} {F : aF} {o : wO} {n s i L : Nat} {wx wm : wS} {u : Nat → Int64} {t : Tn} {z : Sy} {xs : Nat → Int32} {Q : aR → Prop} (hG : aGood G) (hT : aTxt G) (hX : aScr G L xs) (hN : aNc G) (h : LH F o n s) (r : RR t z o wx wm) (hi : i + 6 ≤ L) (hL : L ≤ 3072) (ih : IHs G i n s Q) : ∃ R, Q R ∧ AG G ML_law 1690 (lsL i) [] (F wx wm u) R := by
  obtain ⟨w', rm, F1, n1, s1, u1, k, e2, h1, ⟨b1, b2⟩, ha, ⟨z1, rr⟩, ek, ev⟩ := wr_next (a1 := xs (i + 1)) (u := u) hG hN h r
  obtain ⟨R, hQ, K⟩ := ih F1 o t z1 w' rm.2 u1 n1 s1 h1 rr (by omega) (by omega)
  have hm := h1.2.1 w' u1
  have ho := h1.2.2.1 w' rm.2 u1
  refine ⟨R, hQ, ?_⟩
  refine g_aload_n dL_law_1690 rfl rfl ?_
  refine g_arg (i := i) (j := 1) hX (v := 1) dL_law_1691 dL_law_1692 dL_law_1694 dL_law_1695 dL_law_1696 rfl rfl rfl (by omega) hL ?_
  refine g_aload_n dL_law_1697 rfl rfl ?_
  refine g_callH (M' := ML_next) (as := [.ref 40, .int (xs (i + 1)), .ref 132]) (v := some (.int k)) (aIn1 1177 (by decide +kernel) rfl) kH_next (by decide) ha rfl (Nat.le_of_ble_eq_true rfl) dL_law_1698 ?_
  refine g_istore dL_law_1701 (by decide) rfl ?_
  refine g_aload_n dL_law_1703 rfl rfl ?_
  refine g_arg (i := i) (j := 1) hX (v := 1) dL_law_1704 dL_law_1705 dL_law_1707 dL_law_1708 dL_law_1709 rfl rfl rfl (by omega) hL ?_
  refine g_callV (M' := M_X10_next) (as := [.int (xs (i + 1))]) (v := some (.int rm.1)) l_L_231 kV_X10_next (by decide) (C_X10_next hm e2) rfl (by decide) (hm.2.1 wm 0 _ rfl) ⟨_, _, rfl⟩ (Nat.le_of_ble_eq_true rfl) dL_law_1710 ?_
  refine g_istore dL_law_1713 (by decide) rfl ?_
  refine g_aload_n dL_law_1715 rfl rfl ?_
  refine g_callV (M' := M_X10_thrown) (as := []) (v := some (.int (rm.2.1 0))) l_L_149 kV_X10_thrown (by decide) (C_X10_thrown hm (thrown_s rm.2)) rfl (by decide) (hm.2.1 rm.2 0 _ rfl) ⟨_, _, rfl⟩ (Nat.le_of_ble_eq_true rfl) dL_law_1716 ?_
  refine g_iload dL_law_1719 rfl ?_
  refine g_icmp_eq (tgt := 1726) dL_law_1721 (by decide) (fun _ => ?_) (fun q => absurd ek q)
  refine g_iload dL_law_1726 rfl ?_
  have fin : AG G ML_law 1743 [some (.ref 0), some (.ref 40), some (.ref 100), some (.ref 132), some (.int (nI i)), some (.int k), some (.int rm.1)] [] (F1 w' rm.2 u1) R := by
    refine g_goto (tgt := 2947) dL_law_1743 (by decide) ?_
    refine g_none 5 ?_
    refine g_none 6 ?_
    exact K
  refine g_if_ne (tgt := 1743) dL_law_1728 (by decide) (fun _ => fin) (fun q => ?_)
  have hk0 : k = 0 := q
  refine g_aload_n dL_law_1731 rfl rfl ?_
  refine g_iconst (v := 0) dL_law_1732 (by decide) ?_
  refine g_lald dL_law_1733 (by decide) ho vp01 ?_
  refine g_iload dL_law_1734 rfl ?_
  refine g_i2l dL_law_1736 ?_
  refine g_lcmp dL_law_1737 ?_
  exact g_if_eq (tgt := 1743) dL_law_1738 (by decide) (fun _ => fin) (fun q => absurd (lg_0.2 (ev hk0)) q)
theorem lc_26 {G : aG} {F : aF} {o : wO} {n s i L : Nat} {wx wm : wS} {u : Nat → Int64} {t : Tn} {z : Sy} {xs : Nat → Int32} {Q : aR → Prop} (hG : aGood G) (hT : aTxt G) (hX : aScr G L xs) (hN : aNc G) (h : LH F o n s) (r : RR t z o wx wm) (hi : i + 6 ≤ L) (hL : L ≤ 3072) (ih : IHs G i n s Q) : ∃ R, Q R ∧ AG G ML_law 1746 (lsL i) [] (F wx wm u) R := by
  obtain ⟨w', rm, F1, n1, s1, u1, k, e2, h1, ⟨b1, b2⟩, ha, ⟨z1, rr⟩, ek, ev⟩ := wr_snow (a1 := xs (i + 1)) (a2 := xs (i + 2)) (a3 := xs (i + 3)) (u := u) hG hN h r
  obtain ⟨R, hQ, K⟩ := ih F1 o t z1 w' rm.2 u1 n1 s1 h1 rr (by omega) (by omega)
  have hm := h1.2.1 w' u1
  have ho := h1.2.2.1 w' rm.2 u1
  refine ⟨R, hQ, ?_⟩
  refine g_aload_n dL_law_1746 rfl rfl ?_
  refine g_arg (i := i) (j := 1) hX (v := 1) dL_law_1747 dL_law_1748 dL_law_1750 dL_law_1751 dL_law_1752 rfl rfl rfl (by omega) hL ?_
  refine g_arg (i := i) (j := 2) hX (v := 2) dL_law_1753 dL_law_1754 dL_law_1756 dL_law_1757 dL_law_1758 rfl rfl rfl (by omega) hL ?_
  refine g_arg (i := i) (j := 3) hX (v := 3) dL_law_1759 dL_law_1760 dL_law_1762 dL_law_1763 dL_law_1764 rfl rfl rfl (by omega) hL ?_
  refine g_aload_n dL_law_1765 rfl rfl ?_
  refine g_callH (M' := ML_snow) (as := [.ref 40, .int (xs (i + 1)), .int (xs (i + 2)), .int (xs (i + 3)), .ref 132]) (v := some (.int k)) (aIn1 1197 (by decide +kernel) rfl) kH_snow (by decide) ha rfl (Nat.le_of_ble_eq_true rfl) dL_law_1766 ?_
  refine g_istore dL_law_1769 (by decide) rfl ?_
  refine g_aload_n dL_law_1771 rfl rfl ?_
  refine g_arg (i := i) (j := 1) hX (v := 1) dL_law_1772 dL_law_1773 dL_law_1775 dL_law_1776 dL_law_1777 rfl rfl rfl (by omega) hL ?_
  refine g_arg (i := i) (j := 2) hX (v := 2) dL_law_1778 dL_law_1779 dL_law_1781 dL_law_1782 dL_law_1783 rfl rfl rfl (by omega) hL ?_
  refine g_arg (i := i) (j := 3) hX (v := 3) dL_law_1784 dL_law_1785 dL_law_1787 dL_law_1788 dL_law_1789 rfl rfl rfl (by omega) hL ?_
  refine g_callV (M' := M_X10_snow) (as := [.int (xs (i + 1)), .int (xs (i + 2)), .int (xs (i + 3))]) (v := some (.int rm.1)) l_L_234 kV_X10_snow (by decide) (C_X10_snow hm e2) rfl (by decide) (hm.2.1 wm 0 _ rfl) ⟨_, _, rfl⟩ (Nat.le_of_ble_eq_true rfl) dL_law_1790 ?_
  refine g_istore dL_law_1793 (by decide) rfl ?_
  refine g_aload_n dL_law_1795 rfl rfl ?_
  refine g_callV (M' := M_X10_thrown) (as := []) (v := some (.int (rm.2.1 0))) l_L_149 kV_X10_thrown (by decide) (C_X10_thrown hm (thrown_s rm.2)) rfl (by decide) (hm.2.1 rm.2 0 _ rfl) ⟨_, _, rfl⟩ (Nat.le_of_ble_eq_true rfl) dL_law_1796 ?_
  refine g_iload dL_law_1799 rfl ?_
  refine g_icmp_eq (tgt := 1806) dL_law_1801 (by decide) (fun _ => ?_) (fun q => absurd ek q)
  refine g_iload dL_law_1806 rfl ?_
  have fin : AG G ML_law 1823 [some (.ref 0), some (.ref 40), some (.ref 100), some (.ref 132), some (.int (nI i)), some (.int k), some (.int rm.1)] [] (F1 w' rm.2 u1) R := by
    refine g_goto (tgt := 2947) dL_law_1823 (by decide) ?_
    refine g_none 5 ?_
    refine g_none 6 ?_
    exact K
  refine g_if_ne (tgt := 1823) dL_law_1808 (by decide) (fun _ => fin) (fun q => ?_)
  have hk0 : k = 0 := q
  refine g_aload_n dL_law_1811 rfl rfl ?_
  refine g_iconst (v := 0) dL_law_1812 (by decide) ?_
  refine g_lald dL_law_1813 (by decide) ho vp01 ?_
  refine g_iload dL_law_1814 rfl ?_
  refine g_i2l dL_law_1816 ?_
  refine g_lcmp dL_law_1817 ?_
  exact g_if_eq (tgt := 1823) dL_law_1818 (by decide) (fun _ => fin) (fun q => absurd (lg_0.2 (ev hk0)) q)
theorem lc_27 {G : aG} {F : aF} {o : wO} {n s i L : Nat} {wx wm : wS} {u : Nat → Int64} {t : Tn} {z : Sy} {xs : Nat → Int32} {Q : aR → Prop} (hG : aGood G) (hT : aTxt G) (hX : aScr G L xs) (hN : aNc G) (h : LH F o n s) (r : RR t z o wx wm) (hi : i + 6 ≤ L) (hL : L ≤ 3072) (ih : IHs G i n s Q) : ∃ R, Q R ∧ AG G ML_law 1826 (lsL i) [] (F wx wm u) R := by
  obtain ⟨w', rm, F1, n1, s1, u1, k, e2, h1, ⟨b1, b2⟩, ha, ⟨z1, rr⟩, ek, ev⟩ := wr_game (a1 := xs (i + 1)) (a2 := xs (i + 2)) (a3 := xs (i + 3)) (u := u) hG hN h r
  obtain ⟨R, hQ, K⟩ := ih F1 o t z1 w' rm.2 u1 n1 s1 h1 rr (by omega) (by omega)
  have hm := h1.2.1 w' u1
  have ho := h1.2.2.1 w' rm.2 u1
  refine ⟨R, hQ, ?_⟩
  refine g_aload_n dL_law_1826 rfl rfl ?_
  refine g_arg (i := i) (j := 1) hX (v := 1) dL_law_1827 dL_law_1828 dL_law_1830 dL_law_1831 dL_law_1832 rfl rfl rfl (by omega) hL ?_
  refine g_arg (i := i) (j := 2) hX (v := 2) dL_law_1833 dL_law_1834 dL_law_1836 dL_law_1837 dL_law_1838 rfl rfl rfl (by omega) hL ?_
  refine g_arg (i := i) (j := 3) hX (v := 3) dL_law_1839 dL_law_1840 dL_law_1842 dL_law_1843 dL_law_1844 rfl rfl rfl (by omega) hL ?_
  refine g_aload_n dL_law_1845 rfl rfl ?_
  refine g_callH (M' := ML_game) (as := [.ref 40, .int (xs (i + 1)), .int (xs (i + 2)), .int (xs (i + 3)), .ref 132]) (v := some (.int k)) (aIn1 1204 (by decide +kernel) rfl) kH_game (by decide) ha rfl (Nat.le_of_ble_eq_true rfl) dL_law_1846 ?_
  refine g_istore dL_law_1849 (by decide) rfl ?_
  refine g_aload_n dL_law_1851 rfl rfl ?_
  refine g_arg (i := i) (j := 1) hX (v := 1) dL_law_1852 dL_law_1853 dL_law_1855 dL_law_1856 dL_law_1857 rfl rfl rfl (by omega) hL ?_
  refine g_arg (i := i) (j := 2) hX (v := 2) dL_law_1858 dL_law_1859 dL_law_1861 dL_law_1862 dL_law_1863 rfl rfl rfl (by omega) hL ?_
  refine g_arg (i := i) (j := 3) hX (v := 3) dL_law_1864 dL_law_1865 dL_law_1867 dL_law_1868 dL_law_1869 rfl rfl rfl (by omega) hL ?_
  refine g_callV (M' := M_X10_game) (as := [.int (xs (i + 1)), .int (xs (i + 2)), .int (xs (i + 3))]) (v := some (.int rm.1)) l_L_237 kV_X10_game (by decide) (C_X10_game hm e2) rfl (by decide) (hm.2.1 wm 0 _ rfl) ⟨_, _, rfl⟩ (Nat.le_of_ble_eq_true rfl) dL_law_1870 ?_
  refine g_istore dL_law_1873 (by decide) rfl ?_
  refine g_aload_n dL_law_1875 rfl rfl ?_
  refine g_callV (M' := M_X10_thrown) (as := []) (v := some (.int (rm.2.1 0))) l_L_149 kV_X10_thrown (by decide) (C_X10_thrown hm (thrown_s rm.2)) rfl (by decide) (hm.2.1 rm.2 0 _ rfl) ⟨_, _, rfl⟩ (Nat.le_of_ble_eq_true rfl) dL_law_1876 ?_
  refine g_iload dL_law_1879 rfl ?_
  refine g_icmp_eq (tgt := 1886) dL_law_1881 (by decide) (fun _ => ?_) (fun q => absurd ek q)
  refine g_iload dL_law_1886 rfl ?_
  have fin : AG G ML_law 1903 [some (.ref 0), some (.ref 40), some (.ref 100), some (.ref 132), some (.int (nI i)), some (.int k), some (.int rm.1)] [] (F1 w' rm.2 u1) R := by
    refine g_goto (tgt := 2947) dL_law_1903 (by decide) ?_
    refine g_none 5 ?_
    refine g_none 6 ?_
    exact K
  refine g_if_ne (tgt := 1903) dL_law_1888 (by decide) (fun _ => fin) (fun q => ?_)
  have hk0 : k = 0 := q
  refine g_aload_n dL_law_1891 rfl rfl ?_
  refine g_iconst (v := 0) dL_law_1892 (by decide) ?_
  refine g_lald dL_law_1893 (by decide) ho vp01 ?_
  refine g_iload dL_law_1894 rfl ?_
  refine g_i2l dL_law_1896 ?_
  refine g_lcmp dL_law_1897 ?_
  exact g_if_eq (tgt := 1903) dL_law_1898 (by decide) (fun _ => fin) (fun q => absurd (lg_0.2 (ev hk0)) q)
theorem lc_28 {G : aG} {F : aF} {o : wO} {n s i L : Nat} {wx wm : wS} {u : Nat → Int64} {t : Tn} {z : Sy} {xs : Nat → Int32} {Q : aR → Prop} (hG : aGood G) (hT : aTxt G) (hX : aScr G L xs) (hN : aNc G) (h : LH F o n s) (r : RR t z o wx wm) (hi : i + 6 ≤ L) (hL : L ≤ 3072) (ih : IHs G i n s Q) : ∃ R, Q R ∧ AG G ML_law 1906 (lsL i) [] (F wx wm u) R := by
  obtain ⟨w', rm, F1, n1, s1, u1, k, e2, h1, ⟨b1, b2⟩, ha, ⟨z1, rr⟩, ek, ev⟩ := wr_years (a1 := xs (i + 1)) (a2 := xs (i + 2)) (a3 := xs (i + 3)) (u := u) hG hN h r
  obtain ⟨R, hQ, K⟩ := ih F1 o t z1 w' rm.2 u1 n1 s1 h1 rr (by omega) (by omega)
  have hm := h1.2.1 w' u1
  have ho := h1.2.2.1 w' rm.2 u1
  refine ⟨R, hQ, ?_⟩
  refine g_aload_n dL_law_1906 rfl rfl ?_
  refine g_arg (i := i) (j := 1) hX (v := 1) dL_law_1907 dL_law_1908 dL_law_1910 dL_law_1911 dL_law_1912 rfl rfl rfl (by omega) hL ?_
  refine g_arg (i := i) (j := 2) hX (v := 2) dL_law_1913 dL_law_1914 dL_law_1916 dL_law_1917 dL_law_1918 rfl rfl rfl (by omega) hL ?_
  refine g_arg (i := i) (j := 3) hX (v := 3) dL_law_1919 dL_law_1920 dL_law_1922 dL_law_1923 dL_law_1924 rfl rfl rfl (by omega) hL ?_
  refine g_aload_n dL_law_1925 rfl rfl ?_
  refine g_callH (M' := ML_years) (as := [.ref 40, .int (xs (i + 1)), .int (xs (i + 2)), .int (xs (i + 3)), .ref 132]) (v := some (.int k)) (aIn1 1217 (by decide +kernel) rfl) kH_years (by decide) ha rfl (Nat.le_of_ble_eq_true rfl) dL_law_1926 ?_
  refine g_istore dL_law_1929 (by decide) rfl ?_
  refine g_aload_n dL_law_1931 rfl rfl ?_
  refine g_arg (i := i) (j := 1) hX (v := 1) dL_law_1932 dL_law_1933 dL_law_1935 dL_law_1936 dL_law_1937 rfl rfl rfl (by omega) hL ?_
  refine g_arg (i := i) (j := 2) hX (v := 2) dL_law_1938 dL_law_1939 dL_law_1941 dL_law_1942 dL_law_1943 rfl rfl rfl (by omega) hL ?_
  refine g_arg (i := i) (j := 3) hX (v := 3) dL_law_1944 dL_law_1945 dL_law_1947 dL_law_1948 dL_law_1949 rfl rfl rfl (by omega) hL ?_
  refine g_callV (M' := M_X10_years) (as := [.int (xs (i + 1)), .int (xs (i + 2)), .int (xs (i + 3))]) (v := some (.int rm.1)) l_L_240 kV_X10_years (by decide) (C_X10_years hm e2) rfl (by decide) (hm.2.1 wm 0 _ rfl) ⟨_, _, rfl⟩ (Nat.le_of_ble_eq_true rfl) dL_law_1950 ?_
  refine g_istore dL_law_1953 (by decide) rfl ?_
  refine g_aload_n dL_law_1955 rfl rfl ?_
  refine g_callV (M' := M_X10_thrown) (as := []) (v := some (.int (rm.2.1 0))) l_L_149 kV_X10_thrown (by decide) (C_X10_thrown hm (thrown_s rm.2)) rfl (by decide) (hm.2.1 rm.2 0 _ rfl) ⟨_, _, rfl⟩ (Nat.le_of_ble_eq_true rfl) dL_law_1956 ?_
  refine g_iload dL_law_1959 rfl ?_
  refine g_icmp_eq (tgt := 1966) dL_law_1961 (by decide) (fun _ => ?_) (fun q => absurd ek q)
  refine g_iload dL_law_1966 rfl ?_
  have fin : AG G ML_law 1983 [some (.ref 0), some (.ref 40), some (.ref 100), some (.ref 132), some (.int (nI i)), some (.int k), some (.int rm.1)] [] (F1 w' rm.2 u1) R := by
    refine g_goto (tgt := 2947) dL_law_1983 (by decide) ?_
    refine g_none 5 ?_
    refine g_none 6 ?_
    exact K
  refine g_if_ne (tgt := 1983) dL_law_1968 (by decide) (fun _ => fin) (fun q => ?_)
  have hk0 : k = 0 := q
  refine g_aload_n dL_law_1971 rfl rfl ?_
  refine g_iconst (v := 0) dL_law_1972 (by decide) ?_
  refine g_lald dL_law_1973 (by decide) ho vp01 ?_
  refine g_iload dL_law_1974 rfl ?_
  refine g_i2l dL_law_1976 ?_
  refine g_lcmp dL_law_1977 ?_
  exact g_if_eq (tgt := 1983) dL_law_1978 (by decide) (fun _ => fin) (fun q => absurd (lg_0.2 (ev hk0)) q)
theorem lc_29 {G : aG} {F : aF} {o : wO} {n s i L : Nat} {wx wm : wS} {u : Nat → Int64} {t : Tn} {z : Sy} {xs : Nat → Int32} {Q : aR → Prop} (hG : aGood G) (hT : aTxt G) (hX : aScr G L xs) (hN : aNc G) (h : LH F o n s) (r : RR t z o wx wm) (hi : i + 6 ≤ L) (hL : L ≤ 3072) (ih : IHs G i n s Q) : ∃ R, Q R ∧ AG G ML_law 1986 (lsL i) [] (F wx wm u) R := by
  obtain ⟨w', rm, F1, n1, s1, u1, k, e2, h1, ⟨b1, b2⟩, ha, ⟨z1, rr⟩, ek, ev⟩ := wr_coming (a1 := xs (i + 1)) (a2 := xs (i + 2)) (a3 := xs (i + 3)) (u := u) hG hN h r
  obtain ⟨R, hQ, K⟩ := ih F1 o t z1 w' rm.2 u1 n1 s1 h1 rr (by omega) (by omega)
  have hm := h1.2.1 w' u1
  have ho := h1.2.2.1 w' rm.2 u1
  refine ⟨R, hQ, ?_⟩
  refine g_aload_n dL_law_1986 rfl rfl ?_
  refine g_arg (i := i) (j := 1) hX (v := 1) dL_law_1987 dL_law_1988 dL_law_1990 dL_law_1991 dL_law_1992 rfl rfl rfl (by omega) hL ?_
  refine g_arg (i := i) (j := 2) hX (v := 2) dL_law_1993 dL_law_1994 dL_law_1996 dL_law_1997 dL_law_1998 rfl rfl rfl (by omega) hL ?_
  refine g_arg (i := i) (j := 3) hX (v := 3) dL_law_1999 dL_law_2000 dL_law_2002 dL_law_2003 dL_law_2004 rfl rfl rfl (by omega) hL ?_
  refine g_aload_n dL_law_2005 rfl rfl ?_
  refine g_callH (M' := ML_coming) (as := [.ref 40, .int (xs (i + 1)), .int (xs (i + 2)), .int (xs (i + 3)), .ref 132]) (v := some (.int k)) (aIn1 1244 (by decide +kernel) rfl) kH_coming (by decide) ha rfl (Nat.le_of_ble_eq_true rfl) dL_law_2006 ?_
  refine g_istore dL_law_2009 (by decide) rfl ?_
  refine g_aload_n dL_law_2011 rfl rfl ?_
  refine g_arg (i := i) (j := 1) hX (v := 1) dL_law_2012 dL_law_2013 dL_law_2015 dL_law_2016 dL_law_2017 rfl rfl rfl (by omega) hL ?_
  refine g_arg (i := i) (j := 2) hX (v := 2) dL_law_2018 dL_law_2019 dL_law_2021 dL_law_2022 dL_law_2023 rfl rfl rfl (by omega) hL ?_
  refine g_arg (i := i) (j := 3) hX (v := 3) dL_law_2024 dL_law_2025 dL_law_2027 dL_law_2028 dL_law_2029 rfl rfl rfl (by omega) hL ?_
  refine g_callV (M' := M_X10_coming) (as := [.int (xs (i + 1)), .int (xs (i + 2)), .int (xs (i + 3))]) (v := some (.int rm.1)) l_L_243 kV_X10_coming (by decide) (C_X10_coming hm e2) rfl (by decide) (hm.2.1 wm 0 _ rfl) ⟨_, _, rfl⟩ (Nat.le_of_ble_eq_true rfl) dL_law_2030 ?_
  refine g_istore dL_law_2033 (by decide) rfl ?_
  refine g_aload_n dL_law_2035 rfl rfl ?_
  refine g_callV (M' := M_X10_thrown) (as := []) (v := some (.int (rm.2.1 0))) l_L_149 kV_X10_thrown (by decide) (C_X10_thrown hm (thrown_s rm.2)) rfl (by decide) (hm.2.1 rm.2 0 _ rfl) ⟨_, _, rfl⟩ (Nat.le_of_ble_eq_true rfl) dL_law_2036 ?_
  refine g_iload dL_law_2039 rfl ?_
  refine g_icmp_eq (tgt := 2046) dL_law_2041 (by decide) (fun _ => ?_) (fun q => absurd ek q)
  refine g_iload dL_law_2046 rfl ?_
  have fin : AG G ML_law 2063 [some (.ref 0), some (.ref 40), some (.ref 100), some (.ref 132), some (.int (nI i)), some (.int k), some (.int rm.1)] [] (F1 w' rm.2 u1) R := by
    refine g_goto (tgt := 2947) dL_law_2063 (by decide) ?_
    refine g_none 5 ?_
    refine g_none 6 ?_
    exact K
  refine g_if_ne (tgt := 2063) dL_law_2048 (by decide) (fun _ => fin) (fun q => ?_)
  have hk0 : k = 0 := q
  refine g_aload_n dL_law_2051 rfl rfl ?_
  refine g_iconst (v := 0) dL_law_2052 (by decide) ?_
  refine g_lald dL_law_2053 (by decide) ho vp01 ?_
  refine g_iload dL_law_2054 rfl ?_
  refine g_i2l dL_law_2056 ?_
  refine g_lcmp dL_law_2057 ?_
  exact g_if_eq (tgt := 2063) dL_law_2058 (by decide) (fun _ => fin) (fun q => absurd (lg_0.2 (ev hk0)) q)
theorem lc_30 {G : aG} {F : aF} {o : wO} {n s i L : Nat} {wx wm : wS} {u : Nat → Int64} {t : Tn} {z : Sy} {xs : Nat → Int32} {Q : aR → Prop} (hG : aGood G) (hT : aTxt G) (hX : aScr G L xs) (hN : aNc G) (h : LH F o n s) (r : RR t z o wx wm) (hi : i + 6 ≤ L) (hL : L ≤ 3072) (ih : IHs G i n s Q) : ∃ R, Q R ∧ AG G ML_law 2066 (lsL i) [] (F wx wm u) R := by
  obtain ⟨w', rm, F1, n1, s1, u1, k, e2, h1, ⟨b1, b2⟩, ha, ⟨z1, rr⟩, ek, ev⟩ := wr_spread (a1 := xs (i + 1)) (u := u) hG hN h r
  obtain ⟨R, hQ, K⟩ := ih F1 o t z1 w' rm.2 u1 n1 s1 h1 rr (by omega) (by omega)
  have hm := h1.2.1 w' u1
  have ho := h1.2.2.1 w' rm.2 u1
  refine ⟨R, hQ, ?_⟩
  refine g_aload_n dL_law_2066 rfl rfl ?_
  refine g_arg (i := i) (j := 1) hX (v := 1) dL_law_2067 dL_law_2068 dL_law_2070 dL_law_2071 dL_law_2072 rfl rfl rfl (by omega) hL ?_
  refine g_aload_n dL_law_2073 rfl rfl ?_
  refine g_callH (M' := ML_spread) (as := [.ref 40, .int (xs (i + 1)), .ref 132]) (v := some (.int k)) (aIn1 1256 (by decide +kernel) rfl) kH_spread (by decide) ha rfl (Nat.le_of_ble_eq_true rfl) dL_law_2074 ?_
  refine g_istore dL_law_2077 (by decide) rfl ?_
  refine g_aload_n dL_law_2079 rfl rfl ?_
  refine g_arg (i := i) (j := 1) hX (v := 1) dL_law_2080 dL_law_2081 dL_law_2083 dL_law_2084 dL_law_2085 rfl rfl rfl (by omega) hL ?_
  refine g_callV (M' := M_X10_spread) (as := [.int (xs (i + 1))]) (v := some (.int rm.1)) l_L_246 kV_X10_spread (by decide) (C_X10_spread hm e2) rfl (by decide) (hm.2.1 wm 0 _ rfl) ⟨_, _, rfl⟩ (Nat.le_of_ble_eq_true rfl) dL_law_2086 ?_
  refine g_istore dL_law_2089 (by decide) rfl ?_
  refine g_aload_n dL_law_2091 rfl rfl ?_
  refine g_callV (M' := M_X10_thrown) (as := []) (v := some (.int (rm.2.1 0))) l_L_149 kV_X10_thrown (by decide) (C_X10_thrown hm (thrown_s rm.2)) rfl (by decide) (hm.2.1 rm.2 0 _ rfl) ⟨_, _, rfl⟩ (Nat.le_of_ble_eq_true rfl) dL_law_2092 ?_
  refine g_iload dL_law_2095 rfl ?_
  refine g_icmp_eq (tgt := 2102) dL_law_2097 (by decide) (fun _ => ?_) (fun q => absurd ek q)
  refine g_iload dL_law_2102 rfl ?_
  have fin : AG G ML_law 2119 [some (.ref 0), some (.ref 40), some (.ref 100), some (.ref 132), some (.int (nI i)), some (.int k), some (.int rm.1)] [] (F1 w' rm.2 u1) R := by
    refine g_goto (tgt := 2947) dL_law_2119 (by decide) ?_
    refine g_none 5 ?_
    refine g_none 6 ?_
    exact K
  refine g_if_ne (tgt := 2119) dL_law_2104 (by decide) (fun _ => fin) (fun q => ?_)
  have hk0 : k = 0 := q
  refine g_aload_n dL_law_2107 rfl rfl ?_
  refine g_iconst (v := 0) dL_law_2108 (by decide) ?_
  refine g_lald dL_law_2109 (by decide) ho vp01 ?_
  refine g_iload dL_law_2110 rfl ?_
  refine g_i2l dL_law_2112 ?_
  refine g_lcmp dL_law_2113 ?_
  exact g_if_eq (tgt := 2119) dL_law_2114 (by decide) (fun _ => fin) (fun q => absurd (lg_0.2 (ev hk0)) q)
theorem lc_31 {G : aG} {F : aF} {o : wO} {n s i L : Nat} {wx wm : wS} {u : Nat → Int64} {t : Tn} {z : Sy} {xs : Nat → Int32} {Q : aR → Prop} (hG : aGood G) (hT : aTxt G) (hX : aScr G L xs) (hN : aNc G) (h : LH F o n s) (r : RR t z o wx wm) (hi : i + 6 ≤ L) (hL : L ≤ 3072) (ih : IHs G i n s Q) : ∃ R, Q R ∧ AG G ML_law 2122 (lsL i) [] (F wx wm u) R := by
  obtain ⟨w', rm, F1, n1, s1, u1, k, e2, h1, ⟨b1, b2⟩, ha, ⟨z1, rr⟩, ek, ev⟩ := wr_ahead (a1 := xs (i + 1)) (a2 := xs (i + 2)) (u := u) hG hN h r
  obtain ⟨R, hQ, K⟩ := ih F1 o t z1 w' rm.2 u1 n1 s1 h1 rr (by omega) (by omega)
  have hm := h1.2.1 w' u1
  have ho := h1.2.2.1 w' rm.2 u1
  refine ⟨R, hQ, ?_⟩
  refine g_aload_n dL_law_2122 rfl rfl ?_
  refine g_arg (i := i) (j := 1) hX (v := 1) dL_law_2123 dL_law_2124 dL_law_2126 dL_law_2127 dL_law_2128 rfl rfl rfl (by omega) hL ?_
  refine g_arg (i := i) (j := 2) hX (v := 2) dL_law_2129 dL_law_2130 dL_law_2132 dL_law_2133 dL_law_2134 rfl rfl rfl (by omega) hL ?_
  refine g_aload_n dL_law_2135 rfl rfl ?_
  refine g_callH (M' := ML_ahead) (as := [.ref 40, .int (xs (i + 1)), .int (xs (i + 2)), .ref 132]) (v := some (.int k)) (aIn1 1263 (by decide +kernel) rfl) kH_ahead (by decide) ha rfl (Nat.le_of_ble_eq_true rfl) dL_law_2136 ?_
  refine g_istore dL_law_2139 (by decide) rfl ?_
  refine g_aload_n dL_law_2141 rfl rfl ?_
  refine g_arg (i := i) (j := 1) hX (v := 1) dL_law_2142 dL_law_2143 dL_law_2145 dL_law_2146 dL_law_2147 rfl rfl rfl (by omega) hL ?_
  refine g_arg (i := i) (j := 2) hX (v := 2) dL_law_2148 dL_law_2149 dL_law_2151 dL_law_2152 dL_law_2153 rfl rfl rfl (by omega) hL ?_
  refine g_callV (M' := M_X10_ahead) (as := [.int (xs (i + 1)), .int (xs (i + 2))]) (v := some (.int rm.1)) l_L_249 kV_X10_ahead (by decide) (C_X10_ahead hm e2) rfl (by decide) (hm.2.1 wm 0 _ rfl) ⟨_, _, rfl⟩ (Nat.le_of_ble_eq_true rfl) dL_law_2154 ?_
  refine g_istore dL_law_2157 (by decide) rfl ?_
  refine g_aload_n dL_law_2159 rfl rfl ?_
  refine g_callV (M' := M_X10_thrown) (as := []) (v := some (.int (rm.2.1 0))) l_L_149 kV_X10_thrown (by decide) (C_X10_thrown hm (thrown_s rm.2)) rfl (by decide) (hm.2.1 rm.2 0 _ rfl) ⟨_, _, rfl⟩ (Nat.le_of_ble_eq_true rfl) dL_law_2160 ?_
  refine g_iload dL_law_2163 rfl ?_
  refine g_icmp_eq (tgt := 2170) dL_law_2165 (by decide) (fun _ => ?_) (fun q => absurd ek q)
  refine g_iload dL_law_2170 rfl ?_
  have fin : AG G ML_law 2187 [some (.ref 0), some (.ref 40), some (.ref 100), some (.ref 132), some (.int (nI i)), some (.int k), some (.int rm.1)] [] (F1 w' rm.2 u1) R := by
    refine g_goto (tgt := 2947) dL_law_2187 (by decide) ?_
    refine g_none 5 ?_
    refine g_none 6 ?_
    exact K
  refine g_if_ne (tgt := 2187) dL_law_2172 (by decide) (fun _ => fin) (fun q => ?_)
  have hk0 : k = 0 := q
  refine g_aload_n dL_law_2175 rfl rfl ?_
  refine g_iconst (v := 0) dL_law_2176 (by decide) ?_
  refine g_lald dL_law_2177 (by decide) ho vp01 ?_
  refine g_iload dL_law_2178 rfl ?_
  refine g_i2l dL_law_2180 ?_
  refine g_lcmp dL_law_2181 ?_
  exact g_if_eq (tgt := 2187) dL_law_2182 (by decide) (fun _ => fin) (fun q => absurd (lg_0.2 (ev hk0)) q)
theorem lc_32 {G : aG} {F : aF} {o : wO} {n s i L : Nat} {wx wm : wS} {u : Nat → Int64} {t : Tn} {z : Sy} {xs : Nat → Int32} {Q : aR → Prop} (hG : aGood G) (hT : aTxt G) (hX : aScr G L xs) (hN : aNc G) (h : LH F o n s) (r : RR t z o wx wm) (hi : i + 6 ≤ L) (hL : L ≤ 3072) (ih : IHs G i n s Q) : ∃ R, Q R ∧ AG G ML_law 2190 (lsL i) [] (F wx wm u) R := by
  obtain ⟨w', rm, F1, n1, s1, u1, k, e2, h1, ⟨b1, b2⟩, ha, ⟨z1, rr⟩, ek, ev⟩ := wr_nearest (a1 := xs (i + 1)) (u := u) hG hN h r
  obtain ⟨R, hQ, K⟩ := ih F1 o t z1 w' rm.2 u1 n1 s1 h1 rr (by omega) (by omega)
  have hm := h1.2.1 w' u1
  have ho := h1.2.2.1 w' rm.2 u1
  refine ⟨R, hQ, ?_⟩
  refine g_aload_n dL_law_2190 rfl rfl ?_
  refine g_arg (i := i) (j := 1) hX (v := 1) dL_law_2191 dL_law_2192 dL_law_2194 dL_law_2195 dL_law_2196 rfl rfl rfl (by omega) hL ?_
  refine g_aload_n dL_law_2197 rfl rfl ?_
  refine g_callH (M' := ML_nearest) (as := [.ref 40, .int (xs (i + 1)), .ref 132]) (v := some (.int k)) (aIn1 1270 (by decide +kernel) rfl) kH_nearest (by decide) ha rfl (Nat.le_of_ble_eq_true rfl) dL_law_2198 ?_
  refine g_istore dL_law_2201 (by decide) rfl ?_
  refine g_aload_n dL_law_2203 rfl rfl ?_
  refine g_arg (i := i) (j := 1) hX (v := 1) dL_law_2204 dL_law_2205 dL_law_2207 dL_law_2208 dL_law_2209 rfl rfl rfl (by omega) hL ?_
  refine g_callV (M' := M_X10_nearest) (as := [.int (xs (i + 1))]) (v := some (.int rm.1)) l_L_252 kV_X10_nearest (by decide) (C_X10_nearest hm e2) rfl (by decide) (hm.2.1 wm 0 _ rfl) ⟨_, _, rfl⟩ (Nat.le_of_ble_eq_true rfl) dL_law_2210 ?_
  refine g_istore dL_law_2213 (by decide) rfl ?_
  refine g_aload_n dL_law_2215 rfl rfl ?_
  refine g_callV (M' := M_X10_thrown) (as := []) (v := some (.int (rm.2.1 0))) l_L_149 kV_X10_thrown (by decide) (C_X10_thrown hm (thrown_s rm.2)) rfl (by decide) (hm.2.1 rm.2 0 _ rfl) ⟨_, _, rfl⟩ (Nat.le_of_ble_eq_true rfl) dL_law_2216 ?_
  refine g_iload dL_law_2219 rfl ?_
  refine g_icmp_eq (tgt := 2226) dL_law_2221 (by decide) (fun _ => ?_) (fun q => absurd ek q)
  refine g_iload dL_law_2226 rfl ?_
  have fin : AG G ML_law 2243 [some (.ref 0), some (.ref 40), some (.ref 100), some (.ref 132), some (.int (nI i)), some (.int k), some (.int rm.1)] [] (F1 w' rm.2 u1) R := by
    refine g_goto (tgt := 2947) dL_law_2243 (by decide) ?_
    refine g_none 5 ?_
    refine g_none 6 ?_
    exact K
  refine g_if_ne (tgt := 2243) dL_law_2228 (by decide) (fun _ => fin) (fun q => ?_)
  have hk0 : k = 0 := q
  refine g_aload_n dL_law_2231 rfl rfl ?_
  refine g_iconst (v := 0) dL_law_2232 (by decide) ?_
  refine g_lald dL_law_2233 (by decide) ho vp01 ?_
  refine g_iload dL_law_2234 rfl ?_
  refine g_i2l dL_law_2236 ?_
  refine g_lcmp dL_law_2237 ?_
  exact g_if_eq (tgt := 2243) dL_law_2238 (by decide) (fun _ => fin) (fun q => absurd (lg_0.2 (ev hk0)) q)
theorem lc_33 {G : aG} {F : aF} {o : wO} {n s i L : Nat} {wx wm : wS} {u : Nat → Int64} {t : Tn} {z : Sy} {xs : Nat → Int32} {Q : aR → Prop} (hG : aGood G) (hT : aTxt G) (hX : aScr G L xs) (hN : aNc G) (h : LH F o n s) (r : RR t z o wx wm) (hi : i + 6 ≤ L) (hL : L ≤ 3072) (ih : IHs G i n s Q) : ∃ R, Q R ∧ AG G ML_law 2246 (lsL i) [] (F wx wm u) R := by
  obtain ⟨w', rm, F1, n1, s1, u1, k, e2, h1, ⟨b1, b2⟩, ha, ⟨z1, rr⟩, ek, ev⟩ := wr_neighbours (a1 := xs (i + 1)) (a2 := xs (i + 2)) (u := u) hG hN h r
  obtain ⟨R, hQ, K⟩ := ih F1 o t z1 w' rm.2 u1 n1 s1 h1 rr (by omega) (by omega)
  have hm := h1.2.1 w' u1
  have ho := h1.2.2.1 w' rm.2 u1
  refine ⟨R, hQ, ?_⟩
  refine g_aload_n dL_law_2246 rfl rfl ?_
  refine g_arg (i := i) (j := 1) hX (v := 1) dL_law_2247 dL_law_2248 dL_law_2250 dL_law_2251 dL_law_2252 rfl rfl rfl (by omega) hL ?_
  refine g_arg (i := i) (j := 2) hX (v := 2) dL_law_2253 dL_law_2254 dL_law_2256 dL_law_2257 dL_law_2258 rfl rfl rfl (by omega) hL ?_
  refine g_aload_n dL_law_2259 rfl rfl ?_
  refine g_callH (M' := ML_neighbours) (as := [.ref 40, .int (xs (i + 1)), .int (xs (i + 2)), .ref 132]) (v := some (.int k)) (aIn1 1278 (by decide +kernel) rfl) kH_neighbours (by decide) ha rfl (Nat.le_of_ble_eq_true rfl) dL_law_2260 ?_
  refine g_istore dL_law_2263 (by decide) rfl ?_
  refine g_aload_n dL_law_2265 rfl rfl ?_
  refine g_arg (i := i) (j := 1) hX (v := 1) dL_law_2266 dL_law_2267 dL_law_2269 dL_law_2270 dL_law_2271 rfl rfl rfl (by omega) hL ?_
  refine g_arg (i := i) (j := 2) hX (v := 2) dL_law_2272 dL_law_2273 dL_law_2275 dL_law_2276 dL_law_2277 rfl rfl rfl (by omega) hL ?_
  refine g_callV (M' := M_X10_neighbours) (as := [.int (xs (i + 1)), .int (xs (i + 2))]) (v := some (.int rm.1)) l_L_255 kV_X10_neighbours (by decide) (C_X10_neighbours hm e2) rfl (by decide) (hm.2.1 wm 0 _ rfl) ⟨_, _, rfl⟩ (Nat.le_of_ble_eq_true rfl) dL_law_2278 ?_
  refine g_istore dL_law_2281 (by decide) rfl ?_
  refine g_aload_n dL_law_2283 rfl rfl ?_
  refine g_callV (M' := M_X10_thrown) (as := []) (v := some (.int (rm.2.1 0))) l_L_149 kV_X10_thrown (by decide) (C_X10_thrown hm (thrown_s rm.2)) rfl (by decide) (hm.2.1 rm.2 0 _ rfl) ⟨_, _, rfl⟩ (Nat.le_of_ble_eq_true rfl) dL_law_2284 ?_
  refine g_iload dL_law_2287 rfl ?_
  refine g_icmp_eq (tgt := 2294) dL_law_2289 (by decide) (fun _ => ?_) (fun q => absurd ek q)
  refine g_iload dL_law_2294 rfl ?_
  have fin : AG G ML_law 2311 [some (.ref 0), some (.ref 40), some (.ref 100), some (.ref 132), some (.int (nI i)), some (.int k), some (.int rm.1)] [] (F1 w' rm.2 u1) R := by
    refine g_goto (tgt := 2947) dL_law_2311 (by decide) ?_
    refine g_none 5 ?_
    refine g_none 6 ?_
    exact K
  refine g_if_ne (tgt := 2311) dL_law_2296 (by decide) (fun _ => fin) (fun q => ?_)
  have hk0 : k = 0 := q
  refine g_aload_n dL_law_2299 rfl rfl ?_
  refine g_iconst (v := 0) dL_law_2300 (by decide) ?_
  refine g_lald dL_law_2301 (by decide) ho vp01 ?_
  refine g_iload dL_law_2302 rfl ?_
  refine g_i2l dL_law_2304 ?_
  refine g_lcmp dL_law_2305 ?_
  exact g_if_eq (tgt := 2311) dL_law_2306 (by decide) (fun _ => fin) (fun q => absurd (lg_0.2 (ev hk0)) q)
theorem lc_34 {G : aG} {F : aF} {o : wO} {n s i L : Nat} {wx wm : wS} {u : Nat → Int64} {t : Tn} {z : Sy} {xs : Nat → Int32} {Q : aR → Prop} (hG : aGood G) (hT : aTxt G) (hX : aScr G L xs) (hN : aNc G) (h : LH F o n s) (r : RR t z o wx wm) (hi : i + 6 ≤ L) (hL : L ≤ 3072) (ih : IHs G i n s Q) : ∃ R, Q R ∧ AG G ML_law 2314 (lsL i) [] (F wx wm u) R := by
  obtain ⟨w', rm, F1, n1, s1, u1, k, e2, h1, ⟨b1, b2⟩, ha, ⟨z1, rr⟩, ek, ev⟩ := wr_toMend (a1 := xs (i + 1)) (a2 := xs (i + 2)) (u := u) hG hN h r
  obtain ⟨R, hQ, K⟩ := ih F1 o t z1 w' rm.2 u1 n1 s1 h1 rr (by omega) (by omega)
  have hm := h1.2.1 w' u1
  have ho := h1.2.2.1 w' rm.2 u1
  refine ⟨R, hQ, ?_⟩
  refine g_aload_n dL_law_2314 rfl rfl ?_
  refine g_arg (i := i) (j := 1) hX (v := 1) dL_law_2315 dL_law_2316 dL_law_2318 dL_law_2319 dL_law_2320 rfl rfl rfl (by omega) hL ?_
  refine g_arg (i := i) (j := 2) hX (v := 2) dL_law_2321 dL_law_2322 dL_law_2324 dL_law_2325 dL_law_2326 rfl rfl rfl (by omega) hL ?_
  refine g_aload_n dL_law_2327 rfl rfl ?_
  refine g_callH (M' := ML_toMend) (as := [.ref 40, .int (xs (i + 1)), .int (xs (i + 2)), .ref 132]) (v := some (.int k)) (aIn1 1286 (by decide +kernel) rfl) kH_toMend (by decide) ha rfl (Nat.le_of_ble_eq_true rfl) dL_law_2328 ?_
  refine g_istore dL_law_2331 (by decide) rfl ?_
  refine g_aload_n dL_law_2333 rfl rfl ?_
  refine g_arg (i := i) (j := 1) hX (v := 1) dL_law_2334 dL_law_2335 dL_law_2337 dL_law_2338 dL_law_2339 rfl rfl rfl (by omega) hL ?_
  refine g_arg (i := i) (j := 2) hX (v := 2) dL_law_2340 dL_law_2341 dL_law_2343 dL_law_2344 dL_law_2345 rfl rfl rfl (by omega) hL ?_
  refine g_callV (M' := M_X10_toMend) (as := [.int (xs (i + 1)), .int (xs (i + 2))]) (v := some (.int rm.1)) l_L_258 kV_X10_toMend (by decide) (C_X10_toMend hm e2) rfl (by decide) (hm.2.1 wm 0 _ rfl) ⟨_, _, rfl⟩ (Nat.le_of_ble_eq_true rfl) dL_law_2346 ?_
  refine g_istore dL_law_2349 (by decide) rfl ?_
  refine g_aload_n dL_law_2351 rfl rfl ?_
  refine g_callV (M' := M_X10_thrown) (as := []) (v := some (.int (rm.2.1 0))) l_L_149 kV_X10_thrown (by decide) (C_X10_thrown hm (thrown_s rm.2)) rfl (by decide) (hm.2.1 rm.2 0 _ rfl) ⟨_, _, rfl⟩ (Nat.le_of_ble_eq_true rfl) dL_law_2352 ?_
  refine g_iload dL_law_2355 rfl ?_
  refine g_icmp_eq (tgt := 2362) dL_law_2357 (by decide) (fun _ => ?_) (fun q => absurd ek q)
  refine g_iload dL_law_2362 rfl ?_
  have fin : AG G ML_law 2379 [some (.ref 0), some (.ref 40), some (.ref 100), some (.ref 132), some (.int (nI i)), some (.int k), some (.int rm.1)] [] (F1 w' rm.2 u1) R := by
    refine g_goto (tgt := 2947) dL_law_2379 (by decide) ?_
    refine g_none 5 ?_
    refine g_none 6 ?_
    exact K
  refine g_if_ne (tgt := 2379) dL_law_2364 (by decide) (fun _ => fin) (fun q => ?_)
  have hk0 : k = 0 := q
  refine g_aload_n dL_law_2367 rfl rfl ?_
  refine g_iconst (v := 0) dL_law_2368 (by decide) ?_
  refine g_lald dL_law_2369 (by decide) ho vp01 ?_
  refine g_iload dL_law_2370 rfl ?_
  refine g_i2l dL_law_2372 ?_
  refine g_lcmp dL_law_2373 ?_
  exact g_if_eq (tgt := 2379) dL_law_2374 (by decide) (fun _ => fin) (fun q => absurd (lg_0.2 (ev hk0)) q)
theorem lc_35 {G : aG} {F : aF} {o : wO} {n s i L : Nat} {wx wm : wS} {u : Nat → Int64} {t : Tn} {z : Sy} {xs : Nat → Int32} {Q : aR → Prop} (hG : aGood G) (hT : aTxt G) (hX : aScr G L xs) (hN : aNc G) (h : LH F o n s) (r : RR t z o wx wm) (hi : i + 6 ≤ L) (hL : L ≤ 3072) (ih : IHs G i n s Q) : ∃ R, Q R ∧ AG G ML_law 2382 (lsL i) [] (F wx wm u) R := by
  obtain ⟨w', rm, F1, n1, s1, u1, k, e2, h1, ⟨b1, b2⟩, ha, ⟨z1, rr⟩, ek, ev⟩ := wr_silent (a1 := xs (i + 1)) (u := u) hG hN h r
  obtain ⟨R, hQ, K⟩ := ih F1 o t z1 w' rm.2 u1 n1 s1 h1 rr (by omega) (by omega)
  have hm := h1.2.1 w' u1
  have ho := h1.2.2.1 w' rm.2 u1
  refine ⟨R, hQ, ?_⟩
  refine g_aload_n dL_law_2382 rfl rfl ?_
  refine g_arg (i := i) (j := 1) hX (v := 1) dL_law_2383 dL_law_2384 dL_law_2386 dL_law_2387 dL_law_2388 rfl rfl rfl (by omega) hL ?_
  refine g_aload_n dL_law_2389 rfl rfl ?_
  refine g_callH (M' := ML_silent) (as := [.ref 40, .int (xs (i + 1)), .ref 132]) (v := some (.int k)) (aIn1 1297 (by decide +kernel) rfl) kH_silent (by decide) ha rfl (Nat.le_of_ble_eq_true rfl) dL_law_2390 ?_
  refine g_istore dL_law_2393 (by decide) rfl ?_
  refine g_aload_n dL_law_2395 rfl rfl ?_
  refine g_arg (i := i) (j := 1) hX (v := 1) dL_law_2396 dL_law_2397 dL_law_2399 dL_law_2400 dL_law_2401 rfl rfl rfl (by omega) hL ?_
  refine g_callV (M' := M_X10_silent) (as := [.int (xs (i + 1))]) (v := some (.int rm.1)) l_L_261 kV_X10_silent (by decide) (C_X10_silent hm e2) rfl (by decide) (hm.2.1 wm 0 _ rfl) ⟨_, _, rfl⟩ (Nat.le_of_ble_eq_true rfl) dL_law_2402 ?_
  refine g_istore dL_law_2405 (by decide) rfl ?_
  refine g_aload_n dL_law_2407 rfl rfl ?_
  refine g_callV (M' := M_X10_thrown) (as := []) (v := some (.int (rm.2.1 0))) l_L_149 kV_X10_thrown (by decide) (C_X10_thrown hm (thrown_s rm.2)) rfl (by decide) (hm.2.1 rm.2 0 _ rfl) ⟨_, _, rfl⟩ (Nat.le_of_ble_eq_true rfl) dL_law_2408 ?_
  refine g_iload dL_law_2411 rfl ?_
  refine g_icmp_eq (tgt := 2418) dL_law_2413 (by decide) (fun _ => ?_) (fun q => absurd ek q)
  refine g_iload dL_law_2418 rfl ?_
  have fin : AG G ML_law 2435 [some (.ref 0), some (.ref 40), some (.ref 100), some (.ref 132), some (.int (nI i)), some (.int k), some (.int rm.1)] [] (F1 w' rm.2 u1) R := by
    refine g_goto (tgt := 2947) dL_law_2435 (by decide) ?_
    refine g_none 5 ?_
    refine g_none 6 ?_
    exact K
  refine g_if_ne (tgt := 2435) dL_law_2420 (by decide) (fun _ => fin) (fun q => ?_)
  have hk0 : k = 0 := q
  refine g_aload_n dL_law_2423 rfl rfl ?_
  refine g_iconst (v := 0) dL_law_2424 (by decide) ?_
  refine g_lald dL_law_2425 (by decide) ho vp01 ?_
  refine g_iload dL_law_2426 rfl ?_
  refine g_i2l dL_law_2428 ?_
  refine g_lcmp dL_law_2429 ?_
  exact g_if_eq (tgt := 2435) dL_law_2430 (by decide) (fun _ => fin) (fun q => absurd (lg_0.2 (ev hk0)) q)
end
