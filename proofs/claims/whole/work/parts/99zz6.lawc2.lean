section LAWC
variable {K : zKC} {CE SL ce sl : Nat} {μ ν : Nat → Nat} {q b N t : Nat} {xs : Nat → Int32} {SC SM : zM} {o : Int64} {a5 a6 : Option Value}
set_option maxRecDepth 100000 in
set_option maxHeartbeats 4000000 in
theorem law_c28 (C : zCL K cL_law RL 7 14 532 CE SL) (hz : LZ K μ) (hz2 : LZ K ν) (hX : LX K b N xs) (hN : 8 * t + 8 ≤ N) (hN2 : N ≤ 4096) (hcs : ce ≤ CE ∧ sl ≤ SL) (h : Inv SC SM t) (kk : ∀ (SC1 SM1 : zM) (o1 : Int64) (a5 a6 : Option Value), Inv SC1 SM1 (t + 1) → VC K 2295 [some (.ref b), some (.ref (μ 0)), some (.ref (ν 0)), some (.ref q), some (.int (J ((8 * t : Nat) : Int))), a5, a6] [] (lws μ ν K.2.1.2.2 q SC1 SM1 o1) ce sl) : VC K 1665 [some (.ref b), some (.ref (μ 0)), some (.ref (ν 0)), some (.ref q), some (.int (J ((8 * t : Nat) : Int))), a5, a6] [] (lws μ ν K.2.1.2.2 q SC SM o) ce sl := by
  have ht : t < 512 := by omega
  refine VL_aload_n (pc := 1665) C dL_law_1665 rfl rfl ?_
  refine VL_scr (pc := 1666) (j := 1) C hX hN hN2 (by decide) rfl rfl dL_law_1666 dL_law_1667 dL_law_1669 dL_law_1670 dL_law_1671 ?_
  refine VL_scr (pc := 1672) (j := 2) C hX hN hN2 (by decide) rfl rfl dL_law_1672 dL_law_1673 dL_law_1675 dL_law_1676 dL_law_1677 ?_
  refine VL_scr (pc := 1678) (j := 3) C hX hN hN2 (by decide) rfl rfl dL_law_1678 dL_law_1679 dL_law_1681 dL_law_1682 dL_law_1683 ?_
  obtain ⟨r, SC1, SM1, e1, e2, hI⟩ := st_best h ht (xs (8 * t + 1)) (xs (8 * t + 2)) (xs (8 * t + 3))
  refine VL_callX (T := TX11) (N := 15) (ro := some (.int r)) (As := [.int (xs (8 * t + 1)), .int (xs (8 * t + 2)), .int (xs (8 * t + 3))]) (pc := 1684) C (mX11_best _ e1) hz zm_X11_best zi_X11_best ml_RL_142 rfl ⟨Nat.le_of_ble_eq_true rfl, Nat.le_of_ble_eq_true rfl⟩ rfl rfl rfl rfl (Nat.le_of_ble_eq_true rfl) dL_law_1684 hcs ?_
  show VC K 1687 [some (.ref b), some (.ref (μ 0)), some (.ref (ν 0)), some (.ref q), some (.int (J ((8 * t : Nat) : Int))), a5, a6] [.int r] (lws μ ν K.2.1.2.2 q SC1 SM o) ce sl
  refine VL_aload_n (pc := 1687) C dL_law_1687 rfl rfl ?_
  refine VL_scr (pc := 1688) (j := 1) C hX hN hN2 (by decide) rfl rfl dL_law_1688 dL_law_1689 dL_law_1691 dL_law_1692 dL_law_1693 ?_
  refine VL_scr (pc := 1694) (j := 2) C hX hN hN2 (by decide) rfl rfl dL_law_1694 dL_law_1695 dL_law_1697 dL_law_1698 dL_law_1699 ?_
  refine VL_scr (pc := 1700) (j := 3) C hX hN hN2 (by decide) rfl rfl dL_law_1700 dL_law_1701 dL_law_1703 dL_law_1704 dL_law_1705 ?_
  refine VL_callM (T := TX12) (N := 45) (ro := some (.int r)) (As := [.int (xs (8 * t + 1)), .int (xs (8 * t + 2)), .int (xs (8 * t + 3))]) (pc := 1706) C (mX12_best _ e2) hz2 zm_X12_best zi_X12_best ml_RL_145 rfl ⟨Nat.le_of_ble_eq_true rfl, Nat.le_of_ble_eq_true rfl⟩ rfl rfl rfl rfl (Nat.le_of_ble_eq_true rfl) dL_law_1706 hcs ?_
  refine VL_icmp_eq (tgt := 2295) (pc := 1709) C dL_law_1709 (by decide) (fun _ => ?_) (fun hc => absurd rfl hc)
  exact kk _ _ _ _ _ hI
set_option maxRecDepth 100000 in
set_option maxHeartbeats 4000000 in
theorem law_c29 (C : zCL K cL_law RL 7 14 532 CE SL) (hz : LZ K μ) (hz2 : LZ K ν) (hX : LX K b N xs) (hN : 8 * t + 8 ≤ N) (hN2 : N ≤ 4096) (hcs : ce ≤ CE ∧ sl ≤ SL) (h : Inv SC SM t) (kk : ∀ (SC1 SM1 : zM) (o1 : Int64) (a5 a6 : Option Value), Inv SC1 SM1 (t + 1) → VC K 2295 [some (.ref b), some (.ref (μ 0)), some (.ref (ν 0)), some (.ref q), some (.int (J ((8 * t : Nat) : Int))), a5, a6] [] (lws μ ν K.2.1.2.2 q SC1 SM1 o1) ce sl) : VC K 1714 [some (.ref b), some (.ref (μ 0)), some (.ref (ν 0)), some (.ref q), some (.int (J ((8 * t : Nat) : Int))), a5, a6] [] (lws μ ν K.2.1.2.2 q SC SM o) ce sl := by
  have ht : t < 512 := by omega
  refine VL_aload_n (pc := 1714) C dL_law_1714 rfl rfl ?_
  refine VL_scr (pc := 1715) (j := 1) C hX hN hN2 (by decide) rfl rfl dL_law_1715 dL_law_1716 dL_law_1718 dL_law_1719 dL_law_1720 ?_
  refine VL_scr (pc := 1721) (j := 2) C hX hN hN2 (by decide) rfl rfl dL_law_1721 dL_law_1722 dL_law_1724 dL_law_1725 dL_law_1726 ?_
  refine VL_scr (pc := 1727) (j := 3) C hX hN hN2 (by decide) rfl rfl dL_law_1727 dL_law_1728 dL_law_1730 dL_law_1731 dL_law_1732 ?_
  obtain ⟨r, SC1, SM1, e1, e2, hI⟩ := st_moves h ht (xs (8 * t + 1)) (xs (8 * t + 2)) (xs (8 * t + 3))
  refine VL_callX (T := TX11) (N := 15) (ro := some (.int r)) (As := [.int (xs (8 * t + 1)), .int (xs (8 * t + 2)), .int (xs (8 * t + 3))]) (pc := 1733) C (mX11_moves _ e1) hz zm_X11_moves zi_X11_moves ml_RL_146 rfl ⟨Nat.le_of_ble_eq_true rfl, Nat.le_of_ble_eq_true rfl⟩ rfl rfl rfl rfl (Nat.le_of_ble_eq_true rfl) dL_law_1733 hcs ?_
  show VC K 1736 [some (.ref b), some (.ref (μ 0)), some (.ref (ν 0)), some (.ref q), some (.int (J ((8 * t : Nat) : Int))), a5, a6] [.int r] (lws μ ν K.2.1.2.2 q SC1 SM o) ce sl
  refine VL_aload_n (pc := 1736) C dL_law_1736 rfl rfl ?_
  refine VL_scr (pc := 1737) (j := 1) C hX hN hN2 (by decide) rfl rfl dL_law_1737 dL_law_1738 dL_law_1740 dL_law_1741 dL_law_1742 ?_
  refine VL_scr (pc := 1743) (j := 2) C hX hN hN2 (by decide) rfl rfl dL_law_1743 dL_law_1744 dL_law_1746 dL_law_1747 dL_law_1748 ?_
  refine VL_scr (pc := 1749) (j := 3) C hX hN hN2 (by decide) rfl rfl dL_law_1749 dL_law_1750 dL_law_1752 dL_law_1753 dL_law_1754 ?_
  refine VL_callM (T := TX12) (N := 45) (ro := some (.int r)) (As := [.int (xs (8 * t + 1)), .int (xs (8 * t + 2)), .int (xs (8 * t + 3))]) (pc := 1755) C (mX12_moves _ e2) hz2 zm_X12_moves zi_X12_moves ml_RL_149 rfl ⟨Nat.le_of_ble_eq_true rfl, Nat.le_of_ble_eq_true rfl⟩ rfl rfl rfl rfl (Nat.le_of_ble_eq_true rfl) dL_law_1755 hcs ?_
  refine VL_icmp_eq (tgt := 2295) (pc := 1758) C dL_law_1758 (by decide) (fun _ => ?_) (fun hc => absurd rfl hc)
  exact kk _ _ _ _ _ hI
set_option maxRecDepth 100000 in
set_option maxHeartbeats 4000000 in
theorem law_c30 (C : zCL K cL_law RL 7 14 532 CE SL) (hz : LZ K μ) (hz2 : LZ K ν) (hX : LX K b N xs) (hN : 8 * t + 8 ≤ N) (hN2 : N ≤ 4096) (hcs : ce ≤ CE ∧ sl ≤ SL) (h : Inv SC SM t) (kk : ∀ (SC1 SM1 : zM) (o1 : Int64) (a5 a6 : Option Value), Inv SC1 SM1 (t + 1) → VC K 2295 [some (.ref b), some (.ref (μ 0)), some (.ref (ν 0)), some (.ref q), some (.int (J ((8 * t : Nat) : Int))), a5, a6] [] (lws μ ν K.2.1.2.2 q SC1 SM1 o1) ce sl) : VC K 1763 [some (.ref b), some (.ref (μ 0)), some (.ref (ν 0)), some (.ref q), some (.int (J ((8 * t : Nat) : Int))), a5, a6] [] (lws μ ν K.2.1.2.2 q SC SM o) ce sl := by
  have ht : t < 512 := by omega
  refine VL_aload_n (pc := 1763) C dL_law_1763 rfl rfl ?_
  refine VL_scr (pc := 1764) (j := 1) C hX hN hN2 (by decide) rfl rfl dL_law_1764 dL_law_1765 dL_law_1767 dL_law_1768 dL_law_1769 ?_
  refine VL_scr (pc := 1770) (j := 2) C hX hN hN2 (by decide) rfl rfl dL_law_1770 dL_law_1771 dL_law_1773 dL_law_1774 dL_law_1775 ?_
  refine VL_scr (pc := 1776) (j := 3) C hX hN hN2 (by decide) rfl rfl dL_law_1776 dL_law_1777 dL_law_1779 dL_law_1780 dL_law_1781 ?_
  refine VL_scr (pc := 1782) (j := 4) C hX hN hN2 (by decide) rfl rfl dL_law_1782 dL_law_1783 dL_law_1785 dL_law_1786 dL_law_1787 ?_
  refine VL_scr (pc := 1788) (j := 5) C hX hN hN2 (by decide) rfl rfl dL_law_1788 dL_law_1789 dL_law_1791 dL_law_1792 dL_law_1793 ?_
  obtain ⟨r, SC1, SM1, e1, e2, hI⟩ := st_parted h (xs (8 * t + 1)) (xs (8 * t + 2)) (xs (8 * t + 3)) (xs (8 * t + 4)) (xs (8 * t + 5))
  refine VL_callX (T := TX11) (N := 15) (ro := some (.int r)) (As := [.int (xs (8 * t + 1)), .int (xs (8 * t + 2)), .int (xs (8 * t + 3)), .int (xs (8 * t + 4)), .int (xs (8 * t + 5))]) (pc := 1794) C (mX11_parted _ e1) hz zm_X11_parted zi_X11_parted ml_RL_150 rfl ⟨Nat.le_of_ble_eq_true rfl, Nat.le_of_ble_eq_true rfl⟩ rfl rfl rfl rfl (Nat.le_of_ble_eq_true rfl) dL_law_1794 hcs ?_
  show VC K 1797 [some (.ref b), some (.ref (μ 0)), some (.ref (ν 0)), some (.ref q), some (.int (J ((8 * t : Nat) : Int))), a5, a6] [.int r] (lws μ ν K.2.1.2.2 q SC1 SM o) ce sl
  refine VL_aload_n (pc := 1797) C dL_law_1797 rfl rfl ?_
  refine VL_scr (pc := 1798) (j := 1) C hX hN hN2 (by decide) rfl rfl dL_law_1798 dL_law_1799 dL_law_1801 dL_law_1802 dL_law_1803 ?_
  refine VL_scr (pc := 1804) (j := 2) C hX hN hN2 (by decide) rfl rfl dL_law_1804 dL_law_1805 dL_law_1807 dL_law_1808 dL_law_1809 ?_
  refine VL_scr (pc := 1810) (j := 3) C hX hN hN2 (by decide) rfl rfl dL_law_1810 dL_law_1811 dL_law_1813 dL_law_1814 dL_law_1815 ?_
  refine VL_scr (pc := 1816) (j := 4) C hX hN hN2 (by decide) rfl rfl dL_law_1816 dL_law_1817 dL_law_1819 dL_law_1820 dL_law_1821 ?_
  refine VL_scr (pc := 1822) (j := 5) C hX hN hN2 (by decide) rfl rfl dL_law_1822 dL_law_1823 dL_law_1825 dL_law_1826 dL_law_1827 ?_
  refine VL_callM (T := TX12) (N := 45) (ro := some (.int r)) (As := [.int (xs (8 * t + 1)), .int (xs (8 * t + 2)), .int (xs (8 * t + 3)), .int (xs (8 * t + 4)), .int (xs (8 * t + 5))]) (pc := 1828) C (mX12_parted _ e2) hz2 zm_X12_parted zi_X12_parted ml_RL_153 rfl ⟨Nat.le_of_ble_eq_true rfl, Nat.le_of_ble_eq_true rfl⟩ rfl rfl rfl rfl (Nat.le_of_ble_eq_true rfl) dL_law_1828 hcs ?_
  refine VL_icmp_eq (tgt := 2295) (pc := 1831) C dL_law_1831 (by decide) (fun _ => ?_) (fun hc => absurd rfl hc)
  exact kk _ _ _ _ _ hI
set_option maxRecDepth 100000 in
set_option maxHeartbeats 4000000 in
theorem law_c31 (C : zCL K cL_law RL 7 14 532 CE SL) (hz : LZ K μ) (hz2 : LZ K ν) (hX : LX K b N xs) (hN : 8 * t + 8 ≤ N) (hN2 : N ≤ 4096) (hcs : ce ≤ CE ∧ sl ≤ SL) (h : Inv SC SM t) (kk : ∀ (SC1 SM1 : zM) (o1 : Int64) (a5 a6 : Option Value), Inv SC1 SM1 (t + 1) → VC K 2295 [some (.ref b), some (.ref (μ 0)), some (.ref (ν 0)), some (.ref q), some (.int (J ((8 * t : Nat) : Int))), a5, a6] [] (lws μ ν K.2.1.2.2 q SC1 SM1 o1) ce sl) : VC K 1836 [some (.ref b), some (.ref (μ 0)), some (.ref (ν 0)), some (.ref q), some (.int (J ((8 * t : Nat) : Int))), a5, a6] [] (lws μ ν K.2.1.2.2 q SC SM o) ce sl := by
  have ht : t < 512 := by omega
  refine VL_aload_n (pc := 1836) C dL_law_1836 rfl rfl ?_
  refine VL_scr (pc := 1837) (j := 1) C hX hN hN2 (by decide) rfl rfl dL_law_1837 dL_law_1838 dL_law_1840 dL_law_1841 dL_law_1842 ?_
  refine VL_scr (pc := 1843) (j := 2) C hX hN hN2 (by decide) rfl rfl dL_law_1843 dL_law_1844 dL_law_1846 dL_law_1847 dL_law_1848 ?_
  refine VL_scr (pc := 1849) (j := 3) C hX hN hN2 (by decide) rfl rfl dL_law_1849 dL_law_1850 dL_law_1852 dL_law_1853 dL_law_1854 ?_
  refine VL_scr (pc := 1855) (j := 4) C hX hN hN2 (by decide) rfl rfl dL_law_1855 dL_law_1856 dL_law_1858 dL_law_1859 dL_law_1860 ?_
  obtain ⟨r, SC1, SM1, e1, e2, hI⟩ := st_fewest h (xs (8 * t + 1)) (xs (8 * t + 2)) (xs (8 * t + 3)) (xs (8 * t + 4))
  refine VL_callX (T := TX11) (N := 15) (ro := some (.int r)) (As := [.int (xs (8 * t + 1)), .int (xs (8 * t + 2)), .int (xs (8 * t + 3)), .int (xs (8 * t + 4))]) (pc := 1861) C (mX11_fewest _ e1) hz zm_X11_fewest zi_X11_fewest ml_RL_154 rfl ⟨Nat.le_of_ble_eq_true rfl, Nat.le_of_ble_eq_true rfl⟩ rfl rfl rfl rfl (Nat.le_of_ble_eq_true rfl) dL_law_1861 hcs ?_
  show VC K 1864 [some (.ref b), some (.ref (μ 0)), some (.ref (ν 0)), some (.ref q), some (.int (J ((8 * t : Nat) : Int))), a5, a6] [.int r] (lws μ ν K.2.1.2.2 q SC1 SM o) ce sl
  refine VL_aload_n (pc := 1864) C dL_law_1864 rfl rfl ?_
  refine VL_scr (pc := 1865) (j := 1) C hX hN hN2 (by decide) rfl rfl dL_law_1865 dL_law_1866 dL_law_1868 dL_law_1869 dL_law_1870 ?_
  refine VL_scr (pc := 1871) (j := 2) C hX hN hN2 (by decide) rfl rfl dL_law_1871 dL_law_1872 dL_law_1874 dL_law_1875 dL_law_1876 ?_
  refine VL_scr (pc := 1877) (j := 3) C hX hN hN2 (by decide) rfl rfl dL_law_1877 dL_law_1878 dL_law_1880 dL_law_1881 dL_law_1882 ?_
  refine VL_scr (pc := 1883) (j := 4) C hX hN hN2 (by decide) rfl rfl dL_law_1883 dL_law_1884 dL_law_1886 dL_law_1887 dL_law_1888 ?_
  refine VL_callM (T := TX12) (N := 45) (ro := some (.int r)) (As := [.int (xs (8 * t + 1)), .int (xs (8 * t + 2)), .int (xs (8 * t + 3)), .int (xs (8 * t + 4))]) (pc := 1889) C (mX12_fewest _ e2) hz2 zm_X12_fewest zi_X12_fewest ml_RL_157 rfl ⟨Nat.le_of_ble_eq_true rfl, Nat.le_of_ble_eq_true rfl⟩ rfl rfl rfl rfl (Nat.le_of_ble_eq_true rfl) dL_law_1889 hcs ?_
  refine VL_icmp_eq (tgt := 2295) (pc := 1892) C dL_law_1892 (by decide) (fun _ => ?_) (fun hc => absurd rfl hc)
  exact kk _ _ _ _ _ hI
set_option maxRecDepth 100000 in
set_option maxHeartbeats 4000000 in
theorem law_c32 (C : zCL K cL_law RL 7 14 532 CE SL) (hz : LZ K μ) (hz2 : LZ K ν) (hX : LX K b N xs) (hN : 8 * t + 8 ≤ N) (hN2 : N ≤ 4096) (hcs : ce ≤ CE ∧ sl ≤ SL) (h : Inv SC SM t) (kk : ∀ (SC1 SM1 : zM) (o1 : Int64) (a5 a6 : Option Value), Inv SC1 SM1 (t + 1) → VC K 2295 [some (.ref b), some (.ref (μ 0)), some (.ref (ν 0)), some (.ref q), some (.int (J ((8 * t : Nat) : Int))), a5, a6] [] (lws μ ν K.2.1.2.2 q SC1 SM1 o1) ce sl) : VC K 1897 [some (.ref b), some (.ref (μ 0)), some (.ref (ν 0)), some (.ref q), some (.int (J ((8 * t : Nat) : Int))), a5, a6] [] (lws μ ν K.2.1.2.2 q SC SM o) ce sl := by
  have ht : t < 512 := by omega
  refine VL_aload_n (pc := 1897) C dL_law_1897 rfl rfl ?_
  refine VL_scr (pc := 1898) (j := 1) C hX hN hN2 (by decide) rfl rfl dL_law_1898 dL_law_1899 dL_law_1901 dL_law_1902 dL_law_1903 ?_
  refine VL_scr (pc := 1904) (j := 2) C hX hN hN2 (by decide) rfl rfl dL_law_1904 dL_law_1905 dL_law_1907 dL_law_1908 dL_law_1909 ?_
  refine VL_scr (pc := 1910) (j := 3) C hX hN hN2 (by decide) rfl rfl dL_law_1910 dL_law_1911 dL_law_1913 dL_law_1914 dL_law_1915 ?_
  obtain ⟨r, SC1, SM1, e1, e2, hI⟩ := st_match h (xs (8 * t + 1)) (xs (8 * t + 2)) (xs (8 * t + 3))
  refine VL_callX (T := TX11) (N := 15) (ro := some (.int r)) (As := [.int (xs (8 * t + 1)), .int (xs (8 * t + 2)), .int (xs (8 * t + 3))]) (pc := 1916) C (mX11_match _ e1) hz zm_X11_match zi_X11_match ml_RL_158 rfl ⟨Nat.le_of_ble_eq_true rfl, Nat.le_of_ble_eq_true rfl⟩ rfl rfl rfl rfl (Nat.le_of_ble_eq_true rfl) dL_law_1916 hcs ?_
  show VC K 1919 [some (.ref b), some (.ref (μ 0)), some (.ref (ν 0)), some (.ref q), some (.int (J ((8 * t : Nat) : Int))), a5, a6] [.int r] (lws μ ν K.2.1.2.2 q SC1 SM o) ce sl
  refine VL_aload_n (pc := 1919) C dL_law_1919 rfl rfl ?_
  refine VL_scr (pc := 1920) (j := 1) C hX hN hN2 (by decide) rfl rfl dL_law_1920 dL_law_1921 dL_law_1923 dL_law_1924 dL_law_1925 ?_
  refine VL_scr (pc := 1926) (j := 2) C hX hN hN2 (by decide) rfl rfl dL_law_1926 dL_law_1927 dL_law_1929 dL_law_1930 dL_law_1931 ?_
  refine VL_scr (pc := 1932) (j := 3) C hX hN hN2 (by decide) rfl rfl dL_law_1932 dL_law_1933 dL_law_1935 dL_law_1936 dL_law_1937 ?_
  refine VL_callM (T := TX12) (N := 45) (ro := some (.int r)) (As := [.int (xs (8 * t + 1)), .int (xs (8 * t + 2)), .int (xs (8 * t + 3))]) (pc := 1938) C (mX12_match _ e2) hz2 zm_X12_match zi_X12_match ml_RL_161 rfl ⟨Nat.le_of_ble_eq_true rfl, Nat.le_of_ble_eq_true rfl⟩ rfl rfl rfl rfl (Nat.le_of_ble_eq_true rfl) dL_law_1938 hcs ?_
  refine VL_icmp_eq (tgt := 2295) (pc := 1941) C dL_law_1941 (by decide) (fun _ => ?_) (fun hc => absurd rfl hc)
  exact kk _ _ _ _ _ hI
set_option maxRecDepth 100000 in
set_option maxHeartbeats 4000000 in
theorem law_c33 (C : zCL K cL_law RL 7 14 532 CE SL) (hz : LZ K μ) (hz2 : LZ K ν) (hX : LX K b N xs) (hN : 8 * t + 8 ≤ N) (hN2 : N ≤ 4096) (hcs : ce ≤ CE ∧ sl ≤ SL) (h : Inv SC SM t) (kk : ∀ (SC1 SM1 : zM) (o1 : Int64) (a5 a6 : Option Value), Inv SC1 SM1 (t + 1) → VC K 2295 [some (.ref b), some (.ref (μ 0)), some (.ref (ν 0)), some (.ref q), some (.int (J ((8 * t : Nat) : Int))), a5, a6] [] (lws μ ν K.2.1.2.2 q SC1 SM1 o1) ce sl) : VC K 1946 [some (.ref b), some (.ref (μ 0)), some (.ref (ν 0)), some (.ref q), some (.int (J ((8 * t : Nat) : Int))), a5, a6] [] (lws μ ν K.2.1.2.2 q SC SM o) ce sl := by
  have ht : t < 512 := by omega
  refine VL_aload_n (pc := 1946) C dL_law_1946 rfl rfl ?_
  refine VL_scr (pc := 1947) (j := 1) C hX hN hN2 (by decide) rfl rfl dL_law_1947 dL_law_1948 dL_law_1950 dL_law_1951 dL_law_1952 ?_
  refine VL_scr (pc := 1953) (j := 2) C hX hN hN2 (by decide) rfl rfl dL_law_1953 dL_law_1954 dL_law_1956 dL_law_1957 dL_law_1958 ?_
  refine VL_scr (pc := 1959) (j := 3) C hX hN hN2 (by decide) rfl rfl dL_law_1959 dL_law_1960 dL_law_1962 dL_law_1963 dL_law_1964 ?_
  refine VL_scr (pc := 1965) (j := 4) C hX hN hN2 (by decide) rfl rfl dL_law_1965 dL_law_1966 dL_law_1968 dL_law_1969 dL_law_1970 ?_
  obtain ⟨r, SC1, SM1, e1, e2, hI⟩ := st_closes h (xs (8 * t + 1)) (xs (8 * t + 2)) (xs (8 * t + 3)) (xs (8 * t + 4))
  refine VL_callX (T := TX11) (N := 15) (ro := some (.int r)) (As := [.int (xs (8 * t + 1)), .int (xs (8 * t + 2)), .int (xs (8 * t + 3)), .int (xs (8 * t + 4))]) (pc := 1971) C (mX11_closes _ e1) hz zm_X11_closes zi_X11_closes ml_RL_162 rfl ⟨Nat.le_of_ble_eq_true rfl, Nat.le_of_ble_eq_true rfl⟩ rfl rfl rfl rfl (Nat.le_of_ble_eq_true rfl) dL_law_1971 hcs ?_
  show VC K 1974 [some (.ref b), some (.ref (μ 0)), some (.ref (ν 0)), some (.ref q), some (.int (J ((8 * t : Nat) : Int))), a5, a6] [.int r] (lws μ ν K.2.1.2.2 q SC1 SM o) ce sl
  refine VL_aload_n (pc := 1974) C dL_law_1974 rfl rfl ?_
  refine VL_scr (pc := 1975) (j := 1) C hX hN hN2 (by decide) rfl rfl dL_law_1975 dL_law_1976 dL_law_1978 dL_law_1979 dL_law_1980 ?_
  refine VL_scr (pc := 1981) (j := 2) C hX hN hN2 (by decide) rfl rfl dL_law_1981 dL_law_1982 dL_law_1984 dL_law_1985 dL_law_1986 ?_
  refine VL_scr (pc := 1987) (j := 3) C hX hN hN2 (by decide) rfl rfl dL_law_1987 dL_law_1988 dL_law_1990 dL_law_1991 dL_law_1992 ?_
  refine VL_scr (pc := 1993) (j := 4) C hX hN hN2 (by decide) rfl rfl dL_law_1993 dL_law_1994 dL_law_1996 dL_law_1997 dL_law_1998 ?_
  refine VL_callM (T := TX12) (N := 45) (ro := some (.int r)) (As := [.int (xs (8 * t + 1)), .int (xs (8 * t + 2)), .int (xs (8 * t + 3)), .int (xs (8 * t + 4))]) (pc := 1999) C (mX12_closes _ e2) hz2 zm_X12_closes zi_X12_closes ml_RL_165 rfl ⟨Nat.le_of_ble_eq_true rfl, Nat.le_of_ble_eq_true rfl⟩ rfl rfl rfl rfl (Nat.le_of_ble_eq_true rfl) dL_law_1999 hcs ?_
  refine VL_icmp_eq (tgt := 2295) (pc := 2002) C dL_law_2002 (by decide) (fun _ => ?_) (fun hc => absurd rfl hc)
  exact kk _ _ _ _ _ hI
set_option maxRecDepth 100000 in
set_option maxHeartbeats 4000000 in
theorem law_c34 (C : zCL K cL_law RL 7 14 532 CE SL) (hz : LZ K μ) (hz2 : LZ K ν) (hX : LX K b N xs) (hN : 8 * t + 8 ≤ N) (hN2 : N ≤ 4096) (hcs : ce ≤ CE ∧ sl ≤ SL) (h : Inv SC SM t) (kk : ∀ (SC1 SM1 : zM) (o1 : Int64) (a5 a6 : Option Value), Inv SC1 SM1 (t + 1) → VC K 2295 [some (.ref b), some (.ref (μ 0)), some (.ref (ν 0)), some (.ref q), some (.int (J ((8 * t : Nat) : Int))), a5, a6] [] (lws μ ν K.2.1.2.2 q SC1 SM1 o1) ce sl) : VC K 2007 [some (.ref b), some (.ref (μ 0)), some (.ref (ν 0)), some (.ref q), some (.int (J ((8 * t : Nat) : Int))), a5, a6] [] (lws μ ν K.2.1.2.2 q SC SM o) ce sl := by
  have ht : t < 512 := by omega
  refine VL_aload_n (pc := 2007) C dL_law_2007 rfl rfl ?_
  refine VL_scr (pc := 2008) (j := 1) C hX hN hN2 (by decide) rfl rfl dL_law_2008 dL_law_2009 dL_law_2011 dL_law_2012 dL_law_2013 ?_
  refine VL_scr (pc := 2014) (j := 2) C hX hN hN2 (by decide) rfl rfl dL_law_2014 dL_law_2015 dL_law_2017 dL_law_2018 dL_law_2019 ?_
  refine VL_scr (pc := 2020) (j := 3) C hX hN hN2 (by decide) rfl rfl dL_law_2020 dL_law_2021 dL_law_2023 dL_law_2024 dL_law_2025 ?_
  refine VL_scr (pc := 2026) (j := 4) C hX hN hN2 (by decide) rfl rfl dL_law_2026 dL_law_2027 dL_law_2029 dL_law_2030 dL_law_2031 ?_
  refine VL_scr (pc := 2032) (j := 5) C hX hN hN2 (by decide) rfl rfl dL_law_2032 dL_law_2033 dL_law_2035 dL_law_2036 dL_law_2037 ?_
  obtain ⟨r, SC1, SM1, e1, e2, hI⟩ := st_stair h ht (xs (8 * t + 1)) (xs (8 * t + 2)) (xs (8 * t + 3)) (xs (8 * t + 4)) (xs (8 * t + 5))
  refine VL_callX (T := TX11) (N := 15) (ro := some (.long r)) (As := [.int (xs (8 * t + 1)), .int (xs (8 * t + 2)), .int (xs (8 * t + 3)), .int (xs (8 * t + 4)), .int (xs (8 * t + 5))]) (pc := 2038) C (mX11_stair _ e1) hz zm_X11_stair zi_X11_stair ml_RL_166 rfl ⟨Nat.le_of_ble_eq_true rfl, Nat.le_of_ble_eq_true rfl⟩ rfl rfl rfl rfl (Nat.le_of_ble_eq_true rfl) dL_law_2038 hcs ?_
  show VC K 2041 [some (.ref b), some (.ref (μ 0)), some (.ref (ν 0)), some (.ref q), some (.int (J ((8 * t : Nat) : Int))), a5, a6] [.long r] (lws μ ν K.2.1.2.2 q SC1 SM o) ce sl
  refine VL_aload_n (pc := 2041) C dL_law_2041 rfl rfl ?_
  refine VL_scr (pc := 2042) (j := 1) C hX hN hN2 (by decide) rfl rfl dL_law_2042 dL_law_2043 dL_law_2045 dL_law_2046 dL_law_2047 ?_
  refine VL_scr (pc := 2048) (j := 2) C hX hN hN2 (by decide) rfl rfl dL_law_2048 dL_law_2049 dL_law_2051 dL_law_2052 dL_law_2053 ?_
  refine VL_scr (pc := 2054) (j := 3) C hX hN hN2 (by decide) rfl rfl dL_law_2054 dL_law_2055 dL_law_2057 dL_law_2058 dL_law_2059 ?_
  refine VL_scr (pc := 2060) (j := 4) C hX hN hN2 (by decide) rfl rfl dL_law_2060 dL_law_2061 dL_law_2063 dL_law_2064 dL_law_2065 ?_
  refine VL_scr (pc := 2066) (j := 5) C hX hN hN2 (by decide) rfl rfl dL_law_2066 dL_law_2067 dL_law_2069 dL_law_2070 dL_law_2071 ?_
  refine VL_callM (T := TX12) (N := 45) (ro := some (.long r)) (As := [.int (xs (8 * t + 1)), .int (xs (8 * t + 2)), .int (xs (8 * t + 3)), .int (xs (8 * t + 4)), .int (xs (8 * t + 5))]) (pc := 2072) C (mX12_stair _ e2) hz2 zm_X12_stair zi_X12_stair ml_RL_170 rfl ⟨Nat.le_of_ble_eq_true rfl, Nat.le_of_ble_eq_true rfl⟩ rfl rfl rfl rfl (Nat.le_of_ble_eq_true rfl) dL_law_2072 hcs ?_
  refine VL_lcmp_eq (tgt := 2295) (pc := 2075) C dL_law_2075 dL_law_2076 (by decide) (fun _ => ?_) (fun hc => absurd rfl hc)
  exact kk _ _ _ _ _ hI
set_option maxRecDepth 100000 in
set_option maxHeartbeats 4000000 in
theorem law_c35 (C : zCL K cL_law RL 7 14 532 CE SL) (hz : LZ K μ) (hz2 : LZ K ν) (hX : LX K b N xs) (hN : 8 * t + 8 ≤ N) (hN2 : N ≤ 4096) (hcs : ce ≤ CE ∧ sl ≤ SL) (h : Inv SC SM t) (kk : ∀ (SC1 SM1 : zM) (o1 : Int64) (a5 a6 : Option Value), Inv SC1 SM1 (t + 1) → VC K 2295 [some (.ref b), some (.ref (μ 0)), some (.ref (ν 0)), some (.ref q), some (.int (J ((8 * t : Nat) : Int))), a5, a6] [] (lws μ ν K.2.1.2.2 q SC1 SM1 o1) ce sl) : VC K 2081 [some (.ref b), some (.ref (μ 0)), some (.ref (ν 0)), some (.ref q), some (.int (J ((8 * t : Nat) : Int))), a5, a6] [] (lws μ ν K.2.1.2.2 q SC SM o) ce sl := by
  have ht : t < 512 := by omega
  refine VL_aload_n (pc := 2081) C dL_law_2081 rfl rfl ?_
  refine VL_scr (pc := 2082) (j := 1) C hX hN hN2 (by decide) rfl rfl dL_law_2082 dL_law_2083 dL_law_2085 dL_law_2086 dL_law_2087 ?_
  obtain ⟨r, SC1, SM1, e1, e2, hI⟩ := st_image h (xs (8 * t + 1))
  refine VL_callX (T := TX11) (N := 15) (ro := some (.long r)) (As := [.int (xs (8 * t + 1))]) (pc := 2088) C (mX11_image _ e1) hz zm_X11_image zi_X11_image ml_RL_171 rfl ⟨Nat.le_of_ble_eq_true rfl, Nat.le_of_ble_eq_true rfl⟩ rfl rfl rfl rfl (Nat.le_of_ble_eq_true rfl) dL_law_2088 hcs ?_
  show VC K 2091 [some (.ref b), some (.ref (μ 0)), some (.ref (ν 0)), some (.ref q), some (.int (J ((8 * t : Nat) : Int))), a5, a6] [.long r] (lws μ ν K.2.1.2.2 q SC1 SM o) ce sl
  refine VL_aload_n (pc := 2091) C dL_law_2091 rfl rfl ?_
  refine VL_scr (pc := 2092) (j := 1) C hX hN hN2 (by decide) rfl rfl dL_law_2092 dL_law_2093 dL_law_2095 dL_law_2096 dL_law_2097 ?_
  refine VL_callM (T := TX12) (N := 45) (ro := some (.long r)) (As := [.int (xs (8 * t + 1))]) (pc := 2098) C (mX12_image _ e2) hz2 zm_X12_image zi_X12_image ml_RL_175 rfl ⟨Nat.le_of_ble_eq_true rfl, Nat.le_of_ble_eq_true rfl⟩ rfl rfl rfl rfl (Nat.le_of_ble_eq_true rfl) dL_law_2098 hcs ?_
  refine VL_lcmp_eq (tgt := 2295) (pc := 2101) C dL_law_2101 dL_law_2102 (by decide) (fun _ => ?_) (fun hc => absurd rfl hc)
  exact kk _ _ _ _ _ hI
set_option maxRecDepth 100000 in
set_option maxHeartbeats 4000000 in
theorem law_c36 (C : zCL K cL_law RL 7 14 532 CE SL) (hz : LZ K μ) (hz2 : LZ K ν) (hX : LX K b N xs) (hN : 8 * t + 8 ≤ N) (hN2 : N ≤ 4096) (hcs : ce ≤ CE ∧ sl ≤ SL) (h : Inv SC SM t) (kk : ∀ (SC1 SM1 : zM) (o1 : Int64) (a5 a6 : Option Value), Inv SC1 SM1 (t + 1) → VC K 2295 [some (.ref b), some (.ref (μ 0)), some (.ref (ν 0)), some (.ref q), some (.int (J ((8 * t : Nat) : Int))), a5, a6] [] (lws μ ν K.2.1.2.2 q SC1 SM1 o1) ce sl) : VC K 2107 [some (.ref b), some (.ref (μ 0)), some (.ref (ν 0)), some (.ref q), some (.int (J ((8 * t : Nat) : Int))), a5, a6] [] (lws μ ν K.2.1.2.2 q SC SM o) ce sl := by
  have ht : t < 512 := by omega
  refine VL_aload_n (pc := 2107) C dL_law_2107 rfl rfl ?_
  refine VL_scr (pc := 2108) (j := 1) C hX hN hN2 (by decide) rfl rfl dL_law_2108 dL_law_2109 dL_law_2111 dL_law_2112 dL_law_2113 ?_
  refine VL_scr (pc := 2114) (j := 2) C hX hN hN2 (by decide) rfl rfl dL_law_2114 dL_law_2115 dL_law_2117 dL_law_2118 dL_law_2119 ?_
  refine VL_i2l (pc := 2120) C dL_law_2120 ?_
  refine VL_bipush (pc := 2121) C dL_law_2121 kc_b_32 ?_
  refine VL_lshl (pc := 2123) C dL_law_2123 ?_
  refine VL_scr (pc := 2124) (j := 3) C hX hN hN2 (by decide) rfl rfl dL_law_2124 dL_law_2125 dL_law_2127 dL_law_2128 dL_law_2129 ?_
  refine VL_i2l (pc := 2130) C dL_law_2130 ?_
  refine VL_ldc2 (pc := 2131) C dL_law_2131 kl_RL_176 ?_
  refine VL_land (pc := 2134) C dL_law_2134 ?_
  refine VL_lor (pc := 2135) C dL_law_2135 ?_
  obtain ⟨r, SC1, SM1, e1, e2, hI⟩ := st_restore h (xs (8 * t + 1)) ((((xs (8 * t + 2))).toInt64 <<< (((32 : Int32)).toInt64 &&& 63)) ||| (((xs (8 * t + 3))).toInt64 &&& (4294967295 : Int64)))
  refine VL_callX (T := TX11) (N := 15) (ro := some (.int r)) (As := [.int (xs (8 * t + 1)), .long ((((xs (8 * t + 2))).toInt64 <<< (((32 : Int32)).toInt64 &&& 63)) ||| (((xs (8 * t + 3))).toInt64 &&& (4294967295 : Int64)))]) (pc := 2136) C (mX11_restore _ e1) hz zm_X11_restore zi_X11_restore ml_RL_178 rfl ⟨Nat.le_of_ble_eq_true rfl, Nat.le_of_ble_eq_true rfl⟩ rfl rfl rfl rfl (Nat.le_of_ble_eq_true rfl) dL_law_2136 hcs ?_
  show VC K 2139 [some (.ref b), some (.ref (μ 0)), some (.ref (ν 0)), some (.ref q), some (.int (J ((8 * t : Nat) : Int))), a5, a6] [.int r] (lws μ ν K.2.1.2.2 q SC1 SM o) ce sl
  refine VL_aload_n (pc := 2139) C dL_law_2139 rfl rfl ?_
  refine VL_scr (pc := 2140) (j := 1) C hX hN hN2 (by decide) rfl rfl dL_law_2140 dL_law_2141 dL_law_2143 dL_law_2144 dL_law_2145 ?_
  refine VL_scr (pc := 2146) (j := 2) C hX hN hN2 (by decide) rfl rfl dL_law_2146 dL_law_2147 dL_law_2149 dL_law_2150 dL_law_2151 ?_
  refine VL_i2l (pc := 2152) C dL_law_2152 ?_
  refine VL_bipush (pc := 2153) C dL_law_2153 kc_b_32 ?_
  refine VL_lshl (pc := 2155) C dL_law_2155 ?_
  refine VL_scr (pc := 2156) (j := 3) C hX hN hN2 (by decide) rfl rfl dL_law_2156 dL_law_2157 dL_law_2159 dL_law_2160 dL_law_2161 ?_
  refine VL_i2l (pc := 2162) C dL_law_2162 ?_
  refine VL_ldc2 (pc := 2163) C dL_law_2163 kl_RL_176 ?_
  refine VL_land (pc := 2166) C dL_law_2166 ?_
  refine VL_lor (pc := 2167) C dL_law_2167 ?_
  refine VL_callM (T := TX12) (N := 45) (ro := some (.int r)) (As := [.int (xs (8 * t + 1)), .long ((((xs (8 * t + 2))).toInt64 <<< (((32 : Int32)).toInt64 &&& 63)) ||| (((xs (8 * t + 3))).toInt64 &&& (4294967295 : Int64)))]) (pc := 2168) C (mX12_restore _ e2) hz2 zm_X12_restore zi_X12_restore ml_RL_182 rfl ⟨Nat.le_of_ble_eq_true rfl, Nat.le_of_ble_eq_true rfl⟩ rfl rfl rfl rfl (Nat.le_of_ble_eq_true rfl) dL_law_2168 hcs ?_
  refine VL_icmp_eq (tgt := 2295) (pc := 2171) C dL_law_2171 (by decide) (fun _ => ?_) (fun hc => absurd rfl hc)
  exact kk _ _ _ _ _ hI
set_option maxRecDepth 100000 in
set_option maxHeartbeats 4000000 in
theorem law_c37 (C : zCL K cL_law RL 7 14 532 CE SL) (hz : LZ K μ) (hz2 : LZ K ν) (hX : LX K b N xs) (hN : 8 * t + 8 ≤ N) (hN2 : N ≤ 4096) (hcs : ce ≤ CE ∧ sl ≤ SL) (h : Inv SC SM t) (kk : ∀ (SC1 SM1 : zM) (o1 : Int64) (a5 a6 : Option Value), Inv SC1 SM1 (t + 1) → VC K 2295 [some (.ref b), some (.ref (μ 0)), some (.ref (ν 0)), some (.ref q), some (.int (J ((8 * t : Nat) : Int))), a5, a6] [] (lws μ ν K.2.1.2.2 q SC1 SM1 o1) ce sl) : VC K 2176 [some (.ref b), some (.ref (μ 0)), some (.ref (ν 0)), some (.ref q), some (.int (J ((8 * t : Nat) : Int))), a5, a6] [] (lws μ ν K.2.1.2.2 q SC SM o) ce sl := by
  have ht : t < 512 := by omega
  refine VL_aload_n (pc := 2176) C dL_law_2176 rfl rfl ?_
  obtain ⟨r, SC1, SM1, e1, e2, hI⟩ := st_clear h
  refine VL_callX (T := TX11) (N := 15) (ro := some (.int r)) (As := []) (pc := 2177) C (mX11_clear _ e1) hz zm_X11_clear zi_X11_clear ml_RL_183 rfl ⟨Nat.le_of_ble_eq_true rfl, Nat.le_of_ble_eq_true rfl⟩ rfl rfl rfl rfl (Nat.le_of_ble_eq_true rfl) dL_law_2177 hcs ?_
  show VC K 2180 [some (.ref b), some (.ref (μ 0)), some (.ref (ν 0)), some (.ref q), some (.int (J ((8 * t : Nat) : Int))), a5, a6] [.int r] (lws μ ν K.2.1.2.2 q SC1 SM o) ce sl
  refine VL_aload_n (pc := 2180) C dL_law_2180 rfl rfl ?_
  refine VL_callM (T := TX12) (N := 45) (ro := some (.int r)) (As := []) (pc := 2181) C (mX12_clear _ e2) hz2 zm_X12_clear zi_X12_clear ml_RL_186 rfl ⟨Nat.le_of_ble_eq_true rfl, Nat.le_of_ble_eq_true rfl⟩ rfl rfl rfl rfl (Nat.le_of_ble_eq_true rfl) dL_law_2181 hcs ?_
  refine VL_icmp_eq (tgt := 2295) (pc := 2184) C dL_law_2184 (by decide) (fun _ => ?_) (fun hc => absurd rfl hc)
  exact kk _ _ _ _ _ hI
set_option maxRecDepth 100000 in
set_option maxHeartbeats 4000000 in
theorem law_c39 (C : zCL K cL_law RL 7 14 532 CE SL) (hz : LZ K μ) (hz2 : LZ K ν) (hX : LX K b N xs) (hN : 8 * t + 8 ≤ N) (hN2 : N ≤ 4096) (hcs : ce ≤ CE ∧ sl ≤ SL) (h : Inv SC SM t) (kk : ∀ (SC1 SM1 : zM) (o1 : Int64) (a5 a6 : Option Value), Inv SC1 SM1 (t + 1) → VC K 2295 [some (.ref b), some (.ref (μ 0)), some (.ref (ν 0)), some (.ref q), some (.int (J ((8 * t : Nat) : Int))), a5, a6] [] (lws μ ν K.2.1.2.2 q SC1 SM1 o1) ce sl) : VC K 2257 [some (.ref b), some (.ref (μ 0)), some (.ref (ν 0)), some (.ref q), some (.int (J ((8 * t : Nat) : Int))), a5, a6] [] (lws μ ν K.2.1.2.2 q SC SM o) ce sl := by
  have ht : t < 512 := by omega
  refine VL_aload_n (pc := 2257) C dL_law_2257 rfl rfl ?_
  refine VL_scr (pc := 2258) (j := 1) C hX hN hN2 (by decide) rfl rfl dL_law_2258 dL_law_2259 dL_law_2261 dL_law_2262 dL_law_2263 ?_
  obtain ⟨r, SC1, SM1, e0, e2, hI⟩ := st_size h (xs (8 * t + 1))
  obtain ⟨e1, e3⟩ := vS_some e0
  subst e3
  refine VL_callX (T := TX11) (N := 15) (ro := some (.int r)) (As := [.int (xs (8 * t + 1))]) (pc := 2264) C (mX11_size _ e1) hz zm_X11_size zi_X11_size ml_RL_196 rfl ⟨Nat.le_of_ble_eq_true rfl, Nat.le_of_ble_eq_true rfl⟩ rfl rfl rfl rfl (Nat.le_of_ble_eq_true rfl) dL_law_2264 hcs ?_
  show VC K 2267 [some (.ref b), some (.ref (μ 0)), some (.ref (ν 0)), some (.ref q), some (.int (J ((8 * t : Nat) : Int))), a5, a6] [.int r] (lws μ ν K.2.1.2.2 q SC SM o) ce sl
  refine VL_aload_n (pc := 2267) C dL_law_2267 rfl rfl ?_
  refine VL_scr (pc := 2268) (j := 1) C hX hN hN2 (by decide) rfl rfl dL_law_2268 dL_law_2269 dL_law_2271 dL_law_2272 dL_law_2273 ?_
  refine VL_callM (T := TX12) (N := 45) (ro := some (.int r)) (As := [.int (xs (8 * t + 1))]) (pc := 2274) C (mX12_size _ e2) hz2 zm_X12_size zi_X12_size ml_RL_199 rfl ⟨Nat.le_of_ble_eq_true rfl, Nat.le_of_ble_eq_true rfl⟩ rfl rfl rfl rfl (Nat.le_of_ble_eq_true rfl) dL_law_2274 hcs ?_
  refine VL_icmp_eq (tgt := 2295) (pc := 2277) C dL_law_2277 (by decide) (fun _ => ?_) (fun hc => absurd rfl hc)
  exact kk _ _ _ _ _ hI
set_option maxRecDepth 100000 in
set_option maxHeartbeats 4000000 in
theorem law_c40 (C : zCL K cL_law RL 7 14 532 CE SL) (hz : LZ K μ) (hz2 : LZ K ν) (hX : LX K b N xs) (hN : 8 * t + 8 ≤ N) (hN2 : N ≤ 4096) (hcs : ce ≤ CE ∧ sl ≤ SL) (h : Inv SC SM t) (kk : ∀ (SC1 SM1 : zM) (o1 : Int64) (a5 a6 : Option Value), Inv SC1 SM1 (t + 1) → VC K 2295 [some (.ref b), some (.ref (μ 0)), some (.ref (ν 0)), some (.ref q), some (.int (J ((8 * t : Nat) : Int))), a5, a6] [] (lws μ ν K.2.1.2.2 q SC1 SM1 o1) ce sl) : VC K 2282 [some (.ref b), some (.ref (μ 0)), some (.ref (ν 0)), some (.ref q), some (.int (J ((8 * t : Nat) : Int))), a5, a6] [] (lws μ ν K.2.1.2.2 q SC SM o) ce sl := by
  have ht : t < 512 := by omega
  refine VL_aload_n (pc := 2282) C dL_law_2282 rfl rfl ?_
  obtain ⟨r, SC1, SM1, e0, e2, hI⟩ := st_trouble h
  obtain ⟨e1, e3⟩ := vS_some e0
  subst e3
  refine VL_callX (T := TX11) (N := 15) (ro := some (.int r)) (As := []) (pc := 2283) C (mX11_trouble _ e1) hz zm_X11_trouble zi_X11_trouble ml_RL_200 rfl ⟨Nat.le_of_ble_eq_true rfl, Nat.le_of_ble_eq_true rfl⟩ rfl rfl rfl rfl (Nat.le_of_ble_eq_true rfl) dL_law_2283 hcs ?_
  show VC K 2286 [some (.ref b), some (.ref (μ 0)), some (.ref (ν 0)), some (.ref q), some (.int (J ((8 * t : Nat) : Int))), a5, a6] [.int r] (lws μ ν K.2.1.2.2 q SC SM o) ce sl
  refine VL_aload_n (pc := 2286) C dL_law_2286 rfl rfl ?_
  refine VL_callM (T := TX12) (N := 45) (ro := some (.int r)) (As := []) (pc := 2287) C (mX12_trouble _ e2) hz2 zm_X12_trouble zi_X12_trouble ml_RL_203 rfl ⟨Nat.le_of_ble_eq_true rfl, Nat.le_of_ble_eq_true rfl⟩ rfl rfl rfl rfl (Nat.le_of_ble_eq_true rfl) dL_law_2287 hcs ?_
  refine VL_icmp_eq (tgt := 2295) (pc := 2290) C dL_law_2290 (by decide) (fun _ => ?_) (fun hc => absurd rfl hc)
  exact kk _ _ _ _ _ hI
end LAWC
