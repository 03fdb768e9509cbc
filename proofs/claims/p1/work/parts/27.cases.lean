theorem dL_law_1740 : decode cL_law 1740 = .ok (.aload_n 1, 1) := by decide +kernel
theorem dL_law_1741 : decode cL_law 1741 = .ok (.aload_n 0, 1) := by decide +kernel
theorem dL_law_1742 : decode cL_law 1742 = .ok (.iload_n 3, 1) := by decide +kernel
theorem dL_law_1743 : decode cL_law 1743 = .ok (.iconst 1, 1) := by decide +kernel
theorem dL_law_1744 : decode cL_law 1744 = .ok (.iadd, 1) := by decide +kernel
theorem dL_law_1745 : decode cL_law 1745 = .ok (.iaload, 1) := by decide +kernel
theorem dL_law_1746 : decode cL_law 1746 = .ok (.invokevirtual 242, 3) := by decide +kernel
theorem dL_law_1749 : decode cL_law 1749 = .ok (.aload_n 2, 1) := by decide +kernel
theorem dL_law_1750 : decode cL_law 1750 = .ok (.aload_n 0, 1) := by decide +kernel
theorem dL_law_1751 : decode cL_law 1751 = .ok (.iload_n 3, 1) := by decide +kernel
theorem dL_law_1752 : decode cL_law 1752 = .ok (.iconst 1, 1) := by decide +kernel
theorem dL_law_1753 : decode cL_law 1753 = .ok (.iadd, 1) := by decide +kernel
theorem dL_law_1754 : decode cL_law 1754 = .ok (.iaload, 1) := by decide +kernel
theorem dL_law_1755 : decode cL_law 1755 = .ok (.invokevirtual 245, 3) := by decide +kernel
theorem dL_law_1758 : decode cL_law 1758 = .ok (.if_icmp .eq 207, 3) := by decide +kernel
theorem dL_law_1763 : decode cL_law 1763 = .ok (.aload_n 1, 1) := by decide +kernel
theorem dL_law_1764 : decode cL_law 1764 = .ok (.aload_n 0, 1) := by decide +kernel
theorem dL_law_1765 : decode cL_law 1765 = .ok (.iload_n 3, 1) := by decide +kernel
theorem dL_law_1766 : decode cL_law 1766 = .ok (.iconst 1, 1) := by decide +kernel
theorem dL_law_1767 : decode cL_law 1767 = .ok (.iadd, 1) := by decide +kernel
theorem dL_law_1768 : decode cL_law 1768 = .ok (.iaload, 1) := by decide +kernel
theorem dL_law_1769 : decode cL_law 1769 = .ok (.invokevirtual 246, 3) := by decide +kernel
theorem dL_law_1772 : decode cL_law 1772 = .ok (.aload_n 2, 1) := by decide +kernel
theorem dL_law_1773 : decode cL_law 1773 = .ok (.aload_n 0, 1) := by decide +kernel
theorem dL_law_1774 : decode cL_law 1774 = .ok (.iload_n 3, 1) := by decide +kernel
theorem dL_law_1775 : decode cL_law 1775 = .ok (.iconst 1, 1) := by decide +kernel
theorem dL_law_1776 : decode cL_law 1776 = .ok (.iadd, 1) := by decide +kernel
theorem dL_law_1777 : decode cL_law 1777 = .ok (.iaload, 1) := by decide +kernel
theorem dL_law_1778 : decode cL_law 1778 = .ok (.invokevirtual 249, 3) := by decide +kernel
theorem dL_law_1781 : decode cL_law 1781 = .ok (.if_icmp .eq 184, 3) := by decide +kernel
theorem dL_law_1786 : decode cL_law 1786 = .ok (.aload_n 1, 1) := by decide +kernel
theorem dL_law_1787 : decode cL_law 1787 = .ok (.aload_n 0, 1) := by decide +kernel
theorem dL_law_1788 : decode cL_law 1788 = .ok (.iload_n 3, 1) := by decide +kernel
theorem dL_law_1789 : decode cL_law 1789 = .ok (.iconst 1, 1) := by decide +kernel
theorem dL_law_1790 : decode cL_law 1790 = .ok (.iadd, 1) := by decide +kernel
theorem dL_law_1791 : decode cL_law 1791 = .ok (.iaload, 1) := by decide +kernel
theorem dL_law_1792 : decode cL_law 1792 = .ok (.aload_n 0, 1) := by decide +kernel
theorem dL_law_1793 : decode cL_law 1793 = .ok (.iload_n 3, 1) := by decide +kernel
theorem dL_law_1794 : decode cL_law 1794 = .ok (.iconst 2, 1) := by decide +kernel
theorem dL_law_1795 : decode cL_law 1795 = .ok (.iadd, 1) := by decide +kernel
theorem dL_law_1796 : decode cL_law 1796 = .ok (.iaload, 1) := by decide +kernel
theorem dL_law_1797 : decode cL_law 1797 = .ok (.aload_n 0, 1) := by decide +kernel
theorem dL_law_1798 : decode cL_law 1798 = .ok (.iload_n 3, 1) := by decide +kernel
theorem dL_law_1799 : decode cL_law 1799 = .ok (.iconst 3, 1) := by decide +kernel
theorem dL_law_1800 : decode cL_law 1800 = .ok (.iadd, 1) := by decide +kernel
theorem dL_law_1801 : decode cL_law 1801 = .ok (.iaload, 1) := by decide +kernel
theorem dL_law_1802 : decode cL_law 1802 = .ok (.invokevirtual 250, 3) := by decide +kernel
theorem dL_law_1805 : decode cL_law 1805 = .ok (.aload_n 2, 1) := by decide +kernel
theorem dL_law_1806 : decode cL_law 1806 = .ok (.aload_n 0, 1) := by decide +kernel
theorem dL_law_1807 : decode cL_law 1807 = .ok (.iload_n 3, 1) := by decide +kernel
theorem dL_law_1808 : decode cL_law 1808 = .ok (.iconst 1, 1) := by decide +kernel
theorem dL_law_1809 : decode cL_law 1809 = .ok (.iadd, 1) := by decide +kernel
theorem dL_law_1810 : decode cL_law 1810 = .ok (.iaload, 1) := by decide +kernel
theorem dL_law_1811 : decode cL_law 1811 = .ok (.aload_n 0, 1) := by decide +kernel
theorem dL_law_1812 : decode cL_law 1812 = .ok (.iload_n 3, 1) := by decide +kernel
theorem dL_law_1813 : decode cL_law 1813 = .ok (.iconst 2, 1) := by decide +kernel
theorem dL_law_1814 : decode cL_law 1814 = .ok (.iadd, 1) := by decide +kernel
theorem dL_law_1815 : decode cL_law 1815 = .ok (.iaload, 1) := by decide +kernel
theorem dL_law_1816 : decode cL_law 1816 = .ok (.aload_n 0, 1) := by decide +kernel
theorem dL_law_1817 : decode cL_law 1817 = .ok (.iload_n 3, 1) := by decide +kernel
theorem dL_law_1818 : decode cL_law 1818 = .ok (.iconst 3, 1) := by decide +kernel
theorem dL_law_1819 : decode cL_law 1819 = .ok (.iadd, 1) := by decide +kernel
theorem dL_law_1820 : decode cL_law 1820 = .ok (.iaload, 1) := by decide +kernel
theorem dL_law_1821 : decode cL_law 1821 = .ok (.invokevirtual 253, 3) := by decide +kernel
theorem dL_law_1824 : decode cL_law 1824 = .ok (.if_icmp .eq 141, 3) := by decide +kernel
theorem dL_law_1829 : decode cL_law 1829 = .ok (.aload_n 1, 1) := by decide +kernel
theorem dL_law_1830 : decode cL_law 1830 = .ok (.aload_n 0, 1) := by decide +kernel
theorem dL_law_1831 : decode cL_law 1831 = .ok (.iload_n 3, 1) := by decide +kernel
theorem dL_law_1832 : decode cL_law 1832 = .ok (.iconst 1, 1) := by decide +kernel
theorem dL_law_1833 : decode cL_law 1833 = .ok (.iadd, 1) := by decide +kernel
theorem dL_law_1834 : decode cL_law 1834 = .ok (.iaload, 1) := by decide +kernel
theorem dL_law_1835 : decode cL_law 1835 = .ok (.aload_n 0, 1) := by decide +kernel
theorem dL_law_1836 : decode cL_law 1836 = .ok (.iload_n 3, 1) := by decide +kernel
theorem dL_law_1837 : decode cL_law 1837 = .ok (.iconst 2, 1) := by decide +kernel
theorem dL_law_1838 : decode cL_law 1838 = .ok (.iadd, 1) := by decide +kernel
theorem dL_law_1839 : decode cL_law 1839 = .ok (.iaload, 1) := by decide +kernel
theorem dL_law_1840 : decode cL_law 1840 = .ok (.aload_n 0, 1) := by decide +kernel
theorem dL_law_1841 : decode cL_law 1841 = .ok (.iload_n 3, 1) := by decide +kernel
theorem dL_law_1842 : decode cL_law 1842 = .ok (.iconst 3, 1) := by decide +kernel
theorem dL_law_1843 : decode cL_law 1843 = .ok (.iadd, 1) := by decide +kernel
theorem dL_law_1844 : decode cL_law 1844 = .ok (.iaload, 1) := by decide +kernel
theorem dL_law_1845 : decode cL_law 1845 = .ok (.i2l, 1) := by decide +kernel
theorem dL_law_1846 : decode cL_law 1846 = .ok (.bipush 32, 2) := by decide +kernel
theorem dL_law_1848 : decode cL_law 1848 = .ok (.lshl, 1) := by decide +kernel
theorem dL_law_1849 : decode cL_law 1849 = .ok (.aload_n 0, 1) := by decide +kernel
theorem dL_law_1850 : decode cL_law 1850 = .ok (.iload_n 3, 1) := by decide +kernel
theorem dL_law_1851 : decode cL_law 1851 = .ok (.iconst 4, 1) := by decide +kernel
theorem dL_law_1852 : decode cL_law 1852 = .ok (.iadd, 1) := by decide +kernel
theorem dL_law_1853 : decode cL_law 1853 = .ok (.iaload, 1) := by decide +kernel
theorem dL_law_1854 : decode cL_law 1854 = .ok (.i2l, 1) := by decide +kernel
theorem dL_law_1855 : decode cL_law 1855 = .ok (.ldc2_w 254, 3) := by decide +kernel
theorem dL_law_1858 : decode cL_law 1858 = .ok (.land, 1) := by decide +kernel
theorem dL_law_1859 : decode cL_law 1859 = .ok (.lor, 1) := by decide +kernel
theorem dL_law_1860 : decode cL_law 1860 = .ok (.invokevirtual 256, 3) := by decide +kernel
theorem dL_law_1863 : decode cL_law 1863 = .ok (.aload_n 2, 1) := by decide +kernel
theorem dL_law_1864 : decode cL_law 1864 = .ok (.aload_n 0, 1) := by decide +kernel
theorem dL_law_1865 : decode cL_law 1865 = .ok (.iload_n 3, 1) := by decide +kernel
theorem dL_law_1866 : decode cL_law 1866 = .ok (.iconst 1, 1) := by decide +kernel
theorem dL_law_1867 : decode cL_law 1867 = .ok (.iadd, 1) := by decide +kernel
theorem dL_law_1868 : decode cL_law 1868 = .ok (.iaload, 1) := by decide +kernel
theorem dL_law_1869 : decode cL_law 1869 = .ok (.aload_n 0, 1) := by decide +kernel
theorem dL_law_1870 : decode cL_law 1870 = .ok (.iload_n 3, 1) := by decide +kernel
theorem dL_law_1871 : decode cL_law 1871 = .ok (.iconst 2, 1) := by decide +kernel
theorem dL_law_1872 : decode cL_law 1872 = .ok (.iadd, 1) := by decide +kernel
theorem dL_law_1873 : decode cL_law 1873 = .ok (.iaload, 1) := by decide +kernel
theorem dL_law_1874 : decode cL_law 1874 = .ok (.aload_n 0, 1) := by decide +kernel
theorem dL_law_1875 : decode cL_law 1875 = .ok (.iload_n 3, 1) := by decide +kernel
theorem dL_law_1876 : decode cL_law 1876 = .ok (.iconst 3, 1) := by decide +kernel
theorem dL_law_1877 : decode cL_law 1877 = .ok (.iadd, 1) := by decide +kernel
theorem dL_law_1878 : decode cL_law 1878 = .ok (.iaload, 1) := by decide +kernel
theorem dL_law_1879 : decode cL_law 1879 = .ok (.i2l, 1) := by decide +kernel
theorem dL_law_1880 : decode cL_law 1880 = .ok (.bipush 32, 2) := by decide +kernel
theorem dL_law_1882 : decode cL_law 1882 = .ok (.lshl, 1) := by decide +kernel
theorem dL_law_1883 : decode cL_law 1883 = .ok (.aload_n 0, 1) := by decide +kernel
theorem dL_law_1884 : decode cL_law 1884 = .ok (.iload_n 3, 1) := by decide +kernel
theorem dL_law_1885 : decode cL_law 1885 = .ok (.iconst 4, 1) := by decide +kernel
theorem dL_law_1886 : decode cL_law 1886 = .ok (.iadd, 1) := by decide +kernel
theorem dL_law_1887 : decode cL_law 1887 = .ok (.iaload, 1) := by decide +kernel
theorem dL_law_1888 : decode cL_law 1888 = .ok (.i2l, 1) := by decide +kernel
theorem dL_law_1889 : decode cL_law 1889 = .ok (.ldc2_w 254, 3) := by decide +kernel
theorem dL_law_1892 : decode cL_law 1892 = .ok (.land, 1) := by decide +kernel
theorem dL_law_1893 : decode cL_law 1893 = .ok (.lor, 1) := by decide +kernel
theorem dL_law_1894 : decode cL_law 1894 = .ok (.invokevirtual 260, 3) := by decide +kernel
theorem dL_law_1897 : decode cL_law 1897 = .ok (.if_icmp .eq 68, 3) := by decide +kernel
theorem dL_law_1902 : decode cL_law 1902 = .ok (.aload_n 1, 1) := by decide +kernel
theorem dL_law_1903 : decode cL_law 1903 = .ok (.aload_n 0, 1) := by decide +kernel
theorem dL_law_1904 : decode cL_law 1904 = .ok (.iload_n 3, 1) := by decide +kernel
theorem dL_law_1905 : decode cL_law 1905 = .ok (.iconst 1, 1) := by decide +kernel
theorem dL_law_1906 : decode cL_law 1906 = .ok (.iadd, 1) := by decide +kernel
theorem dL_law_1907 : decode cL_law 1907 = .ok (.iaload, 1) := by decide +kernel
theorem dL_law_1908 : decode cL_law 1908 = .ok (.aload_n 0, 1) := by decide +kernel
theorem dL_law_1909 : decode cL_law 1909 = .ok (.iload_n 3, 1) := by decide +kernel
theorem dL_law_1910 : decode cL_law 1910 = .ok (.iconst 2, 1) := by decide +kernel
theorem dL_law_1911 : decode cL_law 1911 = .ok (.iadd, 1) := by decide +kernel
theorem dL_law_1912 : decode cL_law 1912 = .ok (.iaload, 1) := by decide +kernel
theorem dL_law_1913 : decode cL_law 1913 = .ok (.aload_n 0, 1) := by decide +kernel
theorem dL_law_1914 : decode cL_law 1914 = .ok (.iload_n 3, 1) := by decide +kernel
theorem dL_law_1915 : decode cL_law 1915 = .ok (.iconst 3, 1) := by decide +kernel
theorem dL_law_1916 : decode cL_law 1916 = .ok (.iadd, 1) := by decide +kernel
theorem dL_law_1917 : decode cL_law 1917 = .ok (.iaload, 1) := by decide +kernel
theorem dL_law_1918 : decode cL_law 1918 = .ok (.aload_n 0, 1) := by decide +kernel
theorem dL_law_1919 : decode cL_law 1919 = .ok (.iload_n 3, 1) := by decide +kernel
theorem dL_law_1920 : decode cL_law 1920 = .ok (.iconst 4, 1) := by decide +kernel
theorem dL_law_1921 : decode cL_law 1921 = .ok (.iadd, 1) := by decide +kernel
theorem dL_law_1922 : decode cL_law 1922 = .ok (.iaload, 1) := by decide +kernel
theorem dL_law_1923 : decode cL_law 1923 = .ok (.aload_n 0, 1) := by decide +kernel
theorem dL_law_1924 : decode cL_law 1924 = .ok (.iload_n 3, 1) := by decide +kernel
theorem dL_law_1925 : decode cL_law 1925 = .ok (.iconst 5, 1) := by decide +kernel
theorem dL_law_1926 : decode cL_law 1926 = .ok (.iadd, 1) := by decide +kernel
theorem dL_law_1927 : decode cL_law 1927 = .ok (.iaload, 1) := by decide +kernel
theorem dL_law_1928 : decode cL_law 1928 = .ok (.invokevirtual 261, 3) := by decide +kernel
theorem dL_law_1931 : decode cL_law 1931 = .ok (.aload_n 2, 1) := by decide +kernel
theorem dL_law_1932 : decode cL_law 1932 = .ok (.aload_n 0, 1) := by decide +kernel
theorem dL_law_1933 : decode cL_law 1933 = .ok (.iload_n 3, 1) := by decide +kernel
theorem dL_law_1934 : decode cL_law 1934 = .ok (.iconst 1, 1) := by decide +kernel
theorem dL_law_1935 : decode cL_law 1935 = .ok (.iadd, 1) := by decide +kernel
theorem dL_law_1936 : decode cL_law 1936 = .ok (.iaload, 1) := by decide +kernel
theorem dL_law_1937 : decode cL_law 1937 = .ok (.aload_n 0, 1) := by decide +kernel
theorem dL_law_1938 : decode cL_law 1938 = .ok (.iload_n 3, 1) := by decide +kernel
theorem dL_law_1939 : decode cL_law 1939 = .ok (.iconst 2, 1) := by decide +kernel
theorem dL_law_1940 : decode cL_law 1940 = .ok (.iadd, 1) := by decide +kernel
theorem dL_law_1941 : decode cL_law 1941 = .ok (.iaload, 1) := by decide +kernel
theorem dL_law_1942 : decode cL_law 1942 = .ok (.aload_n 0, 1) := by decide +kernel
theorem dL_law_1943 : decode cL_law 1943 = .ok (.iload_n 3, 1) := by decide +kernel
theorem dL_law_1944 : decode cL_law 1944 = .ok (.iconst 3, 1) := by decide +kernel
theorem dL_law_1945 : decode cL_law 1945 = .ok (.iadd, 1) := by decide +kernel
theorem dL_law_1946 : decode cL_law 1946 = .ok (.iaload, 1) := by decide +kernel
theorem dL_law_1947 : decode cL_law 1947 = .ok (.aload_n 0, 1) := by decide +kernel
theorem dL_law_1948 : decode cL_law 1948 = .ok (.iload_n 3, 1) := by decide +kernel
theorem dL_law_1949 : decode cL_law 1949 = .ok (.iconst 4, 1) := by decide +kernel
theorem dL_law_1950 : decode cL_law 1950 = .ok (.iadd, 1) := by decide +kernel
theorem dL_law_1951 : decode cL_law 1951 = .ok (.iaload, 1) := by decide +kernel
theorem dL_law_1952 : decode cL_law 1952 = .ok (.aload_n 0, 1) := by decide +kernel
theorem dL_law_1953 : decode cL_law 1953 = .ok (.iload_n 3, 1) := by decide +kernel
theorem dL_law_1954 : decode cL_law 1954 = .ok (.iconst 5, 1) := by decide +kernel
theorem dL_law_1955 : decode cL_law 1955 = .ok (.iadd, 1) := by decide +kernel
theorem dL_law_1956 : decode cL_law 1956 = .ok (.iaload, 1) := by decide +kernel
theorem dL_law_1957 : decode cL_law 1957 = .ok (.invokevirtual 264, 3) := by decide +kernel
theorem dL_law_1960 : decode cL_law 1960 = .ok (.if_icmp .eq 5, 3) := by decide +kernel
set_option maxHeartbeats 4000000 in
set_option maxRecDepth 100000 in
theorem lc_56 {p : Program} {e : Env} {s : State} {m : MethodId} {below : List Frame} {meth : Method} {c : Code} {l : Launch} {b : Nat} {xs : Nat → Int32} {D : va_G} {qx qm : Nat → Nat} {cx cm : Nat → ClassId} {H : Heap} {locs : List Loc} {ls : Array Slot} (C : zLaw p s m meth c b xs D qx qm cx cm) (hPx : va_P D vwCl (zw 81 qx (zXd qx cx) zXI0 zXR0 zXJ0) H) (hDx : va_D (zLA s) (zw 81 qx (zXd qx cx) zXI0 zXR0 zXJ0)) (hPm : va_P D vwCl (zw 25 qm (zMd qm cm) zMI0 zMR0 zMJ0) H) (hDm : va_D (zLA s) (zw 25 qm (zMd qm cm) zMI0 zMR0 zMJ0)) (hS : va_S (zLA s) s.heap H locs) (hl : lv_has ls 4 [(0, .ref b), (1, .ref (qx 0)), (2, .ref (qm 0)), (3, .int (nI 0))]) : W p l e room_1 s m #[Value.ref b] below meth c H locs 600000 7302250 (lw_Z below #[Value.ref b] s) (F0 m 1740 ls []) := by
  have C0 := C
  obtain ⟨⟨hx, hb, hr, hml, hown, hts, hX, hbl, hlocks, hgv⟩, hKx, hKm, hdis⟩ := C
  have hown : s.vm.findClass "ReceiptLeftLaw" = some m.cls := hown
  have ht : ∀ w ∈ zT, w.before #[Value.ref b] s = true := fun w h => hts w (zT_lw w h)
  have hA : ∀ a, s.heap.size ≤ a → zLA s a := fun _ h => h
  have hbA : ¬ zLA s b := Nat.not_le.mpr hbl
  refine lv_aload_n hx hb dL_law_1740 rfl (lv_at hl 1 rfl) ?_
  refine lv_aload_n hx hb dL_law_1741 rfl (lv_at hl 0 rfl) ?_
  refine lv_iload_n hx hb dL_law_1742 rfl (lv_at hl 3 rfl) ?_
  refine lv_iconst (v := nI 1) hx hb dL_law_1743 (by decide +kernel) ?_
  refine lv_iadd hx hb dL_law_1744 ?_
  refine z_eqi (y := nI 1) (by decide +kernel) ?_
  refine va_sld hx hb hX hbl hbA hS (vp_in_nI (by decide) (by decide)) dL_law_1745 ?_
  refine z_eqi (y := xs 1) rfl ?_
  refine z_callVi (k := 0) (As := [.int (xs 1)]) (rest := []) hx hb hml hown ht (kX10_image l D qx cx (xs 1)) hw_5_141 hmX10_image ⟨rfl, rfl⟩ (na := 1) rfl (by decide +kernel) ⟨Nat.le_of_ble_eq_true rfl, Nat.le_of_ble_eq_true rfl⟩ (by decide) rfl rfl hKx hPx hDx hS hA hl.1 rfl (Nat.le_of_ble_eq_true rfl) ⟨Nat.le_of_ble_eq_true rfl, Nat.le_of_ble_eq_true rfl⟩ dL_law_1746 (fun r_x I_x R_x J_x H1 locs hp_x hPx hDx hS hz_x hk_x => ?_)
  have hPm := z_frame (q := qx) (n := 81) hPm hdis hk_x
  generalize H1 = H at hPm hPx hS ⊢
  refine lv_aload_n hx hb dL_law_1749 rfl (lv_at hl 2 rfl) ?_
  refine lv_aload_n hx hb dL_law_1750 rfl (lv_at hl 0 rfl) ?_
  refine lv_iload_n hx hb dL_law_1751 rfl (lv_at hl 3 rfl) ?_
  refine lv_iconst (v := nI 1) hx hb dL_law_1752 (by decide +kernel) ?_
  refine lv_iadd hx hb dL_law_1753 ?_
  refine z_eqi (y := nI 1) (by decide +kernel) ?_
  refine va_sld hx hb hX hbl hbA hS (vp_in_nI (by decide) (by decide)) dL_law_1754 ?_
  refine z_eqi (y := xs 1) rfl ?_
  refine z_callVi (k := 0) (As := [.int (xs 1)]) (rest := [.int (r_x)]) hx hb hml hown ht (kX11_image l D qm cm (xs 1)) hw_6_81 hmX11_image ⟨rfl, rfl⟩ (na := 1) rfl (by decide +kernel) ⟨Nat.le_of_ble_eq_true rfl, Nat.le_of_ble_eq_true rfl⟩ (by decide) rfl rfl hKm hPm hDm hS hA hl.1 rfl (Nat.le_of_ble_eq_true rfl) ⟨Nat.le_of_ble_eq_true rfl, Nat.le_of_ble_eq_true rfl⟩ dL_law_1755 (fun r_m I_m R_m J_m H1 locs hp_m hPm hDm hS hz_m hk_m => ?_)
  have heq : r_x = r_m := by rcases hp_x with h | h <;> rcases hp_m with g | g <;> first | (exfalso; omega) | (simp only [h, g])
  refine lv_icmp_eq (tgt := 1965) hx hb dL_law_1758 (by decide) (fun _ => ?_) (fun c_0 => absurd heq c_0)
  exact lc_end C0 hS (lv_sub hl [0, 3] rfl)
set_option maxHeartbeats 4000000 in
set_option maxRecDepth 100000 in
theorem lc_57 {p : Program} {e : Env} {s : State} {m : MethodId} {below : List Frame} {meth : Method} {c : Code} {l : Launch} {b : Nat} {xs : Nat → Int32} {D : va_G} {qx qm : Nat → Nat} {cx cm : Nat → ClassId} {H : Heap} {locs : List Loc} {ls : Array Slot} (C : zLaw p s m meth c b xs D qx qm cx cm) (hPx : va_P D vwCl (zw 81 qx (zXd qx cx) zXI0 zXR0 zXJ0) H) (hDx : va_D (zLA s) (zw 81 qx (zXd qx cx) zXI0 zXR0 zXJ0)) (hPm : va_P D vwCl (zw 25 qm (zMd qm cm) zMI0 zMR0 zMJ0) H) (hDm : va_D (zLA s) (zw 25 qm (zMd qm cm) zMI0 zMR0 zMJ0)) (hS : va_S (zLA s) s.heap H locs) (hl : lv_has ls 4 [(0, .ref b), (1, .ref (qx 0)), (2, .ref (qm 0)), (3, .int (nI 0))]) : W p l e room_1 s m #[Value.ref b] below meth c H locs 600000 7302250 (lw_Z below #[Value.ref b] s) (F0 m 1763 ls []) := by
  have C0 := C
  obtain ⟨⟨hx, hb, hr, hml, hown, hts, hX, hbl, hlocks, hgv⟩, hKx, hKm, hdis⟩ := C
  have hown : s.vm.findClass "ReceiptLeftLaw" = some m.cls := hown
  have ht : ∀ w ∈ zT, w.before #[Value.ref b] s = true := fun w h => hts w (zT_lw w h)
  have hA : ∀ a, s.heap.size ≤ a → zLA s a := fun _ h => h
  have hbA : ¬ zLA s b := Nat.not_le.mpr hbl
  refine lv_aload_n hx hb dL_law_1763 rfl (lv_at hl 1 rfl) ?_
  refine lv_aload_n hx hb dL_law_1764 rfl (lv_at hl 0 rfl) ?_
  refine lv_iload_n hx hb dL_law_1765 rfl (lv_at hl 3 rfl) ?_
  refine lv_iconst (v := nI 1) hx hb dL_law_1766 (by decide +kernel) ?_
  refine lv_iadd hx hb dL_law_1767 ?_
  refine z_eqi (y := nI 1) (by decide +kernel) ?_
  refine va_sld hx hb hX hbl hbA hS (vp_in_nI (by decide) (by decide)) dL_law_1768 ?_
  refine z_eqi (y := xs 1) rfl ?_
  refine z_callVi (k := 0) (As := [.int (xs 1)]) (rest := []) hx hb hml hown ht (kX10_back l D qx cx (xs 1)) hw_5_150 hmX10_back ⟨rfl, rfl⟩ (na := 1) rfl (by decide +kernel) ⟨Nat.le_of_ble_eq_true rfl, Nat.le_of_ble_eq_true rfl⟩ (by decide) rfl rfl hKx hPx hDx hS hA hl.1 rfl (Nat.le_of_ble_eq_true rfl) ⟨Nat.le_of_ble_eq_true rfl, Nat.le_of_ble_eq_true rfl⟩ dL_law_1769 (fun r_x I_x R_x J_x H1 locs hp_x hPx hDx hS hz_x hk_x => ?_)
  have hPm := z_frame (q := qx) (n := 81) hPm hdis hk_x
  generalize H1 = H at hPm hPx hS ⊢
  refine lv_aload_n hx hb dL_law_1772 rfl (lv_at hl 2 rfl) ?_
  refine lv_aload_n hx hb dL_law_1773 rfl (lv_at hl 0 rfl) ?_
  refine lv_iload_n hx hb dL_law_1774 rfl (lv_at hl 3 rfl) ?_
  refine lv_iconst (v := nI 1) hx hb dL_law_1775 (by decide +kernel) ?_
  refine lv_iadd hx hb dL_law_1776 ?_
  refine z_eqi (y := nI 1) (by decide +kernel) ?_
  refine va_sld hx hb hX hbl hbA hS (vp_in_nI (by decide) (by decide)) dL_law_1777 ?_
  refine z_eqi (y := xs 1) rfl ?_
  refine z_callVi (k := 0) (As := [.int (xs 1)]) (rest := [.int (r_x)]) hx hb hml hown ht (kX11_back l D qm cm (xs 1)) hw_6_89 hmX11_back ⟨rfl, rfl⟩ (na := 1) rfl (by decide +kernel) ⟨Nat.le_of_ble_eq_true rfl, Nat.le_of_ble_eq_true rfl⟩ (by decide) rfl rfl hKm hPm hDm hS hA hl.1 rfl (Nat.le_of_ble_eq_true rfl) ⟨Nat.le_of_ble_eq_true rfl, Nat.le_of_ble_eq_true rfl⟩ dL_law_1778 (fun r_m I_m R_m J_m H1 locs hp_m hPm hDm hS hz_m hk_m => ?_)
  have heq : r_x = r_m := by rcases hp_x with h | h <;> rcases hp_m with g | g <;> first | (exfalso; omega) | (simp only [h, g])
  refine lv_icmp_eq (tgt := 1965) hx hb dL_law_1781 (by decide) (fun _ => ?_) (fun c_0 => absurd heq c_0)
  exact lc_end C0 hS (lv_sub hl [0, 3] rfl)
set_option maxHeartbeats 4000000 in
set_option maxRecDepth 100000 in
theorem lc_58 {p : Program} {e : Env} {s : State} {m : MethodId} {below : List Frame} {meth : Method} {c : Code} {l : Launch} {b : Nat} {xs : Nat → Int32} {D : va_G} {qx qm : Nat → Nat} {cx cm : Nat → ClassId} {H : Heap} {locs : List Loc} {ls : Array Slot} (C : zLaw p s m meth c b xs D qx qm cx cm) (hPx : va_P D vwCl (zw 81 qx (zXd qx cx) zXI0 zXR0 zXJ0) H) (hDx : va_D (zLA s) (zw 81 qx (zXd qx cx) zXI0 zXR0 zXJ0)) (hPm : va_P D vwCl (zw 25 qm (zMd qm cm) zMI0 zMR0 zMJ0) H) (hDm : va_D (zLA s) (zw 25 qm (zMd qm cm) zMI0 zMR0 zMJ0)) (hS : va_S (zLA s) s.heap H locs) (hl : lv_has ls 4 [(0, .ref b), (1, .ref (qx 0)), (2, .ref (qm 0)), (3, .int (nI 0))]) : W p l e room_1 s m #[Value.ref b] below meth c H locs 600000 7302250 (lw_Z below #[Value.ref b] s) (F0 m 1786 ls []) := by
  have C0 := C
  obtain ⟨⟨hx, hb, hr, hml, hown, hts, hX, hbl, hlocks, hgv⟩, hKx, hKm, hdis⟩ := C
  have hown : s.vm.findClass "ReceiptLeftLaw" = some m.cls := hown
  have ht : ∀ w ∈ zT, w.before #[Value.ref b] s = true := fun w h => hts w (zT_lw w h)
  have hA : ∀ a, s.heap.size ≤ a → zLA s a := fun _ h => h
  have hbA : ¬ zLA s b := Nat.not_le.mpr hbl
  refine lv_aload_n hx hb dL_law_1786 rfl (lv_at hl 1 rfl) ?_
  refine lv_aload_n hx hb dL_law_1787 rfl (lv_at hl 0 rfl) ?_
  refine lv_iload_n hx hb dL_law_1788 rfl (lv_at hl 3 rfl) ?_
  refine lv_iconst (v := nI 1) hx hb dL_law_1789 (by decide +kernel) ?_
  refine lv_iadd hx hb dL_law_1790 ?_
  refine z_eqi (y := nI 1) (by decide +kernel) ?_
  refine va_sld hx hb hX hbl hbA hS (vp_in_nI (by decide) (by decide)) dL_law_1791 ?_
  refine z_eqi (y := xs 1) rfl ?_
  refine lv_aload_n hx hb dL_law_1792 rfl (lv_at hl 0 rfl) ?_
  refine lv_iload_n hx hb dL_law_1793 rfl (lv_at hl 3 rfl) ?_
  refine lv_iconst (v := nI 2) hx hb dL_law_1794 (by decide +kernel) ?_
  refine lv_iadd hx hb dL_law_1795 ?_
  refine z_eqi (y := nI 2) (by decide +kernel) ?_
  refine va_sld hx hb hX hbl hbA hS (vp_in_nI (by decide) (by decide)) dL_law_1796 ?_
  refine z_eqi (y := xs 2) rfl ?_
  refine lv_aload_n hx hb dL_law_1797 rfl (lv_at hl 0 rfl) ?_
  refine lv_iload_n hx hb dL_law_1798 rfl (lv_at hl 3 rfl) ?_
  refine lv_iconst (v := nI 3) hx hb dL_law_1799 (by decide +kernel) ?_
  refine lv_iadd hx hb dL_law_1800 ?_
  refine z_eqi (y := nI 3) (by decide +kernel) ?_
  refine va_sld hx hb hX hbl hbA hS (vp_in_nI (by decide) (by decide)) dL_law_1801 ?_
  refine z_eqi (y := xs 3) rfl ?_
  refine z_callVi (k := 0) (As := [.int (xs 1), .int (xs 2), .int (xs 3)]) (rest := []) hx hb hml hown ht (kX10_row l D qx cx (xs 1) (xs 2) (xs 3)) hw_5_154 hmX10_row ⟨rfl, rfl⟩ (na := 3) rfl (by decide +kernel) ⟨Nat.le_of_ble_eq_true rfl, Nat.le_of_ble_eq_true rfl⟩ (by decide) rfl rfl hKx hPx hDx hS hA hl.1 rfl (Nat.le_of_ble_eq_true rfl) ⟨Nat.le_of_ble_eq_true rfl, Nat.le_of_ble_eq_true rfl⟩ dL_law_1802 (fun r_x I_x R_x J_x H1 locs hp_x hPx hDx hS hz_x hk_x => ?_)
  have hPm := z_frame (q := qx) (n := 81) hPm hdis hk_x
  generalize H1 = H at hPm hPx hS ⊢
  refine lv_aload_n hx hb dL_law_1805 rfl (lv_at hl 2 rfl) ?_
  refine lv_aload_n hx hb dL_law_1806 rfl (lv_at hl 0 rfl) ?_
  refine lv_iload_n hx hb dL_law_1807 rfl (lv_at hl 3 rfl) ?_
  refine lv_iconst (v := nI 1) hx hb dL_law_1808 (by decide +kernel) ?_
  refine lv_iadd hx hb dL_law_1809 ?_
  refine z_eqi (y := nI 1) (by decide +kernel) ?_
  refine va_sld hx hb hX hbl hbA hS (vp_in_nI (by decide) (by decide)) dL_law_1810 ?_
  refine z_eqi (y := xs 1) rfl ?_
  refine lv_aload_n hx hb dL_law_1811 rfl (lv_at hl 0 rfl) ?_
  refine lv_iload_n hx hb dL_law_1812 rfl (lv_at hl 3 rfl) ?_
  refine lv_iconst (v := nI 2) hx hb dL_law_1813 (by decide +kernel) ?_
  refine lv_iadd hx hb dL_law_1814 ?_
  refine z_eqi (y := nI 2) (by decide +kernel) ?_
  refine va_sld hx hb hX hbl hbA hS (vp_in_nI (by decide) (by decide)) dL_law_1815 ?_
  refine z_eqi (y := xs 2) rfl ?_
  refine lv_aload_n hx hb dL_law_1816 rfl (lv_at hl 0 rfl) ?_
  refine lv_iload_n hx hb dL_law_1817 rfl (lv_at hl 3 rfl) ?_
  refine lv_iconst (v := nI 3) hx hb dL_law_1818 (by decide +kernel) ?_
  refine lv_iadd hx hb dL_law_1819 ?_
  refine z_eqi (y := nI 3) (by decide +kernel) ?_
  refine va_sld hx hb hX hbl hbA hS (vp_in_nI (by decide) (by decide)) dL_law_1820 ?_
  refine z_eqi (y := xs 3) rfl ?_
  refine z_callVi (k := 0) (As := [.int (xs 1), .int (xs 2), .int (xs 3)]) (rest := [.int (r_x)]) hx hb hml hown ht (kX11_row l D qm cm (xs 1) (xs 2) (xs 3)) hw_8_148 hmX11_row ⟨rfl, rfl⟩ (na := 3) rfl (by decide +kernel) ⟨Nat.le_of_ble_eq_true rfl, Nat.le_of_ble_eq_true rfl⟩ (by decide) rfl rfl hKm hPm hDm hS hA hl.1 rfl (Nat.le_of_ble_eq_true rfl) ⟨Nat.le_of_ble_eq_true rfl, Nat.le_of_ble_eq_true rfl⟩ dL_law_1821 (fun r_m I_m R_m J_m H1 locs hp_m hPm hDm hS hz_m hk_m => ?_)
  have heq : r_x = r_m := by rcases hp_x with h | h | h <;> rcases hp_m with g | g | g <;> first | (exfalso; omega) | (simp only [h, g])
  refine lv_icmp_eq (tgt := 1965) hx hb dL_law_1824 (by decide) (fun _ => ?_) (fun c_0 => absurd heq c_0)
  exact lc_end C0 hS (lv_sub hl [0, 3] rfl)
set_option maxHeartbeats 4000000 in
set_option maxRecDepth 100000 in
theorem lc_59 {p : Program} {e : Env} {s : State} {m : MethodId} {below : List Frame} {meth : Method} {c : Code} {l : Launch} {b : Nat} {xs : Nat → Int32} {D : va_G} {qx qm : Nat → Nat} {cx cm : Nat → ClassId} {H : Heap} {locs : List Loc} {ls : Array Slot} (C : zLaw p s m meth c b xs D qx qm cx cm) (hPx : va_P D vwCl (zw 81 qx (zXd qx cx) zXI0 zXR0 zXJ0) H) (hDx : va_D (zLA s) (zw 81 qx (zXd qx cx) zXI0 zXR0 zXJ0)) (hPm : va_P D vwCl (zw 25 qm (zMd qm cm) zMI0 zMR0 zMJ0) H) (hDm : va_D (zLA s) (zw 25 qm (zMd qm cm) zMI0 zMR0 zMJ0)) (hS : va_S (zLA s) s.heap H locs) (hl : lv_has ls 4 [(0, .ref b), (1, .ref (qx 0)), (2, .ref (qm 0)), (3, .int (nI 0))]) : W p l e room_1 s m #[Value.ref b] below meth c H locs 600000 7302250 (lw_Z below #[Value.ref b] s) (F0 m 1829 ls []) := by
  have C0 := C
  obtain ⟨⟨hx, hb, hr, hml, hown, hts, hX, hbl, hlocks, hgv⟩, hKx, hKm, hdis⟩ := C
  have hown : s.vm.findClass "ReceiptLeftLaw" = some m.cls := hown
  have ht : ∀ w ∈ zT, w.before #[Value.ref b] s = true := fun w h => hts w (zT_lw w h)
  have hA : ∀ a, s.heap.size ≤ a → zLA s a := fun _ h => h
  have hbA : ¬ zLA s b := Nat.not_le.mpr hbl
  refine lv_aload_n hx hb dL_law_1829 rfl (lv_at hl 1 rfl) ?_
  refine lv_aload_n hx hb dL_law_1830 rfl (lv_at hl 0 rfl) ?_
  refine lv_iload_n hx hb dL_law_1831 rfl (lv_at hl 3 rfl) ?_
  refine lv_iconst (v := nI 1) hx hb dL_law_1832 (by decide +kernel) ?_
  refine lv_iadd hx hb dL_law_1833 ?_
  refine z_eqi (y := nI 1) (by decide +kernel) ?_
  refine va_sld hx hb hX hbl hbA hS (vp_in_nI (by decide) (by decide)) dL_law_1834 ?_
  refine z_eqi (y := xs 1) rfl ?_
  refine lv_aload_n hx hb dL_law_1835 rfl (lv_at hl 0 rfl) ?_
  refine lv_iload_n hx hb dL_law_1836 rfl (lv_at hl 3 rfl) ?_
  refine lv_iconst (v := nI 2) hx hb dL_law_1837 (by decide +kernel) ?_
  refine lv_iadd hx hb dL_law_1838 ?_
  refine z_eqi (y := nI 2) (by decide +kernel) ?_
  refine va_sld hx hb hX hbl hbA hS (vp_in_nI (by decide) (by decide)) dL_law_1839 ?_
  refine z_eqi (y := xs 2) rfl ?_
  refine lv_aload_n hx hb dL_law_1840 rfl (lv_at hl 0 rfl) ?_
  refine lv_iload_n hx hb dL_law_1841 rfl (lv_at hl 3 rfl) ?_
  refine lv_iconst (v := nI 3) hx hb dL_law_1842 (by decide +kernel) ?_
  refine lv_iadd hx hb dL_law_1843 ?_
  refine z_eqi (y := nI 3) (by decide +kernel) ?_
  refine va_sld hx hb hX hbl hbA hS (vp_in_nI (by decide) (by decide)) dL_law_1844 ?_
  refine z_eqi (y := xs 3) rfl ?_
  refine lv_i2l (v := (xs 3).toInt64) hx hb dL_law_1845 rfl ?_
  refine lv_bipush (v := nI 32) hx hb dL_law_1846 (by decide +kernel) ?_
  refine lv_lshl (v := ((xs 3).toInt64) <<< ((nI 32).toInt64 &&& 63)) hx hb dL_law_1848 rfl ?_
  refine lv_aload_n hx hb dL_law_1849 rfl (lv_at hl 0 rfl) ?_
  refine lv_iload_n hx hb dL_law_1850 rfl (lv_at hl 3 rfl) ?_
  refine lv_iconst (v := nI 4) hx hb dL_law_1851 (by decide +kernel) ?_
  refine lv_iadd hx hb dL_law_1852 ?_
  refine z_eqi (y := nI 4) (by decide +kernel) ?_
  refine va_sld hx hb hX hbl hbA hS (vp_in_nI (by decide) (by decide)) dL_law_1853 ?_
  refine z_eqi (y := xs 4) rfl ?_
  refine lv_i2l (v := (xs 4).toInt64) hx hb dL_law_1854 rfl ?_
  refine lv_ldc2 (v := (4294967295 : Int64)) hx hb hown (ht _ hw_8_163) dL_law_1855 ?_
  refine lv_land hx hb dL_law_1858 ?_
  refine lv_lor hx hb dL_law_1859 ?_
  refine z_callVi (k := 0) (As := [.int (xs 1), .int (xs 2), .long ((((xs 3).toInt64) <<< ((nI 32).toInt64 &&& 63)) ||| (((xs 4).toInt64) &&& ((4294967295 : Int64))))]) (rest := []) hx hb hml hown ht (kX10_write l D qx cx (xs 1) (xs 2) ((((xs 3).toInt64) <<< ((nI 32).toInt64 &&& 63)) ||| (((xs 4).toInt64) &&& ((4294967295 : Int64))))) hw_5_165 hmX10_write ⟨rfl, rfl⟩ (na := 3) rfl (by decide +kernel) ⟨Nat.le_of_ble_eq_true rfl, Nat.le_of_ble_eq_true rfl⟩ (by decide) rfl rfl hKx hPx hDx hS hA hl.1 rfl (Nat.le_of_ble_eq_true rfl) ⟨Nat.le_of_ble_eq_true rfl, Nat.le_of_ble_eq_true rfl⟩ dL_law_1860 (fun r_x I_x R_x J_x H1 locs hp_x hPx hDx hS hz_x hk_x => ?_)
  have hPm := z_frame (q := qx) (n := 81) hPm hdis hk_x
  generalize H1 = H at hPm hPx hS ⊢
  refine lv_aload_n hx hb dL_law_1863 rfl (lv_at hl 2 rfl) ?_
  refine lv_aload_n hx hb dL_law_1864 rfl (lv_at hl 0 rfl) ?_
  refine lv_iload_n hx hb dL_law_1865 rfl (lv_at hl 3 rfl) ?_
  refine lv_iconst (v := nI 1) hx hb dL_law_1866 (by decide +kernel) ?_
  refine lv_iadd hx hb dL_law_1867 ?_
  refine z_eqi (y := nI 1) (by decide +kernel) ?_
  refine va_sld hx hb hX hbl hbA hS (vp_in_nI (by decide) (by decide)) dL_law_1868 ?_
  refine z_eqi (y := xs 1) rfl ?_
  refine lv_aload_n hx hb dL_law_1869 rfl (lv_at hl 0 rfl) ?_
  refine lv_iload_n hx hb dL_law_1870 rfl (lv_at hl 3 rfl) ?_
  refine lv_iconst (v := nI 2) hx hb dL_law_1871 (by decide +kernel) ?_
  refine lv_iadd hx hb dL_law_1872 ?_
  refine z_eqi (y := nI 2) (by decide +kernel) ?_
  refine va_sld hx hb hX hbl hbA hS (vp_in_nI (by decide) (by decide)) dL_law_1873 ?_
  refine z_eqi (y := xs 2) rfl ?_
  refine lv_aload_n hx hb dL_law_1874 rfl (lv_at hl 0 rfl) ?_
  refine lv_iload_n hx hb dL_law_1875 rfl (lv_at hl 3 rfl) ?_
  refine lv_iconst (v := nI 3) hx hb dL_law_1876 (by decide +kernel) ?_
  refine lv_iadd hx hb dL_law_1877 ?_
  refine z_eqi (y := nI 3) (by decide +kernel) ?_
  refine va_sld hx hb hX hbl hbA hS (vp_in_nI (by decide) (by decide)) dL_law_1878 ?_
  refine z_eqi (y := xs 3) rfl ?_
  refine lv_i2l (v := (xs 3).toInt64) hx hb dL_law_1879 rfl ?_
  refine lv_bipush (v := nI 32) hx hb dL_law_1880 (by decide +kernel) ?_
  refine lv_lshl (v := ((xs 3).toInt64) <<< ((nI 32).toInt64 &&& 63)) hx hb dL_law_1882 rfl ?_
  refine lv_aload_n hx hb dL_law_1883 rfl (lv_at hl 0 rfl) ?_
  refine lv_iload_n hx hb dL_law_1884 rfl (lv_at hl 3 rfl) ?_
  refine lv_iconst (v := nI 4) hx hb dL_law_1885 (by decide +kernel) ?_
  refine lv_iadd hx hb dL_law_1886 ?_
  refine z_eqi (y := nI 4) (by decide +kernel) ?_
  refine va_sld hx hb hX hbl hbA hS (vp_in_nI (by decide) (by decide)) dL_law_1887 ?_
  refine z_eqi (y := xs 4) rfl ?_
  refine lv_i2l (v := (xs 4).toInt64) hx hb dL_law_1888 rfl ?_
  refine lv_ldc2 (v := (4294967295 : Int64)) hx hb hown (ht _ hw_8_163) dL_law_1889 ?_
  refine lv_land hx hb dL_law_1892 ?_
  refine lv_lor hx hb dL_law_1893 ?_
  refine z_callVi (k := 0) (As := [.int (xs 1), .int (xs 2), .long ((((xs 3).toInt64) <<< ((nI 32).toInt64 &&& 63)) ||| (((xs 4).toInt64) &&& ((4294967295 : Int64))))]) (rest := [.int (r_x)]) hx hb hml hown ht (kX11_write l D qm cm (xs 1) (xs 2) ((((xs 3).toInt64) <<< ((nI 32).toInt64 &&& 63)) ||| (((xs 4).toInt64) &&& ((4294967295 : Int64))))) hw_8_152 hmX11_write ⟨rfl, rfl⟩ (na := 3) rfl (by decide +kernel) ⟨Nat.le_of_ble_eq_true rfl, Nat.le_of_ble_eq_true rfl⟩ (by decide) rfl rfl hKm hPm hDm hS hA hl.1 rfl (Nat.le_of_ble_eq_true rfl) ⟨Nat.le_of_ble_eq_true rfl, Nat.le_of_ble_eq_true rfl⟩ dL_law_1894 (fun r_m I_m R_m J_m H1 locs hp_m hPm hDm hS hz_m hk_m => ?_)
  have heq : r_x = r_m := by rcases hp_x with h | h <;> rcases hp_m with g | g <;> first | (exfalso; omega) | (simp only [h, g])
  refine lv_icmp_eq (tgt := 1965) hx hb dL_law_1897 (by decide) (fun _ => ?_) (fun c_0 => absurd heq c_0)
  exact lc_end C0 hS (lv_sub hl [0, 3] rfl)
set_option maxHeartbeats 4000000 in
set_option maxRecDepth 100000 in
theorem lc_60 {p : Program} {e : Env} {s : State} {m : MethodId} {below : List Frame} {meth : Method} {c : Code} {l : Launch} {b : Nat} {xs : Nat → Int32} {D : va_G} {qx qm : Nat → Nat} {cx cm : Nat → ClassId} {H : Heap} {locs : List Loc} {ls : Array Slot} (C : zLaw p s m meth c b xs D qx qm cx cm) (hPx : va_P D vwCl (zw 81 qx (zXd qx cx) zXI0 zXR0 zXJ0) H) (hDx : va_D (zLA s) (zw 81 qx (zXd qx cx) zXI0 zXR0 zXJ0)) (hPm : va_P D vwCl (zw 25 qm (zMd qm cm) zMI0 zMR0 zMJ0) H) (hDm : va_D (zLA s) (zw 25 qm (zMd qm cm) zMI0 zMR0 zMJ0)) (hS : va_S (zLA s) s.heap H locs) (hl : lv_has ls 4 [(0, .ref b), (1, .ref (qx 0)), (2, .ref (qm 0)), (3, .int (nI 0))]) : W p l e room_1 s m #[Value.ref b] below meth c H locs 600000 7302250 (lw_Z below #[Value.ref b] s) (F0 m 1902 ls []) := by
  have C0 := C
  obtain ⟨⟨hx, hb, hr, hml, hown, hts, hX, hbl, hlocks, hgv⟩, hKx, hKm, hdis⟩ := C
  have hown : s.vm.findClass "ReceiptLeftLaw" = some m.cls := hown
  have ht : ∀ w ∈ zT, w.before #[Value.ref b] s = true := fun w h => hts w (zT_lw w h)
  have hA : ∀ a, s.heap.size ≤ a → zLA s a := fun _ h => h
  have hbA : ¬ zLA s b := Nat.not_le.mpr hbl
  refine lv_aload_n hx hb dL_law_1902 rfl (lv_at hl 1 rfl) ?_
  refine lv_aload_n hx hb dL_law_1903 rfl (lv_at hl 0 rfl) ?_
  refine lv_iload_n hx hb dL_law_1904 rfl (lv_at hl 3 rfl) ?_
  refine lv_iconst (v := nI 1) hx hb dL_law_1905 (by decide +kernel) ?_
  refine lv_iadd hx hb dL_law_1906 ?_
  refine z_eqi (y := nI 1) (by decide +kernel) ?_
  refine va_sld hx hb hX hbl hbA hS (vp_in_nI (by decide) (by decide)) dL_law_1907 ?_
  refine z_eqi (y := xs 1) rfl ?_
  refine lv_aload_n hx hb dL_law_1908 rfl (lv_at hl 0 rfl) ?_
  refine lv_iload_n hx hb dL_law_1909 rfl (lv_at hl 3 rfl) ?_
  refine lv_iconst (v := nI 2) hx hb dL_law_1910 (by decide +kernel) ?_
  refine lv_iadd hx hb dL_law_1911 ?_
  refine z_eqi (y := nI 2) (by decide +kernel) ?_
  refine va_sld hx hb hX hbl hbA hS (vp_in_nI (by decide) (by decide)) dL_law_1912 ?_
  refine z_eqi (y := xs 2) rfl ?_
  refine lv_aload_n hx hb dL_law_1913 rfl (lv_at hl 0 rfl) ?_
  refine lv_iload_n hx hb dL_law_1914 rfl (lv_at hl 3 rfl) ?_
  refine lv_iconst (v := nI 3) hx hb dL_law_1915 (by decide +kernel) ?_
  refine lv_iadd hx hb dL_law_1916 ?_
  refine z_eqi (y := nI 3) (by decide +kernel) ?_
  refine va_sld hx hb hX hbl hbA hS (vp_in_nI (by decide) (by decide)) dL_law_1917 ?_
  refine z_eqi (y := xs 3) rfl ?_
  refine lv_aload_n hx hb dL_law_1918 rfl (lv_at hl 0 rfl) ?_
  refine lv_iload_n hx hb dL_law_1919 rfl (lv_at hl 3 rfl) ?_
  refine lv_iconst (v := nI 4) hx hb dL_law_1920 (by decide +kernel) ?_
  refine lv_iadd hx hb dL_law_1921 ?_
  refine z_eqi (y := nI 4) (by decide +kernel) ?_
  refine va_sld hx hb hX hbl hbA hS (vp_in_nI (by decide) (by decide)) dL_law_1922 ?_
  refine z_eqi (y := xs 4) rfl ?_
  refine lv_aload_n hx hb dL_law_1923 rfl (lv_at hl 0 rfl) ?_
  refine lv_iload_n hx hb dL_law_1924 rfl (lv_at hl 3 rfl) ?_
  refine lv_iconst (v := nI 5) hx hb dL_law_1925 (by decide +kernel) ?_
  refine lv_iadd hx hb dL_law_1926 ?_
  refine z_eqi (y := nI 5) (by decide +kernel) ?_
  refine va_sld hx hb hX hbl hbA hS (vp_in_nI (by decide) (by decide)) dL_law_1927 ?_
  refine z_eqi (y := xs 5) rfl ?_
  refine z_callVi (k := 0) (As := [.int (xs 1), .int (xs 2), .int (xs 3), .int (xs 4), .int (xs 5)]) (rest := []) hx hb hml hown ht (kX10_paste l D qx cx (xs 1) (xs 2) (xs 3) (xs 4) (xs 5)) hw_5_173 hmX10_paste ⟨rfl, rfl⟩ (na := 5) rfl (by decide +kernel) ⟨Nat.le_of_ble_eq_true rfl, Nat.le_of_ble_eq_true rfl⟩ (by decide) rfl rfl hKx hPx hDx hS hA hl.1 rfl (Nat.le_of_ble_eq_true rfl) ⟨Nat.le_of_ble_eq_true rfl, Nat.le_of_ble_eq_true rfl⟩ dL_law_1928 (fun r_x I_x R_x J_x H1 locs hp_x hPx hDx hS hz_x hk_x => ?_)
  have hPm := z_frame (q := qx) (n := 81) hPm hdis hk_x
  generalize H1 = H at hPm hPx hS ⊢
  refine lv_aload_n hx hb dL_law_1931 rfl (lv_at hl 2 rfl) ?_
  refine lv_aload_n hx hb dL_law_1932 rfl (lv_at hl 0 rfl) ?_
  refine lv_iload_n hx hb dL_law_1933 rfl (lv_at hl 3 rfl) ?_
  refine lv_iconst (v := nI 1) hx hb dL_law_1934 (by decide +kernel) ?_
  refine lv_iadd hx hb dL_law_1935 ?_
  refine z_eqi (y := nI 1) (by decide +kernel) ?_
  refine va_sld hx hb hX hbl hbA hS (vp_in_nI (by decide) (by decide)) dL_law_1936 ?_
  refine z_eqi (y := xs 1) rfl ?_
  refine lv_aload_n hx hb dL_law_1937 rfl (lv_at hl 0 rfl) ?_
  refine lv_iload_n hx hb dL_law_1938 rfl (lv_at hl 3 rfl) ?_
  refine lv_iconst (v := nI 2) hx hb dL_law_1939 (by decide +kernel) ?_
  refine lv_iadd hx hb dL_law_1940 ?_
  refine z_eqi (y := nI 2) (by decide +kernel) ?_
  refine va_sld hx hb hX hbl hbA hS (vp_in_nI (by decide) (by decide)) dL_law_1941 ?_
  refine z_eqi (y := xs 2) rfl ?_
  refine lv_aload_n hx hb dL_law_1942 rfl (lv_at hl 0 rfl) ?_
  refine lv_iload_n hx hb dL_law_1943 rfl (lv_at hl 3 rfl) ?_
  refine lv_iconst (v := nI 3) hx hb dL_law_1944 (by decide +kernel) ?_
  refine lv_iadd hx hb dL_law_1945 ?_
  refine z_eqi (y := nI 3) (by decide +kernel) ?_
  refine va_sld hx hb hX hbl hbA hS (vp_in_nI (by decide) (by decide)) dL_law_1946 ?_
  refine z_eqi (y := xs 3) rfl ?_
  refine lv_aload_n hx hb dL_law_1947 rfl (lv_at hl 0 rfl) ?_
  refine lv_iload_n hx hb dL_law_1948 rfl (lv_at hl 3 rfl) ?_
  refine lv_iconst (v := nI 4) hx hb dL_law_1949 (by decide +kernel) ?_
  refine lv_iadd hx hb dL_law_1950 ?_
  refine z_eqi (y := nI 4) (by decide +kernel) ?_
  refine va_sld hx hb hX hbl hbA hS (vp_in_nI (by decide) (by decide)) dL_law_1951 ?_
  refine z_eqi (y := xs 4) rfl ?_
  refine lv_aload_n hx hb dL_law_1952 rfl (lv_at hl 0 rfl) ?_
  refine lv_iload_n hx hb dL_law_1953 rfl (lv_at hl 3 rfl) ?_
  refine lv_iconst (v := nI 5) hx hb dL_law_1954 (by decide +kernel) ?_
  refine lv_iadd hx hb dL_law_1955 ?_
  refine z_eqi (y := nI 5) (by decide +kernel) ?_
  refine va_sld hx hb hX hbl hbA hS (vp_in_nI (by decide) (by decide)) dL_law_1956 ?_
  refine z_eqi (y := xs 5) rfl ?_
  refine z_callVi (k := 0) (As := [.int (xs 1), .int (xs 2), .int (xs 3), .int (xs 4), .int (xs 5)]) (rest := [.int (r_x)]) hx hb hml hown ht (kX11_paste l D qm cm (xs 1) (xs 2) (xs 3) (xs 4) (xs 5)) hw_8_159 hmX11_paste ⟨rfl, rfl⟩ (na := 5) rfl (by decide +kernel) ⟨Nat.le_of_ble_eq_true rfl, Nat.le_of_ble_eq_true rfl⟩ (by decide) rfl rfl hKm hPm hDm hS hA hl.1 rfl (Nat.le_of_ble_eq_true rfl) ⟨Nat.le_of_ble_eq_true rfl, Nat.le_of_ble_eq_true rfl⟩ dL_law_1957 (fun r_m I_m R_m J_m H1 locs hp_m hPm hDm hS hz_m hk_m => ?_)
  have heq : r_x = r_m := by rcases hp_x with h | h <;> rcases hp_m with g | g <;> first | (exfalso; omega) | (simp only [h, g])
  refine lv_icmp_eq (tgt := 1965) hx hb dL_law_1960 (by decide) (fun _ => ?_) (fun c_0 => absurd heq c_0)
  exact lc_end C0 hS (lv_sub hl [0, 3] rfl)
