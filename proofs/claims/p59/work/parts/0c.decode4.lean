theorem dL_law_1849 : decode cL_law 1849 = .ok (.aload_n 0, 1) := by decide +kernel
theorem dL_law_1850 : decode cL_law 1850 = .ok (.iload_n 3, 1) := by decide +kernel
theorem dL_law_1851 : decode cL_law 1851 = .ok (.iconst 4, 1) := by decide +kernel
theorem dL_law_1852 : decode cL_law 1852 = .ok (.iadd, 1) := by decide +kernel
theorem dL_law_1853 : decode cL_law 1853 = .ok (.iaload, 1) := by decide +kernel
theorem dL_law_1854 : decode cL_law 1854 = .ok (.i2l, 1) := by decide +kernel
theorem dL_law_1855 : decode cL_law 1855 = .ok (.ldc2_w 254, 3) := by decide +kernel
theorem dL_law_1858 : decode cL_law 1858 = .ok (.land, 1) := by decide +kernel
theorem dL_law_1859 : decode cL_law 1859 = .ok (.lor, 1) := by decide +kernel
theorem dL_law_1860 : decode cL_law 1860 = .ok (.invokevirtual 256, 3) := by decide +kernel
theorem dL_law_1863 : decode cL_law 1863 = .ok (.pop, 1) := by decide +kernel
theorem dL_law_1864 : decode cL_law 1864 = .ok (.aload_n 2, 1) := by decide +kernel
theorem dL_law_1865 : decode cL_law 1865 = .ok (.aload_n 0, 1) := by decide +kernel
theorem dL_law_1866 : decode cL_law 1866 = .ok (.iload_n 3, 1) := by decide +kernel
theorem dL_law_1867 : decode cL_law 1867 = .ok (.iconst 1, 1) := by decide +kernel
theorem dL_law_1868 : decode cL_law 1868 = .ok (.iadd, 1) := by decide +kernel
theorem dL_law_1869 : decode cL_law 1869 = .ok (.iaload, 1) := by decide +kernel
theorem dL_law_1870 : decode cL_law 1870 = .ok (.aload_n 0, 1) := by decide +kernel
theorem dL_law_1871 : decode cL_law 1871 = .ok (.iload_n 3, 1) := by decide +kernel
theorem dL_law_1872 : decode cL_law 1872 = .ok (.iconst 2, 1) := by decide +kernel
theorem dL_law_1873 : decode cL_law 1873 = .ok (.iadd, 1) := by decide +kernel
theorem dL_law_1874 : decode cL_law 1874 = .ok (.iaload, 1) := by decide +kernel
theorem dL_law_1875 : decode cL_law 1875 = .ok (.aload_n 0, 1) := by decide +kernel
theorem dL_law_1876 : decode cL_law 1876 = .ok (.iload_n 3, 1) := by decide +kernel
theorem dL_law_1877 : decode cL_law 1877 = .ok (.iconst 3, 1) := by decide +kernel
theorem dL_law_1878 : decode cL_law 1878 = .ok (.iadd, 1) := by decide +kernel
theorem dL_law_1879 : decode cL_law 1879 = .ok (.iaload, 1) := by decide +kernel
theorem dL_law_1880 : decode cL_law 1880 = .ok (.i2l, 1) := by decide +kernel
theorem dL_law_1881 : decode cL_law 1881 = .ok (.bipush 32, 2) := by decide +kernel
theorem dL_law_1883 : decode cL_law 1883 = .ok (.lshl, 1) := by decide +kernel
theorem dL_law_1884 : decode cL_law 1884 = .ok (.aload_n 0, 1) := by decide +kernel
theorem dL_law_1885 : decode cL_law 1885 = .ok (.iload_n 3, 1) := by decide +kernel
theorem dL_law_1886 : decode cL_law 1886 = .ok (.iconst 4, 1) := by decide +kernel
theorem dL_law_1887 : decode cL_law 1887 = .ok (.iadd, 1) := by decide +kernel
theorem dL_law_1888 : decode cL_law 1888 = .ok (.iaload, 1) := by decide +kernel
theorem dL_law_1889 : decode cL_law 1889 = .ok (.i2l, 1) := by decide +kernel
theorem dL_law_1890 : decode cL_law 1890 = .ok (.ldc2_w 254, 3) := by decide +kernel
theorem dL_law_1893 : decode cL_law 1893 = .ok (.land, 1) := by decide +kernel
theorem dL_law_1894 : decode cL_law 1894 = .ok (.lor, 1) := by decide +kernel
theorem dL_law_1895 : decode cL_law 1895 = .ok (.invokevirtual 260, 3) := by decide +kernel
theorem dL_law_1898 : decode cL_law 1898 = .ok (.pop, 1) := by decide +kernel
theorem dL_law_1899 : decode cL_law 1899 = .ok (.goto 66, 3) := by decide +kernel
theorem dL_law_1902 : decode cL_law 1902 = .ok (.aload_n 1, 1) := by decide +kernel
theorem dL_law_1903 : decode cL_law 1903 = .ok (.aload_n 0, 1) := by decide +kernel
theorem dL_law_1904 : decode cL_law 1904 = .ok (.iload_n 3, 1) := by decide +kernel
theorem dL_law_1905 : decode cL_law 1905 = .ok (.iconst 1, 1) := by decide +kernel
theorem dL_law_1906 : decode cL_law 1906 = .ok (.iadd, 1) := by decide +kernel
theorem dL_law_1907 : decode cL_law 1907 = .ok (.iaload, 1) := by decide +kernel
theorem dL_law_1908 : decode cL_law 1908 = .ok (.aload_n 0, 1) := by decide +kernel
theorem dL_law_1909 : decode cL_law 1909 = .ok (.iload_n 3, 1) := by decide +kernel
theorem dL_law_1910 : decode cL_law 1910 = .ok (.iconst 2, 1) := by decide +kernel
theorem dL_law_1911 : decode cL_law 1911 = .ok (.iadd, 1) := by decide +kernel
theorem dL_law_1912 : decode cL_law 1912 = .ok (.iaload, 1) := by decide +kernel
theorem dL_law_1913 : decode cL_law 1913 = .ok (.aload_n 0, 1) := by decide +kernel
theorem dL_law_1914 : decode cL_law 1914 = .ok (.iload_n 3, 1) := by decide +kernel
theorem dL_law_1915 : decode cL_law 1915 = .ok (.iconst 3, 1) := by decide +kernel
theorem dL_law_1916 : decode cL_law 1916 = .ok (.iadd, 1) := by decide +kernel
theorem dL_law_1917 : decode cL_law 1917 = .ok (.iaload, 1) := by decide +kernel
theorem dL_law_1918 : decode cL_law 1918 = .ok (.aload_n 0, 1) := by decide +kernel
theorem dL_law_1919 : decode cL_law 1919 = .ok (.iload_n 3, 1) := by decide +kernel
theorem dL_law_1920 : decode cL_law 1920 = .ok (.iconst 4, 1) := by decide +kernel
theorem dL_law_1921 : decode cL_law 1921 = .ok (.iadd, 1) := by decide +kernel
theorem dL_law_1922 : decode cL_law 1922 = .ok (.iaload, 1) := by decide +kernel
theorem dL_law_1923 : decode cL_law 1923 = .ok (.aload_n 0, 1) := by decide +kernel
theorem dL_law_1924 : decode cL_law 1924 = .ok (.iload_n 3, 1) := by decide +kernel
theorem dL_law_1925 : decode cL_law 1925 = .ok (.iconst 5, 1) := by decide +kernel
theorem dL_law_1926 : decode cL_law 1926 = .ok (.iadd, 1) := by decide +kernel
theorem dL_law_1927 : decode cL_law 1927 = .ok (.iaload, 1) := by decide +kernel
theorem dL_law_1928 : decode cL_law 1928 = .ok (.invokevirtual 261, 3) := by decide +kernel
theorem dL_law_1931 : decode cL_law 1931 = .ok (.pop, 1) := by decide +kernel
theorem dL_law_1932 : decode cL_law 1932 = .ok (.aload_n 2, 1) := by decide +kernel
theorem dL_law_1933 : decode cL_law 1933 = .ok (.aload_n 0, 1) := by decide +kernel
theorem dL_law_1934 : decode cL_law 1934 = .ok (.iload_n 3, 1) := by decide +kernel
theorem dL_law_1935 : decode cL_law 1935 = .ok (.iconst 1, 1) := by decide +kernel
theorem dL_law_1936 : decode cL_law 1936 = .ok (.iadd, 1) := by decide +kernel
theorem dL_law_1937 : decode cL_law 1937 = .ok (.iaload, 1) := by decide +kernel
theorem dL_law_1938 : decode cL_law 1938 = .ok (.aload_n 0, 1) := by decide +kernel
theorem dL_law_1939 : decode cL_law 1939 = .ok (.iload_n 3, 1) := by decide +kernel
theorem dL_law_1940 : decode cL_law 1940 = .ok (.iconst 2, 1) := by decide +kernel
theorem dL_law_1941 : decode cL_law 1941 = .ok (.iadd, 1) := by decide +kernel
theorem dL_law_1942 : decode cL_law 1942 = .ok (.iaload, 1) := by decide +kernel
theorem dL_law_1943 : decode cL_law 1943 = .ok (.aload_n 0, 1) := by decide +kernel
theorem dL_law_1944 : decode cL_law 1944 = .ok (.iload_n 3, 1) := by decide +kernel
theorem dL_law_1945 : decode cL_law 1945 = .ok (.iconst 3, 1) := by decide +kernel
theorem dL_law_1946 : decode cL_law 1946 = .ok (.iadd, 1) := by decide +kernel
theorem dL_law_1947 : decode cL_law 1947 = .ok (.iaload, 1) := by decide +kernel
theorem dL_law_1948 : decode cL_law 1948 = .ok (.aload_n 0, 1) := by decide +kernel
theorem dL_law_1949 : decode cL_law 1949 = .ok (.iload_n 3, 1) := by decide +kernel
theorem dL_law_1950 : decode cL_law 1950 = .ok (.iconst 4, 1) := by decide +kernel
theorem dL_law_1951 : decode cL_law 1951 = .ok (.iadd, 1) := by decide +kernel
theorem dL_law_1952 : decode cL_law 1952 = .ok (.iaload, 1) := by decide +kernel
theorem dL_law_1953 : decode cL_law 1953 = .ok (.aload_n 0, 1) := by decide +kernel
theorem dL_law_1954 : decode cL_law 1954 = .ok (.iload_n 3, 1) := by decide +kernel
theorem dL_law_1955 : decode cL_law 1955 = .ok (.iconst 5, 1) := by decide +kernel
theorem dL_law_1956 : decode cL_law 1956 = .ok (.iadd, 1) := by decide +kernel
theorem dL_law_1957 : decode cL_law 1957 = .ok (.iaload, 1) := by decide +kernel
theorem dL_law_1958 : decode cL_law 1958 = .ok (.invokevirtual 264, 3) := by decide +kernel
theorem dL_law_1961 : decode cL_law 1961 = .ok (.pop, 1) := by decide +kernel
theorem dL_law_1962 : decode cL_law 1962 = .ok (.goto 3, 3) := by decide +kernel
theorem dL_law_18 : decode cL_law 18 = .ok (.iload_n 3, 1) := by decide +kernel
theorem dL_law_19 : decode cL_law 19 = .ok (.aload_n 0, 1) := by decide +kernel
theorem dL_law_20 : decode cL_law 20 = .ok (.arraylength, 1) := by decide +kernel
theorem dL_law_21 : decode cL_law 21 = .ok (.bipush 6, 2) := by decide +kernel
theorem dL_law_23 : decode cL_law 23 = .ok (.isub, 1) := by decide +kernel
theorem dL_law_24 : decode cL_law 24 = .ok (.if_icmp .gt 1947, 3) := by decide +kernel
theorem dL_law_1965 : decode cL_law 1965 = .ok (.iinc 3 6, 3) := by decide +kernel
theorem dL_law_1968 : decode cL_law 1968 = .ok (.goto (-1950), 3) := by decide +kernel
theorem dL_law_27 : decode cL_law 27 = .ok (.aload_n 0, 1) := by decide +kernel
theorem dL_law_28 : decode cL_law 28 = .ok (.iload_n 3, 1) := by decide +kernel
theorem dL_law_29 : decode cL_law 29 = .ok (.iaload, 1) := by decide +kernel
theorem dL_law_30 : decode cL_law 30 = .ok (.bipush 63, 2) := by decide +kernel
theorem dL_law_32 : decode cL_law 32 = .ok (.iand, 1) := by decide +kernel
theorem dL_law_33 : decode cL_law 33 = .ok (.tableswitch 1932 0 60 #[259, 322, 345, 358, 381, 414, 447, 480, 513, 536, 559, 602, 635, 658, 681, 714, 727, 740, 753, 776, 799, 832, 845, 868, 881, 894, 907, 940, 963, 986, 999, 1022, 1035, 1058, 1081, 1104, 1137, 1170, 1183, 1206, 1229, 1262, 1305, 1338, 1351, 1374, 1397, 1420, 1433, 1456, 1479, 1502, 1545, 1608, 1641, 1684, 1707, 1730, 1753, 1796, 1869], 259) := by decide +kernel
theorem dL_law_1971 : decode cL_law 1971 = .ok (.iconst 1, 1) := by decide +kernel
theorem dL_law_1972 : decode cL_law 1972 = .ok (.ireturn, 1) := by decide +kernel
theorem dL_law_0 : decode cL_law 0 = .ok (.new 7, 3) := by decide +kernel
theorem dL_law_3 : decode cL_law 3 = .ok (.dup, 1) := by decide +kernel
theorem dL_law_4 : decode cL_law 4 = .ok (.invokespecial 9, 3) := by decide +kernel
theorem dL_law_7 : decode cL_law 7 = .ok (.astore_n 1, 1) := by decide +kernel
theorem dL_law_8 : decode cL_law 8 = .ok (.new 10, 3) := by decide +kernel
theorem dL_law_11 : decode cL_law 11 = .ok (.dup, 1) := by decide +kernel
theorem dL_law_12 : decode cL_law 12 = .ok (.invokespecial 12, 3) := by decide +kernel
theorem dL_law_15 : decode cL_law 15 = .ok (.astore_n 2, 1) := by decide +kernel
theorem dL_law_16 : decode cL_law 16 = .ok (.iconst 0, 1) := by decide +kernel
theorem dL_law_17 : decode cL_law 17 = .ok (.istore_n 3, 1) := by decide +kernel
