theorem dk_29g_1 : (cL_law.data.toList.drop 1776).take 141 = [45, 184, 1, 37, 54, 5, 44, 42, 21, 4, 4, 96, 46, 42, 21, 4, 5, 96, 46, 42, 21, 4, 6, 96, 46, 182, 1, 39, 54, 6, 167, 1, 206, 43, 42, 21, 4, 4, 96, 46, 42, 21, 4, 5, 96, 46, 42, 21, 4, 6, 96, 46, 45, 184, 1, 40, 54, 5, 44, 42, 21, 4, 4, 96, 46, 42, 21, 4, 5, 96, 46, 42, 21, 4, 6, 96, 46, 182, 1, 42, 54, 6, 167, 1, 154, 43, 42, 21, 4, 4, 96, 46, 42, 21, 4, 5, 96, 46, 45, 184, 1, 43, 54, 5, 44, 42, 21, 4, 4, 96, 46, 42, 21, 4, 5, 96, 46, 182, 1, 45, 54, 6, 167, 1, 114, 43, 42, 21, 4, 4, 96, 46, 42, 21, 4, 5, 96, 46, 45, 184, 1] := by decide +kernel
theorem dL_law_1776 : decode cL_law 1776 = .ok (.aload_n 3, 1) := dq_op45 (dq_at (j := 0) dk_29g_1 rfl rfl)
theorem dL_law_1777 : decode cL_law 1777 = .ok (.invokestatic 293, 3) := dq_op184 (dq_at (j := 1) dk_29g_1 rfl rfl) (dq_at (j := 2) dk_29g_1 rfl rfl) (dq_at (j := 3) dk_29g_1 rfl rfl) rfl
theorem dL_law_1780 : decode cL_law 1780 = .ok (.istore 5, 2) := dq_op54 (dq_at (j := 4) dk_29g_1 rfl rfl) (dq_at (j := 5) dk_29g_1 rfl rfl) rfl
theorem dL_law_1782 : decode cL_law 1782 = .ok (.aload_n 2, 1) := dq_op44 (dq_at (j := 6) dk_29g_1 rfl rfl)
theorem dL_law_1783 : decode cL_law 1783 = .ok (.aload_n 0, 1) := dq_op42 (dq_at (j := 7) dk_29g_1 rfl rfl)
theorem dL_law_1784 : decode cL_law 1784 = .ok (.iload 4, 2) := dq_op21 (dq_at (j := 8) dk_29g_1 rfl rfl) (dq_at (j := 9) dk_29g_1 rfl rfl) rfl
theorem dL_law_1786 : decode cL_law 1786 = .ok (.iconst 1, 1) := dq_op4 (dq_at (j := 10) dk_29g_1 rfl rfl)
theorem dL_law_1787 : decode cL_law 1787 = .ok (.iadd, 1) := dq_op96 (dq_at (j := 11) dk_29g_1 rfl rfl)
theorem dL_law_1788 : decode cL_law 1788 = .ok (.iaload, 1) := dq_op46 (dq_at (j := 12) dk_29g_1 rfl rfl)
theorem dL_law_1789 : decode cL_law 1789 = .ok (.aload_n 0, 1) := dq_op42 (dq_at (j := 13) dk_29g_1 rfl rfl)
theorem dL_law_1790 : decode cL_law 1790 = .ok (.iload 4, 2) := dq_op21 (dq_at (j := 14) dk_29g_1 rfl rfl) (dq_at (j := 15) dk_29g_1 rfl rfl) rfl
theorem dL_law_1792 : decode cL_law 1792 = .ok (.iconst 2, 1) := dq_op5 (dq_at (j := 16) dk_29g_1 rfl rfl)
theorem dL_law_1793 : decode cL_law 1793 = .ok (.iadd, 1) := dq_op96 (dq_at (j := 17) dk_29g_1 rfl rfl)
theorem dL_law_1794 : decode cL_law 1794 = .ok (.iaload, 1) := dq_op46 (dq_at (j := 18) dk_29g_1 rfl rfl)
theorem dL_law_1795 : decode cL_law 1795 = .ok (.aload_n 0, 1) := dq_op42 (dq_at (j := 19) dk_29g_1 rfl rfl)
theorem dL_law_1796 : decode cL_law 1796 = .ok (.iload 4, 2) := dq_op21 (dq_at (j := 20) dk_29g_1 rfl rfl) (dq_at (j := 21) dk_29g_1 rfl rfl) rfl
theorem dL_law_1798 : decode cL_law 1798 = .ok (.iconst 3, 1) := dq_op6 (dq_at (j := 22) dk_29g_1 rfl rfl)
theorem dL_law_1799 : decode cL_law 1799 = .ok (.iadd, 1) := dq_op96 (dq_at (j := 23) dk_29g_1 rfl rfl)
theorem dL_law_1800 : decode cL_law 1800 = .ok (.iaload, 1) := dq_op46 (dq_at (j := 24) dk_29g_1 rfl rfl)
theorem dL_law_1801 : decode cL_law 1801 = .ok (.invokevirtual 295, 3) := dq_op182 (dq_at (j := 25) dk_29g_1 rfl rfl) (dq_at (j := 26) dk_29g_1 rfl rfl) (dq_at (j := 27) dk_29g_1 rfl rfl) rfl
theorem dL_law_1804 : decode cL_law 1804 = .ok (.istore 6, 2) := dq_op54 (dq_at (j := 28) dk_29g_1 rfl rfl) (dq_at (j := 29) dk_29g_1 rfl rfl) rfl
theorem dL_law_1806 : decode cL_law 1806 = .ok (.goto 462, 3) := dq_op167 (dq_at (j := 30) dk_29g_1 rfl rfl) (dq_at (j := 31) dk_29g_1 rfl rfl) (dq_at (j := 32) dk_29g_1 rfl rfl) (by decide +kernel)
theorem dL_law_1809 : decode cL_law 1809 = .ok (.aload_n 1, 1) := dq_op43 (dq_at (j := 33) dk_29g_1 rfl rfl)
theorem dL_law_1810 : decode cL_law 1810 = .ok (.aload_n 0, 1) := dq_op42 (dq_at (j := 34) dk_29g_1 rfl rfl)
theorem dL_law_1811 : decode cL_law 1811 = .ok (.iload 4, 2) := dq_op21 (dq_at (j := 35) dk_29g_1 rfl rfl) (dq_at (j := 36) dk_29g_1 rfl rfl) rfl
theorem dL_law_1813 : decode cL_law 1813 = .ok (.iconst 1, 1) := dq_op4 (dq_at (j := 37) dk_29g_1 rfl rfl)
theorem dL_law_1814 : decode cL_law 1814 = .ok (.iadd, 1) := dq_op96 (dq_at (j := 38) dk_29g_1 rfl rfl)
theorem dL_law_1815 : decode cL_law 1815 = .ok (.iaload, 1) := dq_op46 (dq_at (j := 39) dk_29g_1 rfl rfl)
theorem dL_law_1816 : decode cL_law 1816 = .ok (.aload_n 0, 1) := dq_op42 (dq_at (j := 40) dk_29g_1 rfl rfl)
theorem dL_law_1817 : decode cL_law 1817 = .ok (.iload 4, 2) := dq_op21 (dq_at (j := 41) dk_29g_1 rfl rfl) (dq_at (j := 42) dk_29g_1 rfl rfl) rfl
theorem dL_law_1819 : decode cL_law 1819 = .ok (.iconst 2, 1) := dq_op5 (dq_at (j := 43) dk_29g_1 rfl rfl)
theorem dL_law_1820 : decode cL_law 1820 = .ok (.iadd, 1) := dq_op96 (dq_at (j := 44) dk_29g_1 rfl rfl)
theorem dL_law_1821 : decode cL_law 1821 = .ok (.iaload, 1) := dq_op46 (dq_at (j := 45) dk_29g_1 rfl rfl)
theorem dL_law_1822 : decode cL_law 1822 = .ok (.aload_n 0, 1) := dq_op42 (dq_at (j := 46) dk_29g_1 rfl rfl)
theorem dL_law_1823 : decode cL_law 1823 = .ok (.iload 4, 2) := dq_op21 (dq_at (j := 47) dk_29g_1 rfl rfl) (dq_at (j := 48) dk_29g_1 rfl rfl) rfl
theorem dL_law_1825 : decode cL_law 1825 = .ok (.iconst 3, 1) := dq_op6 (dq_at (j := 49) dk_29g_1 rfl rfl)
theorem dL_law_1826 : decode cL_law 1826 = .ok (.iadd, 1) := dq_op96 (dq_at (j := 50) dk_29g_1 rfl rfl)
theorem dL_law_1827 : decode cL_law 1827 = .ok (.iaload, 1) := dq_op46 (dq_at (j := 51) dk_29g_1 rfl rfl)
theorem dL_law_1828 : decode cL_law 1828 = .ok (.aload_n 3, 1) := dq_op45 (dq_at (j := 52) dk_29g_1 rfl rfl)
theorem dL_law_1829 : decode cL_law 1829 = .ok (.invokestatic 296, 3) := dq_op184 (dq_at (j := 53) dk_29g_1 rfl rfl) (dq_at (j := 54) dk_29g_1 rfl rfl) (dq_at (j := 55) dk_29g_1 rfl rfl) rfl
theorem dL_law_1832 : decode cL_law 1832 = .ok (.istore 5, 2) := dq_op54 (dq_at (j := 56) dk_29g_1 rfl rfl) (dq_at (j := 57) dk_29g_1 rfl rfl) rfl
theorem dL_law_1834 : decode cL_law 1834 = .ok (.aload_n 2, 1) := dq_op44 (dq_at (j := 58) dk_29g_1 rfl rfl)
theorem dL_law_1835 : decode cL_law 1835 = .ok (.aload_n 0, 1) := dq_op42 (dq_at (j := 59) dk_29g_1 rfl rfl)
theorem dL_law_1836 : decode cL_law 1836 = .ok (.iload 4, 2) := dq_op21 (dq_at (j := 60) dk_29g_1 rfl rfl) (dq_at (j := 61) dk_29g_1 rfl rfl) rfl
theorem dL_law_1838 : decode cL_law 1838 = .ok (.iconst 1, 1) := dq_op4 (dq_at (j := 62) dk_29g_1 rfl rfl)
theorem dL_law_1839 : decode cL_law 1839 = .ok (.iadd, 1) := dq_op96 (dq_at (j := 63) dk_29g_1 rfl rfl)
theorem dL_law_1840 : decode cL_law 1840 = .ok (.iaload, 1) := dq_op46 (dq_at (j := 64) dk_29g_1 rfl rfl)
theorem dL_law_1841 : decode cL_law 1841 = .ok (.aload_n 0, 1) := dq_op42 (dq_at (j := 65) dk_29g_1 rfl rfl)
theorem dL_law_1842 : decode cL_law 1842 = .ok (.iload 4, 2) := dq_op21 (dq_at (j := 66) dk_29g_1 rfl rfl) (dq_at (j := 67) dk_29g_1 rfl rfl) rfl
theorem dL_law_1844 : decode cL_law 1844 = .ok (.iconst 2, 1) := dq_op5 (dq_at (j := 68) dk_29g_1 rfl rfl)
theorem dL_law_1845 : decode cL_law 1845 = .ok (.iadd, 1) := dq_op96 (dq_at (j := 69) dk_29g_1 rfl rfl)
theorem dL_law_1846 : decode cL_law 1846 = .ok (.iaload, 1) := dq_op46 (dq_at (j := 70) dk_29g_1 rfl rfl)
theorem dL_law_1847 : decode cL_law 1847 = .ok (.aload_n 0, 1) := dq_op42 (dq_at (j := 71) dk_29g_1 rfl rfl)
theorem dL_law_1848 : decode cL_law 1848 = .ok (.iload 4, 2) := dq_op21 (dq_at (j := 72) dk_29g_1 rfl rfl) (dq_at (j := 73) dk_29g_1 rfl rfl) rfl
theorem dL_law_1850 : decode cL_law 1850 = .ok (.iconst 3, 1) := dq_op6 (dq_at (j := 74) dk_29g_1 rfl rfl)
theorem dL_law_1851 : decode cL_law 1851 = .ok (.iadd, 1) := dq_op96 (dq_at (j := 75) dk_29g_1 rfl rfl)
theorem dL_law_1852 : decode cL_law 1852 = .ok (.iaload, 1) := dq_op46 (dq_at (j := 76) dk_29g_1 rfl rfl)
theorem dL_law_1853 : decode cL_law 1853 = .ok (.invokevirtual 298, 3) := dq_op182 (dq_at (j := 77) dk_29g_1 rfl rfl) (dq_at (j := 78) dk_29g_1 rfl rfl) (dq_at (j := 79) dk_29g_1 rfl rfl) rfl
theorem dL_law_1856 : decode cL_law 1856 = .ok (.istore 6, 2) := dq_op54 (dq_at (j := 80) dk_29g_1 rfl rfl) (dq_at (j := 81) dk_29g_1 rfl rfl) rfl
theorem dL_law_1858 : decode cL_law 1858 = .ok (.goto 410, 3) := dq_op167 (dq_at (j := 82) dk_29g_1 rfl rfl) (dq_at (j := 83) dk_29g_1 rfl rfl) (dq_at (j := 84) dk_29g_1 rfl rfl) (by decide +kernel)
theorem dL_law_1861 : decode cL_law 1861 = .ok (.aload_n 1, 1) := dq_op43 (dq_at (j := 85) dk_29g_1 rfl rfl)
theorem dL_law_1862 : decode cL_law 1862 = .ok (.aload_n 0, 1) := dq_op42 (dq_at (j := 86) dk_29g_1 rfl rfl)
theorem dL_law_1863 : decode cL_law 1863 = .ok (.iload 4, 2) := dq_op21 (dq_at (j := 87) dk_29g_1 rfl rfl) (dq_at (j := 88) dk_29g_1 rfl rfl) rfl
theorem dL_law_1865 : decode cL_law 1865 = .ok (.iconst 1, 1) := dq_op4 (dq_at (j := 89) dk_29g_1 rfl rfl)
theorem dL_law_1866 : decode cL_law 1866 = .ok (.iadd, 1) := dq_op96 (dq_at (j := 90) dk_29g_1 rfl rfl)
theorem dL_law_1867 : decode cL_law 1867 = .ok (.iaload, 1) := dq_op46 (dq_at (j := 91) dk_29g_1 rfl rfl)
theorem dL_law_1868 : decode cL_law 1868 = .ok (.aload_n 0, 1) := dq_op42 (dq_at (j := 92) dk_29g_1 rfl rfl)
theorem dL_law_1869 : decode cL_law 1869 = .ok (.iload 4, 2) := dq_op21 (dq_at (j := 93) dk_29g_1 rfl rfl) (dq_at (j := 94) dk_29g_1 rfl rfl) rfl
theorem dL_law_1871 : decode cL_law 1871 = .ok (.iconst 2, 1) := dq_op5 (dq_at (j := 95) dk_29g_1 rfl rfl)
theorem dL_law_1872 : decode cL_law 1872 = .ok (.iadd, 1) := dq_op96 (dq_at (j := 96) dk_29g_1 rfl rfl)
theorem dL_law_1873 : decode cL_law 1873 = .ok (.iaload, 1) := dq_op46 (dq_at (j := 97) dk_29g_1 rfl rfl)
theorem dL_law_1874 : decode cL_law 1874 = .ok (.aload_n 3, 1) := dq_op45 (dq_at (j := 98) dk_29g_1 rfl rfl)
theorem dL_law_1875 : decode cL_law 1875 = .ok (.invokestatic 299, 3) := dq_op184 (dq_at (j := 99) dk_29g_1 rfl rfl) (dq_at (j := 100) dk_29g_1 rfl rfl) (dq_at (j := 101) dk_29g_1 rfl rfl) rfl
theorem dL_law_1878 : decode cL_law 1878 = .ok (.istore 5, 2) := dq_op54 (dq_at (j := 102) dk_29g_1 rfl rfl) (dq_at (j := 103) dk_29g_1 rfl rfl) rfl
theorem dL_law_1880 : decode cL_law 1880 = .ok (.aload_n 2, 1) := dq_op44 (dq_at (j := 104) dk_29g_1 rfl rfl)
theorem dL_law_1881 : decode cL_law 1881 = .ok (.aload_n 0, 1) := dq_op42 (dq_at (j := 105) dk_29g_1 rfl rfl)
theorem dL_law_1882 : decode cL_law 1882 = .ok (.iload 4, 2) := dq_op21 (dq_at (j := 106) dk_29g_1 rfl rfl) (dq_at (j := 107) dk_29g_1 rfl rfl) rfl
theorem dL_law_1884 : decode cL_law 1884 = .ok (.iconst 1, 1) := dq_op4 (dq_at (j := 108) dk_29g_1 rfl rfl)
theorem dL_law_1885 : decode cL_law 1885 = .ok (.iadd, 1) := dq_op96 (dq_at (j := 109) dk_29g_1 rfl rfl)
theorem dL_law_1886 : decode cL_law 1886 = .ok (.iaload, 1) := dq_op46 (dq_at (j := 110) dk_29g_1 rfl rfl)
theorem dL_law_1887 : decode cL_law 1887 = .ok (.aload_n 0, 1) := dq_op42 (dq_at (j := 111) dk_29g_1 rfl rfl)
theorem dL_law_1888 : decode cL_law 1888 = .ok (.iload 4, 2) := dq_op21 (dq_at (j := 112) dk_29g_1 rfl rfl) (dq_at (j := 113) dk_29g_1 rfl rfl) rfl
theorem dL_law_1890 : decode cL_law 1890 = .ok (.iconst 2, 1) := dq_op5 (dq_at (j := 114) dk_29g_1 rfl rfl)
theorem dL_law_1891 : decode cL_law 1891 = .ok (.iadd, 1) := dq_op96 (dq_at (j := 115) dk_29g_1 rfl rfl)
theorem dL_law_1892 : decode cL_law 1892 = .ok (.iaload, 1) := dq_op46 (dq_at (j := 116) dk_29g_1 rfl rfl)
theorem dL_law_1893 : decode cL_law 1893 = .ok (.invokevirtual 301, 3) := dq_op182 (dq_at (j := 117) dk_29g_1 rfl rfl) (dq_at (j := 118) dk_29g_1 rfl rfl) (dq_at (j := 119) dk_29g_1 rfl rfl) rfl
theorem dL_law_1896 : decode cL_law 1896 = .ok (.istore 6, 2) := dq_op54 (dq_at (j := 120) dk_29g_1 rfl rfl) (dq_at (j := 121) dk_29g_1 rfl rfl) rfl
theorem dL_law_1898 : decode cL_law 1898 = .ok (.goto 370, 3) := dq_op167 (dq_at (j := 122) dk_29g_1 rfl rfl) (dq_at (j := 123) dk_29g_1 rfl rfl) (dq_at (j := 124) dk_29g_1 rfl rfl) (by decide +kernel)
theorem dL_law_1901 : decode cL_law 1901 = .ok (.aload_n 1, 1) := dq_op43 (dq_at (j := 125) dk_29g_1 rfl rfl)
theorem dL_law_1902 : decode cL_law 1902 = .ok (.aload_n 0, 1) := dq_op42 (dq_at (j := 126) dk_29g_1 rfl rfl)
theorem dL_law_1903 : decode cL_law 1903 = .ok (.iload 4, 2) := dq_op21 (dq_at (j := 127) dk_29g_1 rfl rfl) (dq_at (j := 128) dk_29g_1 rfl rfl) rfl
theorem dL_law_1905 : decode cL_law 1905 = .ok (.iconst 1, 1) := dq_op4 (dq_at (j := 129) dk_29g_1 rfl rfl)
theorem dL_law_1906 : decode cL_law 1906 = .ok (.iadd, 1) := dq_op96 (dq_at (j := 130) dk_29g_1 rfl rfl)
theorem dL_law_1907 : decode cL_law 1907 = .ok (.iaload, 1) := dq_op46 (dq_at (j := 131) dk_29g_1 rfl rfl)
theorem dL_law_1908 : decode cL_law 1908 = .ok (.aload_n 0, 1) := dq_op42 (dq_at (j := 132) dk_29g_1 rfl rfl)
theorem dL_law_1909 : decode cL_law 1909 = .ok (.iload 4, 2) := dq_op21 (dq_at (j := 133) dk_29g_1 rfl rfl) (dq_at (j := 134) dk_29g_1 rfl rfl) rfl
theorem dL_law_1911 : decode cL_law 1911 = .ok (.iconst 2, 1) := dq_op5 (dq_at (j := 135) dk_29g_1 rfl rfl)
theorem dL_law_1912 : decode cL_law 1912 = .ok (.iadd, 1) := dq_op96 (dq_at (j := 136) dk_29g_1 rfl rfl)
theorem dL_law_1913 : decode cL_law 1913 = .ok (.iaload, 1) := dq_op46 (dq_at (j := 137) dk_29g_1 rfl rfl)
theorem dL_law_1914 : decode cL_law 1914 = .ok (.aload_n 3, 1) := dq_op45 (dq_at (j := 138) dk_29g_1 rfl rfl)
theorem dk_29g_2 : (cL_law.data.toList.drop 1915).take 120 = [184, 1, 46, 54, 5, 44, 42, 21, 4, 4, 96, 46, 42, 21, 4, 5, 96, 46, 182, 1, 48, 54, 6, 167, 1, 74, 43, 42, 21, 4, 4, 96, 46, 42, 21, 4, 5, 96, 46, 42, 21, 4, 6, 96, 46, 153, 0, 7, 4, 167, 0, 4, 3, 45, 184, 1, 49, 54, 5, 44, 42, 21, 4, 4, 96, 46, 42, 21, 4, 5, 96, 46, 42, 21, 4, 6, 96, 46, 153, 0, 7, 4, 167, 0, 4, 3, 182, 1, 51, 54, 6, 167, 1, 6, 43, 42, 21, 4, 4, 96, 46, 42, 21, 4, 5, 96, 46, 45, 184, 1, 52, 54, 5, 44, 42, 21, 4, 4, 96, 46] := by decide +kernel
theorem dL_law_1915 : decode cL_law 1915 = .ok (.invokestatic 302, 3) := dq_op184 (dq_at (j := 0) dk_29g_2 rfl rfl) (dq_at (j := 1) dk_29g_2 rfl rfl) (dq_at (j := 2) dk_29g_2 rfl rfl) rfl
theorem dL_law_1918 : decode cL_law 1918 = .ok (.istore 5, 2) := dq_op54 (dq_at (j := 3) dk_29g_2 rfl rfl) (dq_at (j := 4) dk_29g_2 rfl rfl) rfl
theorem dL_law_1920 : decode cL_law 1920 = .ok (.aload_n 2, 1) := dq_op44 (dq_at (j := 5) dk_29g_2 rfl rfl)
theorem dL_law_1921 : decode cL_law 1921 = .ok (.aload_n 0, 1) := dq_op42 (dq_at (j := 6) dk_29g_2 rfl rfl)
theorem dL_law_1922 : decode cL_law 1922 = .ok (.iload 4, 2) := dq_op21 (dq_at (j := 7) dk_29g_2 rfl rfl) (dq_at (j := 8) dk_29g_2 rfl rfl) rfl
theorem dL_law_1924 : decode cL_law 1924 = .ok (.iconst 1, 1) := dq_op4 (dq_at (j := 9) dk_29g_2 rfl rfl)
theorem dL_law_1925 : decode cL_law 1925 = .ok (.iadd, 1) := dq_op96 (dq_at (j := 10) dk_29g_2 rfl rfl)
theorem dL_law_1926 : decode cL_law 1926 = .ok (.iaload, 1) := dq_op46 (dq_at (j := 11) dk_29g_2 rfl rfl)
theorem dL_law_1927 : decode cL_law 1927 = .ok (.aload_n 0, 1) := dq_op42 (dq_at (j := 12) dk_29g_2 rfl rfl)
theorem dL_law_1928 : decode cL_law 1928 = .ok (.iload 4, 2) := dq_op21 (dq_at (j := 13) dk_29g_2 rfl rfl) (dq_at (j := 14) dk_29g_2 rfl rfl) rfl
theorem dL_law_1930 : decode cL_law 1930 = .ok (.iconst 2, 1) := dq_op5 (dq_at (j := 15) dk_29g_2 rfl rfl)
theorem dL_law_1931 : decode cL_law 1931 = .ok (.iadd, 1) := dq_op96 (dq_at (j := 16) dk_29g_2 rfl rfl)
theorem dL_law_1932 : decode cL_law 1932 = .ok (.iaload, 1) := dq_op46 (dq_at (j := 17) dk_29g_2 rfl rfl)
theorem dL_law_1933 : decode cL_law 1933 = .ok (.invokevirtual 304, 3) := dq_op182 (dq_at (j := 18) dk_29g_2 rfl rfl) (dq_at (j := 19) dk_29g_2 rfl rfl) (dq_at (j := 20) dk_29g_2 rfl rfl) rfl
theorem dL_law_1936 : decode cL_law 1936 = .ok (.istore 6, 2) := dq_op54 (dq_at (j := 21) dk_29g_2 rfl rfl) (dq_at (j := 22) dk_29g_2 rfl rfl) rfl
theorem dL_law_1938 : decode cL_law 1938 = .ok (.goto 330, 3) := dq_op167 (dq_at (j := 23) dk_29g_2 rfl rfl) (dq_at (j := 24) dk_29g_2 rfl rfl) (dq_at (j := 25) dk_29g_2 rfl rfl) (by decide +kernel)
theorem dL_law_1941 : decode cL_law 1941 = .ok (.aload_n 1, 1) := dq_op43 (dq_at (j := 26) dk_29g_2 rfl rfl)
theorem dL_law_1942 : decode cL_law 1942 = .ok (.aload_n 0, 1) := dq_op42 (dq_at (j := 27) dk_29g_2 rfl rfl)
theorem dL_law_1943 : decode cL_law 1943 = .ok (.iload 4, 2) := dq_op21 (dq_at (j := 28) dk_29g_2 rfl rfl) (dq_at (j := 29) dk_29g_2 rfl rfl) rfl
theorem dL_law_1945 : decode cL_law 1945 = .ok (.iconst 1, 1) := dq_op4 (dq_at (j := 30) dk_29g_2 rfl rfl)
theorem dL_law_1946 : decode cL_law 1946 = .ok (.iadd, 1) := dq_op96 (dq_at (j := 31) dk_29g_2 rfl rfl)
theorem dL_law_1947 : decode cL_law 1947 = .ok (.iaload, 1) := dq_op46 (dq_at (j := 32) dk_29g_2 rfl rfl)
theorem dL_law_1948 : decode cL_law 1948 = .ok (.aload_n 0, 1) := dq_op42 (dq_at (j := 33) dk_29g_2 rfl rfl)
theorem dL_law_1949 : decode cL_law 1949 = .ok (.iload 4, 2) := dq_op21 (dq_at (j := 34) dk_29g_2 rfl rfl) (dq_at (j := 35) dk_29g_2 rfl rfl) rfl
theorem dL_law_1951 : decode cL_law 1951 = .ok (.iconst 2, 1) := dq_op5 (dq_at (j := 36) dk_29g_2 rfl rfl)
theorem dL_law_1952 : decode cL_law 1952 = .ok (.iadd, 1) := dq_op96 (dq_at (j := 37) dk_29g_2 rfl rfl)
theorem dL_law_1953 : decode cL_law 1953 = .ok (.iaload, 1) := dq_op46 (dq_at (j := 38) dk_29g_2 rfl rfl)
theorem dL_law_1954 : decode cL_law 1954 = .ok (.aload_n 0, 1) := dq_op42 (dq_at (j := 39) dk_29g_2 rfl rfl)
theorem dL_law_1955 : decode cL_law 1955 = .ok (.iload 4, 2) := dq_op21 (dq_at (j := 40) dk_29g_2 rfl rfl) (dq_at (j := 41) dk_29g_2 rfl rfl) rfl
theorem dL_law_1957 : decode cL_law 1957 = .ok (.iconst 3, 1) := dq_op6 (dq_at (j := 42) dk_29g_2 rfl rfl)
theorem dL_law_1958 : decode cL_law 1958 = .ok (.iadd, 1) := dq_op96 (dq_at (j := 43) dk_29g_2 rfl rfl)
theorem dL_law_1959 : decode cL_law 1959 = .ok (.iaload, 1) := dq_op46 (dq_at (j := 44) dk_29g_2 rfl rfl)
theorem dL_law_1960 : decode cL_law 1960 = .ok (.ifCond .eq 7, 3) := dq_op153 (dq_at (j := 45) dk_29g_2 rfl rfl) (dq_at (j := 46) dk_29g_2 rfl rfl) (dq_at (j := 47) dk_29g_2 rfl rfl) (by decide +kernel)
theorem dL_law_1963 : decode cL_law 1963 = .ok (.iconst 1, 1) := dq_op4 (dq_at (j := 48) dk_29g_2 rfl rfl)
theorem dL_law_1964 : decode cL_law 1964 = .ok (.goto 4, 3) := dq_op167 (dq_at (j := 49) dk_29g_2 rfl rfl) (dq_at (j := 50) dk_29g_2 rfl rfl) (dq_at (j := 51) dk_29g_2 rfl rfl) (by decide +kernel)
theorem dL_law_1967 : decode cL_law 1967 = .ok (.iconst 0, 1) := dq_op3 (dq_at (j := 52) dk_29g_2 rfl rfl)
theorem dL_law_1968 : decode cL_law 1968 = .ok (.aload_n 3, 1) := dq_op45 (dq_at (j := 53) dk_29g_2 rfl rfl)
theorem dL_law_1969 : decode cL_law 1969 = .ok (.invokestatic 305, 3) := dq_op184 (dq_at (j := 54) dk_29g_2 rfl rfl) (dq_at (j := 55) dk_29g_2 rfl rfl) (dq_at (j := 56) dk_29g_2 rfl rfl) rfl
theorem dL_law_1972 : decode cL_law 1972 = .ok (.istore 5, 2) := dq_op54 (dq_at (j := 57) dk_29g_2 rfl rfl) (dq_at (j := 58) dk_29g_2 rfl rfl) rfl
theorem dL_law_1974 : decode cL_law 1974 = .ok (.aload_n 2, 1) := dq_op44 (dq_at (j := 59) dk_29g_2 rfl rfl)
theorem dL_law_1975 : decode cL_law 1975 = .ok (.aload_n 0, 1) := dq_op42 (dq_at (j := 60) dk_29g_2 rfl rfl)
theorem dL_law_1976 : decode cL_law 1976 = .ok (.iload 4, 2) := dq_op21 (dq_at (j := 61) dk_29g_2 rfl rfl) (dq_at (j := 62) dk_29g_2 rfl rfl) rfl
theorem dL_law_1978 : decode cL_law 1978 = .ok (.iconst 1, 1) := dq_op4 (dq_at (j := 63) dk_29g_2 rfl rfl)
theorem dL_law_1979 : decode cL_law 1979 = .ok (.iadd, 1) := dq_op96 (dq_at (j := 64) dk_29g_2 rfl rfl)
theorem dL_law_1980 : decode cL_law 1980 = .ok (.iaload, 1) := dq_op46 (dq_at (j := 65) dk_29g_2 rfl rfl)
theorem dL_law_1981 : decode cL_law 1981 = .ok (.aload_n 0, 1) := dq_op42 (dq_at (j := 66) dk_29g_2 rfl rfl)
theorem dL_law_1982 : decode cL_law 1982 = .ok (.iload 4, 2) := dq_op21 (dq_at (j := 67) dk_29g_2 rfl rfl) (dq_at (j := 68) dk_29g_2 rfl rfl) rfl
theorem dL_law_1984 : decode cL_law 1984 = .ok (.iconst 2, 1) := dq_op5 (dq_at (j := 69) dk_29g_2 rfl rfl)
theorem dL_law_1985 : decode cL_law 1985 = .ok (.iadd, 1) := dq_op96 (dq_at (j := 70) dk_29g_2 rfl rfl)
theorem dL_law_1986 : decode cL_law 1986 = .ok (.iaload, 1) := dq_op46 (dq_at (j := 71) dk_29g_2 rfl rfl)
theorem dL_law_1987 : decode cL_law 1987 = .ok (.aload_n 0, 1) := dq_op42 (dq_at (j := 72) dk_29g_2 rfl rfl)
theorem dL_law_1988 : decode cL_law 1988 = .ok (.iload 4, 2) := dq_op21 (dq_at (j := 73) dk_29g_2 rfl rfl) (dq_at (j := 74) dk_29g_2 rfl rfl) rfl
theorem dL_law_1990 : decode cL_law 1990 = .ok (.iconst 3, 1) := dq_op6 (dq_at (j := 75) dk_29g_2 rfl rfl)
theorem dL_law_1991 : decode cL_law 1991 = .ok (.iadd, 1) := dq_op96 (dq_at (j := 76) dk_29g_2 rfl rfl)
theorem dL_law_1992 : decode cL_law 1992 = .ok (.iaload, 1) := dq_op46 (dq_at (j := 77) dk_29g_2 rfl rfl)
theorem dL_law_1993 : decode cL_law 1993 = .ok (.ifCond .eq 7, 3) := dq_op153 (dq_at (j := 78) dk_29g_2 rfl rfl) (dq_at (j := 79) dk_29g_2 rfl rfl) (dq_at (j := 80) dk_29g_2 rfl rfl) (by decide +kernel)
theorem dL_law_1996 : decode cL_law 1996 = .ok (.iconst 1, 1) := dq_op4 (dq_at (j := 81) dk_29g_2 rfl rfl)
theorem dL_law_1997 : decode cL_law 1997 = .ok (.goto 4, 3) := dq_op167 (dq_at (j := 82) dk_29g_2 rfl rfl) (dq_at (j := 83) dk_29g_2 rfl rfl) (dq_at (j := 84) dk_29g_2 rfl rfl) (by decide +kernel)
theorem dL_law_2000 : decode cL_law 2000 = .ok (.iconst 0, 1) := dq_op3 (dq_at (j := 85) dk_29g_2 rfl rfl)
theorem dL_law_2001 : decode cL_law 2001 = .ok (.invokevirtual 307, 3) := dq_op182 (dq_at (j := 86) dk_29g_2 rfl rfl) (dq_at (j := 87) dk_29g_2 rfl rfl) (dq_at (j := 88) dk_29g_2 rfl rfl) rfl
theorem dL_law_2004 : decode cL_law 2004 = .ok (.istore 6, 2) := dq_op54 (dq_at (j := 89) dk_29g_2 rfl rfl) (dq_at (j := 90) dk_29g_2 rfl rfl) rfl
theorem dL_law_2006 : decode cL_law 2006 = .ok (.goto 262, 3) := dq_op167 (dq_at (j := 91) dk_29g_2 rfl rfl) (dq_at (j := 92) dk_29g_2 rfl rfl) (dq_at (j := 93) dk_29g_2 rfl rfl) (by decide +kernel)
theorem dL_law_2009 : decode cL_law 2009 = .ok (.aload_n 1, 1) := dq_op43 (dq_at (j := 94) dk_29g_2 rfl rfl)
theorem dL_law_2010 : decode cL_law 2010 = .ok (.aload_n 0, 1) := dq_op42 (dq_at (j := 95) dk_29g_2 rfl rfl)
theorem dL_law_2011 : decode cL_law 2011 = .ok (.iload 4, 2) := dq_op21 (dq_at (j := 96) dk_29g_2 rfl rfl) (dq_at (j := 97) dk_29g_2 rfl rfl) rfl
theorem dL_law_2013 : decode cL_law 2013 = .ok (.iconst 1, 1) := dq_op4 (dq_at (j := 98) dk_29g_2 rfl rfl)
theorem dL_law_2014 : decode cL_law 2014 = .ok (.iadd, 1) := dq_op96 (dq_at (j := 99) dk_29g_2 rfl rfl)
theorem dL_law_2015 : decode cL_law 2015 = .ok (.iaload, 1) := dq_op46 (dq_at (j := 100) dk_29g_2 rfl rfl)
theorem dL_law_2016 : decode cL_law 2016 = .ok (.aload_n 0, 1) := dq_op42 (dq_at (j := 101) dk_29g_2 rfl rfl)
theorem dL_law_2017 : decode cL_law 2017 = .ok (.iload 4, 2) := dq_op21 (dq_at (j := 102) dk_29g_2 rfl rfl) (dq_at (j := 103) dk_29g_2 rfl rfl) rfl
theorem dL_law_2019 : decode cL_law 2019 = .ok (.iconst 2, 1) := dq_op5 (dq_at (j := 104) dk_29g_2 rfl rfl)
theorem dL_law_2020 : decode cL_law 2020 = .ok (.iadd, 1) := dq_op96 (dq_at (j := 105) dk_29g_2 rfl rfl)
theorem dL_law_2021 : decode cL_law 2021 = .ok (.iaload, 1) := dq_op46 (dq_at (j := 106) dk_29g_2 rfl rfl)
theorem dL_law_2022 : decode cL_law 2022 = .ok (.aload_n 3, 1) := dq_op45 (dq_at (j := 107) dk_29g_2 rfl rfl)
theorem dL_law_2023 : decode cL_law 2023 = .ok (.invokestatic 308, 3) := dq_op184 (dq_at (j := 108) dk_29g_2 rfl rfl) (dq_at (j := 109) dk_29g_2 rfl rfl) (dq_at (j := 110) dk_29g_2 rfl rfl) rfl
theorem dL_law_2026 : decode cL_law 2026 = .ok (.istore 5, 2) := dq_op54 (dq_at (j := 111) dk_29g_2 rfl rfl) (dq_at (j := 112) dk_29g_2 rfl rfl) rfl
theorem dL_law_2028 : decode cL_law 2028 = .ok (.aload_n 2, 1) := dq_op44 (dq_at (j := 113) dk_29g_2 rfl rfl)
theorem dL_law_2029 : decode cL_law 2029 = .ok (.aload_n 0, 1) := dq_op42 (dq_at (j := 114) dk_29g_2 rfl rfl)
theorem dL_law_2030 : decode cL_law 2030 = .ok (.iload 4, 2) := dq_op21 (dq_at (j := 115) dk_29g_2 rfl rfl) (dq_at (j := 116) dk_29g_2 rfl rfl) rfl
theorem dL_law_2032 : decode cL_law 2032 = .ok (.iconst 1, 1) := dq_op4 (dq_at (j := 117) dk_29g_2 rfl rfl)
noncomputable def dq_end_29g : Nat := 0
