noncomputable def dz_p29g_1 : List (Nat × Instr × Nat) := [(1776, (.aload_n 3, 1)), (1777, (.invokestatic 293, 3)), (1780, (.istore 5, 2)), (1782, (.aload_n 2, 1)), (1783, (.aload_n 0, 1)), (1784, (.iload 4, 2)), (1786, (.iconst 1, 1)), (1787, (.iadd, 1)), (1788, (.iaload, 1)), (1789, (.aload_n 0, 1)), (1790, (.iload 4, 2)), (1792, (.iconst 2, 1)), (1793, (.iadd, 1)), (1794, (.iaload, 1)), (1795, (.aload_n 0, 1)), (1796, (.iload 4, 2)), (1798, (.iconst 3, 1)), (1799, (.iadd, 1)), (1800, (.iaload, 1)), (1801, (.invokevirtual 295, 3)), (1804, (.istore 6, 2)), (1806, (.goto 462, 3)), (1809, (.aload_n 1, 1)), (1810, (.aload_n 0, 1)), (1811, (.iload 4, 2)), (1813, (.iconst 1, 1)), (1814, (.iadd, 1)), (1815, (.iaload, 1)), (1816, (.aload_n 0, 1)), (1817, (.iload 4, 2)), (1819, (.iconst 2, 1)), (1820, (.iadd, 1)), (1821, (.iaload, 1)), (1822, (.aload_n 0, 1)), (1823, (.iload 4, 2)), (1825, (.iconst 3, 1)), (1826, (.iadd, 1)), (1827, (.iaload, 1)), (1828, (.aload_n 3, 1)), (1829, (.invokestatic 296, 3))]
theorem dy_p29g_1 : dz_ok cL_law dz_p29g_1 = true := by decide +kernel
theorem dL_law_1776 : decode cL_law 1776 = .ok (.aload_n 3, 1) := dz_at (i := 0) dy_p29g_1 rfl
theorem dL_law_1777 : decode cL_law 1777 = .ok (.invokestatic 293, 3) := dz_at (i := 1) dy_p29g_1 rfl
theorem dL_law_1780 : decode cL_law 1780 = .ok (.istore 5, 2) := dz_at (i := 2) dy_p29g_1 rfl
theorem dL_law_1782 : decode cL_law 1782 = .ok (.aload_n 2, 1) := dz_at (i := 3) dy_p29g_1 rfl
theorem dL_law_1783 : decode cL_law 1783 = .ok (.aload_n 0, 1) := dz_at (i := 4) dy_p29g_1 rfl
theorem dL_law_1784 : decode cL_law 1784 = .ok (.iload 4, 2) := dz_at (i := 5) dy_p29g_1 rfl
theorem dL_law_1786 : decode cL_law 1786 = .ok (.iconst 1, 1) := dz_at (i := 6) dy_p29g_1 rfl
theorem dL_law_1787 : decode cL_law 1787 = .ok (.iadd, 1) := dz_at (i := 7) dy_p29g_1 rfl
theorem dL_law_1788 : decode cL_law 1788 = .ok (.iaload, 1) := dz_at (i := 8) dy_p29g_1 rfl
theorem dL_law_1789 : decode cL_law 1789 = .ok (.aload_n 0, 1) := dz_at (i := 9) dy_p29g_1 rfl
theorem dL_law_1790 : decode cL_law 1790 = .ok (.iload 4, 2) := dz_at (i := 10) dy_p29g_1 rfl
theorem dL_law_1792 : decode cL_law 1792 = .ok (.iconst 2, 1) := dz_at (i := 11) dy_p29g_1 rfl
theorem dL_law_1793 : decode cL_law 1793 = .ok (.iadd, 1) := dz_at (i := 12) dy_p29g_1 rfl
theorem dL_law_1794 : decode cL_law 1794 = .ok (.iaload, 1) := dz_at (i := 13) dy_p29g_1 rfl
theorem dL_law_1795 : decode cL_law 1795 = .ok (.aload_n 0, 1) := dz_at (i := 14) dy_p29g_1 rfl
theorem dL_law_1796 : decode cL_law 1796 = .ok (.iload 4, 2) := dz_at (i := 15) dy_p29g_1 rfl
theorem dL_law_1798 : decode cL_law 1798 = .ok (.iconst 3, 1) := dz_at (i := 16) dy_p29g_1 rfl
theorem dL_law_1799 : decode cL_law 1799 = .ok (.iadd, 1) := dz_at (i := 17) dy_p29g_1 rfl
theorem dL_law_1800 : decode cL_law 1800 = .ok (.iaload, 1) := dz_at (i := 18) dy_p29g_1 rfl
theorem dL_law_1801 : decode cL_law 1801 = .ok (.invokevirtual 295, 3) := dz_at (i := 19) dy_p29g_1 rfl
theorem dL_law_1804 : decode cL_law 1804 = .ok (.istore 6, 2) := dz_at (i := 20) dy_p29g_1 rfl
theorem dL_law_1806 : decode cL_law 1806 = .ok (.goto 462, 3) := dz_at (i := 21) dy_p29g_1 rfl
theorem dL_law_1809 : decode cL_law 1809 = .ok (.aload_n 1, 1) := dz_at (i := 22) dy_p29g_1 rfl
theorem dL_law_1810 : decode cL_law 1810 = .ok (.aload_n 0, 1) := dz_at (i := 23) dy_p29g_1 rfl
theorem dL_law_1811 : decode cL_law 1811 = .ok (.iload 4, 2) := dz_at (i := 24) dy_p29g_1 rfl
theorem dL_law_1813 : decode cL_law 1813 = .ok (.iconst 1, 1) := dz_at (i := 25) dy_p29g_1 rfl
theorem dL_law_1814 : decode cL_law 1814 = .ok (.iadd, 1) := dz_at (i := 26) dy_p29g_1 rfl
theorem dL_law_1815 : decode cL_law 1815 = .ok (.iaload, 1) := dz_at (i := 27) dy_p29g_1 rfl
theorem dL_law_1816 : decode cL_law 1816 = .ok (.aload_n 0, 1) := dz_at (i := 28) dy_p29g_1 rfl
theorem dL_law_1817 : decode cL_law 1817 = .ok (.iload 4, 2) := dz_at (i := 29) dy_p29g_1 rfl
theorem dL_law_1819 : decode cL_law 1819 = .ok (.iconst 2, 1) := dz_at (i := 30) dy_p29g_1 rfl
theorem dL_law_1820 : decode cL_law 1820 = .ok (.iadd, 1) := dz_at (i := 31) dy_p29g_1 rfl
theorem dL_law_1821 : decode cL_law 1821 = .ok (.iaload, 1) := dz_at (i := 32) dy_p29g_1 rfl
theorem dL_law_1822 : decode cL_law 1822 = .ok (.aload_n 0, 1) := dz_at (i := 33) dy_p29g_1 rfl
theorem dL_law_1823 : decode cL_law 1823 = .ok (.iload 4, 2) := dz_at (i := 34) dy_p29g_1 rfl
theorem dL_law_1825 : decode cL_law 1825 = .ok (.iconst 3, 1) := dz_at (i := 35) dy_p29g_1 rfl
theorem dL_law_1826 : decode cL_law 1826 = .ok (.iadd, 1) := dz_at (i := 36) dy_p29g_1 rfl
theorem dL_law_1827 : decode cL_law 1827 = .ok (.iaload, 1) := dz_at (i := 37) dy_p29g_1 rfl
theorem dL_law_1828 : decode cL_law 1828 = .ok (.aload_n 3, 1) := dz_at (i := 38) dy_p29g_1 rfl
theorem dL_law_1829 : decode cL_law 1829 = .ok (.invokestatic 296, 3) := dz_at (i := 39) dy_p29g_1 rfl
noncomputable def dz_p29g_2 : List (Nat × Instr × Nat) := [(1832, (.istore 5, 2)), (1834, (.aload_n 2, 1)), (1835, (.aload_n 0, 1)), (1836, (.iload 4, 2)), (1838, (.iconst 1, 1)), (1839, (.iadd, 1)), (1840, (.iaload, 1)), (1841, (.aload_n 0, 1)), (1842, (.iload 4, 2)), (1844, (.iconst 2, 1)), (1845, (.iadd, 1)), (1846, (.iaload, 1)), (1847, (.aload_n 0, 1)), (1848, (.iload 4, 2)), (1850, (.iconst 3, 1)), (1851, (.iadd, 1)), (1852, (.iaload, 1)), (1853, (.invokevirtual 298, 3)), (1856, (.istore 6, 2)), (1858, (.goto 410, 3)), (1861, (.aload_n 1, 1)), (1862, (.aload_n 0, 1)), (1863, (.iload 4, 2)), (1865, (.iconst 1, 1)), (1866, (.iadd, 1)), (1867, (.iaload, 1)), (1868, (.aload_n 0, 1)), (1869, (.iload 4, 2)), (1871, (.iconst 2, 1)), (1872, (.iadd, 1)), (1873, (.iaload, 1)), (1874, (.aload_n 3, 1)), (1875, (.invokestatic 299, 3)), (1878, (.istore 5, 2)), (1880, (.aload_n 2, 1)), (1881, (.aload_n 0, 1)), (1882, (.iload 4, 2)), (1884, (.iconst 1, 1)), (1885, (.iadd, 1)), (1886, (.iaload, 1))]
theorem dy_p29g_2 : dz_ok cL_law dz_p29g_2 = true := by decide +kernel
theorem dL_law_1832 : decode cL_law 1832 = .ok (.istore 5, 2) := dz_at (i := 0) dy_p29g_2 rfl
theorem dL_law_1834 : decode cL_law 1834 = .ok (.aload_n 2, 1) := dz_at (i := 1) dy_p29g_2 rfl
theorem dL_law_1835 : decode cL_law 1835 = .ok (.aload_n 0, 1) := dz_at (i := 2) dy_p29g_2 rfl
theorem dL_law_1836 : decode cL_law 1836 = .ok (.iload 4, 2) := dz_at (i := 3) dy_p29g_2 rfl
theorem dL_law_1838 : decode cL_law 1838 = .ok (.iconst 1, 1) := dz_at (i := 4) dy_p29g_2 rfl
theorem dL_law_1839 : decode cL_law 1839 = .ok (.iadd, 1) := dz_at (i := 5) dy_p29g_2 rfl
theorem dL_law_1840 : decode cL_law 1840 = .ok (.iaload, 1) := dz_at (i := 6) dy_p29g_2 rfl
theorem dL_law_1841 : decode cL_law 1841 = .ok (.aload_n 0, 1) := dz_at (i := 7) dy_p29g_2 rfl
theorem dL_law_1842 : decode cL_law 1842 = .ok (.iload 4, 2) := dz_at (i := 8) dy_p29g_2 rfl
theorem dL_law_1844 : decode cL_law 1844 = .ok (.iconst 2, 1) := dz_at (i := 9) dy_p29g_2 rfl
theorem dL_law_1845 : decode cL_law 1845 = .ok (.iadd, 1) := dz_at (i := 10) dy_p29g_2 rfl
theorem dL_law_1846 : decode cL_law 1846 = .ok (.iaload, 1) := dz_at (i := 11) dy_p29g_2 rfl
theorem dL_law_1847 : decode cL_law 1847 = .ok (.aload_n 0, 1) := dz_at (i := 12) dy_p29g_2 rfl
theorem dL_law_1848 : decode cL_law 1848 = .ok (.iload 4, 2) := dz_at (i := 13) dy_p29g_2 rfl
theorem dL_law_1850 : decode cL_law 1850 = .ok (.iconst 3, 1) := dz_at (i := 14) dy_p29g_2 rfl
theorem dL_law_1851 : decode cL_law 1851 = .ok (.iadd, 1) := dz_at (i := 15) dy_p29g_2 rfl
theorem dL_law_1852 : decode cL_law 1852 = .ok (.iaload, 1) := dz_at (i := 16) dy_p29g_2 rfl
theorem dL_law_1853 : decode cL_law 1853 = .ok (.invokevirtual 298, 3) := dz_at (i := 17) dy_p29g_2 rfl
theorem dL_law_1856 : decode cL_law 1856 = .ok (.istore 6, 2) := dz_at (i := 18) dy_p29g_2 rfl
theorem dL_law_1858 : decode cL_law 1858 = .ok (.goto 410, 3) := dz_at (i := 19) dy_p29g_2 rfl
theorem dL_law_1861 : decode cL_law 1861 = .ok (.aload_n 1, 1) := dz_at (i := 20) dy_p29g_2 rfl
theorem dL_law_1862 : decode cL_law 1862 = .ok (.aload_n 0, 1) := dz_at (i := 21) dy_p29g_2 rfl
theorem dL_law_1863 : decode cL_law 1863 = .ok (.iload 4, 2) := dz_at (i := 22) dy_p29g_2 rfl
theorem dL_law_1865 : decode cL_law 1865 = .ok (.iconst 1, 1) := dz_at (i := 23) dy_p29g_2 rfl
theorem dL_law_1866 : decode cL_law 1866 = .ok (.iadd, 1) := dz_at (i := 24) dy_p29g_2 rfl
theorem dL_law_1867 : decode cL_law 1867 = .ok (.iaload, 1) := dz_at (i := 25) dy_p29g_2 rfl
theorem dL_law_1868 : decode cL_law 1868 = .ok (.aload_n 0, 1) := dz_at (i := 26) dy_p29g_2 rfl
theorem dL_law_1869 : decode cL_law 1869 = .ok (.iload 4, 2) := dz_at (i := 27) dy_p29g_2 rfl
theorem dL_law_1871 : decode cL_law 1871 = .ok (.iconst 2, 1) := dz_at (i := 28) dy_p29g_2 rfl
theorem dL_law_1872 : decode cL_law 1872 = .ok (.iadd, 1) := dz_at (i := 29) dy_p29g_2 rfl
theorem dL_law_1873 : decode cL_law 1873 = .ok (.iaload, 1) := dz_at (i := 30) dy_p29g_2 rfl
theorem dL_law_1874 : decode cL_law 1874 = .ok (.aload_n 3, 1) := dz_at (i := 31) dy_p29g_2 rfl
theorem dL_law_1875 : decode cL_law 1875 = .ok (.invokestatic 299, 3) := dz_at (i := 32) dy_p29g_2 rfl
theorem dL_law_1878 : decode cL_law 1878 = .ok (.istore 5, 2) := dz_at (i := 33) dy_p29g_2 rfl
theorem dL_law_1880 : decode cL_law 1880 = .ok (.aload_n 2, 1) := dz_at (i := 34) dy_p29g_2 rfl
theorem dL_law_1881 : decode cL_law 1881 = .ok (.aload_n 0, 1) := dz_at (i := 35) dy_p29g_2 rfl
theorem dL_law_1882 : decode cL_law 1882 = .ok (.iload 4, 2) := dz_at (i := 36) dy_p29g_2 rfl
theorem dL_law_1884 : decode cL_law 1884 = .ok (.iconst 1, 1) := dz_at (i := 37) dy_p29g_2 rfl
theorem dL_law_1885 : decode cL_law 1885 = .ok (.iadd, 1) := dz_at (i := 38) dy_p29g_2 rfl
theorem dL_law_1886 : decode cL_law 1886 = .ok (.iaload, 1) := dz_at (i := 39) dy_p29g_2 rfl
noncomputable def dz_p29g_3 : List (Nat × Instr × Nat) := [(1887, (.aload_n 0, 1)), (1888, (.iload 4, 2)), (1890, (.iconst 2, 1)), (1891, (.iadd, 1)), (1892, (.iaload, 1)), (1893, (.invokevirtual 301, 3)), (1896, (.istore 6, 2)), (1898, (.goto 370, 3)), (1901, (.aload_n 1, 1)), (1902, (.aload_n 0, 1)), (1903, (.iload 4, 2)), (1905, (.iconst 1, 1)), (1906, (.iadd, 1)), (1907, (.iaload, 1)), (1908, (.aload_n 0, 1)), (1909, (.iload 4, 2)), (1911, (.iconst 2, 1)), (1912, (.iadd, 1)), (1913, (.iaload, 1)), (1914, (.aload_n 3, 1)), (1915, (.invokestatic 302, 3)), (1918, (.istore 5, 2)), (1920, (.aload_n 2, 1)), (1921, (.aload_n 0, 1)), (1922, (.iload 4, 2)), (1924, (.iconst 1, 1)), (1925, (.iadd, 1)), (1926, (.iaload, 1)), (1927, (.aload_n 0, 1)), (1928, (.iload 4, 2)), (1930, (.iconst 2, 1)), (1931, (.iadd, 1)), (1932, (.iaload, 1)), (1933, (.invokevirtual 304, 3)), (1936, (.istore 6, 2)), (1938, (.goto 330, 3)), (1941, (.aload_n 1, 1)), (1942, (.aload_n 0, 1)), (1943, (.iload 4, 2)), (1945, (.iconst 1, 1))]
theorem dy_p29g_3 : dz_ok cL_law dz_p29g_3 = true := by decide +kernel
theorem dL_law_1887 : decode cL_law 1887 = .ok (.aload_n 0, 1) := dz_at (i := 0) dy_p29g_3 rfl
theorem dL_law_1888 : decode cL_law 1888 = .ok (.iload 4, 2) := dz_at (i := 1) dy_p29g_3 rfl
theorem dL_law_1890 : decode cL_law 1890 = .ok (.iconst 2, 1) := dz_at (i := 2) dy_p29g_3 rfl
theorem dL_law_1891 : decode cL_law 1891 = .ok (.iadd, 1) := dz_at (i := 3) dy_p29g_3 rfl
theorem dL_law_1892 : decode cL_law 1892 = .ok (.iaload, 1) := dz_at (i := 4) dy_p29g_3 rfl
theorem dL_law_1893 : decode cL_law 1893 = .ok (.invokevirtual 301, 3) := dz_at (i := 5) dy_p29g_3 rfl
theorem dL_law_1896 : decode cL_law 1896 = .ok (.istore 6, 2) := dz_at (i := 6) dy_p29g_3 rfl
theorem dL_law_1898 : decode cL_law 1898 = .ok (.goto 370, 3) := dz_at (i := 7) dy_p29g_3 rfl
theorem dL_law_1901 : decode cL_law 1901 = .ok (.aload_n 1, 1) := dz_at (i := 8) dy_p29g_3 rfl
theorem dL_law_1902 : decode cL_law 1902 = .ok (.aload_n 0, 1) := dz_at (i := 9) dy_p29g_3 rfl
theorem dL_law_1903 : decode cL_law 1903 = .ok (.iload 4, 2) := dz_at (i := 10) dy_p29g_3 rfl
theorem dL_law_1905 : decode cL_law 1905 = .ok (.iconst 1, 1) := dz_at (i := 11) dy_p29g_3 rfl
theorem dL_law_1906 : decode cL_law 1906 = .ok (.iadd, 1) := dz_at (i := 12) dy_p29g_3 rfl
theorem dL_law_1907 : decode cL_law 1907 = .ok (.iaload, 1) := dz_at (i := 13) dy_p29g_3 rfl
theorem dL_law_1908 : decode cL_law 1908 = .ok (.aload_n 0, 1) := dz_at (i := 14) dy_p29g_3 rfl
theorem dL_law_1909 : decode cL_law 1909 = .ok (.iload 4, 2) := dz_at (i := 15) dy_p29g_3 rfl
theorem dL_law_1911 : decode cL_law 1911 = .ok (.iconst 2, 1) := dz_at (i := 16) dy_p29g_3 rfl
theorem dL_law_1912 : decode cL_law 1912 = .ok (.iadd, 1) := dz_at (i := 17) dy_p29g_3 rfl
theorem dL_law_1913 : decode cL_law 1913 = .ok (.iaload, 1) := dz_at (i := 18) dy_p29g_3 rfl
theorem dL_law_1914 : decode cL_law 1914 = .ok (.aload_n 3, 1) := dz_at (i := 19) dy_p29g_3 rfl
theorem dL_law_1915 : decode cL_law 1915 = .ok (.invokestatic 302, 3) := dz_at (i := 20) dy_p29g_3 rfl
theorem dL_law_1918 : decode cL_law 1918 = .ok (.istore 5, 2) := dz_at (i := 21) dy_p29g_3 rfl
theorem dL_law_1920 : decode cL_law 1920 = .ok (.aload_n 2, 1) := dz_at (i := 22) dy_p29g_3 rfl
theorem dL_law_1921 : decode cL_law 1921 = .ok (.aload_n 0, 1) := dz_at (i := 23) dy_p29g_3 rfl
theorem dL_law_1922 : decode cL_law 1922 = .ok (.iload 4, 2) := dz_at (i := 24) dy_p29g_3 rfl
theorem dL_law_1924 : decode cL_law 1924 = .ok (.iconst 1, 1) := dz_at (i := 25) dy_p29g_3 rfl
theorem dL_law_1925 : decode cL_law 1925 = .ok (.iadd, 1) := dz_at (i := 26) dy_p29g_3 rfl
theorem dL_law_1926 : decode cL_law 1926 = .ok (.iaload, 1) := dz_at (i := 27) dy_p29g_3 rfl
theorem dL_law_1927 : decode cL_law 1927 = .ok (.aload_n 0, 1) := dz_at (i := 28) dy_p29g_3 rfl
theorem dL_law_1928 : decode cL_law 1928 = .ok (.iload 4, 2) := dz_at (i := 29) dy_p29g_3 rfl
theorem dL_law_1930 : decode cL_law 1930 = .ok (.iconst 2, 1) := dz_at (i := 30) dy_p29g_3 rfl
theorem dL_law_1931 : decode cL_law 1931 = .ok (.iadd, 1) := dz_at (i := 31) dy_p29g_3 rfl
theorem dL_law_1932 : decode cL_law 1932 = .ok (.iaload, 1) := dz_at (i := 32) dy_p29g_3 rfl
theorem dL_law_1933 : decode cL_law 1933 = .ok (.invokevirtual 304, 3) := dz_at (i := 33) dy_p29g_3 rfl
theorem dL_law_1936 : decode cL_law 1936 = .ok (.istore 6, 2) := dz_at (i := 34) dy_p29g_3 rfl
theorem dL_law_1938 : decode cL_law 1938 = .ok (.goto 330, 3) := dz_at (i := 35) dy_p29g_3 rfl
theorem dL_law_1941 : decode cL_law 1941 = .ok (.aload_n 1, 1) := dz_at (i := 36) dy_p29g_3 rfl
theorem dL_law_1942 : decode cL_law 1942 = .ok (.aload_n 0, 1) := dz_at (i := 37) dy_p29g_3 rfl
theorem dL_law_1943 : decode cL_law 1943 = .ok (.iload 4, 2) := dz_at (i := 38) dy_p29g_3 rfl
theorem dL_law_1945 : decode cL_law 1945 = .ok (.iconst 1, 1) := dz_at (i := 39) dy_p29g_3 rfl
noncomputable def dz_p29g_4 : List (Nat × Instr × Nat) := [(1946, (.iadd, 1)), (1947, (.iaload, 1)), (1948, (.aload_n 0, 1)), (1949, (.iload 4, 2)), (1951, (.iconst 2, 1)), (1952, (.iadd, 1)), (1953, (.iaload, 1)), (1954, (.aload_n 0, 1)), (1955, (.iload 4, 2)), (1957, (.iconst 3, 1)), (1958, (.iadd, 1)), (1959, (.iaload, 1)), (1960, (.ifCond .eq 7, 3)), (1963, (.iconst 1, 1)), (1964, (.goto 4, 3)), (1967, (.iconst 0, 1)), (1968, (.aload_n 3, 1)), (1969, (.invokestatic 305, 3)), (1972, (.istore 5, 2)), (1974, (.aload_n 2, 1)), (1975, (.aload_n 0, 1)), (1976, (.iload 4, 2)), (1978, (.iconst 1, 1)), (1979, (.iadd, 1)), (1980, (.iaload, 1)), (1981, (.aload_n 0, 1)), (1982, (.iload 4, 2)), (1984, (.iconst 2, 1)), (1985, (.iadd, 1)), (1986, (.iaload, 1)), (1987, (.aload_n 0, 1)), (1988, (.iload 4, 2)), (1990, (.iconst 3, 1)), (1991, (.iadd, 1)), (1992, (.iaload, 1)), (1993, (.ifCond .eq 7, 3)), (1996, (.iconst 1, 1)), (1997, (.goto 4, 3)), (2000, (.iconst 0, 1)), (2001, (.invokevirtual 307, 3))]
theorem dy_p29g_4 : dz_ok cL_law dz_p29g_4 = true := by decide +kernel
theorem dL_law_1946 : decode cL_law 1946 = .ok (.iadd, 1) := dz_at (i := 0) dy_p29g_4 rfl
theorem dL_law_1947 : decode cL_law 1947 = .ok (.iaload, 1) := dz_at (i := 1) dy_p29g_4 rfl
theorem dL_law_1948 : decode cL_law 1948 = .ok (.aload_n 0, 1) := dz_at (i := 2) dy_p29g_4 rfl
theorem dL_law_1949 : decode cL_law 1949 = .ok (.iload 4, 2) := dz_at (i := 3) dy_p29g_4 rfl
theorem dL_law_1951 : decode cL_law 1951 = .ok (.iconst 2, 1) := dz_at (i := 4) dy_p29g_4 rfl
theorem dL_law_1952 : decode cL_law 1952 = .ok (.iadd, 1) := dz_at (i := 5) dy_p29g_4 rfl
theorem dL_law_1953 : decode cL_law 1953 = .ok (.iaload, 1) := dz_at (i := 6) dy_p29g_4 rfl
theorem dL_law_1954 : decode cL_law 1954 = .ok (.aload_n 0, 1) := dz_at (i := 7) dy_p29g_4 rfl
theorem dL_law_1955 : decode cL_law 1955 = .ok (.iload 4, 2) := dz_at (i := 8) dy_p29g_4 rfl
theorem dL_law_1957 : decode cL_law 1957 = .ok (.iconst 3, 1) := dz_at (i := 9) dy_p29g_4 rfl
theorem dL_law_1958 : decode cL_law 1958 = .ok (.iadd, 1) := dz_at (i := 10) dy_p29g_4 rfl
theorem dL_law_1959 : decode cL_law 1959 = .ok (.iaload, 1) := dz_at (i := 11) dy_p29g_4 rfl
theorem dL_law_1960 : decode cL_law 1960 = .ok (.ifCond .eq 7, 3) := dz_at (i := 12) dy_p29g_4 rfl
theorem dL_law_1963 : decode cL_law 1963 = .ok (.iconst 1, 1) := dz_at (i := 13) dy_p29g_4 rfl
theorem dL_law_1964 : decode cL_law 1964 = .ok (.goto 4, 3) := dz_at (i := 14) dy_p29g_4 rfl
theorem dL_law_1967 : decode cL_law 1967 = .ok (.iconst 0, 1) := dz_at (i := 15) dy_p29g_4 rfl
theorem dL_law_1968 : decode cL_law 1968 = .ok (.aload_n 3, 1) := dz_at (i := 16) dy_p29g_4 rfl
theorem dL_law_1969 : decode cL_law 1969 = .ok (.invokestatic 305, 3) := dz_at (i := 17) dy_p29g_4 rfl
theorem dL_law_1972 : decode cL_law 1972 = .ok (.istore 5, 2) := dz_at (i := 18) dy_p29g_4 rfl
theorem dL_law_1974 : decode cL_law 1974 = .ok (.aload_n 2, 1) := dz_at (i := 19) dy_p29g_4 rfl
theorem dL_law_1975 : decode cL_law 1975 = .ok (.aload_n 0, 1) := dz_at (i := 20) dy_p29g_4 rfl
theorem dL_law_1976 : decode cL_law 1976 = .ok (.iload 4, 2) := dz_at (i := 21) dy_p29g_4 rfl
theorem dL_law_1978 : decode cL_law 1978 = .ok (.iconst 1, 1) := dz_at (i := 22) dy_p29g_4 rfl
theorem dL_law_1979 : decode cL_law 1979 = .ok (.iadd, 1) := dz_at (i := 23) dy_p29g_4 rfl
theorem dL_law_1980 : decode cL_law 1980 = .ok (.iaload, 1) := dz_at (i := 24) dy_p29g_4 rfl
theorem dL_law_1981 : decode cL_law 1981 = .ok (.aload_n 0, 1) := dz_at (i := 25) dy_p29g_4 rfl
theorem dL_law_1982 : decode cL_law 1982 = .ok (.iload 4, 2) := dz_at (i := 26) dy_p29g_4 rfl
theorem dL_law_1984 : decode cL_law 1984 = .ok (.iconst 2, 1) := dz_at (i := 27) dy_p29g_4 rfl
theorem dL_law_1985 : decode cL_law 1985 = .ok (.iadd, 1) := dz_at (i := 28) dy_p29g_4 rfl
theorem dL_law_1986 : decode cL_law 1986 = .ok (.iaload, 1) := dz_at (i := 29) dy_p29g_4 rfl
theorem dL_law_1987 : decode cL_law 1987 = .ok (.aload_n 0, 1) := dz_at (i := 30) dy_p29g_4 rfl
theorem dL_law_1988 : decode cL_law 1988 = .ok (.iload 4, 2) := dz_at (i := 31) dy_p29g_4 rfl
theorem dL_law_1990 : decode cL_law 1990 = .ok (.iconst 3, 1) := dz_at (i := 32) dy_p29g_4 rfl
theorem dL_law_1991 : decode cL_law 1991 = .ok (.iadd, 1) := dz_at (i := 33) dy_p29g_4 rfl
theorem dL_law_1992 : decode cL_law 1992 = .ok (.iaload, 1) := dz_at (i := 34) dy_p29g_4 rfl
theorem dL_law_1993 : decode cL_law 1993 = .ok (.ifCond .eq 7, 3) := dz_at (i := 35) dy_p29g_4 rfl
theorem dL_law_1996 : decode cL_law 1996 = .ok (.iconst 1, 1) := dz_at (i := 36) dy_p29g_4 rfl
theorem dL_law_1997 : decode cL_law 1997 = .ok (.goto 4, 3) := dz_at (i := 37) dy_p29g_4 rfl
theorem dL_law_2000 : decode cL_law 2000 = .ok (.iconst 0, 1) := dz_at (i := 38) dy_p29g_4 rfl
theorem dL_law_2001 : decode cL_law 2001 = .ok (.invokevirtual 307, 3) := dz_at (i := 39) dy_p29g_4 rfl
noncomputable def dz_p29g_5 : List (Nat × Instr × Nat) := [(2004, (.istore 6, 2)), (2006, (.goto 262, 3)), (2009, (.aload_n 1, 1)), (2010, (.aload_n 0, 1)), (2011, (.iload 4, 2)), (2013, (.iconst 1, 1)), (2014, (.iadd, 1)), (2015, (.iaload, 1)), (2016, (.aload_n 0, 1)), (2017, (.iload 4, 2)), (2019, (.iconst 2, 1)), (2020, (.iadd, 1)), (2021, (.iaload, 1)), (2022, (.aload_n 3, 1)), (2023, (.invokestatic 308, 3)), (2026, (.istore 5, 2)), (2028, (.aload_n 2, 1)), (2029, (.aload_n 0, 1)), (2030, (.iload 4, 2)), (2032, (.iconst 1, 1))]
theorem dy_p29g_5 : dz_ok cL_law dz_p29g_5 = true := by decide +kernel
theorem dL_law_2004 : decode cL_law 2004 = .ok (.istore 6, 2) := dz_at (i := 0) dy_p29g_5 rfl
theorem dL_law_2006 : decode cL_law 2006 = .ok (.goto 262, 3) := dz_at (i := 1) dy_p29g_5 rfl
theorem dL_law_2009 : decode cL_law 2009 = .ok (.aload_n 1, 1) := dz_at (i := 2) dy_p29g_5 rfl
theorem dL_law_2010 : decode cL_law 2010 = .ok (.aload_n 0, 1) := dz_at (i := 3) dy_p29g_5 rfl
theorem dL_law_2011 : decode cL_law 2011 = .ok (.iload 4, 2) := dz_at (i := 4) dy_p29g_5 rfl
theorem dL_law_2013 : decode cL_law 2013 = .ok (.iconst 1, 1) := dz_at (i := 5) dy_p29g_5 rfl
theorem dL_law_2014 : decode cL_law 2014 = .ok (.iadd, 1) := dz_at (i := 6) dy_p29g_5 rfl
theorem dL_law_2015 : decode cL_law 2015 = .ok (.iaload, 1) := dz_at (i := 7) dy_p29g_5 rfl
theorem dL_law_2016 : decode cL_law 2016 = .ok (.aload_n 0, 1) := dz_at (i := 8) dy_p29g_5 rfl
theorem dL_law_2017 : decode cL_law 2017 = .ok (.iload 4, 2) := dz_at (i := 9) dy_p29g_5 rfl
theorem dL_law_2019 : decode cL_law 2019 = .ok (.iconst 2, 1) := dz_at (i := 10) dy_p29g_5 rfl
theorem dL_law_2020 : decode cL_law 2020 = .ok (.iadd, 1) := dz_at (i := 11) dy_p29g_5 rfl
theorem dL_law_2021 : decode cL_law 2021 = .ok (.iaload, 1) := dz_at (i := 12) dy_p29g_5 rfl
theorem dL_law_2022 : decode cL_law 2022 = .ok (.aload_n 3, 1) := dz_at (i := 13) dy_p29g_5 rfl
theorem dL_law_2023 : decode cL_law 2023 = .ok (.invokestatic 308, 3) := dz_at (i := 14) dy_p29g_5 rfl
theorem dL_law_2026 : decode cL_law 2026 = .ok (.istore 5, 2) := dz_at (i := 15) dy_p29g_5 rfl
theorem dL_law_2028 : decode cL_law 2028 = .ok (.aload_n 2, 1) := dz_at (i := 16) dy_p29g_5 rfl
theorem dL_law_2029 : decode cL_law 2029 = .ok (.aload_n 0, 1) := dz_at (i := 17) dy_p29g_5 rfl
theorem dL_law_2030 : decode cL_law 2030 = .ok (.iload 4, 2) := dz_at (i := 18) dy_p29g_5 rfl
theorem dL_law_2032 : decode cL_law 2032 = .ok (.iconst 1, 1) := dz_at (i := 19) dy_p29g_5 rfl
