/-! the walk runs: 9 -/
set_option maxRecDepth 100000 in
theorem w_g1791 : w_g (nat_lit 1791) = true := by decide +kernel
theorem w_r1792 : w_rg 1792 := w_rg_s (n := 1791) w_r1791 w_g1791
set_option maxRecDepth 100000 in
theorem w_g1792 : w_g (nat_lit 1792) = true := by decide +kernel
theorem w_r1793 : w_rg 1793 := w_rg_s (n := 1792) w_r1792 w_g1792
set_option maxRecDepth 100000 in
theorem w_g1793 : w_g (nat_lit 1793) = true := by decide +kernel
theorem w_r1794 : w_rg 1794 := w_rg_s (n := 1793) w_r1793 w_g1793
set_option maxRecDepth 100000 in
theorem w_g1794 : w_g (nat_lit 1794) = true := by decide +kernel
theorem w_r1795 : w_rg 1795 := w_rg_s (n := 1794) w_r1794 w_g1794
set_option maxRecDepth 100000 in
theorem w_g1795 : w_g (nat_lit 1795) = true := by decide +kernel
theorem w_r1796 : w_rg 1796 := w_rg_s (n := 1795) w_r1795 w_g1795
set_option maxRecDepth 100000 in
theorem w_g1796 : w_g (nat_lit 1796) = true := by decide +kernel
theorem w_r1797 : w_rg 1797 := w_rg_s (n := 1796) w_r1796 w_g1796
set_option maxRecDepth 100000 in
theorem w_g1797 : w_g (nat_lit 1797) = true := by decide +kernel
theorem w_r1798 : w_rg 1798 := w_rg_s (n := 1797) w_r1797 w_g1797
set_option maxRecDepth 100000 in
theorem w_g1798 : w_g (nat_lit 1798) = true := by decide +kernel
theorem w_r1799 : w_rg 1799 := w_rg_s (n := 1798) w_r1798 w_g1798
set_option maxRecDepth 100000 in
theorem w_g1799 : w_g (nat_lit 1799) = true := by decide +kernel
theorem w_r1800 : w_rg 1800 := w_rg_s (n := 1799) w_r1799 w_g1799
set_option maxRecDepth 100000 in
theorem w_g1800 : w_g (nat_lit 1800) = true := by decide +kernel
theorem w_r1801 : w_rg 1801 := w_rg_s (n := 1800) w_r1800 w_g1800
set_option maxRecDepth 100000 in
theorem w_g1801 : w_g (nat_lit 1801) = true := by decide +kernel
theorem w_r1802 : w_rg 1802 := w_rg_s (n := 1801) w_r1801 w_g1801
set_option maxRecDepth 100000 in
theorem w_g1802 : w_g (nat_lit 1802) = true := by decide +kernel
theorem w_r1803 : w_rg 1803 := w_rg_s (n := 1802) w_r1802 w_g1802
set_option maxRecDepth 100000 in
theorem w_g1803 : w_g (nat_lit 1803) = true := by decide +kernel
theorem w_r1804 : w_rg 1804 := w_rg_s (n := 1803) w_r1803 w_g1803
set_option maxRecDepth 100000 in
theorem w_g1804 : w_g (nat_lit 1804) = true := by decide +kernel
theorem w_r1805 : w_rg 1805 := w_rg_s (n := 1804) w_r1804 w_g1804
set_option maxRecDepth 100000 in
theorem w_g1805 : w_g (nat_lit 1805) = true := by decide +kernel
theorem w_r1806 : w_rg 1806 := w_rg_s (n := 1805) w_r1805 w_g1805
set_option maxRecDepth 100000 in
theorem w_g1806 : w_g (nat_lit 1806) = true := by decide +kernel
theorem w_r1807 : w_rg 1807 := w_rg_s (n := 1806) w_r1806 w_g1806
set_option maxRecDepth 100000 in
theorem w_g1807 : w_g (nat_lit 1807) = true := by decide +kernel
theorem w_r1808 : w_rg 1808 := w_rg_s (n := 1807) w_r1807 w_g1807
set_option maxRecDepth 100000 in
theorem w_g1808 : w_g (nat_lit 1808) = true := by decide +kernel
theorem w_r1809 : w_rg 1809 := w_rg_s (n := 1808) w_r1808 w_g1808
set_option maxRecDepth 100000 in
theorem w_g1809 : w_g (nat_lit 1809) = true := by decide +kernel
theorem w_r1810 : w_rg 1810 := w_rg_s (n := 1809) w_r1809 w_g1809
set_option maxRecDepth 100000 in
theorem w_g1810 : w_g (nat_lit 1810) = true := by decide +kernel
theorem w_r1811 : w_rg 1811 := w_rg_s (n := 1810) w_r1810 w_g1810
set_option maxRecDepth 100000 in
theorem w_g1811 : w_g (nat_lit 1811) = true := by decide +kernel
theorem w_r1812 : w_rg 1812 := w_rg_s (n := 1811) w_r1811 w_g1811
set_option maxRecDepth 100000 in
theorem w_g1812 : w_g (nat_lit 1812) = true := by decide +kernel
theorem w_r1813 : w_rg 1813 := w_rg_s (n := 1812) w_r1812 w_g1812
set_option maxRecDepth 100000 in
theorem w_g1813 : w_g (nat_lit 1813) = true := by decide +kernel
theorem w_r1814 : w_rg 1814 := w_rg_s (n := 1813) w_r1813 w_g1813
set_option maxRecDepth 100000 in
theorem w_g1814 : w_g (nat_lit 1814) = true := by decide +kernel
theorem w_r1815 : w_rg 1815 := w_rg_s (n := 1814) w_r1814 w_g1814
set_option maxRecDepth 100000 in
theorem w_g1815 : w_g (nat_lit 1815) = true := by decide +kernel
theorem w_r1816 : w_rg 1816 := w_rg_s (n := 1815) w_r1815 w_g1815
set_option maxRecDepth 100000 in
theorem w_g1816 : w_g (nat_lit 1816) = true := by decide +kernel
theorem w_r1817 : w_rg 1817 := w_rg_s (n := 1816) w_r1816 w_g1816
set_option maxRecDepth 100000 in
theorem w_g1817 : w_g (nat_lit 1817) = true := by decide +kernel
theorem w_r1818 : w_rg 1818 := w_rg_s (n := 1817) w_r1817 w_g1817
set_option maxRecDepth 100000 in
theorem w_g1818 : w_g (nat_lit 1818) = true := by decide +kernel
theorem w_r1819 : w_rg 1819 := w_rg_s (n := 1818) w_r1818 w_g1818
set_option maxRecDepth 100000 in
theorem w_g1819 : w_g (nat_lit 1819) = true := by decide +kernel
theorem w_r1820 : w_rg 1820 := w_rg_s (n := 1819) w_r1819 w_g1819
set_option maxRecDepth 100000 in
theorem w_g1820 : w_g (nat_lit 1820) = true := by decide +kernel
theorem w_r1821 : w_rg 1821 := w_rg_s (n := 1820) w_r1820 w_g1820
set_option maxRecDepth 100000 in
theorem w_g1821 : w_g (nat_lit 1821) = true := by decide +kernel
theorem w_r1822 : w_rg 1822 := w_rg_s (n := 1821) w_r1821 w_g1821
set_option maxRecDepth 100000 in
theorem w_g1822 : w_g (nat_lit 1822) = true := by decide +kernel
theorem w_r1823 : w_rg 1823 := w_rg_s (n := 1822) w_r1822 w_g1822
set_option maxRecDepth 100000 in
theorem w_g1823 : w_g (nat_lit 1823) = true := by decide +kernel
theorem w_r1824 : w_rg 1824 := w_rg_s (n := 1823) w_r1823 w_g1823
set_option maxRecDepth 100000 in
theorem w_g1824 : w_g (nat_lit 1824) = true := by decide +kernel
theorem w_r1825 : w_rg 1825 := w_rg_s (n := 1824) w_r1824 w_g1824
set_option maxRecDepth 100000 in
theorem w_g1825 : w_g (nat_lit 1825) = true := by decide +kernel
theorem w_r1826 : w_rg 1826 := w_rg_s (n := 1825) w_r1825 w_g1825
set_option maxRecDepth 100000 in
theorem w_g1826 : w_g (nat_lit 1826) = true := by decide +kernel
theorem w_r1827 : w_rg 1827 := w_rg_s (n := 1826) w_r1826 w_g1826
set_option maxRecDepth 100000 in
theorem w_g1827 : w_g (nat_lit 1827) = true := by decide +kernel
theorem w_r1828 : w_rg 1828 := w_rg_s (n := 1827) w_r1827 w_g1827
set_option maxRecDepth 100000 in
theorem w_g1828 : w_g (nat_lit 1828) = true := by decide +kernel
theorem w_r1829 : w_rg 1829 := w_rg_s (n := 1828) w_r1828 w_g1828
set_option maxRecDepth 100000 in
theorem w_g1829 : w_g (nat_lit 1829) = true := by decide +kernel
theorem w_r1830 : w_rg 1830 := w_rg_s (n := 1829) w_r1829 w_g1829
set_option maxRecDepth 100000 in
theorem w_g1830 : w_g (nat_lit 1830) = true := by decide +kernel
theorem w_r1831 : w_rg 1831 := w_rg_s (n := 1830) w_r1830 w_g1830
set_option maxRecDepth 100000 in
theorem w_g1831 : w_g (nat_lit 1831) = true := by decide +kernel
theorem w_r1832 : w_rg 1832 := w_rg_s (n := 1831) w_r1831 w_g1831
set_option maxRecDepth 100000 in
theorem w_g1832 : w_g (nat_lit 1832) = true := by decide +kernel
theorem w_r1833 : w_rg 1833 := w_rg_s (n := 1832) w_r1832 w_g1832
set_option maxRecDepth 100000 in
theorem w_g1833 : w_g (nat_lit 1833) = true := by decide +kernel
theorem w_r1834 : w_rg 1834 := w_rg_s (n := 1833) w_r1833 w_g1833
set_option maxRecDepth 100000 in
theorem w_g1834 : w_g (nat_lit 1834) = true := by decide +kernel
theorem w_r1835 : w_rg 1835 := w_rg_s (n := 1834) w_r1834 w_g1834
set_option maxRecDepth 100000 in
theorem w_g1835 : w_g (nat_lit 1835) = true := by decide +kernel
theorem w_r1836 : w_rg 1836 := w_rg_s (n := 1835) w_r1835 w_g1835
set_option maxRecDepth 100000 in
theorem w_g1836 : w_g (nat_lit 1836) = true := by decide +kernel
theorem w_r1837 : w_rg 1837 := w_rg_s (n := 1836) w_r1836 w_g1836
set_option maxRecDepth 100000 in
theorem w_g1837 : w_g (nat_lit 1837) = true := by decide +kernel
theorem w_r1838 : w_rg 1838 := w_rg_s (n := 1837) w_r1837 w_g1837
set_option maxRecDepth 100000 in
theorem w_g1838 : w_g (nat_lit 1838) = true := by decide +kernel
theorem w_r1839 : w_rg 1839 := w_rg_s (n := 1838) w_r1838 w_g1838
set_option maxRecDepth 100000 in
theorem w_g1839 : w_g (nat_lit 1839) = true := by decide +kernel
theorem w_r1840 : w_rg 1840 := w_rg_s (n := 1839) w_r1839 w_g1839
set_option maxRecDepth 100000 in
theorem w_g1840 : w_g (nat_lit 1840) = true := by decide +kernel
theorem w_r1841 : w_rg 1841 := w_rg_s (n := 1840) w_r1840 w_g1840
set_option maxRecDepth 100000 in
theorem w_g1841 : w_g (nat_lit 1841) = true := by decide +kernel
theorem w_r1842 : w_rg 1842 := w_rg_s (n := 1841) w_r1841 w_g1841
set_option maxRecDepth 100000 in
theorem w_g1842 : w_g (nat_lit 1842) = true := by decide +kernel
theorem w_r1843 : w_rg 1843 := w_rg_s (n := 1842) w_r1842 w_g1842
set_option maxRecDepth 100000 in
theorem w_g1843 : w_g (nat_lit 1843) = true := by decide +kernel
theorem w_r1844 : w_rg 1844 := w_rg_s (n := 1843) w_r1843 w_g1843
set_option maxRecDepth 100000 in
theorem w_g1844 : w_g (nat_lit 1844) = true := by decide +kernel
theorem w_r1845 : w_rg 1845 := w_rg_s (n := 1844) w_r1844 w_g1844
set_option maxRecDepth 100000 in
theorem w_g1845 : w_g (nat_lit 1845) = true := by decide +kernel
theorem w_r1846 : w_rg 1846 := w_rg_s (n := 1845) w_r1845 w_g1845
set_option maxRecDepth 100000 in
theorem w_g1846 : w_g (nat_lit 1846) = true := by decide +kernel
theorem w_r1847 : w_rg 1847 := w_rg_s (n := 1846) w_r1846 w_g1846
set_option maxRecDepth 100000 in
theorem w_g1847 : w_g (nat_lit 1847) = true := by decide +kernel
theorem w_r1848 : w_rg 1848 := w_rg_s (n := 1847) w_r1847 w_g1847
set_option maxRecDepth 100000 in
theorem w_g1848 : w_g (nat_lit 1848) = true := by decide +kernel
theorem w_r1849 : w_rg 1849 := w_rg_s (n := 1848) w_r1848 w_g1848
set_option maxRecDepth 100000 in
theorem w_g1849 : w_g (nat_lit 1849) = true := by decide +kernel
theorem w_r1850 : w_rg 1850 := w_rg_s (n := 1849) w_r1849 w_g1849
set_option maxRecDepth 100000 in
theorem w_g1850 : w_g (nat_lit 1850) = true := by decide +kernel
theorem w_r1851 : w_rg 1851 := w_rg_s (n := 1850) w_r1850 w_g1850
set_option maxRecDepth 100000 in
theorem w_g1851 : w_g (nat_lit 1851) = true := by decide +kernel
theorem w_r1852 : w_rg 1852 := w_rg_s (n := 1851) w_r1851 w_g1851
set_option maxRecDepth 100000 in
theorem w_g1852 : w_g (nat_lit 1852) = true := by decide +kernel
theorem w_r1853 : w_rg 1853 := w_rg_s (n := 1852) w_r1852 w_g1852
set_option maxRecDepth 100000 in
theorem w_g1853 : w_g (nat_lit 1853) = true := by decide +kernel
theorem w_r1854 : w_rg 1854 := w_rg_s (n := 1853) w_r1853 w_g1853
set_option maxRecDepth 100000 in
theorem w_g1854 : w_g (nat_lit 1854) = true := by decide +kernel
theorem w_r1855 : w_rg 1855 := w_rg_s (n := 1854) w_r1854 w_g1854
set_option maxRecDepth 100000 in
theorem w_g1855 : w_g (nat_lit 1855) = true := by decide +kernel
theorem w_r1856 : w_rg 1856 := w_rg_s (n := 1855) w_r1855 w_g1855
set_option maxRecDepth 100000 in
theorem w_g1856 : w_g (nat_lit 1856) = true := by decide +kernel
theorem w_r1857 : w_rg 1857 := w_rg_s (n := 1856) w_r1856 w_g1856
set_option maxRecDepth 100000 in
theorem w_g1857 : w_g (nat_lit 1857) = true := by decide +kernel
theorem w_r1858 : w_rg 1858 := w_rg_s (n := 1857) w_r1857 w_g1857
set_option maxRecDepth 100000 in
theorem w_g1858 : w_g (nat_lit 1858) = true := by decide +kernel
theorem w_r1859 : w_rg 1859 := w_rg_s (n := 1858) w_r1858 w_g1858
set_option maxRecDepth 100000 in
theorem w_g1859 : w_g (nat_lit 1859) = true := by decide +kernel
theorem w_r1860 : w_rg 1860 := w_rg_s (n := 1859) w_r1859 w_g1859
set_option maxRecDepth 100000 in
theorem w_g1860 : w_g (nat_lit 1860) = true := by decide +kernel
theorem w_r1861 : w_rg 1861 := w_rg_s (n := 1860) w_r1860 w_g1860
set_option maxRecDepth 100000 in
theorem w_g1861 : w_g (nat_lit 1861) = true := by decide +kernel
theorem w_r1862 : w_rg 1862 := w_rg_s (n := 1861) w_r1861 w_g1861
set_option maxRecDepth 100000 in
theorem w_g1862 : w_g (nat_lit 1862) = true := by decide +kernel
theorem w_r1863 : w_rg 1863 := w_rg_s (n := 1862) w_r1862 w_g1862
set_option maxRecDepth 100000 in
theorem w_g1863 : w_g (nat_lit 1863) = true := by decide +kernel
theorem w_r1864 : w_rg 1864 := w_rg_s (n := 1863) w_r1863 w_g1863
set_option maxRecDepth 100000 in
theorem w_g1864 : w_g (nat_lit 1864) = true := by decide +kernel
theorem w_r1865 : w_rg 1865 := w_rg_s (n := 1864) w_r1864 w_g1864
set_option maxRecDepth 100000 in
theorem w_g1865 : w_g (nat_lit 1865) = true := by decide +kernel
theorem w_r1866 : w_rg 1866 := w_rg_s (n := 1865) w_r1865 w_g1865
set_option maxRecDepth 100000 in
theorem w_g1866 : w_g (nat_lit 1866) = true := by decide +kernel
theorem w_r1867 : w_rg 1867 := w_rg_s (n := 1866) w_r1866 w_g1866
set_option maxRecDepth 100000 in
theorem w_g1867 : w_g (nat_lit 1867) = true := by decide +kernel
theorem w_r1868 : w_rg 1868 := w_rg_s (n := 1867) w_r1867 w_g1867
set_option maxRecDepth 100000 in
theorem w_g1868 : w_g (nat_lit 1868) = true := by decide +kernel
theorem w_r1869 : w_rg 1869 := w_rg_s (n := 1868) w_r1868 w_g1868
set_option maxRecDepth 100000 in
theorem w_g1869 : w_g (nat_lit 1869) = true := by decide +kernel
theorem w_r1870 : w_rg 1870 := w_rg_s (n := 1869) w_r1869 w_g1869
set_option maxRecDepth 100000 in
theorem w_g1870 : w_g (nat_lit 1870) = true := by decide +kernel
theorem w_r1871 : w_rg 1871 := w_rg_s (n := 1870) w_r1870 w_g1870
set_option maxRecDepth 100000 in
theorem w_g1871 : w_g (nat_lit 1871) = true := by decide +kernel
theorem w_r1872 : w_rg 1872 := w_rg_s (n := 1871) w_r1871 w_g1871
set_option maxRecDepth 100000 in
theorem w_g1872 : w_g (nat_lit 1872) = true := by decide +kernel
theorem w_r1873 : w_rg 1873 := w_rg_s (n := 1872) w_r1872 w_g1872
set_option maxRecDepth 100000 in
theorem w_g1873 : w_g (nat_lit 1873) = true := by decide +kernel
theorem w_r1874 : w_rg 1874 := w_rg_s (n := 1873) w_r1873 w_g1873
set_option maxRecDepth 100000 in
theorem w_g1874 : w_g (nat_lit 1874) = true := by decide +kernel
theorem w_r1875 : w_rg 1875 := w_rg_s (n := 1874) w_r1874 w_g1874
set_option maxRecDepth 100000 in
theorem w_g1875 : w_g (nat_lit 1875) = true := by decide +kernel
theorem w_r1876 : w_rg 1876 := w_rg_s (n := 1875) w_r1875 w_g1875
set_option maxRecDepth 100000 in
theorem w_g1876 : w_g (nat_lit 1876) = true := by decide +kernel
theorem w_r1877 : w_rg 1877 := w_rg_s (n := 1876) w_r1876 w_g1876
set_option maxRecDepth 100000 in
theorem w_g1877 : w_g (nat_lit 1877) = true := by decide +kernel
theorem w_r1878 : w_rg 1878 := w_rg_s (n := 1877) w_r1877 w_g1877
set_option maxRecDepth 100000 in
theorem w_g1878 : w_g (nat_lit 1878) = true := by decide +kernel
theorem w_r1879 : w_rg 1879 := w_rg_s (n := 1878) w_r1878 w_g1878
set_option maxRecDepth 100000 in
theorem w_g1879 : w_g (nat_lit 1879) = true := by decide +kernel
theorem w_r1880 : w_rg 1880 := w_rg_s (n := 1879) w_r1879 w_g1879
set_option maxRecDepth 100000 in
theorem w_g1880 : w_g (nat_lit 1880) = true := by decide +kernel
theorem w_r1881 : w_rg 1881 := w_rg_s (n := 1880) w_r1880 w_g1880
set_option maxRecDepth 100000 in
theorem w_g1881 : w_g (nat_lit 1881) = true := by decide +kernel
theorem w_r1882 : w_rg 1882 := w_rg_s (n := 1881) w_r1881 w_g1881
set_option maxRecDepth 100000 in
theorem w_g1882 : w_g (nat_lit 1882) = true := by decide +kernel
theorem w_r1883 : w_rg 1883 := w_rg_s (n := 1882) w_r1882 w_g1882
set_option maxRecDepth 100000 in
theorem w_g1883 : w_g (nat_lit 1883) = true := by decide +kernel
theorem w_r1884 : w_rg 1884 := w_rg_s (n := 1883) w_r1883 w_g1883
set_option maxRecDepth 100000 in
theorem w_g1884 : w_g (nat_lit 1884) = true := by decide +kernel
theorem w_r1885 : w_rg 1885 := w_rg_s (n := 1884) w_r1884 w_g1884
set_option maxRecDepth 100000 in
theorem w_g1885 : w_g (nat_lit 1885) = true := by decide +kernel
theorem w_r1886 : w_rg 1886 := w_rg_s (n := 1885) w_r1885 w_g1885
set_option maxRecDepth 100000 in
theorem w_g1886 : w_g (nat_lit 1886) = true := by decide +kernel
theorem w_r1887 : w_rg 1887 := w_rg_s (n := 1886) w_r1886 w_g1886
set_option maxRecDepth 100000 in
theorem w_g1887 : w_g (nat_lit 1887) = true := by decide +kernel
theorem w_r1888 : w_rg 1888 := w_rg_s (n := 1887) w_r1887 w_g1887
set_option maxRecDepth 100000 in
theorem w_g1888 : w_g (nat_lit 1888) = true := by decide +kernel
theorem w_r1889 : w_rg 1889 := w_rg_s (n := 1888) w_r1888 w_g1888
set_option maxRecDepth 100000 in
theorem w_g1889 : w_g (nat_lit 1889) = true := by decide +kernel
theorem w_r1890 : w_rg 1890 := w_rg_s (n := 1889) w_r1889 w_g1889
set_option maxRecDepth 100000 in
theorem w_g1890 : w_g (nat_lit 1890) = true := by decide +kernel
theorem w_r1891 : w_rg 1891 := w_rg_s (n := 1890) w_r1890 w_g1890
set_option maxRecDepth 100000 in
theorem w_g1891 : w_g (nat_lit 1891) = true := by decide +kernel
theorem w_r1892 : w_rg 1892 := w_rg_s (n := 1891) w_r1891 w_g1891
set_option maxRecDepth 100000 in
theorem w_g1892 : w_g (nat_lit 1892) = true := by decide +kernel
theorem w_r1893 : w_rg 1893 := w_rg_s (n := 1892) w_r1892 w_g1892
set_option maxRecDepth 100000 in
theorem w_g1893 : w_g (nat_lit 1893) = true := by decide +kernel
theorem w_r1894 : w_rg 1894 := w_rg_s (n := 1893) w_r1893 w_g1893
set_option maxRecDepth 100000 in
theorem w_g1894 : w_g (nat_lit 1894) = true := by decide +kernel
theorem w_r1895 : w_rg 1895 := w_rg_s (n := 1894) w_r1894 w_g1894
set_option maxRecDepth 100000 in
theorem w_g1895 : w_g (nat_lit 1895) = true := by decide +kernel
theorem w_r1896 : w_rg 1896 := w_rg_s (n := 1895) w_r1895 w_g1895
set_option maxRecDepth 100000 in
theorem w_g1896 : w_g (nat_lit 1896) = true := by decide +kernel
theorem w_r1897 : w_rg 1897 := w_rg_s (n := 1896) w_r1896 w_g1896
set_option maxRecDepth 100000 in
theorem w_g1897 : w_g (nat_lit 1897) = true := by decide +kernel
theorem w_r1898 : w_rg 1898 := w_rg_s (n := 1897) w_r1897 w_g1897
set_option maxRecDepth 100000 in
theorem w_g1898 : w_g (nat_lit 1898) = true := by decide +kernel
theorem w_r1899 : w_rg 1899 := w_rg_s (n := 1898) w_r1898 w_g1898
set_option maxRecDepth 100000 in
theorem w_g1899 : w_g (nat_lit 1899) = true := by decide +kernel
theorem w_r1900 : w_rg 1900 := w_rg_s (n := 1899) w_r1899 w_g1899
set_option maxRecDepth 100000 in
theorem w_g1900 : w_g (nat_lit 1900) = true := by decide +kernel
theorem w_r1901 : w_rg 1901 := w_rg_s (n := 1900) w_r1900 w_g1900
set_option maxRecDepth 100000 in
theorem w_g1901 : w_g (nat_lit 1901) = true := by decide +kernel
theorem w_r1902 : w_rg 1902 := w_rg_s (n := 1901) w_r1901 w_g1901
set_option maxRecDepth 100000 in
theorem w_g1902 : w_g (nat_lit 1902) = true := by decide +kernel
theorem w_r1903 : w_rg 1903 := w_rg_s (n := 1902) w_r1902 w_g1902
set_option maxRecDepth 100000 in
theorem w_g1903 : w_g (nat_lit 1903) = true := by decide +kernel
theorem w_r1904 : w_rg 1904 := w_rg_s (n := 1903) w_r1903 w_g1903
set_option maxRecDepth 100000 in
theorem w_g1904 : w_g (nat_lit 1904) = true := by decide +kernel
theorem w_r1905 : w_rg 1905 := w_rg_s (n := 1904) w_r1904 w_g1904
set_option maxRecDepth 100000 in
theorem w_g1905 : w_g (nat_lit 1905) = true := by decide +kernel
theorem w_r1906 : w_rg 1906 := w_rg_s (n := 1905) w_r1905 w_g1905
set_option maxRecDepth 100000 in
theorem w_g1906 : w_g (nat_lit 1906) = true := by decide +kernel
theorem w_r1907 : w_rg 1907 := w_rg_s (n := 1906) w_r1906 w_g1906
set_option maxRecDepth 100000 in
theorem w_g1907 : w_g (nat_lit 1907) = true := by decide +kernel
theorem w_r1908 : w_rg 1908 := w_rg_s (n := 1907) w_r1907 w_g1907
set_option maxRecDepth 100000 in
theorem w_g1908 : w_g (nat_lit 1908) = true := by decide +kernel
theorem w_r1909 : w_rg 1909 := w_rg_s (n := 1908) w_r1908 w_g1908
set_option maxRecDepth 100000 in
theorem w_g1909 : w_g (nat_lit 1909) = true := by decide +kernel
theorem w_r1910 : w_rg 1910 := w_rg_s (n := 1909) w_r1909 w_g1909
set_option maxRecDepth 100000 in
theorem w_g1910 : w_g (nat_lit 1910) = true := by decide +kernel
theorem w_r1911 : w_rg 1911 := w_rg_s (n := 1910) w_r1910 w_g1910
set_option maxRecDepth 100000 in
theorem w_g1911 : w_g (nat_lit 1911) = true := by decide +kernel
theorem w_r1912 : w_rg 1912 := w_rg_s (n := 1911) w_r1911 w_g1911
set_option maxRecDepth 100000 in
theorem w_g1912 : w_g (nat_lit 1912) = true := by decide +kernel
theorem w_r1913 : w_rg 1913 := w_rg_s (n := 1912) w_r1912 w_g1912
set_option maxRecDepth 100000 in
theorem w_g1913 : w_g (nat_lit 1913) = true := by decide +kernel
theorem w_r1914 : w_rg 1914 := w_rg_s (n := 1913) w_r1913 w_g1913
set_option maxRecDepth 100000 in
theorem w_g1914 : w_g (nat_lit 1914) = true := by decide +kernel
theorem w_r1915 : w_rg 1915 := w_rg_s (n := 1914) w_r1914 w_g1914
set_option maxRecDepth 100000 in
theorem w_g1915 : w_g (nat_lit 1915) = true := by decide +kernel
theorem w_r1916 : w_rg 1916 := w_rg_s (n := 1915) w_r1915 w_g1915
set_option maxRecDepth 100000 in
theorem w_g1916 : w_g (nat_lit 1916) = true := by decide +kernel
theorem w_r1917 : w_rg 1917 := w_rg_s (n := 1916) w_r1916 w_g1916
set_option maxRecDepth 100000 in
theorem w_g1917 : w_g (nat_lit 1917) = true := by decide +kernel
theorem w_r1918 : w_rg 1918 := w_rg_s (n := 1917) w_r1917 w_g1917
set_option maxRecDepth 100000 in
theorem w_g1918 : w_g (nat_lit 1918) = true := by decide +kernel
theorem w_r1919 : w_rg 1919 := w_rg_s (n := 1918) w_r1918 w_g1918
set_option maxRecDepth 100000 in
theorem w_g1919 : w_g (nat_lit 1919) = true := by decide +kernel
theorem w_r1920 : w_rg 1920 := w_rg_s (n := 1919) w_r1919 w_g1919
set_option maxRecDepth 100000 in
theorem w_g1920 : w_g (nat_lit 1920) = true := by decide +kernel
theorem w_r1921 : w_rg 1921 := w_rg_s (n := 1920) w_r1920 w_g1920
set_option maxRecDepth 100000 in
theorem w_g1921 : w_g (nat_lit 1921) = true := by decide +kernel
theorem w_r1922 : w_rg 1922 := w_rg_s (n := 1921) w_r1921 w_g1921
set_option maxRecDepth 100000 in
theorem w_g1922 : w_g (nat_lit 1922) = true := by decide +kernel
theorem w_r1923 : w_rg 1923 := w_rg_s (n := 1922) w_r1922 w_g1922
set_option maxRecDepth 100000 in
theorem w_g1923 : w_g (nat_lit 1923) = true := by decide +kernel
theorem w_r1924 : w_rg 1924 := w_rg_s (n := 1923) w_r1923 w_g1923
set_option maxRecDepth 100000 in
theorem w_g1924 : w_g (nat_lit 1924) = true := by decide +kernel
theorem w_r1925 : w_rg 1925 := w_rg_s (n := 1924) w_r1924 w_g1924
set_option maxRecDepth 100000 in
theorem w_g1925 : w_g (nat_lit 1925) = true := by decide +kernel
theorem w_r1926 : w_rg 1926 := w_rg_s (n := 1925) w_r1925 w_g1925
set_option maxRecDepth 100000 in
theorem w_g1926 : w_g (nat_lit 1926) = true := by decide +kernel
theorem w_r1927 : w_rg 1927 := w_rg_s (n := 1926) w_r1926 w_g1926
set_option maxRecDepth 100000 in
theorem w_g1927 : w_g (nat_lit 1927) = true := by decide +kernel
theorem w_r1928 : w_rg 1928 := w_rg_s (n := 1927) w_r1927 w_g1927
set_option maxRecDepth 100000 in
theorem w_g1928 : w_g (nat_lit 1928) = true := by decide +kernel
theorem w_r1929 : w_rg 1929 := w_rg_s (n := 1928) w_r1928 w_g1928
set_option maxRecDepth 100000 in
theorem w_g1929 : w_g (nat_lit 1929) = true := by decide +kernel
theorem w_r1930 : w_rg 1930 := w_rg_s (n := 1929) w_r1929 w_g1929
set_option maxRecDepth 100000 in
theorem w_g1930 : w_g (nat_lit 1930) = true := by decide +kernel
theorem w_r1931 : w_rg 1931 := w_rg_s (n := 1930) w_r1930 w_g1930
set_option maxRecDepth 100000 in
theorem w_g1931 : w_g (nat_lit 1931) = true := by decide +kernel
theorem w_r1932 : w_rg 1932 := w_rg_s (n := 1931) w_r1931 w_g1931
set_option maxRecDepth 100000 in
theorem w_g1932 : w_g (nat_lit 1932) = true := by decide +kernel
theorem w_r1933 : w_rg 1933 := w_rg_s (n := 1932) w_r1932 w_g1932
set_option maxRecDepth 100000 in
theorem w_g1933 : w_g (nat_lit 1933) = true := by decide +kernel
theorem w_r1934 : w_rg 1934 := w_rg_s (n := 1933) w_r1933 w_g1933
set_option maxRecDepth 100000 in
theorem w_g1934 : w_g (nat_lit 1934) = true := by decide +kernel
theorem w_r1935 : w_rg 1935 := w_rg_s (n := 1934) w_r1934 w_g1934
set_option maxRecDepth 100000 in
theorem w_g1935 : w_g (nat_lit 1935) = true := by decide +kernel
theorem w_r1936 : w_rg 1936 := w_rg_s (n := 1935) w_r1935 w_g1935
set_option maxRecDepth 100000 in
theorem w_g1936 : w_g (nat_lit 1936) = true := by decide +kernel
theorem w_r1937 : w_rg 1937 := w_rg_s (n := 1936) w_r1936 w_g1936
set_option maxRecDepth 100000 in
theorem w_g1937 : w_g (nat_lit 1937) = true := by decide +kernel
theorem w_r1938 : w_rg 1938 := w_rg_s (n := 1937) w_r1937 w_g1937
set_option maxRecDepth 100000 in
theorem w_g1938 : w_g (nat_lit 1938) = true := by decide +kernel
theorem w_r1939 : w_rg 1939 := w_rg_s (n := 1938) w_r1938 w_g1938
set_option maxRecDepth 100000 in
theorem w_g1939 : w_g (nat_lit 1939) = true := by decide +kernel
theorem w_r1940 : w_rg 1940 := w_rg_s (n := 1939) w_r1939 w_g1939
set_option maxRecDepth 100000 in
theorem w_g1940 : w_g (nat_lit 1940) = true := by decide +kernel
theorem w_r1941 : w_rg 1941 := w_rg_s (n := 1940) w_r1940 w_g1940
set_option maxRecDepth 100000 in
theorem w_g1941 : w_g (nat_lit 1941) = true := by decide +kernel
theorem w_r1942 : w_rg 1942 := w_rg_s (n := 1941) w_r1941 w_g1941
set_option maxRecDepth 100000 in
theorem w_g1942 : w_g (nat_lit 1942) = true := by decide +kernel
theorem w_r1943 : w_rg 1943 := w_rg_s (n := 1942) w_r1942 w_g1942
set_option maxRecDepth 100000 in
theorem w_g1943 : w_g (nat_lit 1943) = true := by decide +kernel
theorem w_r1944 : w_rg 1944 := w_rg_s (n := 1943) w_r1943 w_g1943
set_option maxRecDepth 100000 in
theorem w_g1944 : w_g (nat_lit 1944) = true := by decide +kernel
theorem w_r1945 : w_rg 1945 := w_rg_s (n := 1944) w_r1944 w_g1944
set_option maxRecDepth 100000 in
theorem w_g1945 : w_g (nat_lit 1945) = true := by decide +kernel
theorem w_r1946 : w_rg 1946 := w_rg_s (n := 1945) w_r1945 w_g1945
set_option maxRecDepth 100000 in
theorem w_g1946 : w_g (nat_lit 1946) = true := by decide +kernel
theorem w_r1947 : w_rg 1947 := w_rg_s (n := 1946) w_r1946 w_g1946
set_option maxRecDepth 100000 in
theorem w_g1947 : w_g (nat_lit 1947) = true := by decide +kernel
theorem w_r1948 : w_rg 1948 := w_rg_s (n := 1947) w_r1947 w_g1947
set_option maxRecDepth 100000 in
theorem w_g1948 : w_g (nat_lit 1948) = true := by decide +kernel
theorem w_r1949 : w_rg 1949 := w_rg_s (n := 1948) w_r1948 w_g1948
set_option maxRecDepth 100000 in
theorem w_g1949 : w_g (nat_lit 1949) = true := by decide +kernel
theorem w_r1950 : w_rg 1950 := w_rg_s (n := 1949) w_r1949 w_g1949
set_option maxRecDepth 100000 in
theorem w_g1950 : w_g (nat_lit 1950) = true := by decide +kernel
theorem w_r1951 : w_rg 1951 := w_rg_s (n := 1950) w_r1950 w_g1950
set_option maxRecDepth 100000 in
theorem w_g1951 : w_g (nat_lit 1951) = true := by decide +kernel
theorem w_r1952 : w_rg 1952 := w_rg_s (n := 1951) w_r1951 w_g1951
set_option maxRecDepth 100000 in
theorem w_g1952 : w_g (nat_lit 1952) = true := by decide +kernel
theorem w_r1953 : w_rg 1953 := w_rg_s (n := 1952) w_r1952 w_g1952
set_option maxRecDepth 100000 in
theorem w_g1953 : w_g (nat_lit 1953) = true := by decide +kernel
theorem w_r1954 : w_rg 1954 := w_rg_s (n := 1953) w_r1953 w_g1953
set_option maxRecDepth 100000 in
theorem w_g1954 : w_g (nat_lit 1954) = true := by decide +kernel
theorem w_r1955 : w_rg 1955 := w_rg_s (n := 1954) w_r1954 w_g1954
set_option maxRecDepth 100000 in
theorem w_g1955 : w_g (nat_lit 1955) = true := by decide +kernel
theorem w_r1956 : w_rg 1956 := w_rg_s (n := 1955) w_r1955 w_g1955
set_option maxRecDepth 100000 in
theorem w_g1956 : w_g (nat_lit 1956) = true := by decide +kernel
theorem w_r1957 : w_rg 1957 := w_rg_s (n := 1956) w_r1956 w_g1956
set_option maxRecDepth 100000 in
theorem w_g1957 : w_g (nat_lit 1957) = true := by decide +kernel
theorem w_r1958 : w_rg 1958 := w_rg_s (n := 1957) w_r1957 w_g1957
set_option maxRecDepth 100000 in
theorem w_g1958 : w_g (nat_lit 1958) = true := by decide +kernel
theorem w_r1959 : w_rg 1959 := w_rg_s (n := 1958) w_r1958 w_g1958
set_option maxRecDepth 100000 in
theorem w_g1959 : w_g (nat_lit 1959) = true := by decide +kernel
theorem w_r1960 : w_rg 1960 := w_rg_s (n := 1959) w_r1959 w_g1959
set_option maxRecDepth 100000 in
theorem w_g1960 : w_g (nat_lit 1960) = true := by decide +kernel
theorem w_r1961 : w_rg 1961 := w_rg_s (n := 1960) w_r1960 w_g1960
set_option maxRecDepth 100000 in
theorem w_g1961 : w_g (nat_lit 1961) = true := by decide +kernel
theorem w_r1962 : w_rg 1962 := w_rg_s (n := 1961) w_r1961 w_g1961
set_option maxRecDepth 100000 in
theorem w_g1962 : w_g (nat_lit 1962) = true := by decide +kernel
theorem w_r1963 : w_rg 1963 := w_rg_s (n := 1962) w_r1962 w_g1962
set_option maxRecDepth 100000 in
theorem w_g1963 : w_g (nat_lit 1963) = true := by decide +kernel
theorem w_r1964 : w_rg 1964 := w_rg_s (n := 1963) w_r1963 w_g1963
set_option maxRecDepth 100000 in
theorem w_g1964 : w_g (nat_lit 1964) = true := by decide +kernel
theorem w_r1965 : w_rg 1965 := w_rg_s (n := 1964) w_r1964 w_g1964
set_option maxRecDepth 100000 in
theorem w_g1965 : w_g (nat_lit 1965) = true := by decide +kernel
theorem w_r1966 : w_rg 1966 := w_rg_s (n := 1965) w_r1965 w_g1965
set_option maxRecDepth 100000 in
theorem w_g1966 : w_g (nat_lit 1966) = true := by decide +kernel
theorem w_r1967 : w_rg 1967 := w_rg_s (n := 1966) w_r1966 w_g1966
set_option maxRecDepth 100000 in
theorem w_g1967 : w_g (nat_lit 1967) = true := by decide +kernel
theorem w_r1968 : w_rg 1968 := w_rg_s (n := 1967) w_r1967 w_g1967
set_option maxRecDepth 100000 in
theorem w_g1968 : w_g (nat_lit 1968) = true := by decide +kernel
theorem w_r1969 : w_rg 1969 := w_rg_s (n := 1968) w_r1968 w_g1968
set_option maxRecDepth 100000 in
theorem w_g1969 : w_g (nat_lit 1969) = true := by decide +kernel
theorem w_r1970 : w_rg 1970 := w_rg_s (n := 1969) w_r1969 w_g1969
set_option maxRecDepth 100000 in
theorem w_g1970 : w_g (nat_lit 1970) = true := by decide +kernel
theorem w_r1971 : w_rg 1971 := w_rg_s (n := 1970) w_r1970 w_g1970
set_option maxRecDepth 100000 in
theorem w_g1971 : w_g (nat_lit 1971) = true := by decide +kernel
theorem w_r1972 : w_rg 1972 := w_rg_s (n := 1971) w_r1971 w_g1971
set_option maxRecDepth 100000 in
theorem w_g1972 : w_g (nat_lit 1972) = true := by decide +kernel
theorem w_r1973 : w_rg 1973 := w_rg_s (n := 1972) w_r1972 w_g1972
set_option maxRecDepth 100000 in
theorem w_g1973 : w_g (nat_lit 1973) = true := by decide +kernel
theorem w_r1974 : w_rg 1974 := w_rg_s (n := 1973) w_r1973 w_g1973
set_option maxRecDepth 100000 in
theorem w_g1974 : w_g (nat_lit 1974) = true := by decide +kernel
theorem w_r1975 : w_rg 1975 := w_rg_s (n := 1974) w_r1974 w_g1974
set_option maxRecDepth 100000 in
theorem w_g1975 : w_g (nat_lit 1975) = true := by decide +kernel
theorem w_r1976 : w_rg 1976 := w_rg_s (n := 1975) w_r1975 w_g1975
set_option maxRecDepth 100000 in
theorem w_g1976 : w_g (nat_lit 1976) = true := by decide +kernel
theorem w_r1977 : w_rg 1977 := w_rg_s (n := 1976) w_r1976 w_g1976
set_option maxRecDepth 100000 in
theorem w_g1977 : w_g (nat_lit 1977) = true := by decide +kernel
theorem w_r1978 : w_rg 1978 := w_rg_s (n := 1977) w_r1977 w_g1977
set_option maxRecDepth 100000 in
theorem w_g1978 : w_g (nat_lit 1978) = true := by decide +kernel
theorem w_r1979 : w_rg 1979 := w_rg_s (n := 1978) w_r1978 w_g1978
set_option maxRecDepth 100000 in
theorem w_g1979 : w_g (nat_lit 1979) = true := by decide +kernel
theorem w_r1980 : w_rg 1980 := w_rg_s (n := 1979) w_r1979 w_g1979
set_option maxRecDepth 100000 in
theorem w_g1980 : w_g (nat_lit 1980) = true := by decide +kernel
theorem w_r1981 : w_rg 1981 := w_rg_s (n := 1980) w_r1980 w_g1980
set_option maxRecDepth 100000 in
theorem w_g1981 : w_g (nat_lit 1981) = true := by decide +kernel
theorem w_r1982 : w_rg 1982 := w_rg_s (n := 1981) w_r1981 w_g1981
set_option maxRecDepth 100000 in
theorem w_g1982 : w_g (nat_lit 1982) = true := by decide +kernel
theorem w_r1983 : w_rg 1983 := w_rg_s (n := 1982) w_r1982 w_g1982
set_option maxRecDepth 100000 in
theorem w_g1983 : w_g (nat_lit 1983) = true := by decide +kernel
theorem w_r1984 : w_rg 1984 := w_rg_s (n := 1983) w_r1983 w_g1983
set_option maxRecDepth 100000 in
theorem w_g1984 : w_g (nat_lit 1984) = true := by decide +kernel
theorem w_r1985 : w_rg 1985 := w_rg_s (n := 1984) w_r1984 w_g1984
set_option maxRecDepth 100000 in
theorem w_g1985 : w_g (nat_lit 1985) = true := by decide +kernel
theorem w_r1986 : w_rg 1986 := w_rg_s (n := 1985) w_r1985 w_g1985
set_option maxRecDepth 100000 in
theorem w_g1986 : w_g (nat_lit 1986) = true := by decide +kernel
theorem w_r1987 : w_rg 1987 := w_rg_s (n := 1986) w_r1986 w_g1986
set_option maxRecDepth 100000 in
theorem w_g1987 : w_g (nat_lit 1987) = true := by decide +kernel
theorem w_r1988 : w_rg 1988 := w_rg_s (n := 1987) w_r1987 w_g1987
set_option maxRecDepth 100000 in
theorem w_g1988 : w_g (nat_lit 1988) = true := by decide +kernel
theorem w_r1989 : w_rg 1989 := w_rg_s (n := 1988) w_r1988 w_g1988
set_option maxRecDepth 100000 in
theorem w_g1989 : w_g (nat_lit 1989) = true := by decide +kernel
theorem w_r1990 : w_rg 1990 := w_rg_s (n := 1989) w_r1989 w_g1989
