/-! the law's calls, 5 -/
theorem l_344_1725 : look 344 1725 = some (.aload_n 1, 1, 0, 0, 0, 0) := by decide +kernel
theorem l_344_1726 : look 344 1726 = some (.aload_n 0, 1, 0, 0, 0, 0) := by decide +kernel
theorem l_344_1727 : look 344 1727 = some (.iload 4, 2, 0, 0, 0, 0) := by decide +kernel
theorem l_344_1729 : look 344 1729 = some (.iconst 1, 1, 0, 0, 0, 0) := by decide +kernel
theorem l_344_1730 : look 344 1730 = some (.iadd, 1, 0, 0, 0, 0) := by decide +kernel
theorem l_344_1731 : look 344 1731 = some (.iaload, 1, 0, 0, 0, 0) := by decide +kernel
theorem l_344_1732 : look 344 1732 = some (.aload_n 3, 1, 0, 0, 0, 0) := by decide +kernel
theorem l_344_1733 : look 344 1733 = some (.invokestatic 239, 3, 329, 3, 7, 1311) := by decide +kernel
theorem l_344_1736 : look 344 1736 = some (.istore 5, 2, 0, 0, 0, 0) := by decide +kernel
theorem l_344_1738 : look 344 1738 = some (.aload_n 2, 1, 0, 0, 0, 0) := by decide +kernel
theorem l_344_1739 : look 344 1739 = some (.aload_n 0, 1, 0, 0, 0, 0) := by decide +kernel
theorem l_344_1740 : look 344 1740 = some (.iload 4, 2, 0, 0, 0, 0) := by decide +kernel
theorem l_344_1742 : look 344 1742 = some (.iconst 1, 1, 0, 0, 0, 0) := by decide +kernel
theorem l_344_1743 : look 344 1743 = some (.iadd, 1, 0, 0, 0, 0) := by decide +kernel
theorem l_344_1744 : look 344 1744 = some (.iaload, 1, 0, 0, 0, 0) := by decide +kernel
theorem l_344_1745 : look 344 1745 = some (.invokevirtual 241, 3, 262, 2, 0, 2114) := by decide +kernel
theorem l_344_1748 : look 344 1748 = some (.istore 6, 2, 0, 0, 0, 0) := by decide +kernel
theorem l_344_1750 : look 344 1750 = some (.aload_n 2, 1, 0, 0, 0, 0) := by decide +kernel
theorem l_344_1751 : look 344 1751 = some (.invokevirtual 153, 3, 168, 1, 0, 1730) := by decide +kernel
theorem l_344_1754 : look 344 1754 = some (.iload 5, 2, 0, 0, 0, 0) := by decide +kernel
theorem l_344_1756 : look 344 1756 = some (.if_icmp .eq 5, 3, 0, 0, 0, 0) := by decide +kernel
theorem l_344_1761 : look 344 1761 = some (.iload 5, 2, 0, 0, 0, 0) := by decide +kernel
theorem l_344_1763 : look 344 1763 = some (.ifCond .ne 15, 3, 0, 0, 0, 0) := by decide +kernel
theorem l_344_1766 : look 344 1766 = some (.aload_n 3, 1, 0, 0, 0, 0) := by decide +kernel
theorem l_344_1767 : look 344 1767 = some (.iconst 0, 1, 0, 0, 0, 0) := by decide +kernel
theorem l_344_1768 : look 344 1768 = some (.laload, 1, 0, 0, 0, 0) := by decide +kernel
theorem l_344_1769 : look 344 1769 = some (.iload 6, 2, 0, 0, 0, 0) := by decide +kernel
theorem l_344_1771 : look 344 1771 = some (.i2l, 1, 0, 0, 0, 0) := by decide +kernel
theorem l_344_1772 : look 344 1772 = some (.lcmp, 1, 0, 0, 0, 0) := by decide +kernel
theorem l_344_1773 : look 344 1773 = some (.ifCond .eq 5, 3, 0, 0, 0, 0) := by decide +kernel
theorem l_344_1778 : look 344 1778 = some (.goto 936, 3, 0, 0, 0, 0) := by decide +kernel
theorem l_344_1781 : look 344 1781 = some (.aload_n 1, 1, 0, 0, 0, 0) := by decide +kernel
theorem l_344_1782 : look 344 1782 = some (.aload_n 0, 1, 0, 0, 0, 0) := by decide +kernel
theorem l_344_1783 : look 344 1783 = some (.iload 4, 2, 0, 0, 0, 0) := by decide +kernel
theorem l_344_1785 : look 344 1785 = some (.iconst 1, 1, 0, 0, 0, 0) := by decide +kernel
theorem l_344_1786 : look 344 1786 = some (.iadd, 1, 0, 0, 0, 0) := by decide +kernel
theorem l_344_1787 : look 344 1787 = some (.iaload, 1, 0, 0, 0, 0) := by decide +kernel
theorem l_344_1788 : look 344 1788 = some (.aload_n 0, 1, 0, 0, 0, 0) := by decide +kernel
theorem l_344_1789 : look 344 1789 = some (.iload 4, 2, 0, 0, 0, 0) := by decide +kernel
theorem l_344_1791 : look 344 1791 = some (.iconst 2, 1, 0, 0, 0, 0) := by decide +kernel
theorem l_344_1792 : look 344 1792 = some (.iadd, 1, 0, 0, 0, 0) := by decide +kernel
theorem l_344_1793 : look 344 1793 = some (.iaload, 1, 0, 0, 0, 0) := by decide +kernel
theorem l_344_1794 : look 344 1794 = some (.aload_n 3, 1, 0, 0, 0, 0) := by decide +kernel
theorem l_344_1795 : look 344 1795 = some (.invokestatic 242, 3, 330, 4, 7, 1327) := by decide +kernel
theorem l_344_1798 : look 344 1798 = some (.istore 5, 2, 0, 0, 0, 0) := by decide +kernel
theorem l_344_1800 : look 344 1800 = some (.aload_n 2, 1, 0, 0, 0, 0) := by decide +kernel
theorem l_344_1801 : look 344 1801 = some (.aload_n 0, 1, 0, 0, 0, 0) := by decide +kernel
theorem l_344_1802 : look 344 1802 = some (.iload 4, 2, 0, 0, 0, 0) := by decide +kernel
theorem l_344_1804 : look 344 1804 = some (.iconst 1, 1, 0, 0, 0, 0) := by decide +kernel
theorem l_344_1805 : look 344 1805 = some (.iadd, 1, 0, 0, 0, 0) := by decide +kernel
theorem l_344_1806 : look 344 1806 = some (.iaload, 1, 0, 0, 0, 0) := by decide +kernel
theorem l_344_1807 : look 344 1807 = some (.aload_n 0, 1, 0, 0, 0, 0) := by decide +kernel
theorem l_344_1808 : look 344 1808 = some (.iload 4, 2, 0, 0, 0, 0) := by decide +kernel
theorem l_344_1810 : look 344 1810 = some (.iconst 2, 1, 0, 0, 0, 0) := by decide +kernel
theorem l_344_1811 : look 344 1811 = some (.iadd, 1, 0, 0, 0, 0) := by decide +kernel
theorem l_344_1812 : look 344 1812 = some (.iaload, 1, 0, 0, 0, 0) := by decide +kernel
theorem l_344_1813 : look 344 1813 = some (.invokevirtual 244, 3, 263, 3, 0, 2122) := by decide +kernel
theorem l_344_1816 : look 344 1816 = some (.istore 6, 2, 0, 0, 0, 0) := by decide +kernel
theorem l_344_1818 : look 344 1818 = some (.aload_n 2, 1, 0, 0, 0, 0) := by decide +kernel
theorem l_344_1819 : look 344 1819 = some (.invokevirtual 153, 3, 168, 1, 0, 1730) := by decide +kernel
theorem l_344_1822 : look 344 1822 = some (.iload 5, 2, 0, 0, 0, 0) := by decide +kernel
theorem l_344_1824 : look 344 1824 = some (.if_icmp .eq 5, 3, 0, 0, 0, 0) := by decide +kernel
theorem l_344_1829 : look 344 1829 = some (.iload 5, 2, 0, 0, 0, 0) := by decide +kernel
theorem l_344_1831 : look 344 1831 = some (.ifCond .ne 15, 3, 0, 0, 0, 0) := by decide +kernel
theorem l_344_1834 : look 344 1834 = some (.aload_n 3, 1, 0, 0, 0, 0) := by decide +kernel
theorem l_344_1835 : look 344 1835 = some (.iconst 0, 1, 0, 0, 0, 0) := by decide +kernel
theorem l_344_1836 : look 344 1836 = some (.laload, 1, 0, 0, 0, 0) := by decide +kernel
theorem l_344_1837 : look 344 1837 = some (.iload 6, 2, 0, 0, 0, 0) := by decide +kernel
theorem l_344_1839 : look 344 1839 = some (.i2l, 1, 0, 0, 0, 0) := by decide +kernel
theorem l_344_1840 : look 344 1840 = some (.lcmp, 1, 0, 0, 0, 0) := by decide +kernel
theorem l_344_1841 : look 344 1841 = some (.ifCond .eq 5, 3, 0, 0, 0, 0) := by decide +kernel
theorem l_344_1846 : look 344 1846 = some (.goto 868, 3, 0, 0, 0, 0) := by decide +kernel
theorem l_344_1849 : look 344 1849 = some (.aload_n 1, 1, 0, 0, 0, 0) := by decide +kernel
theorem l_344_1850 : look 344 1850 = some (.aload_n 0, 1, 0, 0, 0, 0) := by decide +kernel
theorem l_344_1851 : look 344 1851 = some (.iload 4, 2, 0, 0, 0, 0) := by decide +kernel
theorem l_344_1853 : look 344 1853 = some (.iconst 1, 1, 0, 0, 0, 0) := by decide +kernel
theorem l_344_1854 : look 344 1854 = some (.iadd, 1, 0, 0, 0, 0) := by decide +kernel
theorem l_344_1855 : look 344 1855 = some (.iaload, 1, 0, 0, 0, 0) := by decide +kernel
theorem l_344_1856 : look 344 1856 = some (.aload_n 0, 1, 0, 0, 0, 0) := by decide +kernel
theorem l_344_1857 : look 344 1857 = some (.iload 4, 2, 0, 0, 0, 0) := by decide +kernel
theorem l_344_1859 : look 344 1859 = some (.iconst 2, 1, 0, 0, 0, 0) := by decide +kernel
theorem l_344_1860 : look 344 1860 = some (.iadd, 1, 0, 0, 0, 0) := by decide +kernel
theorem l_344_1861 : look 344 1861 = some (.iaload, 1, 0, 0, 0, 0) := by decide +kernel
theorem l_344_1862 : look 344 1862 = some (.aload_n 3, 1, 0, 0, 0, 0) := by decide +kernel
theorem l_344_1863 : look 344 1863 = some (.invokestatic 245, 3, 331, 4, 7, 1343) := by decide +kernel
theorem l_344_1866 : look 344 1866 = some (.istore 5, 2, 0, 0, 0, 0) := by decide +kernel
theorem l_344_1868 : look 344 1868 = some (.aload_n 2, 1, 0, 0, 0, 0) := by decide +kernel
theorem l_344_1869 : look 344 1869 = some (.aload_n 0, 1, 0, 0, 0, 0) := by decide +kernel
theorem l_344_1870 : look 344 1870 = some (.iload 4, 2, 0, 0, 0, 0) := by decide +kernel
theorem l_344_1872 : look 344 1872 = some (.iconst 1, 1, 0, 0, 0, 0) := by decide +kernel
theorem l_344_1873 : look 344 1873 = some (.iadd, 1, 0, 0, 0, 0) := by decide +kernel
theorem l_344_1874 : look 344 1874 = some (.iaload, 1, 0, 0, 0, 0) := by decide +kernel
theorem l_344_1875 : look 344 1875 = some (.aload_n 0, 1, 0, 0, 0, 0) := by decide +kernel
theorem l_344_1876 : look 344 1876 = some (.iload 4, 2, 0, 0, 0, 0) := by decide +kernel
theorem l_344_1878 : look 344 1878 = some (.iconst 2, 1, 0, 0, 0, 0) := by decide +kernel
theorem l_344_1879 : look 344 1879 = some (.iadd, 1, 0, 0, 0, 0) := by decide +kernel
theorem l_344_1880 : look 344 1880 = some (.iaload, 1, 0, 0, 0, 0) := by decide +kernel
theorem l_344_1881 : look 344 1881 = some (.invokevirtual 247, 3, 264, 3, 0, 2126) := by decide +kernel
theorem l_344_1884 : look 344 1884 = some (.istore 6, 2, 0, 0, 0, 0) := by decide +kernel
theorem l_344_1886 : look 344 1886 = some (.aload_n 2, 1, 0, 0, 0, 0) := by decide +kernel
theorem l_344_1887 : look 344 1887 = some (.invokevirtual 153, 3, 168, 1, 0, 1730) := by decide +kernel
theorem l_344_1890 : look 344 1890 = some (.iload 5, 2, 0, 0, 0, 0) := by decide +kernel
theorem l_344_1892 : look 344 1892 = some (.if_icmp .eq 5, 3, 0, 0, 0, 0) := by decide +kernel
theorem l_344_1897 : look 344 1897 = some (.iload 5, 2, 0, 0, 0, 0) := by decide +kernel
theorem l_344_1899 : look 344 1899 = some (.ifCond .ne 15, 3, 0, 0, 0, 0) := by decide +kernel
theorem l_344_1902 : look 344 1902 = some (.aload_n 3, 1, 0, 0, 0, 0) := by decide +kernel
theorem l_344_1903 : look 344 1903 = some (.iconst 0, 1, 0, 0, 0, 0) := by decide +kernel
theorem l_344_1904 : look 344 1904 = some (.laload, 1, 0, 0, 0, 0) := by decide +kernel
theorem l_344_1905 : look 344 1905 = some (.iload 6, 2, 0, 0, 0, 0) := by decide +kernel
theorem l_344_1907 : look 344 1907 = some (.i2l, 1, 0, 0, 0, 0) := by decide +kernel
theorem l_344_1908 : look 344 1908 = some (.lcmp, 1, 0, 0, 0, 0) := by decide +kernel
theorem l_344_1909 : look 344 1909 = some (.ifCond .eq 5, 3, 0, 0, 0, 0) := by decide +kernel
theorem l_344_1914 : look 344 1914 = some (.goto 800, 3, 0, 0, 0, 0) := by decide +kernel
theorem l_344_1917 : look 344 1917 = some (.aload_n 1, 1, 0, 0, 0, 0) := by decide +kernel
theorem l_344_1918 : look 344 1918 = some (.aload_n 0, 1, 0, 0, 0, 0) := by decide +kernel
theorem l_344_1919 : look 344 1919 = some (.iload 4, 2, 0, 0, 0, 0) := by decide +kernel
theorem l_344_1921 : look 344 1921 = some (.iconst 1, 1, 0, 0, 0, 0) := by decide +kernel
theorem l_344_1922 : look 344 1922 = some (.iadd, 1, 0, 0, 0, 0) := by decide +kernel
theorem l_344_1923 : look 344 1923 = some (.iaload, 1, 0, 0, 0, 0) := by decide +kernel
theorem l_344_1924 : look 344 1924 = some (.aload_n 3, 1, 0, 0, 0, 0) := by decide +kernel
theorem l_344_1925 : look 344 1925 = some (.invokestatic 248, 3, 332, 3, 7, 1350) := by decide +kernel
theorem l_344_1928 : look 344 1928 = some (.istore 5, 2, 0, 0, 0, 0) := by decide +kernel
theorem l_344_1930 : look 344 1930 = some (.aload_n 2, 1, 0, 0, 0, 0) := by decide +kernel
theorem l_344_1931 : look 344 1931 = some (.aload_n 0, 1, 0, 0, 0, 0) := by decide +kernel
theorem l_344_1932 : look 344 1932 = some (.iload 4, 2, 0, 0, 0, 0) := by decide +kernel
theorem l_344_1934 : look 344 1934 = some (.iconst 1, 1, 0, 0, 0, 0) := by decide +kernel
theorem l_344_1935 : look 344 1935 = some (.iadd, 1, 0, 0, 0, 0) := by decide +kernel
theorem l_344_1936 : look 344 1936 = some (.iaload, 1, 0, 0, 0, 0) := by decide +kernel
theorem l_344_1937 : look 344 1937 = some (.invokevirtual 250, 3, 265, 2, 0, 2130) := by decide +kernel
theorem l_344_1940 : look 344 1940 = some (.istore 6, 2, 0, 0, 0, 0) := by decide +kernel
theorem l_344_1942 : look 344 1942 = some (.aload_n 2, 1, 0, 0, 0, 0) := by decide +kernel
theorem l_344_1943 : look 344 1943 = some (.invokevirtual 153, 3, 168, 1, 0, 1730) := by decide +kernel
theorem l_344_1946 : look 344 1946 = some (.iload 5, 2, 0, 0, 0, 0) := by decide +kernel
theorem l_344_1948 : look 344 1948 = some (.if_icmp .eq 5, 3, 0, 0, 0, 0) := by decide +kernel
theorem l_344_1953 : look 344 1953 = some (.iload 5, 2, 0, 0, 0, 0) := by decide +kernel
theorem l_344_1955 : look 344 1955 = some (.ifCond .ne 15, 3, 0, 0, 0, 0) := by decide +kernel
theorem l_344_1958 : look 344 1958 = some (.aload_n 3, 1, 0, 0, 0, 0) := by decide +kernel
theorem l_344_1959 : look 344 1959 = some (.iconst 0, 1, 0, 0, 0, 0) := by decide +kernel
theorem l_344_1960 : look 344 1960 = some (.laload, 1, 0, 0, 0, 0) := by decide +kernel
theorem l_344_1961 : look 344 1961 = some (.iload 6, 2, 0, 0, 0, 0) := by decide +kernel
theorem l_344_1963 : look 344 1963 = some (.i2l, 1, 0, 0, 0, 0) := by decide +kernel
theorem l_344_1964 : look 344 1964 = some (.lcmp, 1, 0, 0, 0, 0) := by decide +kernel
theorem l_344_1965 : look 344 1965 = some (.ifCond .eq 5, 3, 0, 0, 0, 0) := by decide +kernel
theorem l_344_1970 : look 344 1970 = some (.goto 744, 3, 0, 0, 0, 0) := by decide +kernel
theorem l_344_1973 : look 344 1973 = some (.aload_n 1, 1, 0, 0, 0, 0) := by decide +kernel
theorem l_344_1974 : look 344 1974 = some (.aload_n 0, 1, 0, 0, 0, 0) := by decide +kernel
theorem l_344_1975 : look 344 1975 = some (.iload 4, 2, 0, 0, 0, 0) := by decide +kernel
theorem l_344_1977 : look 344 1977 = some (.iconst 1, 1, 0, 0, 0, 0) := by decide +kernel
theorem l_344_1978 : look 344 1978 = some (.iadd, 1, 0, 0, 0, 0) := by decide +kernel
theorem l_344_1979 : look 344 1979 = some (.iaload, 1, 0, 0, 0, 0) := by decide +kernel
theorem l_344_1980 : look 344 1980 = some (.aload_n 0, 1, 0, 0, 0, 0) := by decide +kernel
theorem l_344_1981 : look 344 1981 = some (.iload 4, 2, 0, 0, 0, 0) := by decide +kernel
theorem l_344_1983 : look 344 1983 = some (.iconst 2, 1, 0, 0, 0, 0) := by decide +kernel
theorem l_344_1984 : look 344 1984 = some (.iadd, 1, 0, 0, 0, 0) := by decide +kernel
theorem l_344_1985 : look 344 1985 = some (.iaload, 1, 0, 0, 0, 0) := by decide +kernel
theorem l_344_1986 : look 344 1986 = some (.aload_n 0, 1, 0, 0, 0, 0) := by decide +kernel
theorem l_344_1987 : look 344 1987 = some (.iload 4, 2, 0, 0, 0, 0) := by decide +kernel
theorem l_344_1989 : look 344 1989 = some (.iconst 3, 1, 0, 0, 0, 0) := by decide +kernel
theorem l_344_1990 : look 344 1990 = some (.iadd, 1, 0, 0, 0, 0) := by decide +kernel
theorem l_344_1991 : look 344 1991 = some (.iaload, 1, 0, 0, 0, 0) := by decide +kernel
theorem l_344_1992 : look 344 1992 = some (.aload_n 3, 1, 0, 0, 0, 0) := by decide +kernel
theorem l_344_1993 : look 344 1993 = some (.invokestatic 251, 3, 333, 5, 7, 1357) := by decide +kernel
theorem l_344_1996 : look 344 1996 = some (.istore 5, 2, 0, 0, 0, 0) := by decide +kernel
theorem l_344_1998 : look 344 1998 = some (.aload_n 2, 1, 0, 0, 0, 0) := by decide +kernel
theorem l_344_1999 : look 344 1999 = some (.aload_n 0, 1, 0, 0, 0, 0) := by decide +kernel
theorem l_344_2000 : look 344 2000 = some (.iload 4, 2, 0, 0, 0, 0) := by decide +kernel
theorem l_344_2002 : look 344 2002 = some (.iconst 1, 1, 0, 0, 0, 0) := by decide +kernel
theorem l_344_2003 : look 344 2003 = some (.iadd, 1, 0, 0, 0, 0) := by decide +kernel
theorem l_344_2004 : look 344 2004 = some (.iaload, 1, 0, 0, 0, 0) := by decide +kernel
theorem l_344_2005 : look 344 2005 = some (.aload_n 0, 1, 0, 0, 0, 0) := by decide +kernel
theorem l_344_2006 : look 344 2006 = some (.iload 4, 2, 0, 0, 0, 0) := by decide +kernel
theorem l_344_2008 : look 344 2008 = some (.iconst 2, 1, 0, 0, 0, 0) := by decide +kernel
theorem l_344_2009 : look 344 2009 = some (.iadd, 1, 0, 0, 0, 0) := by decide +kernel
theorem l_344_2010 : look 344 2010 = some (.iaload, 1, 0, 0, 0, 0) := by decide +kernel
theorem l_344_2011 : look 344 2011 = some (.aload_n 0, 1, 0, 0, 0, 0) := by decide +kernel
theorem l_344_2012 : look 344 2012 = some (.iload 4, 2, 0, 0, 0, 0) := by decide +kernel
theorem l_344_2014 : look 344 2014 = some (.iconst 3, 1, 0, 0, 0, 0) := by decide +kernel
theorem l_344_2015 : look 344 2015 = some (.iadd, 1, 0, 0, 0, 0) := by decide +kernel
theorem l_344_2016 : look 344 2016 = some (.iaload, 1, 0, 0, 0, 0) := by decide +kernel
theorem l_344_2017 : look 344 2017 = some (.invokevirtual 254, 3, 268, 4, 0, 2134) := by decide +kernel
theorem l_344_2020 : look 344 2020 = some (.istore 6, 2, 0, 0, 0, 0) := by decide +kernel
theorem l_344_2022 : look 344 2022 = some (.aload_n 2, 1, 0, 0, 0, 0) := by decide +kernel
theorem l_344_2023 : look 344 2023 = some (.invokevirtual 153, 3, 168, 1, 0, 1730) := by decide +kernel
theorem l_344_2026 : look 344 2026 = some (.iload 5, 2, 0, 0, 0, 0) := by decide +kernel
theorem l_344_2028 : look 344 2028 = some (.if_icmp .eq 5, 3, 0, 0, 0, 0) := by decide +kernel
theorem l_344_2033 : look 344 2033 = some (.iload 5, 2, 0, 0, 0, 0) := by decide +kernel
theorem l_344_2035 : look 344 2035 = some (.ifCond .ne 15, 3, 0, 0, 0, 0) := by decide +kernel
theorem l_344_2038 : look 344 2038 = some (.aload_n 3, 1, 0, 0, 0, 0) := by decide +kernel
theorem l_344_2039 : look 344 2039 = some (.iconst 0, 1, 0, 0, 0, 0) := by decide +kernel
theorem l_344_2040 : look 344 2040 = some (.laload, 1, 0, 0, 0, 0) := by decide +kernel
theorem l_344_2041 : look 344 2041 = some (.iload 6, 2, 0, 0, 0, 0) := by decide +kernel
theorem l_344_2043 : look 344 2043 = some (.i2l, 1, 0, 0, 0, 0) := by decide +kernel
theorem l_344_2044 : look 344 2044 = some (.lcmp, 1, 0, 0, 0, 0) := by decide +kernel
theorem l_344_2045 : look 344 2045 = some (.ifCond .eq 5, 3, 0, 0, 0, 0) := by decide +kernel
theorem l_344_2050 : look 344 2050 = some (.goto 664, 3, 0, 0, 0, 0) := by decide +kernel
theorem l_344_2053 : look 344 2053 = some (.aload_n 1, 1, 0, 0, 0, 0) := by decide +kernel
theorem l_344_2054 : look 344 2054 = some (.aload_n 0, 1, 0, 0, 0, 0) := by decide +kernel
theorem l_344_2055 : look 344 2055 = some (.iload 4, 2, 0, 0, 0, 0) := by decide +kernel
theorem l_344_2057 : look 344 2057 = some (.iconst 1, 1, 0, 0, 0, 0) := by decide +kernel
theorem l_344_2058 : look 344 2058 = some (.iadd, 1, 0, 0, 0, 0) := by decide +kernel
theorem l_344_2059 : look 344 2059 = some (.iaload, 1, 0, 0, 0, 0) := by decide +kernel
theorem l_344_2060 : look 344 2060 = some (.aload_n 3, 1, 0, 0, 0, 0) := by decide +kernel
theorem l_344_2061 : look 344 2061 = some (.invokestatic 255, 3, 334, 3, 7, 1371) := by decide +kernel
theorem l_344_2064 : look 344 2064 = some (.istore 5, 2, 0, 0, 0, 0) := by decide +kernel
theorem l_344_2066 : look 344 2066 = some (.aload_n 2, 1, 0, 0, 0, 0) := by decide +kernel
theorem l_344_2067 : look 344 2067 = some (.aload_n 0, 1, 0, 0, 0, 0) := by decide +kernel
theorem l_344_2068 : look 344 2068 = some (.iload 4, 2, 0, 0, 0, 0) := by decide +kernel
theorem l_344_2070 : look 344 2070 = some (.iconst 1, 1, 0, 0, 0, 0) := by decide +kernel
theorem l_344_2071 : look 344 2071 = some (.iadd, 1, 0, 0, 0, 0) := by decide +kernel
theorem l_344_2072 : look 344 2072 = some (.iaload, 1, 0, 0, 0, 0) := by decide +kernel
theorem l_344_2073 : look 344 2073 = some (.invokevirtual 257, 3, 270, 2, 0, 2145) := by decide +kernel
theorem l_344_2076 : look 344 2076 = some (.istore 6, 2, 0, 0, 0, 0) := by decide +kernel
theorem l_344_2078 : look 344 2078 = some (.aload_n 2, 1, 0, 0, 0, 0) := by decide +kernel
theorem l_344_2079 : look 344 2079 = some (.invokevirtual 153, 3, 168, 1, 0, 1730) := by decide +kernel
theorem l_344_2082 : look 344 2082 = some (.iload 5, 2, 0, 0, 0, 0) := by decide +kernel
theorem l_344_2084 : look 344 2084 = some (.if_icmp .eq 5, 3, 0, 0, 0, 0) := by decide +kernel
theorem l_344_2089 : look 344 2089 = some (.iload 5, 2, 0, 0, 0, 0) := by decide +kernel
theorem l_344_2091 : look 344 2091 = some (.ifCond .ne 15, 3, 0, 0, 0, 0) := by decide +kernel
theorem l_344_2094 : look 344 2094 = some (.aload_n 3, 1, 0, 0, 0, 0) := by decide +kernel
theorem l_344_2095 : look 344 2095 = some (.iconst 0, 1, 0, 0, 0, 0) := by decide +kernel
theorem l_344_2096 : look 344 2096 = some (.laload, 1, 0, 0, 0, 0) := by decide +kernel
theorem l_344_2097 : look 344 2097 = some (.iload 6, 2, 0, 0, 0, 0) := by decide +kernel
theorem l_344_2099 : look 344 2099 = some (.i2l, 1, 0, 0, 0, 0) := by decide +kernel
theorem l_344_2100 : look 344 2100 = some (.lcmp, 1, 0, 0, 0, 0) := by decide +kernel
theorem l_344_2101 : look 344 2101 = some (.ifCond .eq 5, 3, 0, 0, 0, 0) := by decide +kernel
theorem l_344_2106 : look 344 2106 = some (.goto 608, 3, 0, 0, 0, 0) := by decide +kernel
theorem l_344_2109 : look 344 2109 = some (.aload_n 1, 1, 0, 0, 0, 0) := by decide +kernel
theorem l_344_2110 : look 344 2110 = some (.invokevirtual 258, 3, 133, 1, 0, 622) := by decide +kernel
theorem l_344_2113 : look 344 2113 = some (.aload_n 2, 1, 0, 0, 0, 0) := by decide +kernel
theorem l_344_2114 : look 344 2114 = some (.invokevirtual 261, 3, 271, 1, 0, 2153) := by decide +kernel
theorem l_344_2117 : look 344 2117 = some (.if_icmp .eq 597, 3, 0, 0, 0, 0) := by decide +kernel
theorem l_344_2122 : look 344 2122 = some (.aload_n 1, 1, 0, 0, 0, 0) := by decide +kernel
theorem l_344_2123 : look 344 2123 = some (.invokevirtual 262, 3, 134, 1, 0, 634) := by decide +kernel
theorem l_344_2126 : look 344 2126 = some (.aload_n 2, 1, 0, 0, 0, 0) := by decide +kernel
theorem l_344_2127 : look 344 2127 = some (.invokevirtual 265, 3, 273, 1, 0, 2157) := by decide +kernel
theorem l_344_2130 : look 344 2130 = some (.if_icmp .eq 584, 3, 0, 0, 0, 0) := by decide +kernel
section LWA4
variable {xs : List Int} {S : List (Nat × Nat)} {T : Nat → Nat → Nat} {I : Ix} {cc zz s c i : Nat} {v5 v6 : AV} {Q : Res → Mem → Prop}
theorem cs_28 (IV : INV S T I s c) (hb : 1 ≤ cc ∧ 6 ≤ zz) (hc : c + 1 < 100000) (hi : i + 5 < xs.length) (hxl : xs.length ≤ 100000) (KK : KKP xs S s i cc zz c Q) : WP xs 344 35 1725 [vs 3, vr s, vr (s + 163), vr (s + 203), vi ((i : Nat) : Int), v5, v6] [] (S, I, T, cc, zz) Q := by
  have hms := oModel_sh IV.1
  have h203 := IV.2.1
  have hds := IV.sh
  refine w_aln l_344_1725 rfl ?_
  refine w_asn l_344_1726 rfl ?_
  refine w_il l_344_1727 rfl ?_
  refine w_ic l_344_1729 (by decide) ?_
  refine w_add ((i + 1 : Nat) : Int) l_344_1730 (by unfold wr; omega) ?_
  refine w_xs (i + 1) (xs.getD (i + 1) 0) l_344_1731 rfl (by omega) rfl ?_
  refine w_aln l_344_1732 rfl ?_
  refine w_st [vr s, vi (xs.getD (i + 1) 0), vr (s + 203)] [] l_344_1733 (by decide) rfl rfl (Nat.le_of_ble_eq_true rfl) (by rw [mx_329]; exact Nat.le_of_ble_eq_true rfl) (by rw [rk_329]; decide) (CL_mono (pr_329 IV hb hc) fun r1 m1 hr1 => ?_)
  obtain ⟨k, I1, T1, c1, z1, rfl, rfl, hcc, hzz, hr2⟩ := hr1
  show WP xs 344 35 1736 [vs 3, vr s, vr (s + 163), vr (s + 203), vi ((i : Nat) : Int), v5, v6] [vi k] (S, I1, T1, c1, z1) Q
  refine w_is l_344_1736 ⟨Nat.le_of_ble_eq_true rfl, rfl⟩ ?_
  refine w_aln l_344_1738 rfl ?_
  refine w_asn l_344_1739 rfl ?_
  refine w_il l_344_1740 rfl ?_
  refine w_ic l_344_1742 (by decide) ?_
  refine w_add ((i + 1 : Nat) : Int) l_344_1743 (by unfold wr; omega) ?_
  refine w_xs (i + 1) (xs.getD (i + 1) 0) l_344_1744 rfl (by omega) rfl ?_
  refine w_iv [vi (xs.getD (i + 1) 0)] [] l_344_1745 rfl rfl rfl (Nat.le_of_ble_eq_true rfl) (by rw [mx_262]; exact Nat.le_of_ble_eq_true rfl) (by rw [mt_262]; exact hms) (by rw [mt_262]; decide) (by rw [rk_262]; decide) (CL_mono hr2 fun r2 m2 h2 => ?_)
  obtain ⟨b, I2, c2, rfl, rfl, IV2, hc2, e0, eb, hB⟩ := h2
  show WP xs 344 35 1748 [vs 3, vr s, vr (s + 163), vr (s + 203), vi ((i : Nat) : Int), vi k, v6] [vi b] (S, I2, T1, c1, z1) Q
  refine w_is l_344_1748 ⟨Nat.le_of_ble_eq_true rfl, rfl⟩ ?_
  refine w_aln l_344_1750 rfl ?_
  refine q_iv [] [] l_344_1751 rfl rfl (Nat.le_of_ble_eq_true rfl) (by rw [mx_168]; exact Nat.le_of_ble_eq_true rfl) (by rw [mt_168]; exact oModel_sh IV2.1) (by rw [mt_168]; decide) (by rw [rk_168]; decide) (s_168 IV2.1) ?_
  refine w_il l_344_1754 rfl ?_
  refine w_ceq 1761 l_344_1756 (by decide) (fun _ => ?_) (fun hx => absurd hx (by exact fun q => q e0))
  refine w_il l_344_1761 rfl ?_
  refine w_zne 1778 l_344_1763 (by decide) (fun h1 => ?_) (fun h1 => ?_)
  · skip
    refine w_go 2714 l_344_1778 (by decide) ?_
    exact KK _ _ _ _ _ _ _ IV2 (by omega) (by omega) (by omega)
  · skip
    refine w_aln l_344_1766 rfl ?_
    refine w_ic l_344_1767 (by decide) ?_
    refine w_la 0 (I2 (s + 203) 0) l_344_1768 h203 rfl (by omega) rfl ?_
    refine w_il l_344_1769 rfl ?_
    refine w_i2l l_344_1771 ?_
    refine w_lcmp l_344_1772 ?_
    refine w_zeq 1778 l_344_1773 (by decide) (fun _ => ?_) (fun hx => absurd hx (by exact fun q => q (by rw [eb h1]; exact cmpL_rf)))
    refine w_go 2714 l_344_1778 (by decide) ?_
    exact KK _ _ _ _ _ _ _ IV2 (by omega) (by omega) (by omega)

theorem cs_29 (IV : INV S T I s c) (hb : 1 ≤ cc ∧ 6 ≤ zz) (hc : c + 1 < 100000) (hi : i + 5 < xs.length) (hxl : xs.length ≤ 100000) (KK : KKP xs S s i cc zz c Q) : WP xs 344 35 1781 [vs 3, vr s, vr (s + 163), vr (s + 203), vi ((i : Nat) : Int), v5, v6] [] (S, I, T, cc, zz) Q := by
  have hms := oModel_sh IV.1
  have h203 := IV.2.1
  have hds := IV.sh
  refine w_aln l_344_1781 rfl ?_
  refine w_asn l_344_1782 rfl ?_
  refine w_il l_344_1783 rfl ?_
  refine w_ic l_344_1785 (by decide) ?_
  refine w_add ((i + 1 : Nat) : Int) l_344_1786 (by unfold wr; omega) ?_
  refine w_xs (i + 1) (xs.getD (i + 1) 0) l_344_1787 rfl (by omega) rfl ?_
  refine w_asn l_344_1788 rfl ?_
  refine w_il l_344_1789 rfl ?_
  refine w_ic l_344_1791 (by decide) ?_
  refine w_add ((i + 2 : Nat) : Int) l_344_1792 (by unfold wr; omega) ?_
  refine w_xs (i + 2) (xs.getD (i + 2) 0) l_344_1793 rfl (by omega) rfl ?_
  refine w_aln l_344_1794 rfl ?_
  refine w_st [vr s, vi (xs.getD (i + 1) 0), vi (xs.getD (i + 2) 0), vr (s + 203)] [] l_344_1795 (by decide) rfl rfl (Nat.le_of_ble_eq_true rfl) (by rw [mx_330]; exact Nat.le_of_ble_eq_true rfl) (by rw [rk_330]; decide) (CL_mono (pr_330 IV hb hc) fun r1 m1 hr1 => ?_)
  obtain ⟨k, I1, T1, c1, z1, rfl, rfl, hcc, hzz, hr2⟩ := hr1
  show WP xs 344 35 1798 [vs 3, vr s, vr (s + 163), vr (s + 203), vi ((i : Nat) : Int), v5, v6] [vi k] (S, I1, T1, c1, z1) Q
  refine w_is l_344_1798 ⟨Nat.le_of_ble_eq_true rfl, rfl⟩ ?_
  refine w_aln l_344_1800 rfl ?_
  refine w_asn l_344_1801 rfl ?_
  refine w_il l_344_1802 rfl ?_
  refine w_ic l_344_1804 (by decide) ?_
  refine w_add ((i + 1 : Nat) : Int) l_344_1805 (by unfold wr; omega) ?_
  refine w_xs (i + 1) (xs.getD (i + 1) 0) l_344_1806 rfl (by omega) rfl ?_
  refine w_asn l_344_1807 rfl ?_
  refine w_il l_344_1808 rfl ?_
  refine w_ic l_344_1810 (by decide) ?_
  refine w_add ((i + 2 : Nat) : Int) l_344_1811 (by unfold wr; omega) ?_
  refine w_xs (i + 2) (xs.getD (i + 2) 0) l_344_1812 rfl (by omega) rfl ?_
  refine w_iv [vi (xs.getD (i + 1) 0), vi (xs.getD (i + 2) 0)] [] l_344_1813 rfl rfl rfl (Nat.le_of_ble_eq_true rfl) (by rw [mx_263]; exact Nat.le_of_ble_eq_true rfl) (by rw [mt_263]; exact hms) (by rw [mt_263]; decide) (by rw [rk_263]; decide) (CL_mono hr2 fun r2 m2 h2 => ?_)
  obtain ⟨b, I2, c2, rfl, rfl, IV2, hc2, e0, eb, hB⟩ := h2
  show WP xs 344 35 1816 [vs 3, vr s, vr (s + 163), vr (s + 203), vi ((i : Nat) : Int), vi k, v6] [vi b] (S, I2, T1, c1, z1) Q
  refine w_is l_344_1816 ⟨Nat.le_of_ble_eq_true rfl, rfl⟩ ?_
  refine w_aln l_344_1818 rfl ?_
  refine q_iv [] [] l_344_1819 rfl rfl (Nat.le_of_ble_eq_true rfl) (by rw [mx_168]; exact Nat.le_of_ble_eq_true rfl) (by rw [mt_168]; exact oModel_sh IV2.1) (by rw [mt_168]; decide) (by rw [rk_168]; decide) (s_168 IV2.1) ?_
  refine w_il l_344_1822 rfl ?_
  refine w_ceq 1829 l_344_1824 (by decide) (fun _ => ?_) (fun hx => absurd hx (by exact fun q => q e0))
  refine w_il l_344_1829 rfl ?_
  refine w_zne 1846 l_344_1831 (by decide) (fun h1 => ?_) (fun h1 => ?_)
  · skip
    refine w_go 2714 l_344_1846 (by decide) ?_
    exact KK _ _ _ _ _ _ _ IV2 (by omega) (by omega) (by omega)
  · skip
    refine w_aln l_344_1834 rfl ?_
    refine w_ic l_344_1835 (by decide) ?_
    refine w_la 0 (I2 (s + 203) 0) l_344_1836 h203 rfl (by omega) rfl ?_
    refine w_il l_344_1837 rfl ?_
    refine w_i2l l_344_1839 ?_
    refine w_lcmp l_344_1840 ?_
    refine w_zeq 1846 l_344_1841 (by decide) (fun _ => ?_) (fun hx => absurd hx (by exact fun q => q (by rw [eb h1]; exact cmpL_rf)))
    refine w_go 2714 l_344_1846 (by decide) ?_
    exact KK _ _ _ _ _ _ _ IV2 (by omega) (by omega) (by omega)

theorem cs_30 (IV : INV S T I s c) (hb : 1 ≤ cc ∧ 6 ≤ zz) (hc : c + 1 < 100000) (hi : i + 5 < xs.length) (hxl : xs.length ≤ 100000) (KK : KKP xs S s i cc zz c Q) : WP xs 344 35 1849 [vs 3, vr s, vr (s + 163), vr (s + 203), vi ((i : Nat) : Int), v5, v6] [] (S, I, T, cc, zz) Q := by
  have hms := oModel_sh IV.1
  have h203 := IV.2.1
  have hds := IV.sh
  refine w_aln l_344_1849 rfl ?_
  refine w_asn l_344_1850 rfl ?_
  refine w_il l_344_1851 rfl ?_
  refine w_ic l_344_1853 (by decide) ?_
  refine w_add ((i + 1 : Nat) : Int) l_344_1854 (by unfold wr; omega) ?_
  refine w_xs (i + 1) (xs.getD (i + 1) 0) l_344_1855 rfl (by omega) rfl ?_
  refine w_asn l_344_1856 rfl ?_
  refine w_il l_344_1857 rfl ?_
  refine w_ic l_344_1859 (by decide) ?_
  refine w_add ((i + 2 : Nat) : Int) l_344_1860 (by unfold wr; omega) ?_
  refine w_xs (i + 2) (xs.getD (i + 2) 0) l_344_1861 rfl (by omega) rfl ?_
  refine w_aln l_344_1862 rfl ?_
  refine w_st [vr s, vi (xs.getD (i + 1) 0), vi (xs.getD (i + 2) 0), vr (s + 203)] [] l_344_1863 (by decide) rfl rfl (Nat.le_of_ble_eq_true rfl) (by rw [mx_331]; exact Nat.le_of_ble_eq_true rfl) (by rw [rk_331]; decide) (CL_mono (pr_331 IV hb hc) fun r1 m1 hr1 => ?_)
  obtain ⟨k, I1, T1, c1, z1, rfl, rfl, hcc, hzz, hr2⟩ := hr1
  show WP xs 344 35 1866 [vs 3, vr s, vr (s + 163), vr (s + 203), vi ((i : Nat) : Int), v5, v6] [vi k] (S, I1, T1, c1, z1) Q
  refine w_is l_344_1866 ⟨Nat.le_of_ble_eq_true rfl, rfl⟩ ?_
  refine w_aln l_344_1868 rfl ?_
  refine w_asn l_344_1869 rfl ?_
  refine w_il l_344_1870 rfl ?_
  refine w_ic l_344_1872 (by decide) ?_
  refine w_add ((i + 1 : Nat) : Int) l_344_1873 (by unfold wr; omega) ?_
  refine w_xs (i + 1) (xs.getD (i + 1) 0) l_344_1874 rfl (by omega) rfl ?_
  refine w_asn l_344_1875 rfl ?_
  refine w_il l_344_1876 rfl ?_
  refine w_ic l_344_1878 (by decide) ?_
  refine w_add ((i + 2 : Nat) : Int) l_344_1879 (by unfold wr; omega) ?_
  refine w_xs (i + 2) (xs.getD (i + 2) 0) l_344_1880 rfl (by omega) rfl ?_
  refine w_iv [vi (xs.getD (i + 1) 0), vi (xs.getD (i + 2) 0)] [] l_344_1881 rfl rfl rfl (Nat.le_of_ble_eq_true rfl) (by rw [mx_264]; exact Nat.le_of_ble_eq_true rfl) (by rw [mt_264]; exact hms) (by rw [mt_264]; decide) (by rw [rk_264]; decide) (CL_mono hr2 fun r2 m2 h2 => ?_)
  obtain ⟨b, I2, c2, rfl, rfl, IV2, hc2, e0, eb, hB⟩ := h2
  show WP xs 344 35 1884 [vs 3, vr s, vr (s + 163), vr (s + 203), vi ((i : Nat) : Int), vi k, v6] [vi b] (S, I2, T1, c1, z1) Q
  refine w_is l_344_1884 ⟨Nat.le_of_ble_eq_true rfl, rfl⟩ ?_
  refine w_aln l_344_1886 rfl ?_
  refine q_iv [] [] l_344_1887 rfl rfl (Nat.le_of_ble_eq_true rfl) (by rw [mx_168]; exact Nat.le_of_ble_eq_true rfl) (by rw [mt_168]; exact oModel_sh IV2.1) (by rw [mt_168]; decide) (by rw [rk_168]; decide) (s_168 IV2.1) ?_
  refine w_il l_344_1890 rfl ?_
  refine w_ceq 1897 l_344_1892 (by decide) (fun _ => ?_) (fun hx => absurd hx (by exact fun q => q e0))
  refine w_il l_344_1897 rfl ?_
  refine w_zne 1914 l_344_1899 (by decide) (fun h1 => ?_) (fun h1 => ?_)
  · skip
    refine w_go 2714 l_344_1914 (by decide) ?_
    exact KK _ _ _ _ _ _ _ IV2 (by omega) (by omega) (by omega)
  · skip
    refine w_aln l_344_1902 rfl ?_
    refine w_ic l_344_1903 (by decide) ?_
    refine w_la 0 (I2 (s + 203) 0) l_344_1904 h203 rfl (by omega) rfl ?_
    refine w_il l_344_1905 rfl ?_
    refine w_i2l l_344_1907 ?_
    refine w_lcmp l_344_1908 ?_
    refine w_zeq 1914 l_344_1909 (by decide) (fun _ => ?_) (fun hx => absurd hx (by exact fun q => q (by rw [eb h1]; exact cmpL_rf)))
    refine w_go 2714 l_344_1914 (by decide) ?_
    exact KK _ _ _ _ _ _ _ IV2 (by omega) (by omega) (by omega)

theorem cs_31 (IV : INV S T I s c) (hb : 1 ≤ cc ∧ 6 ≤ zz) (hc : c + 1 < 100000) (hi : i + 5 < xs.length) (hxl : xs.length ≤ 100000) (KK : KKP xs S s i cc zz c Q) : WP xs 344 35 1917 [vs 3, vr s, vr (s + 163), vr (s + 203), vi ((i : Nat) : Int), v5, v6] [] (S, I, T, cc, zz) Q := by
  have hms := oModel_sh IV.1
  have h203 := IV.2.1
  have hds := IV.sh
  refine w_aln l_344_1917 rfl ?_
  refine w_asn l_344_1918 rfl ?_
  refine w_il l_344_1919 rfl ?_
  refine w_ic l_344_1921 (by decide) ?_
  refine w_add ((i + 1 : Nat) : Int) l_344_1922 (by unfold wr; omega) ?_
  refine w_xs (i + 1) (xs.getD (i + 1) 0) l_344_1923 rfl (by omega) rfl ?_
  refine w_aln l_344_1924 rfl ?_
  refine w_st [vr s, vi (xs.getD (i + 1) 0), vr (s + 203)] [] l_344_1925 (by decide) rfl rfl (Nat.le_of_ble_eq_true rfl) (by rw [mx_332]; exact Nat.le_of_ble_eq_true rfl) (by rw [rk_332]; decide) (CL_mono (pr_332 IV hb hc) fun r1 m1 hr1 => ?_)
  obtain ⟨k, I1, T1, c1, z1, rfl, rfl, hcc, hzz, hr2⟩ := hr1
  show WP xs 344 35 1928 [vs 3, vr s, vr (s + 163), vr (s + 203), vi ((i : Nat) : Int), v5, v6] [vi k] (S, I1, T1, c1, z1) Q
  refine w_is l_344_1928 ⟨Nat.le_of_ble_eq_true rfl, rfl⟩ ?_
  refine w_aln l_344_1930 rfl ?_
  refine w_asn l_344_1931 rfl ?_
  refine w_il l_344_1932 rfl ?_
  refine w_ic l_344_1934 (by decide) ?_
  refine w_add ((i + 1 : Nat) : Int) l_344_1935 (by unfold wr; omega) ?_
  refine w_xs (i + 1) (xs.getD (i + 1) 0) l_344_1936 rfl (by omega) rfl ?_
  refine w_iv [vi (xs.getD (i + 1) 0)] [] l_344_1937 rfl rfl rfl (Nat.le_of_ble_eq_true rfl) (by rw [mx_265]; exact Nat.le_of_ble_eq_true rfl) (by rw [mt_265]; exact hms) (by rw [mt_265]; decide) (by rw [rk_265]; decide) (CL_mono hr2 fun r2 m2 h2 => ?_)
  obtain ⟨b, I2, c2, rfl, rfl, IV2, hc2, e0, eb, hB⟩ := h2
  show WP xs 344 35 1940 [vs 3, vr s, vr (s + 163), vr (s + 203), vi ((i : Nat) : Int), vi k, v6] [vi b] (S, I2, T1, c1, z1) Q
  refine w_is l_344_1940 ⟨Nat.le_of_ble_eq_true rfl, rfl⟩ ?_
  refine w_aln l_344_1942 rfl ?_
  refine q_iv [] [] l_344_1943 rfl rfl (Nat.le_of_ble_eq_true rfl) (by rw [mx_168]; exact Nat.le_of_ble_eq_true rfl) (by rw [mt_168]; exact oModel_sh IV2.1) (by rw [mt_168]; decide) (by rw [rk_168]; decide) (s_168 IV2.1) ?_
  refine w_il l_344_1946 rfl ?_
  refine w_ceq 1953 l_344_1948 (by decide) (fun _ => ?_) (fun hx => absurd hx (by exact fun q => q e0))
  refine w_il l_344_1953 rfl ?_
  refine w_zne 1970 l_344_1955 (by decide) (fun h1 => ?_) (fun h1 => ?_)
  · skip
    refine w_go 2714 l_344_1970 (by decide) ?_
    exact KK _ _ _ _ _ _ _ IV2 (by omega) (by omega) (by omega)
  · skip
    refine w_aln l_344_1958 rfl ?_
    refine w_ic l_344_1959 (by decide) ?_
    refine w_la 0 (I2 (s + 203) 0) l_344_1960 h203 rfl (by omega) rfl ?_
    refine w_il l_344_1961 rfl ?_
    refine w_i2l l_344_1963 ?_
    refine w_lcmp l_344_1964 ?_
    refine w_zeq 1970 l_344_1965 (by decide) (fun _ => ?_) (fun hx => absurd hx (by exact fun q => q (by rw [eb h1]; exact cmpL_rf)))
    refine w_go 2714 l_344_1970 (by decide) ?_
    exact KK _ _ _ _ _ _ _ IV2 (by omega) (by omega) (by omega)

theorem cs_32 (IV : INV S T I s c) (hb : 1 ≤ cc ∧ 6 ≤ zz) (hc : c + 1 < 100000) (hi : i + 5 < xs.length) (hxl : xs.length ≤ 100000) (KK : KKP xs S s i cc zz c Q) : WP xs 344 35 1973 [vs 3, vr s, vr (s + 163), vr (s + 203), vi ((i : Nat) : Int), v5, v6] [] (S, I, T, cc, zz) Q := by
  have hms := oModel_sh IV.1
  have h203 := IV.2.1
  have hds := IV.sh
  refine w_aln l_344_1973 rfl ?_
  refine w_asn l_344_1974 rfl ?_
  refine w_il l_344_1975 rfl ?_
  refine w_ic l_344_1977 (by decide) ?_
  refine w_add ((i + 1 : Nat) : Int) l_344_1978 (by unfold wr; omega) ?_
  refine w_xs (i + 1) (xs.getD (i + 1) 0) l_344_1979 rfl (by omega) rfl ?_
  refine w_asn l_344_1980 rfl ?_
  refine w_il l_344_1981 rfl ?_
  refine w_ic l_344_1983 (by decide) ?_
  refine w_add ((i + 2 : Nat) : Int) l_344_1984 (by unfold wr; omega) ?_
  refine w_xs (i + 2) (xs.getD (i + 2) 0) l_344_1985 rfl (by omega) rfl ?_
  refine w_asn l_344_1986 rfl ?_
  refine w_il l_344_1987 rfl ?_
  refine w_ic l_344_1989 (by decide) ?_
  refine w_add ((i + 3 : Nat) : Int) l_344_1990 (by unfold wr; omega) ?_
  refine w_xs (i + 3) (xs.getD (i + 3) 0) l_344_1991 rfl (by omega) rfl ?_
  refine w_aln l_344_1992 rfl ?_
  refine w_st [vr s, vi (xs.getD (i + 1) 0), vi (xs.getD (i + 2) 0), vi (xs.getD (i + 3) 0), vr (s + 203)] [] l_344_1993 (by decide) rfl rfl (Nat.le_of_ble_eq_true rfl) (by rw [mx_333]; exact Nat.le_of_ble_eq_true rfl) (by rw [rk_333]; decide) (CL_mono (pr_333 IV hb hc) fun r1 m1 hr1 => ?_)
  obtain ⟨k, I1, T1, c1, z1, rfl, rfl, hcc, hzz, hr2⟩ := hr1
  show WP xs 344 35 1996 [vs 3, vr s, vr (s + 163), vr (s + 203), vi ((i : Nat) : Int), v5, v6] [vi k] (S, I1, T1, c1, z1) Q
  refine w_is l_344_1996 ⟨Nat.le_of_ble_eq_true rfl, rfl⟩ ?_
  refine w_aln l_344_1998 rfl ?_
  refine w_asn l_344_1999 rfl ?_
  refine w_il l_344_2000 rfl ?_
  refine w_ic l_344_2002 (by decide) ?_
  refine w_add ((i + 1 : Nat) : Int) l_344_2003 (by unfold wr; omega) ?_
  refine w_xs (i + 1) (xs.getD (i + 1) 0) l_344_2004 rfl (by omega) rfl ?_
  refine w_asn l_344_2005 rfl ?_
  refine w_il l_344_2006 rfl ?_
  refine w_ic l_344_2008 (by decide) ?_
  refine w_add ((i + 2 : Nat) : Int) l_344_2009 (by unfold wr; omega) ?_
  refine w_xs (i + 2) (xs.getD (i + 2) 0) l_344_2010 rfl (by omega) rfl ?_
  refine w_asn l_344_2011 rfl ?_
  refine w_il l_344_2012 rfl ?_
  refine w_ic l_344_2014 (by decide) ?_
  refine w_add ((i + 3 : Nat) : Int) l_344_2015 (by unfold wr; omega) ?_
  refine w_xs (i + 3) (xs.getD (i + 3) 0) l_344_2016 rfl (by omega) rfl ?_
  refine w_iv [vi (xs.getD (i + 1) 0), vi (xs.getD (i + 2) 0), vi (xs.getD (i + 3) 0)] [] l_344_2017 rfl rfl rfl (Nat.le_of_ble_eq_true rfl) (by rw [mx_268]; exact Nat.le_of_ble_eq_true rfl) (by rw [mt_268]; exact hms) (by rw [mt_268]; decide) (by rw [rk_268]; decide) (CL_mono hr2 fun r2 m2 h2 => ?_)
  obtain ⟨b, I2, c2, rfl, rfl, IV2, hc2, e0, eb, hB⟩ := h2
  show WP xs 344 35 2020 [vs 3, vr s, vr (s + 163), vr (s + 203), vi ((i : Nat) : Int), vi k, v6] [vi b] (S, I2, T1, c1, z1) Q
  refine w_is l_344_2020 ⟨Nat.le_of_ble_eq_true rfl, rfl⟩ ?_
  refine w_aln l_344_2022 rfl ?_
  refine q_iv [] [] l_344_2023 rfl rfl (Nat.le_of_ble_eq_true rfl) (by rw [mx_168]; exact Nat.le_of_ble_eq_true rfl) (by rw [mt_168]; exact oModel_sh IV2.1) (by rw [mt_168]; decide) (by rw [rk_168]; decide) (s_168 IV2.1) ?_
  refine w_il l_344_2026 rfl ?_
  refine w_ceq 2033 l_344_2028 (by decide) (fun _ => ?_) (fun hx => absurd hx (by exact fun q => q e0))
  refine w_il l_344_2033 rfl ?_
  refine w_zne 2050 l_344_2035 (by decide) (fun h1 => ?_) (fun h1 => ?_)
  · skip
    refine w_go 2714 l_344_2050 (by decide) ?_
    exact KK _ _ _ _ _ _ _ IV2 (by omega) (by omega) (by omega)
  · skip
    refine w_aln l_344_2038 rfl ?_
    refine w_ic l_344_2039 (by decide) ?_
    refine w_la 0 (I2 (s + 203) 0) l_344_2040 h203 rfl (by omega) rfl ?_
    refine w_il l_344_2041 rfl ?_
    refine w_i2l l_344_2043 ?_
    refine w_lcmp l_344_2044 ?_
    refine w_zeq 2050 l_344_2045 (by decide) (fun _ => ?_) (fun hx => absurd hx (by exact fun q => q (by rw [eb h1]; exact cmpL_rf)))
    refine w_go 2714 l_344_2050 (by decide) ?_
    exact KK _ _ _ _ _ _ _ IV2 (by omega) (by omega) (by omega)

theorem cs_33 (IV : INV S T I s c) (hb : 1 ≤ cc ∧ 6 ≤ zz) (hc : c + 1 < 100000) (hi : i + 5 < xs.length) (hxl : xs.length ≤ 100000) (KK : KKP xs S s i cc zz c Q) : WP xs 344 35 2053 [vs 3, vr s, vr (s + 163), vr (s + 203), vi ((i : Nat) : Int), v5, v6] [] (S, I, T, cc, zz) Q := by
  have hms := oModel_sh IV.1
  have h203 := IV.2.1
  have hds := IV.sh
  refine w_aln l_344_2053 rfl ?_
  refine w_asn l_344_2054 rfl ?_
  refine w_il l_344_2055 rfl ?_
  refine w_ic l_344_2057 (by decide) ?_
  refine w_add ((i + 1 : Nat) : Int) l_344_2058 (by unfold wr; omega) ?_
  refine w_xs (i + 1) (xs.getD (i + 1) 0) l_344_2059 rfl (by omega) rfl ?_
  refine w_aln l_344_2060 rfl ?_
  refine w_st [vr s, vi (xs.getD (i + 1) 0), vr (s + 203)] [] l_344_2061 (by decide) rfl rfl (Nat.le_of_ble_eq_true rfl) (by rw [mx_334]; exact Nat.le_of_ble_eq_true rfl) (by rw [rk_334]; decide) (CL_mono (pr_334 IV hb hc) fun r1 m1 hr1 => ?_)
  obtain ⟨k, I1, T1, c1, z1, rfl, rfl, hcc, hzz, hr2⟩ := hr1
  show WP xs 344 35 2064 [vs 3, vr s, vr (s + 163), vr (s + 203), vi ((i : Nat) : Int), v5, v6] [vi k] (S, I1, T1, c1, z1) Q
  refine w_is l_344_2064 ⟨Nat.le_of_ble_eq_true rfl, rfl⟩ ?_
  refine w_aln l_344_2066 rfl ?_
  refine w_asn l_344_2067 rfl ?_
  refine w_il l_344_2068 rfl ?_
  refine w_ic l_344_2070 (by decide) ?_
  refine w_add ((i + 1 : Nat) : Int) l_344_2071 (by unfold wr; omega) ?_
  refine w_xs (i + 1) (xs.getD (i + 1) 0) l_344_2072 rfl (by omega) rfl ?_
  refine w_iv [vi (xs.getD (i + 1) 0)] [] l_344_2073 rfl rfl rfl (Nat.le_of_ble_eq_true rfl) (by rw [mx_270]; exact Nat.le_of_ble_eq_true rfl) (by rw [mt_270]; exact hms) (by rw [mt_270]; decide) (by rw [rk_270]; decide) (CL_mono hr2 fun r2 m2 h2 => ?_)
  obtain ⟨b, I2, c2, rfl, rfl, IV2, hc2, e0, eb, hB⟩ := h2
  show WP xs 344 35 2076 [vs 3, vr s, vr (s + 163), vr (s + 203), vi ((i : Nat) : Int), vi k, v6] [vi b] (S, I2, T1, c1, z1) Q
  refine w_is l_344_2076 ⟨Nat.le_of_ble_eq_true rfl, rfl⟩ ?_
  refine w_aln l_344_2078 rfl ?_
  refine q_iv [] [] l_344_2079 rfl rfl (Nat.le_of_ble_eq_true rfl) (by rw [mx_168]; exact Nat.le_of_ble_eq_true rfl) (by rw [mt_168]; exact oModel_sh IV2.1) (by rw [mt_168]; decide) (by rw [rk_168]; decide) (s_168 IV2.1) ?_
  refine w_il l_344_2082 rfl ?_
  refine w_ceq 2089 l_344_2084 (by decide) (fun _ => ?_) (fun hx => absurd hx (by exact fun q => q e0))
  refine w_il l_344_2089 rfl ?_
  refine w_zne 2106 l_344_2091 (by decide) (fun h1 => ?_) (fun h1 => ?_)
  · skip
    refine w_go 2714 l_344_2106 (by decide) ?_
    exact KK _ _ _ _ _ _ _ IV2 (by omega) (by omega) (by omega)
  · skip
    refine w_aln l_344_2094 rfl ?_
    refine w_ic l_344_2095 (by decide) ?_
    refine w_la 0 (I2 (s + 203) 0) l_344_2096 h203 rfl (by omega) rfl ?_
    refine w_il l_344_2097 rfl ?_
    refine w_i2l l_344_2099 ?_
    refine w_lcmp l_344_2100 ?_
    refine w_zeq 2106 l_344_2101 (by decide) (fun _ => ?_) (fun hx => absurd hx (by exact fun q => q (by rw [eb h1]; exact cmpL_rf)))
    refine w_go 2714 l_344_2106 (by decide) ?_
    exact KK _ _ _ _ _ _ _ IV2 (by omega) (by omega) (by omega)

theorem cs_34 (IV : INV S T I s c) (hb : 1 ≤ cc ∧ 6 ≤ zz) (hc : c + 1 < 100000) (hi : i + 5 < xs.length) (hxl : xs.length ≤ 100000) (KK : KKP xs S s i cc zz c Q) : WP xs 344 35 2109 [vs 3, vr s, vr (s + 163), vr (s + 203), vi ((i : Nat) : Int), v5, v6] [] (S, I, T, cc, zz) Q := by
  have hms := oModel_sh IV.1
  have h203 := IV.2.1
  have hds := IV.sh
  refine w_aln l_344_2109 rfl ?_
  refine w_iv [] [] l_344_2110 rfl rfl rfl (Nat.le_of_ble_eq_true rfl) (by rw [mx_133]; exact Nat.le_of_ble_eq_true rfl) (by rw [mt_133]; exact hds) (by rw [mt_133]; decide) (by rw [rk_133]; decide) (CL_mono (py_133 IV hc) fun r1 m1 hr1 => ?_)
  obtain ⟨V, I1, rfl, rfl, hr2⟩ := hr1
  show WP xs 344 35 2113 [vs 3, vr s, vr (s + 163), vr (s + 203), vi ((i : Nat) : Int), v5, v6] [vi V] (S, I1, T, cc, zz) Q
  refine w_aln l_344_2113 rfl ?_
  refine w_iv [] [vi V] l_344_2114 rfl rfl rfl (Nat.le_of_ble_eq_true rfl) (by rw [mx_271]; exact Nat.le_of_ble_eq_true rfl) (by rw [mt_271]; exact hms) (by rw [mt_271]; decide) (by rw [rk_271]; decide) (CL_mono hr2 fun r2 m2 h2 => ?_)
  obtain ⟨I2, c2, rfl, rfl, IV2, hc2⟩ := h2
  show WP xs 344 35 2117 [vs 3, vr s, vr (s + 163), vr (s + 203), vi ((i : Nat) : Int), v5, v6] [vi V, vi V] (S, I2, T, cc, zz) Q
  refine w_ceq 2714 l_344_2117 (by decide) (fun _ => ?_) (fun hx => absurd hx (by exact fun q => q rfl))
  exact KK _ _ _ _ _ _ _ IV2 (by omega) (by omega) (by omega)

theorem cs_35 (IV : INV S T I s c) (hb : 1 ≤ cc ∧ 6 ≤ zz) (hc : c + 1 < 100000) (hi : i + 5 < xs.length) (hxl : xs.length ≤ 100000) (KK : KKP xs S s i cc zz c Q) : WP xs 344 35 2122 [vs 3, vr s, vr (s + 163), vr (s + 203), vi ((i : Nat) : Int), v5, v6] [] (S, I, T, cc, zz) Q := by
  have hms := oModel_sh IV.1
  have h203 := IV.2.1
  have hds := IV.sh
  refine w_aln l_344_2122 rfl ?_
  refine w_iv [] [] l_344_2123 rfl rfl rfl (Nat.le_of_ble_eq_true rfl) (by rw [mx_134]; exact Nat.le_of_ble_eq_true rfl) (by rw [mt_134]; exact hds) (by rw [mt_134]; decide) (by rw [rk_134]; decide) (CL_mono (py_134 IV hc) fun r1 m1 hr1 => ?_)
  obtain ⟨V, I1, rfl, rfl, hr2⟩ := hr1
  show WP xs 344 35 2126 [vs 3, vr s, vr (s + 163), vr (s + 203), vi ((i : Nat) : Int), v5, v6] [vi V] (S, I1, T, cc, zz) Q
  refine w_aln l_344_2126 rfl ?_
  refine w_iv [] [vi V] l_344_2127 rfl rfl rfl (Nat.le_of_ble_eq_true rfl) (by rw [mx_273]; exact Nat.le_of_ble_eq_true rfl) (by rw [mt_273]; exact hms) (by rw [mt_273]; decide) (by rw [rk_273]; decide) (CL_mono hr2 fun r2 m2 h2 => ?_)
  obtain ⟨I2, c2, rfl, rfl, IV2, hc2⟩ := h2
  show WP xs 344 35 2130 [vs 3, vr s, vr (s + 163), vr (s + 203), vi ((i : Nat) : Int), v5, v6] [vi V, vi V] (S, I2, T, cc, zz) Q
  refine w_ceq 2714 l_344_2130 (by decide) (fun _ => ?_) (fun hx => absurd hx (by exact fun q => q rfl))
  exact KK _ _ _ _ _ _ _ IV2 (by omega) (by omega) (by omega)
end LWA4
