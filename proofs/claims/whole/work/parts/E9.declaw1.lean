theorem dL_law_1677 : decode cL_law 1677 = .ok (.laload, 1) := by decide +kernel
theorem dL_law_1678 : decode cL_law 1678 = .ok (.iload 6, 2) := by decide +kernel
theorem dL_law_1680 : decode cL_law 1680 = .ok (.i2l, 1) := by decide +kernel
theorem dL_law_1681 : decode cL_law 1681 = .ok (.lcmp, 1) := by decide +kernel
theorem dL_law_1682 : decode cL_law 1682 = .ok (.ifCond .eq 5, 3) := by decide +kernel
theorem dL_law_1685 : decode cL_law 1685 = .ok (.iconst 0, 1) := by decide +kernel
theorem dL_law_1686 : decode cL_law 1686 = .ok (.ireturn, 1) := by decide +kernel
theorem dL_law_1687 : decode cL_law 1687 = .ok (.goto 1260, 3) := by decide +kernel
theorem dL_law_1690 : decode cL_law 1690 = .ok (.aload_n 1, 1) := by decide +kernel
theorem dL_law_1691 : decode cL_law 1691 = .ok (.aload_n 0, 1) := by decide +kernel
theorem dL_law_1692 : decode cL_law 1692 = .ok (.iload 4, 2) := by decide +kernel
theorem dL_law_1694 : decode cL_law 1694 = .ok (.iconst 1, 1) := by decide +kernel
theorem dL_law_1695 : decode cL_law 1695 = .ok (.iadd, 1) := by decide +kernel
theorem dL_law_1696 : decode cL_law 1696 = .ok (.iaload, 1) := by decide +kernel
theorem dL_law_1697 : decode cL_law 1697 = .ok (.aload_n 3, 1) := by decide +kernel
theorem dL_law_1698 : decode cL_law 1698 = .ok (.invokestatic 229, 3) := by decide +kernel
theorem dL_law_1701 : decode cL_law 1701 = .ok (.istore 5, 2) := by decide +kernel
theorem dL_law_1703 : decode cL_law 1703 = .ok (.aload_n 2, 1) := by decide +kernel
theorem dL_law_1704 : decode cL_law 1704 = .ok (.aload_n 0, 1) := by decide +kernel
theorem dL_law_1705 : decode cL_law 1705 = .ok (.iload 4, 2) := by decide +kernel
theorem dL_law_1707 : decode cL_law 1707 = .ok (.iconst 1, 1) := by decide +kernel
theorem dL_law_1708 : decode cL_law 1708 = .ok (.iadd, 1) := by decide +kernel
theorem dL_law_1709 : decode cL_law 1709 = .ok (.iaload, 1) := by decide +kernel
theorem dL_law_1710 : decode cL_law 1710 = .ok (.invokevirtual 231, 3) := by decide +kernel
theorem dL_law_1713 : decode cL_law 1713 = .ok (.istore 6, 2) := by decide +kernel
theorem dL_law_1715 : decode cL_law 1715 = .ok (.aload_n 2, 1) := by decide +kernel
theorem dL_law_1716 : decode cL_law 1716 = .ok (.invokevirtual 149, 3) := by decide +kernel
theorem dL_law_1719 : decode cL_law 1719 = .ok (.iload 5, 2) := by decide +kernel
theorem dL_law_1721 : decode cL_law 1721 = .ok (.if_icmp .eq 5, 3) := by decide +kernel
theorem dL_law_1724 : decode cL_law 1724 = .ok (.iconst 0, 1) := by decide +kernel
theorem dL_law_1725 : decode cL_law 1725 = .ok (.ireturn, 1) := by decide +kernel
theorem dL_law_1726 : decode cL_law 1726 = .ok (.iload 5, 2) := by decide +kernel
theorem dL_law_1728 : decode cL_law 1728 = .ok (.ifCond .ne 15, 3) := by decide +kernel
theorem dL_law_1731 : decode cL_law 1731 = .ok (.aload_n 3, 1) := by decide +kernel
theorem dL_law_1732 : decode cL_law 1732 = .ok (.iconst 0, 1) := by decide +kernel
theorem dL_law_1733 : decode cL_law 1733 = .ok (.laload, 1) := by decide +kernel
theorem dL_law_1734 : decode cL_law 1734 = .ok (.iload 6, 2) := by decide +kernel
theorem dL_law_1736 : decode cL_law 1736 = .ok (.i2l, 1) := by decide +kernel
theorem dL_law_1737 : decode cL_law 1737 = .ok (.lcmp, 1) := by decide +kernel
theorem dL_law_1738 : decode cL_law 1738 = .ok (.ifCond .eq 5, 3) := by decide +kernel
theorem dL_law_1741 : decode cL_law 1741 = .ok (.iconst 0, 1) := by decide +kernel
theorem dL_law_1742 : decode cL_law 1742 = .ok (.ireturn, 1) := by decide +kernel
theorem dL_law_1743 : decode cL_law 1743 = .ok (.goto 1204, 3) := by decide +kernel
theorem dL_law_1746 : decode cL_law 1746 = .ok (.aload_n 1, 1) := by decide +kernel
theorem dL_law_1747 : decode cL_law 1747 = .ok (.aload_n 0, 1) := by decide +kernel
theorem dL_law_1748 : decode cL_law 1748 = .ok (.iload 4, 2) := by decide +kernel
theorem dL_law_1750 : decode cL_law 1750 = .ok (.iconst 1, 1) := by decide +kernel
theorem dL_law_1751 : decode cL_law 1751 = .ok (.iadd, 1) := by decide +kernel
theorem dL_law_1752 : decode cL_law 1752 = .ok (.iaload, 1) := by decide +kernel
theorem dL_law_1753 : decode cL_law 1753 = .ok (.aload_n 0, 1) := by decide +kernel
theorem dL_law_1754 : decode cL_law 1754 = .ok (.iload 4, 2) := by decide +kernel
theorem dL_law_1756 : decode cL_law 1756 = .ok (.iconst 2, 1) := by decide +kernel
theorem dL_law_1757 : decode cL_law 1757 = .ok (.iadd, 1) := by decide +kernel
theorem dL_law_1758 : decode cL_law 1758 = .ok (.iaload, 1) := by decide +kernel
theorem dL_law_1759 : decode cL_law 1759 = .ok (.aload_n 0, 1) := by decide +kernel
theorem dL_law_1760 : decode cL_law 1760 = .ok (.iload 4, 2) := by decide +kernel
theorem dL_law_1762 : decode cL_law 1762 = .ok (.iconst 3, 1) := by decide +kernel
theorem dL_law_1763 : decode cL_law 1763 = .ok (.iadd, 1) := by decide +kernel
theorem dL_law_1764 : decode cL_law 1764 = .ok (.iaload, 1) := by decide +kernel
theorem dL_law_1765 : decode cL_law 1765 = .ok (.aload_n 3, 1) := by decide +kernel
theorem dL_law_1766 : decode cL_law 1766 = .ok (.invokestatic 232, 3) := by decide +kernel
theorem dL_law_1769 : decode cL_law 1769 = .ok (.istore 5, 2) := by decide +kernel
theorem dL_law_1771 : decode cL_law 1771 = .ok (.aload_n 2, 1) := by decide +kernel
theorem dL_law_1772 : decode cL_law 1772 = .ok (.aload_n 0, 1) := by decide +kernel
theorem dL_law_1773 : decode cL_law 1773 = .ok (.iload 4, 2) := by decide +kernel
theorem dL_law_1775 : decode cL_law 1775 = .ok (.iconst 1, 1) := by decide +kernel
theorem dL_law_1776 : decode cL_law 1776 = .ok (.iadd, 1) := by decide +kernel
theorem dL_law_1777 : decode cL_law 1777 = .ok (.iaload, 1) := by decide +kernel
theorem dL_law_1778 : decode cL_law 1778 = .ok (.aload_n 0, 1) := by decide +kernel
theorem dL_law_1779 : decode cL_law 1779 = .ok (.iload 4, 2) := by decide +kernel
theorem dL_law_1781 : decode cL_law 1781 = .ok (.iconst 2, 1) := by decide +kernel
theorem dL_law_1782 : decode cL_law 1782 = .ok (.iadd, 1) := by decide +kernel
theorem dL_law_1783 : decode cL_law 1783 = .ok (.iaload, 1) := by decide +kernel
theorem dL_law_1784 : decode cL_law 1784 = .ok (.aload_n 0, 1) := by decide +kernel
theorem dL_law_1785 : decode cL_law 1785 = .ok (.iload 4, 2) := by decide +kernel
theorem dL_law_1787 : decode cL_law 1787 = .ok (.iconst 3, 1) := by decide +kernel
theorem dL_law_1788 : decode cL_law 1788 = .ok (.iadd, 1) := by decide +kernel
theorem dL_law_1789 : decode cL_law 1789 = .ok (.iaload, 1) := by decide +kernel
theorem dL_law_1790 : decode cL_law 1790 = .ok (.invokevirtual 234, 3) := by decide +kernel
theorem dL_law_1793 : decode cL_law 1793 = .ok (.istore 6, 2) := by decide +kernel
theorem dL_law_1795 : decode cL_law 1795 = .ok (.aload_n 2, 1) := by decide +kernel
theorem dL_law_1796 : decode cL_law 1796 = .ok (.invokevirtual 149, 3) := by decide +kernel
theorem dL_law_1799 : decode cL_law 1799 = .ok (.iload 5, 2) := by decide +kernel
theorem dL_law_1801 : decode cL_law 1801 = .ok (.if_icmp .eq 5, 3) := by decide +kernel
theorem dL_law_1804 : decode cL_law 1804 = .ok (.iconst 0, 1) := by decide +kernel
theorem dL_law_1805 : decode cL_law 1805 = .ok (.ireturn, 1) := by decide +kernel
theorem dL_law_1806 : decode cL_law 1806 = .ok (.iload 5, 2) := by decide +kernel
theorem dL_law_1808 : decode cL_law 1808 = .ok (.ifCond .ne 15, 3) := by decide +kernel
theorem dL_law_1811 : decode cL_law 1811 = .ok (.aload_n 3, 1) := by decide +kernel
theorem dL_law_1812 : decode cL_law 1812 = .ok (.iconst 0, 1) := by decide +kernel
theorem dL_law_1813 : decode cL_law 1813 = .ok (.laload, 1) := by decide +kernel
theorem dL_law_1814 : decode cL_law 1814 = .ok (.iload 6, 2) := by decide +kernel
theorem dL_law_1816 : decode cL_law 1816 = .ok (.i2l, 1) := by decide +kernel
theorem dL_law_1817 : decode cL_law 1817 = .ok (.lcmp, 1) := by decide +kernel
theorem dL_law_1818 : decode cL_law 1818 = .ok (.ifCond .eq 5, 3) := by decide +kernel
theorem dL_law_1821 : decode cL_law 1821 = .ok (.iconst 0, 1) := by decide +kernel
theorem dL_law_1822 : decode cL_law 1822 = .ok (.ireturn, 1) := by decide +kernel
theorem dL_law_1823 : decode cL_law 1823 = .ok (.goto 1124, 3) := by decide +kernel
theorem dL_law_1826 : decode cL_law 1826 = .ok (.aload_n 1, 1) := by decide +kernel
theorem dL_law_1827 : decode cL_law 1827 = .ok (.aload_n 0, 1) := by decide +kernel
theorem dL_law_1828 : decode cL_law 1828 = .ok (.iload 4, 2) := by decide +kernel
theorem dL_law_1830 : decode cL_law 1830 = .ok (.iconst 1, 1) := by decide +kernel
theorem dL_law_1831 : decode cL_law 1831 = .ok (.iadd, 1) := by decide +kernel
theorem dL_law_1832 : decode cL_law 1832 = .ok (.iaload, 1) := by decide +kernel
theorem dL_law_1833 : decode cL_law 1833 = .ok (.aload_n 0, 1) := by decide +kernel
theorem dL_law_1834 : decode cL_law 1834 = .ok (.iload 4, 2) := by decide +kernel
theorem dL_law_1836 : decode cL_law 1836 = .ok (.iconst 2, 1) := by decide +kernel
theorem dL_law_1837 : decode cL_law 1837 = .ok (.iadd, 1) := by decide +kernel
theorem dL_law_1838 : decode cL_law 1838 = .ok (.iaload, 1) := by decide +kernel
theorem dL_law_1839 : decode cL_law 1839 = .ok (.aload_n 0, 1) := by decide +kernel
theorem dL_law_1840 : decode cL_law 1840 = .ok (.iload 4, 2) := by decide +kernel
theorem dL_law_1842 : decode cL_law 1842 = .ok (.iconst 3, 1) := by decide +kernel
theorem dL_law_1843 : decode cL_law 1843 = .ok (.iadd, 1) := by decide +kernel
theorem dL_law_1844 : decode cL_law 1844 = .ok (.iaload, 1) := by decide +kernel
theorem dL_law_1845 : decode cL_law 1845 = .ok (.aload_n 3, 1) := by decide +kernel
theorem dL_law_1846 : decode cL_law 1846 = .ok (.invokestatic 235, 3) := by decide +kernel
theorem dL_law_1849 : decode cL_law 1849 = .ok (.istore 5, 2) := by decide +kernel
theorem dL_law_1851 : decode cL_law 1851 = .ok (.aload_n 2, 1) := by decide +kernel
theorem dL_law_1852 : decode cL_law 1852 = .ok (.aload_n 0, 1) := by decide +kernel
theorem dL_law_1853 : decode cL_law 1853 = .ok (.iload 4, 2) := by decide +kernel
theorem dL_law_1855 : decode cL_law 1855 = .ok (.iconst 1, 1) := by decide +kernel
theorem dL_law_1856 : decode cL_law 1856 = .ok (.iadd, 1) := by decide +kernel
theorem dL_law_1857 : decode cL_law 1857 = .ok (.iaload, 1) := by decide +kernel
theorem dL_law_1858 : decode cL_law 1858 = .ok (.aload_n 0, 1) := by decide +kernel
theorem dL_law_1859 : decode cL_law 1859 = .ok (.iload 4, 2) := by decide +kernel
theorem dL_law_1861 : decode cL_law 1861 = .ok (.iconst 2, 1) := by decide +kernel
theorem dL_law_1862 : decode cL_law 1862 = .ok (.iadd, 1) := by decide +kernel
theorem dL_law_1863 : decode cL_law 1863 = .ok (.iaload, 1) := by decide +kernel
theorem dL_law_1864 : decode cL_law 1864 = .ok (.aload_n 0, 1) := by decide +kernel
theorem dL_law_1865 : decode cL_law 1865 = .ok (.iload 4, 2) := by decide +kernel
theorem dL_law_1867 : decode cL_law 1867 = .ok (.iconst 3, 1) := by decide +kernel
theorem dL_law_1868 : decode cL_law 1868 = .ok (.iadd, 1) := by decide +kernel
theorem dL_law_1869 : decode cL_law 1869 = .ok (.iaload, 1) := by decide +kernel
theorem dL_law_1870 : decode cL_law 1870 = .ok (.invokevirtual 237, 3) := by decide +kernel
theorem dL_law_1873 : decode cL_law 1873 = .ok (.istore 6, 2) := by decide +kernel
theorem dL_law_1875 : decode cL_law 1875 = .ok (.aload_n 2, 1) := by decide +kernel
theorem dL_law_1876 : decode cL_law 1876 = .ok (.invokevirtual 149, 3) := by decide +kernel
theorem dL_law_1879 : decode cL_law 1879 = .ok (.iload 5, 2) := by decide +kernel
theorem dL_law_1881 : decode cL_law 1881 = .ok (.if_icmp .eq 5, 3) := by decide +kernel
theorem dL_law_1884 : decode cL_law 1884 = .ok (.iconst 0, 1) := by decide +kernel
theorem dL_law_1885 : decode cL_law 1885 = .ok (.ireturn, 1) := by decide +kernel
theorem dL_law_1886 : decode cL_law 1886 = .ok (.iload 5, 2) := by decide +kernel
theorem dL_law_1888 : decode cL_law 1888 = .ok (.ifCond .ne 15, 3) := by decide +kernel
theorem dL_law_1891 : decode cL_law 1891 = .ok (.aload_n 3, 1) := by decide +kernel
theorem dL_law_1892 : decode cL_law 1892 = .ok (.iconst 0, 1) := by decide +kernel
theorem dL_law_1893 : decode cL_law 1893 = .ok (.laload, 1) := by decide +kernel
theorem dL_law_1894 : decode cL_law 1894 = .ok (.iload 6, 2) := by decide +kernel
theorem dL_law_1896 : decode cL_law 1896 = .ok (.i2l, 1) := by decide +kernel
theorem dL_law_1897 : decode cL_law 1897 = .ok (.lcmp, 1) := by decide +kernel
theorem dL_law_1898 : decode cL_law 1898 = .ok (.ifCond .eq 5, 3) := by decide +kernel
theorem dL_law_1901 : decode cL_law 1901 = .ok (.iconst 0, 1) := by decide +kernel
theorem dL_law_1902 : decode cL_law 1902 = .ok (.ireturn, 1) := by decide +kernel
theorem dL_law_1903 : decode cL_law 1903 = .ok (.goto 1044, 3) := by decide +kernel
theorem dL_law_1906 : decode cL_law 1906 = .ok (.aload_n 1, 1) := by decide +kernel
theorem dL_law_1907 : decode cL_law 1907 = .ok (.aload_n 0, 1) := by decide +kernel
theorem dL_law_1908 : decode cL_law 1908 = .ok (.iload 4, 2) := by decide +kernel
theorem dL_law_1910 : decode cL_law 1910 = .ok (.iconst 1, 1) := by decide +kernel
theorem dL_law_1911 : decode cL_law 1911 = .ok (.iadd, 1) := by decide +kernel
theorem dL_law_1912 : decode cL_law 1912 = .ok (.iaload, 1) := by decide +kernel
theorem dL_law_1913 : decode cL_law 1913 = .ok (.aload_n 0, 1) := by decide +kernel
theorem dL_law_1914 : decode cL_law 1914 = .ok (.iload 4, 2) := by decide +kernel
theorem dL_law_1916 : decode cL_law 1916 = .ok (.iconst 2, 1) := by decide +kernel
theorem dL_law_1917 : decode cL_law 1917 = .ok (.iadd, 1) := by decide +kernel
theorem dL_law_1918 : decode cL_law 1918 = .ok (.iaload, 1) := by decide +kernel
theorem dL_law_1919 : decode cL_law 1919 = .ok (.aload_n 0, 1) := by decide +kernel
theorem dL_law_1920 : decode cL_law 1920 = .ok (.iload 4, 2) := by decide +kernel
theorem dL_law_1922 : decode cL_law 1922 = .ok (.iconst 3, 1) := by decide +kernel
theorem dL_law_1923 : decode cL_law 1923 = .ok (.iadd, 1) := by decide +kernel
theorem dL_law_1924 : decode cL_law 1924 = .ok (.iaload, 1) := by decide +kernel
theorem dL_law_1925 : decode cL_law 1925 = .ok (.aload_n 3, 1) := by decide +kernel
theorem dL_law_1926 : decode cL_law 1926 = .ok (.invokestatic 238, 3) := by decide +kernel
theorem dL_law_1929 : decode cL_law 1929 = .ok (.istore 5, 2) := by decide +kernel
theorem dL_law_1931 : decode cL_law 1931 = .ok (.aload_n 2, 1) := by decide +kernel
theorem dL_law_1932 : decode cL_law 1932 = .ok (.aload_n 0, 1) := by decide +kernel
theorem dL_law_1933 : decode cL_law 1933 = .ok (.iload 4, 2) := by decide +kernel
theorem dL_law_1935 : decode cL_law 1935 = .ok (.iconst 1, 1) := by decide +kernel
theorem dL_law_1936 : decode cL_law 1936 = .ok (.iadd, 1) := by decide +kernel
theorem dL_law_1937 : decode cL_law 1937 = .ok (.iaload, 1) := by decide +kernel
theorem dL_law_1938 : decode cL_law 1938 = .ok (.aload_n 0, 1) := by decide +kernel
theorem dL_law_1939 : decode cL_law 1939 = .ok (.iload 4, 2) := by decide +kernel
theorem dL_law_1941 : decode cL_law 1941 = .ok (.iconst 2, 1) := by decide +kernel
theorem dL_law_1942 : decode cL_law 1942 = .ok (.iadd, 1) := by decide +kernel
theorem dL_law_1943 : decode cL_law 1943 = .ok (.iaload, 1) := by decide +kernel
theorem dL_law_1944 : decode cL_law 1944 = .ok (.aload_n 0, 1) := by decide +kernel
theorem dL_law_1945 : decode cL_law 1945 = .ok (.iload 4, 2) := by decide +kernel
theorem dL_law_1947 : decode cL_law 1947 = .ok (.iconst 3, 1) := by decide +kernel
theorem dL_law_1948 : decode cL_law 1948 = .ok (.iadd, 1) := by decide +kernel
theorem dL_law_1949 : decode cL_law 1949 = .ok (.iaload, 1) := by decide +kernel
theorem dL_law_1950 : decode cL_law 1950 = .ok (.invokevirtual 240, 3) := by decide +kernel
theorem dL_law_1953 : decode cL_law 1953 = .ok (.istore 6, 2) := by decide +kernel
theorem dL_law_1955 : decode cL_law 1955 = .ok (.aload_n 2, 1) := by decide +kernel
theorem dL_law_1956 : decode cL_law 1956 = .ok (.invokevirtual 149, 3) := by decide +kernel
theorem dL_law_1959 : decode cL_law 1959 = .ok (.iload 5, 2) := by decide +kernel
theorem dL_law_1961 : decode cL_law 1961 = .ok (.if_icmp .eq 5, 3) := by decide +kernel
theorem dL_law_1964 : decode cL_law 1964 = .ok (.iconst 0, 1) := by decide +kernel
theorem dL_law_1965 : decode cL_law 1965 = .ok (.ireturn, 1) := by decide +kernel
theorem dL_law_1966 : decode cL_law 1966 = .ok (.iload 5, 2) := by decide +kernel
theorem dL_law_1968 : decode cL_law 1968 = .ok (.ifCond .ne 15, 3) := by decide +kernel
theorem dL_law_1971 : decode cL_law 1971 = .ok (.aload_n 3, 1) := by decide +kernel
theorem dL_law_1972 : decode cL_law 1972 = .ok (.iconst 0, 1) := by decide +kernel
theorem dL_law_1973 : decode cL_law 1973 = .ok (.laload, 1) := by decide +kernel
theorem dL_law_1974 : decode cL_law 1974 = .ok (.iload 6, 2) := by decide +kernel
theorem dL_law_1976 : decode cL_law 1976 = .ok (.i2l, 1) := by decide +kernel
theorem dL_law_1977 : decode cL_law 1977 = .ok (.lcmp, 1) := by decide +kernel
theorem dL_law_1978 : decode cL_law 1978 = .ok (.ifCond .eq 5, 3) := by decide +kernel
theorem dL_law_1981 : decode cL_law 1981 = .ok (.iconst 0, 1) := by decide +kernel
theorem dL_law_1982 : decode cL_law 1982 = .ok (.ireturn, 1) := by decide +kernel
theorem dL_law_1983 : decode cL_law 1983 = .ok (.goto 964, 3) := by decide +kernel
theorem dL_law_1986 : decode cL_law 1986 = .ok (.aload_n 1, 1) := by decide +kernel
theorem dL_law_1987 : decode cL_law 1987 = .ok (.aload_n 0, 1) := by decide +kernel
theorem dL_law_1988 : decode cL_law 1988 = .ok (.iload 4, 2) := by decide +kernel
theorem dL_law_1990 : decode cL_law 1990 = .ok (.iconst 1, 1) := by decide +kernel
theorem dL_law_1991 : decode cL_law 1991 = .ok (.iadd, 1) := by decide +kernel
theorem dL_law_1992 : decode cL_law 1992 = .ok (.iaload, 1) := by decide +kernel
theorem dL_law_1993 : decode cL_law 1993 = .ok (.aload_n 0, 1) := by decide +kernel
theorem dL_law_1994 : decode cL_law 1994 = .ok (.iload 4, 2) := by decide +kernel
theorem dL_law_1996 : decode cL_law 1996 = .ok (.iconst 2, 1) := by decide +kernel
theorem dL_law_1997 : decode cL_law 1997 = .ok (.iadd, 1) := by decide +kernel
theorem dL_law_1998 : decode cL_law 1998 = .ok (.iaload, 1) := by decide +kernel
theorem dL_law_1999 : decode cL_law 1999 = .ok (.aload_n 0, 1) := by decide +kernel
theorem dL_law_2000 : decode cL_law 2000 = .ok (.iload 4, 2) := by decide +kernel
theorem dL_law_2002 : decode cL_law 2002 = .ok (.iconst 3, 1) := by decide +kernel
theorem dL_law_2003 : decode cL_law 2003 = .ok (.iadd, 1) := by decide +kernel
theorem dL_law_2004 : decode cL_law 2004 = .ok (.iaload, 1) := by decide +kernel
theorem dL_law_2005 : decode cL_law 2005 = .ok (.aload_n 3, 1) := by decide +kernel
theorem dL_law_2006 : decode cL_law 2006 = .ok (.invokestatic 241, 3) := by decide +kernel
theorem dL_law_2009 : decode cL_law 2009 = .ok (.istore 5, 2) := by decide +kernel
theorem dL_law_2011 : decode cL_law 2011 = .ok (.aload_n 2, 1) := by decide +kernel
theorem dL_law_2012 : decode cL_law 2012 = .ok (.aload_n 0, 1) := by decide +kernel
theorem dL_law_2013 : decode cL_law 2013 = .ok (.iload 4, 2) := by decide +kernel
theorem dL_law_2015 : decode cL_law 2015 = .ok (.iconst 1, 1) := by decide +kernel
theorem dL_law_2016 : decode cL_law 2016 = .ok (.iadd, 1) := by decide +kernel
theorem dL_law_2017 : decode cL_law 2017 = .ok (.iaload, 1) := by decide +kernel
theorem dL_law_2018 : decode cL_law 2018 = .ok (.aload_n 0, 1) := by decide +kernel
theorem dL_law_2019 : decode cL_law 2019 = .ok (.iload 4, 2) := by decide +kernel
theorem dL_law_2021 : decode cL_law 2021 = .ok (.iconst 2, 1) := by decide +kernel
theorem dL_law_2022 : decode cL_law 2022 = .ok (.iadd, 1) := by decide +kernel
theorem dL_law_2023 : decode cL_law 2023 = .ok (.iaload, 1) := by decide +kernel
theorem dL_law_2024 : decode cL_law 2024 = .ok (.aload_n 0, 1) := by decide +kernel
theorem dL_law_2025 : decode cL_law 2025 = .ok (.iload 4, 2) := by decide +kernel
theorem dL_law_2027 : decode cL_law 2027 = .ok (.iconst 3, 1) := by decide +kernel
theorem dL_law_2028 : decode cL_law 2028 = .ok (.iadd, 1) := by decide +kernel
theorem dL_law_2029 : decode cL_law 2029 = .ok (.iaload, 1) := by decide +kernel
theorem dL_law_2030 : decode cL_law 2030 = .ok (.invokevirtual 243, 3) := by decide +kernel
theorem dL_law_2033 : decode cL_law 2033 = .ok (.istore 6, 2) := by decide +kernel
theorem dL_law_2035 : decode cL_law 2035 = .ok (.aload_n 2, 1) := by decide +kernel
theorem dL_law_2036 : decode cL_law 2036 = .ok (.invokevirtual 149, 3) := by decide +kernel
theorem dL_law_2039 : decode cL_law 2039 = .ok (.iload 5, 2) := by decide +kernel
theorem dL_law_2041 : decode cL_law 2041 = .ok (.if_icmp .eq 5, 3) := by decide +kernel
theorem dL_law_2044 : decode cL_law 2044 = .ok (.iconst 0, 1) := by decide +kernel
theorem dL_law_2045 : decode cL_law 2045 = .ok (.ireturn, 1) := by decide +kernel
theorem dL_law_2046 : decode cL_law 2046 = .ok (.iload 5, 2) := by decide +kernel
theorem dL_law_2048 : decode cL_law 2048 = .ok (.ifCond .ne 15, 3) := by decide +kernel
theorem dL_law_2051 : decode cL_law 2051 = .ok (.aload_n 3, 1) := by decide +kernel
theorem dL_law_2052 : decode cL_law 2052 = .ok (.iconst 0, 1) := by decide +kernel
theorem dL_law_2053 : decode cL_law 2053 = .ok (.laload, 1) := by decide +kernel
theorem dL_law_2054 : decode cL_law 2054 = .ok (.iload 6, 2) := by decide +kernel
theorem dL_law_2056 : decode cL_law 2056 = .ok (.i2l, 1) := by decide +kernel
theorem dL_law_2057 : decode cL_law 2057 = .ok (.lcmp, 1) := by decide +kernel
theorem dL_law_2058 : decode cL_law 2058 = .ok (.ifCond .eq 5, 3) := by decide +kernel
theorem dL_law_2061 : decode cL_law 2061 = .ok (.iconst 0, 1) := by decide +kernel
theorem dL_law_2062 : decode cL_law 2062 = .ok (.ireturn, 1) := by decide +kernel
theorem dL_law_2063 : decode cL_law 2063 = .ok (.goto 884, 3) := by decide +kernel
theorem dL_law_2066 : decode cL_law 2066 = .ok (.aload_n 1, 1) := by decide +kernel
theorem dL_law_2067 : decode cL_law 2067 = .ok (.aload_n 0, 1) := by decide +kernel
theorem dL_law_2068 : decode cL_law 2068 = .ok (.iload 4, 2) := by decide +kernel
theorem dL_law_2070 : decode cL_law 2070 = .ok (.iconst 1, 1) := by decide +kernel
theorem dL_law_2071 : decode cL_law 2071 = .ok (.iadd, 1) := by decide +kernel
theorem dL_law_2072 : decode cL_law 2072 = .ok (.iaload, 1) := by decide +kernel
theorem dL_law_2073 : decode cL_law 2073 = .ok (.aload_n 3, 1) := by decide +kernel
theorem dL_law_2074 : decode cL_law 2074 = .ok (.invokestatic 244, 3) := by decide +kernel
theorem dL_law_2077 : decode cL_law 2077 = .ok (.istore 5, 2) := by decide +kernel
theorem dL_law_2079 : decode cL_law 2079 = .ok (.aload_n 2, 1) := by decide +kernel
theorem dL_law_2080 : decode cL_law 2080 = .ok (.aload_n 0, 1) := by decide +kernel
theorem dL_law_2081 : decode cL_law 2081 = .ok (.iload 4, 2) := by decide +kernel
theorem dL_law_2083 : decode cL_law 2083 = .ok (.iconst 1, 1) := by decide +kernel
