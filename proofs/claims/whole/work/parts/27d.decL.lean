theorem d_LW_law_1666 : decode (mB M_LW_law) 1666 = .ok (.iload 4, 2) := by decide +kernel
theorem d_LW_law_1668 : decode (mB M_LW_law) 1668 = .ok (.iconst 1, 1) := by decide +kernel
theorem d_LW_law_1669 : decode (mB M_LW_law) 1669 = .ok (.iadd, 1) := by decide +kernel
theorem d_LW_law_1670 : decode (mB M_LW_law) 1670 = .ok (.iaload, 1) := by decide +kernel
theorem d_LW_law_1671 : decode (mB M_LW_law) 1671 = .ok (.aload_n 0, 1) := by decide +kernel
theorem d_LW_law_1672 : decode (mB M_LW_law) 1672 = .ok (.iload 4, 2) := by decide +kernel
theorem d_LW_law_1674 : decode (mB M_LW_law) 1674 = .ok (.iconst 2, 1) := by decide +kernel
theorem d_LW_law_1675 : decode (mB M_LW_law) 1675 = .ok (.iadd, 1) := by decide +kernel
theorem d_LW_law_1676 : decode (mB M_LW_law) 1676 = .ok (.iaload, 1) := by decide +kernel
theorem d_LW_law_1677 : decode (mB M_LW_law) 1677 = .ok (.aload_n 3, 1) := by decide +kernel
theorem d_LW_law_1678 : decode (mB M_LW_law) 1678 = .ok (.invokestatic 197, 3) := by decide +kernel
theorem d_LW_law_1681 : decode (mB M_LW_law) 1681 = .ok (.istore 5, 2) := by decide +kernel
theorem d_LW_law_1683 : decode (mB M_LW_law) 1683 = .ok (.aload_n 2, 1) := by decide +kernel
theorem d_LW_law_1684 : decode (mB M_LW_law) 1684 = .ok (.aload_n 0, 1) := by decide +kernel
theorem d_LW_law_1685 : decode (mB M_LW_law) 1685 = .ok (.iload 4, 2) := by decide +kernel
theorem d_LW_law_1687 : decode (mB M_LW_law) 1687 = .ok (.iconst 1, 1) := by decide +kernel
theorem d_LW_law_1688 : decode (mB M_LW_law) 1688 = .ok (.iadd, 1) := by decide +kernel
theorem d_LW_law_1689 : decode (mB M_LW_law) 1689 = .ok (.iaload, 1) := by decide +kernel
theorem d_LW_law_1690 : decode (mB M_LW_law) 1690 = .ok (.aload_n 0, 1) := by decide +kernel
theorem d_LW_law_1691 : decode (mB M_LW_law) 1691 = .ok (.iload 4, 2) := by decide +kernel
theorem d_LW_law_1693 : decode (mB M_LW_law) 1693 = .ok (.iconst 2, 1) := by decide +kernel
theorem d_LW_law_1694 : decode (mB M_LW_law) 1694 = .ok (.iadd, 1) := by decide +kernel
theorem d_LW_law_1695 : decode (mB M_LW_law) 1695 = .ok (.iaload, 1) := by decide +kernel
theorem d_LW_law_1696 : decode (mB M_LW_law) 1696 = .ok (.invokevirtual 199, 3) := by decide +kernel
theorem d_LW_law_1699 : decode (mB M_LW_law) 1699 = .ok (.istore 6, 2) := by decide +kernel
theorem d_LW_law_1701 : decode (mB M_LW_law) 1701 = .ok (.aload_n 2, 1) := by decide +kernel
theorem d_LW_law_1702 : decode (mB M_LW_law) 1702 = .ok (.invokevirtual 124, 3) := by decide +kernel
theorem d_LW_law_1705 : decode (mB M_LW_law) 1705 = .ok (.iload 5, 2) := by decide +kernel
theorem d_LW_law_1707 : decode (mB M_LW_law) 1707 = .ok (.if_icmp .eq 5, 3) := by decide +kernel
theorem d_LW_law_1710 : decode (mB M_LW_law) 1710 = .ok (.iconst 0, 1) := by decide +kernel
theorem d_LW_law_1711 : decode (mB M_LW_law) 1711 = .ok (.ireturn, 1) := by decide +kernel
theorem d_LW_law_1712 : decode (mB M_LW_law) 1712 = .ok (.iload 5, 2) := by decide +kernel
theorem d_LW_law_1714 : decode (mB M_LW_law) 1714 = .ok (.ifCond .ne 15, 3) := by decide +kernel
theorem d_LW_law_1717 : decode (mB M_LW_law) 1717 = .ok (.aload_n 3, 1) := by decide +kernel
theorem d_LW_law_1718 : decode (mB M_LW_law) 1718 = .ok (.iconst 0, 1) := by decide +kernel
theorem d_LW_law_1719 : decode (mB M_LW_law) 1719 = .ok (.laload, 1) := by decide +kernel
theorem d_LW_law_1720 : decode (mB M_LW_law) 1720 = .ok (.iload 6, 2) := by decide +kernel
theorem d_LW_law_1722 : decode (mB M_LW_law) 1722 = .ok (.i2l, 1) := by decide +kernel
theorem d_LW_law_1723 : decode (mB M_LW_law) 1723 = .ok (.lcmp, 1) := by decide +kernel
theorem d_LW_law_1724 : decode (mB M_LW_law) 1724 = .ok (.ifCond .eq 5, 3) := by decide +kernel
theorem d_LW_law_1727 : decode (mB M_LW_law) 1727 = .ok (.iconst 0, 1) := by decide +kernel
theorem d_LW_law_1728 : decode (mB M_LW_law) 1728 = .ok (.ireturn, 1) := by decide +kernel
theorem d_LW_law_1729 : decode (mB M_LW_law) 1729 = .ok (.goto 435, 3) := by decide +kernel
theorem d_LW_law_1732 : decode (mB M_LW_law) 1732 = .ok (.aload_n 1, 1) := by decide +kernel
theorem d_LW_law_1733 : decode (mB M_LW_law) 1733 = .ok (.aload_n 0, 1) := by decide +kernel
theorem d_LW_law_1734 : decode (mB M_LW_law) 1734 = .ok (.iload 4, 2) := by decide +kernel
theorem d_LW_law_1736 : decode (mB M_LW_law) 1736 = .ok (.iconst 1, 1) := by decide +kernel
theorem d_LW_law_1737 : decode (mB M_LW_law) 1737 = .ok (.iadd, 1) := by decide +kernel
theorem d_LW_law_1738 : decode (mB M_LW_law) 1738 = .ok (.iaload, 1) := by decide +kernel
theorem d_LW_law_1739 : decode (mB M_LW_law) 1739 = .ok (.aload_n 0, 1) := by decide +kernel
theorem d_LW_law_1740 : decode (mB M_LW_law) 1740 = .ok (.iload 4, 2) := by decide +kernel
theorem d_LW_law_1742 : decode (mB M_LW_law) 1742 = .ok (.iconst 2, 1) := by decide +kernel
theorem d_LW_law_1743 : decode (mB M_LW_law) 1743 = .ok (.iadd, 1) := by decide +kernel
theorem d_LW_law_1744 : decode (mB M_LW_law) 1744 = .ok (.iaload, 1) := by decide +kernel
theorem d_LW_law_1745 : decode (mB M_LW_law) 1745 = .ok (.aload_n 0, 1) := by decide +kernel
theorem d_LW_law_1746 : decode (mB M_LW_law) 1746 = .ok (.iload 4, 2) := by decide +kernel
theorem d_LW_law_1748 : decode (mB M_LW_law) 1748 = .ok (.iconst 3, 1) := by decide +kernel
theorem d_LW_law_1749 : decode (mB M_LW_law) 1749 = .ok (.iadd, 1) := by decide +kernel
theorem d_LW_law_1750 : decode (mB M_LW_law) 1750 = .ok (.iaload, 1) := by decide +kernel
theorem d_LW_law_1751 : decode (mB M_LW_law) 1751 = .ok (.aload_n 3, 1) := by decide +kernel
theorem d_LW_law_1752 : decode (mB M_LW_law) 1752 = .ok (.invokestatic 200, 3) := by decide +kernel
theorem d_LW_law_1755 : decode (mB M_LW_law) 1755 = .ok (.istore 5, 2) := by decide +kernel
theorem d_LW_law_1757 : decode (mB M_LW_law) 1757 = .ok (.aload_n 2, 1) := by decide +kernel
theorem d_LW_law_1758 : decode (mB M_LW_law) 1758 = .ok (.aload_n 0, 1) := by decide +kernel
theorem d_LW_law_1759 : decode (mB M_LW_law) 1759 = .ok (.iload 4, 2) := by decide +kernel
theorem d_LW_law_1761 : decode (mB M_LW_law) 1761 = .ok (.iconst 1, 1) := by decide +kernel
theorem d_LW_law_1762 : decode (mB M_LW_law) 1762 = .ok (.iadd, 1) := by decide +kernel
theorem d_LW_law_1763 : decode (mB M_LW_law) 1763 = .ok (.iaload, 1) := by decide +kernel
theorem d_LW_law_1764 : decode (mB M_LW_law) 1764 = .ok (.aload_n 0, 1) := by decide +kernel
theorem d_LW_law_1765 : decode (mB M_LW_law) 1765 = .ok (.iload 4, 2) := by decide +kernel
theorem d_LW_law_1767 : decode (mB M_LW_law) 1767 = .ok (.iconst 2, 1) := by decide +kernel
theorem d_LW_law_1768 : decode (mB M_LW_law) 1768 = .ok (.iadd, 1) := by decide +kernel
theorem d_LW_law_1769 : decode (mB M_LW_law) 1769 = .ok (.iaload, 1) := by decide +kernel
theorem d_LW_law_1770 : decode (mB M_LW_law) 1770 = .ok (.aload_n 0, 1) := by decide +kernel
theorem d_LW_law_1771 : decode (mB M_LW_law) 1771 = .ok (.iload 4, 2) := by decide +kernel
theorem d_LW_law_1773 : decode (mB M_LW_law) 1773 = .ok (.iconst 3, 1) := by decide +kernel
theorem d_LW_law_1774 : decode (mB M_LW_law) 1774 = .ok (.iadd, 1) := by decide +kernel
theorem d_LW_law_1775 : decode (mB M_LW_law) 1775 = .ok (.iaload, 1) := by decide +kernel
theorem d_LW_law_1776 : decode (mB M_LW_law) 1776 = .ok (.invokevirtual 202, 3) := by decide +kernel
theorem d_LW_law_1779 : decode (mB M_LW_law) 1779 = .ok (.istore 6, 2) := by decide +kernel
theorem d_LW_law_1781 : decode (mB M_LW_law) 1781 = .ok (.aload_n 2, 1) := by decide +kernel
theorem d_LW_law_1782 : decode (mB M_LW_law) 1782 = .ok (.invokevirtual 124, 3) := by decide +kernel
theorem d_LW_law_1785 : decode (mB M_LW_law) 1785 = .ok (.iload 5, 2) := by decide +kernel
theorem d_LW_law_1787 : decode (mB M_LW_law) 1787 = .ok (.if_icmp .eq 5, 3) := by decide +kernel
theorem d_LW_law_1790 : decode (mB M_LW_law) 1790 = .ok (.iconst 0, 1) := by decide +kernel
theorem d_LW_law_1791 : decode (mB M_LW_law) 1791 = .ok (.ireturn, 1) := by decide +kernel
theorem d_LW_law_1792 : decode (mB M_LW_law) 1792 = .ok (.iload 5, 2) := by decide +kernel
theorem d_LW_law_1794 : decode (mB M_LW_law) 1794 = .ok (.ifCond .ne 15, 3) := by decide +kernel
theorem d_LW_law_1797 : decode (mB M_LW_law) 1797 = .ok (.aload_n 3, 1) := by decide +kernel
theorem d_LW_law_1798 : decode (mB M_LW_law) 1798 = .ok (.iconst 0, 1) := by decide +kernel
theorem d_LW_law_1799 : decode (mB M_LW_law) 1799 = .ok (.laload, 1) := by decide +kernel
theorem d_LW_law_1800 : decode (mB M_LW_law) 1800 = .ok (.iload 6, 2) := by decide +kernel
theorem d_LW_law_1802 : decode (mB M_LW_law) 1802 = .ok (.i2l, 1) := by decide +kernel
theorem d_LW_law_1803 : decode (mB M_LW_law) 1803 = .ok (.lcmp, 1) := by decide +kernel
theorem d_LW_law_1804 : decode (mB M_LW_law) 1804 = .ok (.ifCond .eq 5, 3) := by decide +kernel
theorem d_LW_law_1807 : decode (mB M_LW_law) 1807 = .ok (.iconst 0, 1) := by decide +kernel
theorem d_LW_law_1808 : decode (mB M_LW_law) 1808 = .ok (.ireturn, 1) := by decide +kernel
theorem d_LW_law_1809 : decode (mB M_LW_law) 1809 = .ok (.goto 355, 3) := by decide +kernel
theorem d_LW_law_1812 : decode (mB M_LW_law) 1812 = .ok (.aload_n 1, 1) := by decide +kernel
theorem d_LW_law_1813 : decode (mB M_LW_law) 1813 = .ok (.aload_n 0, 1) := by decide +kernel
theorem d_LW_law_1814 : decode (mB M_LW_law) 1814 = .ok (.iload 4, 2) := by decide +kernel
theorem d_LW_law_1816 : decode (mB M_LW_law) 1816 = .ok (.iconst 1, 1) := by decide +kernel
theorem d_LW_law_1817 : decode (mB M_LW_law) 1817 = .ok (.iadd, 1) := by decide +kernel
theorem d_LW_law_1818 : decode (mB M_LW_law) 1818 = .ok (.iaload, 1) := by decide +kernel
theorem d_LW_law_1819 : decode (mB M_LW_law) 1819 = .ok (.aload_n 0, 1) := by decide +kernel
theorem d_LW_law_1820 : decode (mB M_LW_law) 1820 = .ok (.iload 4, 2) := by decide +kernel
theorem d_LW_law_1822 : decode (mB M_LW_law) 1822 = .ok (.iconst 2, 1) := by decide +kernel
theorem d_LW_law_1823 : decode (mB M_LW_law) 1823 = .ok (.iadd, 1) := by decide +kernel
theorem d_LW_law_1824 : decode (mB M_LW_law) 1824 = .ok (.iaload, 1) := by decide +kernel
theorem d_LW_law_1825 : decode (mB M_LW_law) 1825 = .ok (.aload_n 0, 1) := by decide +kernel
theorem d_LW_law_1826 : decode (mB M_LW_law) 1826 = .ok (.iload 4, 2) := by decide +kernel
theorem d_LW_law_1828 : decode (mB M_LW_law) 1828 = .ok (.iconst 3, 1) := by decide +kernel
theorem d_LW_law_1829 : decode (mB M_LW_law) 1829 = .ok (.iadd, 1) := by decide +kernel
theorem d_LW_law_1830 : decode (mB M_LW_law) 1830 = .ok (.iaload, 1) := by decide +kernel
theorem d_LW_law_1831 : decode (mB M_LW_law) 1831 = .ok (.aload_n 3, 1) := by decide +kernel
theorem d_LW_law_1832 : decode (mB M_LW_law) 1832 = .ok (.invokestatic 203, 3) := by decide +kernel
theorem d_LW_law_1835 : decode (mB M_LW_law) 1835 = .ok (.istore 5, 2) := by decide +kernel
theorem d_LW_law_1837 : decode (mB M_LW_law) 1837 = .ok (.aload_n 2, 1) := by decide +kernel
theorem d_LW_law_1838 : decode (mB M_LW_law) 1838 = .ok (.aload_n 0, 1) := by decide +kernel
theorem d_LW_law_1839 : decode (mB M_LW_law) 1839 = .ok (.iload 4, 2) := by decide +kernel
theorem d_LW_law_1841 : decode (mB M_LW_law) 1841 = .ok (.iconst 1, 1) := by decide +kernel
theorem d_LW_law_1842 : decode (mB M_LW_law) 1842 = .ok (.iadd, 1) := by decide +kernel
theorem d_LW_law_1843 : decode (mB M_LW_law) 1843 = .ok (.iaload, 1) := by decide +kernel
theorem d_LW_law_1844 : decode (mB M_LW_law) 1844 = .ok (.aload_n 0, 1) := by decide +kernel
theorem d_LW_law_1845 : decode (mB M_LW_law) 1845 = .ok (.iload 4, 2) := by decide +kernel
theorem d_LW_law_1847 : decode (mB M_LW_law) 1847 = .ok (.iconst 2, 1) := by decide +kernel
theorem d_LW_law_1848 : decode (mB M_LW_law) 1848 = .ok (.iadd, 1) := by decide +kernel
theorem d_LW_law_1849 : decode (mB M_LW_law) 1849 = .ok (.iaload, 1) := by decide +kernel
theorem d_LW_law_1850 : decode (mB M_LW_law) 1850 = .ok (.aload_n 0, 1) := by decide +kernel
theorem d_LW_law_1851 : decode (mB M_LW_law) 1851 = .ok (.iload 4, 2) := by decide +kernel
theorem d_LW_law_1853 : decode (mB M_LW_law) 1853 = .ok (.iconst 3, 1) := by decide +kernel
theorem d_LW_law_1854 : decode (mB M_LW_law) 1854 = .ok (.iadd, 1) := by decide +kernel
theorem d_LW_law_1855 : decode (mB M_LW_law) 1855 = .ok (.iaload, 1) := by decide +kernel
theorem d_LW_law_1856 : decode (mB M_LW_law) 1856 = .ok (.invokevirtual 205, 3) := by decide +kernel
theorem d_LW_law_1859 : decode (mB M_LW_law) 1859 = .ok (.istore 6, 2) := by decide +kernel
theorem d_LW_law_1861 : decode (mB M_LW_law) 1861 = .ok (.aload_n 2, 1) := by decide +kernel
theorem d_LW_law_1862 : decode (mB M_LW_law) 1862 = .ok (.invokevirtual 124, 3) := by decide +kernel
theorem d_LW_law_1865 : decode (mB M_LW_law) 1865 = .ok (.iload 5, 2) := by decide +kernel
theorem d_LW_law_1867 : decode (mB M_LW_law) 1867 = .ok (.if_icmp .eq 5, 3) := by decide +kernel
theorem d_LW_law_1870 : decode (mB M_LW_law) 1870 = .ok (.iconst 0, 1) := by decide +kernel
theorem d_LW_law_1871 : decode (mB M_LW_law) 1871 = .ok (.ireturn, 1) := by decide +kernel
theorem d_LW_law_1872 : decode (mB M_LW_law) 1872 = .ok (.iload 5, 2) := by decide +kernel
theorem d_LW_law_1874 : decode (mB M_LW_law) 1874 = .ok (.ifCond .ne 15, 3) := by decide +kernel
theorem d_LW_law_1877 : decode (mB M_LW_law) 1877 = .ok (.aload_n 3, 1) := by decide +kernel
theorem d_LW_law_1878 : decode (mB M_LW_law) 1878 = .ok (.iconst 0, 1) := by decide +kernel
theorem d_LW_law_1879 : decode (mB M_LW_law) 1879 = .ok (.laload, 1) := by decide +kernel
theorem d_LW_law_1880 : decode (mB M_LW_law) 1880 = .ok (.iload 6, 2) := by decide +kernel
theorem d_LW_law_1882 : decode (mB M_LW_law) 1882 = .ok (.i2l, 1) := by decide +kernel
theorem d_LW_law_1883 : decode (mB M_LW_law) 1883 = .ok (.lcmp, 1) := by decide +kernel
theorem d_LW_law_1884 : decode (mB M_LW_law) 1884 = .ok (.ifCond .eq 5, 3) := by decide +kernel
theorem d_LW_law_1887 : decode (mB M_LW_law) 1887 = .ok (.iconst 0, 1) := by decide +kernel
theorem d_LW_law_1888 : decode (mB M_LW_law) 1888 = .ok (.ireturn, 1) := by decide +kernel
theorem d_LW_law_1889 : decode (mB M_LW_law) 1889 = .ok (.goto 275, 3) := by decide +kernel
theorem d_LW_law_1892 : decode (mB M_LW_law) 1892 = .ok (.aload_n 1, 1) := by decide +kernel
theorem d_LW_law_1893 : decode (mB M_LW_law) 1893 = .ok (.aload_n 0, 1) := by decide +kernel
theorem d_LW_law_1894 : decode (mB M_LW_law) 1894 = .ok (.iload 4, 2) := by decide +kernel
theorem d_LW_law_1896 : decode (mB M_LW_law) 1896 = .ok (.iconst 1, 1) := by decide +kernel
theorem d_LW_law_1897 : decode (mB M_LW_law) 1897 = .ok (.iadd, 1) := by decide +kernel
theorem d_LW_law_1898 : decode (mB M_LW_law) 1898 = .ok (.iaload, 1) := by decide +kernel
theorem d_LW_law_1899 : decode (mB M_LW_law) 1899 = .ok (.aload_n 0, 1) := by decide +kernel
theorem d_LW_law_1900 : decode (mB M_LW_law) 1900 = .ok (.iload 4, 2) := by decide +kernel
theorem d_LW_law_1902 : decode (mB M_LW_law) 1902 = .ok (.iconst 2, 1) := by decide +kernel
theorem d_LW_law_1903 : decode (mB M_LW_law) 1903 = .ok (.iadd, 1) := by decide +kernel
theorem d_LW_law_1904 : decode (mB M_LW_law) 1904 = .ok (.iaload, 1) := by decide +kernel
theorem d_LW_law_1905 : decode (mB M_LW_law) 1905 = .ok (.aload_n 3, 1) := by decide +kernel
theorem d_LW_law_1906 : decode (mB M_LW_law) 1906 = .ok (.invokestatic 206, 3) := by decide +kernel
theorem d_LW_law_1909 : decode (mB M_LW_law) 1909 = .ok (.istore 5, 2) := by decide +kernel
theorem d_LW_law_1911 : decode (mB M_LW_law) 1911 = .ok (.aload_n 2, 1) := by decide +kernel
theorem d_LW_law_1912 : decode (mB M_LW_law) 1912 = .ok (.aload_n 0, 1) := by decide +kernel
theorem d_LW_law_1913 : decode (mB M_LW_law) 1913 = .ok (.iload 4, 2) := by decide +kernel
theorem d_LW_law_1915 : decode (mB M_LW_law) 1915 = .ok (.iconst 1, 1) := by decide +kernel
theorem d_LW_law_1916 : decode (mB M_LW_law) 1916 = .ok (.iadd, 1) := by decide +kernel
theorem d_LW_law_1917 : decode (mB M_LW_law) 1917 = .ok (.iaload, 1) := by decide +kernel
theorem d_LW_law_1918 : decode (mB M_LW_law) 1918 = .ok (.aload_n 0, 1) := by decide +kernel
theorem d_LW_law_1919 : decode (mB M_LW_law) 1919 = .ok (.iload 4, 2) := by decide +kernel
theorem d_LW_law_1921 : decode (mB M_LW_law) 1921 = .ok (.iconst 2, 1) := by decide +kernel
theorem d_LW_law_1922 : decode (mB M_LW_law) 1922 = .ok (.iadd, 1) := by decide +kernel
theorem d_LW_law_1923 : decode (mB M_LW_law) 1923 = .ok (.iaload, 1) := by decide +kernel
theorem d_LW_law_1924 : decode (mB M_LW_law) 1924 = .ok (.invokevirtual 208, 3) := by decide +kernel
theorem d_LW_law_1927 : decode (mB M_LW_law) 1927 = .ok (.istore 6, 2) := by decide +kernel
theorem d_LW_law_1929 : decode (mB M_LW_law) 1929 = .ok (.aload_n 2, 1) := by decide +kernel
theorem d_LW_law_1930 : decode (mB M_LW_law) 1930 = .ok (.invokevirtual 124, 3) := by decide +kernel
theorem d_LW_law_1933 : decode (mB M_LW_law) 1933 = .ok (.iload 5, 2) := by decide +kernel
theorem d_LW_law_1935 : decode (mB M_LW_law) 1935 = .ok (.if_icmp .eq 5, 3) := by decide +kernel
theorem d_LW_law_1938 : decode (mB M_LW_law) 1938 = .ok (.iconst 0, 1) := by decide +kernel
theorem d_LW_law_1939 : decode (mB M_LW_law) 1939 = .ok (.ireturn, 1) := by decide +kernel
theorem d_LW_law_1940 : decode (mB M_LW_law) 1940 = .ok (.iload 5, 2) := by decide +kernel
theorem d_LW_law_1942 : decode (mB M_LW_law) 1942 = .ok (.ifCond .ne 15, 3) := by decide +kernel
theorem d_LW_law_1945 : decode (mB M_LW_law) 1945 = .ok (.aload_n 3, 1) := by decide +kernel
theorem d_LW_law_1946 : decode (mB M_LW_law) 1946 = .ok (.iconst 0, 1) := by decide +kernel
theorem d_LW_law_1947 : decode (mB M_LW_law) 1947 = .ok (.laload, 1) := by decide +kernel
theorem d_LW_law_1948 : decode (mB M_LW_law) 1948 = .ok (.iload 6, 2) := by decide +kernel
theorem d_LW_law_1950 : decode (mB M_LW_law) 1950 = .ok (.i2l, 1) := by decide +kernel
theorem d_LW_law_1951 : decode (mB M_LW_law) 1951 = .ok (.lcmp, 1) := by decide +kernel
theorem d_LW_law_1952 : decode (mB M_LW_law) 1952 = .ok (.ifCond .eq 5, 3) := by decide +kernel
theorem d_LW_law_1955 : decode (mB M_LW_law) 1955 = .ok (.iconst 0, 1) := by decide +kernel
theorem d_LW_law_1956 : decode (mB M_LW_law) 1956 = .ok (.ireturn, 1) := by decide +kernel
theorem d_LW_law_1957 : decode (mB M_LW_law) 1957 = .ok (.goto 207, 3) := by decide +kernel
theorem d_LW_law_1960 : decode (mB M_LW_law) 1960 = .ok (.aload_n 1, 1) := by decide +kernel
theorem d_LW_law_1961 : decode (mB M_LW_law) 1961 = .ok (.aload_n 0, 1) := by decide +kernel
theorem d_LW_law_1962 : decode (mB M_LW_law) 1962 = .ok (.iload 4, 2) := by decide +kernel
theorem d_LW_law_1964 : decode (mB M_LW_law) 1964 = .ok (.iconst 1, 1) := by decide +kernel
theorem d_LW_law_1965 : decode (mB M_LW_law) 1965 = .ok (.iadd, 1) := by decide +kernel
theorem d_LW_law_1966 : decode (mB M_LW_law) 1966 = .ok (.iaload, 1) := by decide +kernel
theorem d_LW_law_1967 : decode (mB M_LW_law) 1967 = .ok (.aload_n 0, 1) := by decide +kernel
theorem d_LW_law_1968 : decode (mB M_LW_law) 1968 = .ok (.iload 4, 2) := by decide +kernel
theorem d_LW_law_1970 : decode (mB M_LW_law) 1970 = .ok (.iconst 2, 1) := by decide +kernel
theorem d_LW_law_1971 : decode (mB M_LW_law) 1971 = .ok (.iadd, 1) := by decide +kernel
theorem d_LW_law_1972 : decode (mB M_LW_law) 1972 = .ok (.iaload, 1) := by decide +kernel
theorem d_LW_law_1973 : decode (mB M_LW_law) 1973 = .ok (.aload_n 3, 1) := by decide +kernel
theorem d_LW_law_1974 : decode (mB M_LW_law) 1974 = .ok (.invokestatic 209, 3) := by decide +kernel
theorem d_LW_law_1977 : decode (mB M_LW_law) 1977 = .ok (.istore 5, 2) := by decide +kernel
theorem d_LW_law_1979 : decode (mB M_LW_law) 1979 = .ok (.aload_n 2, 1) := by decide +kernel
theorem d_LW_law_1980 : decode (mB M_LW_law) 1980 = .ok (.aload_n 0, 1) := by decide +kernel
theorem d_LW_law_1981 : decode (mB M_LW_law) 1981 = .ok (.iload 4, 2) := by decide +kernel
theorem d_LW_law_1983 : decode (mB M_LW_law) 1983 = .ok (.iconst 1, 1) := by decide +kernel
theorem d_LW_law_1984 : decode (mB M_LW_law) 1984 = .ok (.iadd, 1) := by decide +kernel
theorem d_LW_law_1985 : decode (mB M_LW_law) 1985 = .ok (.iaload, 1) := by decide +kernel
theorem d_LW_law_1986 : decode (mB M_LW_law) 1986 = .ok (.aload_n 0, 1) := by decide +kernel
theorem d_LW_law_1987 : decode (mB M_LW_law) 1987 = .ok (.iload 4, 2) := by decide +kernel
theorem d_LW_law_1989 : decode (mB M_LW_law) 1989 = .ok (.iconst 2, 1) := by decide +kernel
theorem d_LW_law_1990 : decode (mB M_LW_law) 1990 = .ok (.iadd, 1) := by decide +kernel
theorem d_LW_law_1991 : decode (mB M_LW_law) 1991 = .ok (.iaload, 1) := by decide +kernel
theorem d_LW_law_1992 : decode (mB M_LW_law) 1992 = .ok (.invokevirtual 211, 3) := by decide +kernel
theorem d_LW_law_1995 : decode (mB M_LW_law) 1995 = .ok (.istore 6, 2) := by decide +kernel
theorem d_LW_law_1997 : decode (mB M_LW_law) 1997 = .ok (.aload_n 2, 1) := by decide +kernel
theorem d_LW_law_1998 : decode (mB M_LW_law) 1998 = .ok (.invokevirtual 124, 3) := by decide +kernel
theorem d_LW_law_2001 : decode (mB M_LW_law) 2001 = .ok (.iload 5, 2) := by decide +kernel
theorem d_LW_law_2003 : decode (mB M_LW_law) 2003 = .ok (.if_icmp .eq 5, 3) := by decide +kernel
theorem d_LW_law_2006 : decode (mB M_LW_law) 2006 = .ok (.iconst 0, 1) := by decide +kernel
theorem d_LW_law_2007 : decode (mB M_LW_law) 2007 = .ok (.ireturn, 1) := by decide +kernel
theorem d_LW_law_2008 : decode (mB M_LW_law) 2008 = .ok (.iload 5, 2) := by decide +kernel
theorem d_LW_law_2010 : decode (mB M_LW_law) 2010 = .ok (.ifCond .ne 15, 3) := by decide +kernel
theorem d_LW_law_2013 : decode (mB M_LW_law) 2013 = .ok (.aload_n 3, 1) := by decide +kernel
theorem d_LW_law_2014 : decode (mB M_LW_law) 2014 = .ok (.iconst 0, 1) := by decide +kernel
theorem d_LW_law_2015 : decode (mB M_LW_law) 2015 = .ok (.laload, 1) := by decide +kernel
theorem d_LW_law_2016 : decode (mB M_LW_law) 2016 = .ok (.iload 6, 2) := by decide +kernel
theorem d_LW_law_2018 : decode (mB M_LW_law) 2018 = .ok (.i2l, 1) := by decide +kernel
theorem d_LW_law_2019 : decode (mB M_LW_law) 2019 = .ok (.lcmp, 1) := by decide +kernel
theorem d_LW_law_2020 : decode (mB M_LW_law) 2020 = .ok (.ifCond .eq 5, 3) := by decide +kernel
theorem d_LW_law_2023 : decode (mB M_LW_law) 2023 = .ok (.iconst 0, 1) := by decide +kernel
theorem d_LW_law_2024 : decode (mB M_LW_law) 2024 = .ok (.ireturn, 1) := by decide +kernel
theorem d_LW_law_2025 : decode (mB M_LW_law) 2025 = .ok (.goto 139, 3) := by decide +kernel
theorem d_LW_law_2028 : decode (mB M_LW_law) 2028 = .ok (.aload_n 1, 1) := by decide +kernel
theorem d_LW_law_2029 : decode (mB M_LW_law) 2029 = .ok (.aload_n 0, 1) := by decide +kernel
theorem d_LW_law_2030 : decode (mB M_LW_law) 2030 = .ok (.iload 4, 2) := by decide +kernel
theorem d_LW_law_2032 : decode (mB M_LW_law) 2032 = .ok (.iconst 1, 1) := by decide +kernel
theorem d_LW_law_2033 : decode (mB M_LW_law) 2033 = .ok (.iadd, 1) := by decide +kernel
theorem d_LW_law_2034 : decode (mB M_LW_law) 2034 = .ok (.iaload, 1) := by decide +kernel
theorem d_LW_law_2035 : decode (mB M_LW_law) 2035 = .ok (.aload_n 0, 1) := by decide +kernel
theorem d_LW_law_2036 : decode (mB M_LW_law) 2036 = .ok (.iload 4, 2) := by decide +kernel
theorem d_LW_law_2038 : decode (mB M_LW_law) 2038 = .ok (.iconst 2, 1) := by decide +kernel
theorem d_LW_law_2039 : decode (mB M_LW_law) 2039 = .ok (.iadd, 1) := by decide +kernel
theorem d_LW_law_2040 : decode (mB M_LW_law) 2040 = .ok (.iaload, 1) := by decide +kernel
theorem d_LW_law_2041 : decode (mB M_LW_law) 2041 = .ok (.aload_n 3, 1) := by decide +kernel
theorem d_LW_law_2042 : decode (mB M_LW_law) 2042 = .ok (.invokestatic 212, 3) := by decide +kernel
theorem d_LW_law_2045 : decode (mB M_LW_law) 2045 = .ok (.istore 5, 2) := by decide +kernel
theorem d_LW_law_2047 : decode (mB M_LW_law) 2047 = .ok (.aload_n 2, 1) := by decide +kernel
theorem d_LW_law_2048 : decode (mB M_LW_law) 2048 = .ok (.aload_n 0, 1) := by decide +kernel
theorem d_LW_law_2049 : decode (mB M_LW_law) 2049 = .ok (.iload 4, 2) := by decide +kernel
theorem d_LW_law_2051 : decode (mB M_LW_law) 2051 = .ok (.iconst 1, 1) := by decide +kernel
theorem d_LW_law_2052 : decode (mB M_LW_law) 2052 = .ok (.iadd, 1) := by decide +kernel
theorem d_LW_law_2053 : decode (mB M_LW_law) 2053 = .ok (.iaload, 1) := by decide +kernel
theorem d_LW_law_2054 : decode (mB M_LW_law) 2054 = .ok (.aload_n 0, 1) := by decide +kernel
theorem d_LW_law_2055 : decode (mB M_LW_law) 2055 = .ok (.iload 4, 2) := by decide +kernel
theorem d_LW_law_2057 : decode (mB M_LW_law) 2057 = .ok (.iconst 2, 1) := by decide +kernel
theorem d_LW_law_2058 : decode (mB M_LW_law) 2058 = .ok (.iadd, 1) := by decide +kernel
theorem d_LW_law_2059 : decode (mB M_LW_law) 2059 = .ok (.iaload, 1) := by decide +kernel
theorem d_LW_law_2060 : decode (mB M_LW_law) 2060 = .ok (.invokevirtual 214, 3) := by decide +kernel
theorem d_LW_law_2063 : decode (mB M_LW_law) 2063 = .ok (.istore 6, 2) := by decide +kernel
theorem d_LW_law_2065 : decode (mB M_LW_law) 2065 = .ok (.aload_n 2, 1) := by decide +kernel
theorem d_LW_law_2066 : decode (mB M_LW_law) 2066 = .ok (.invokevirtual 124, 3) := by decide +kernel
theorem d_LW_law_2069 : decode (mB M_LW_law) 2069 = .ok (.iload 5, 2) := by decide +kernel
theorem d_LW_law_2071 : decode (mB M_LW_law) 2071 = .ok (.if_icmp .eq 5, 3) := by decide +kernel
theorem d_LW_law_2074 : decode (mB M_LW_law) 2074 = .ok (.iconst 0, 1) := by decide +kernel
theorem d_LW_law_2075 : decode (mB M_LW_law) 2075 = .ok (.ireturn, 1) := by decide +kernel
theorem d_LW_law_2076 : decode (mB M_LW_law) 2076 = .ok (.iload 5, 2) := by decide +kernel
theorem d_LW_law_2078 : decode (mB M_LW_law) 2078 = .ok (.ifCond .ne 15, 3) := by decide +kernel
theorem d_LW_law_2081 : decode (mB M_LW_law) 2081 = .ok (.aload_n 3, 1) := by decide +kernel
theorem d_LW_law_2082 : decode (mB M_LW_law) 2082 = .ok (.iconst 0, 1) := by decide +kernel
theorem d_LW_law_2083 : decode (mB M_LW_law) 2083 = .ok (.laload, 1) := by decide +kernel
theorem d_LW_law_2084 : decode (mB M_LW_law) 2084 = .ok (.iload 6, 2) := by decide +kernel
theorem d_LW_law_2086 : decode (mB M_LW_law) 2086 = .ok (.i2l, 1) := by decide +kernel
theorem d_LW_law_2087 : decode (mB M_LW_law) 2087 = .ok (.lcmp, 1) := by decide +kernel
theorem d_LW_law_2088 : decode (mB M_LW_law) 2088 = .ok (.ifCond .eq 5, 3) := by decide +kernel
theorem d_LW_law_2091 : decode (mB M_LW_law) 2091 = .ok (.iconst 0, 1) := by decide +kernel
theorem d_LW_law_2092 : decode (mB M_LW_law) 2092 = .ok (.ireturn, 1) := by decide +kernel
theorem d_LW_law_2093 : decode (mB M_LW_law) 2093 = .ok (.goto 71, 3) := by decide +kernel
theorem d_LW_law_2096 : decode (mB M_LW_law) 2096 = .ok (.aload_n 1, 1) := by decide +kernel
theorem d_LW_law_2097 : decode (mB M_LW_law) 2097 = .ok (.aload_n 0, 1) := by decide +kernel
theorem d_LW_law_2098 : decode (mB M_LW_law) 2098 = .ok (.iload 4, 2) := by decide +kernel
theorem d_LW_law_2100 : decode (mB M_LW_law) 2100 = .ok (.iconst 1, 1) := by decide +kernel
theorem d_LW_law_2101 : decode (mB M_LW_law) 2101 = .ok (.iadd, 1) := by decide +kernel
theorem d_LW_law_2102 : decode (mB M_LW_law) 2102 = .ok (.iaload, 1) := by decide +kernel
theorem d_LW_law_2103 : decode (mB M_LW_law) 2103 = .ok (.aload_n 0, 1) := by decide +kernel
theorem d_LW_law_2104 : decode (mB M_LW_law) 2104 = .ok (.iload 4, 2) := by decide +kernel
theorem d_LW_law_2106 : decode (mB M_LW_law) 2106 = .ok (.iconst 2, 1) := by decide +kernel
theorem d_LW_law_2107 : decode (mB M_LW_law) 2107 = .ok (.iadd, 1) := by decide +kernel
theorem d_LW_law_2108 : decode (mB M_LW_law) 2108 = .ok (.iaload, 1) := by decide +kernel
theorem d_LW_law_2109 : decode (mB M_LW_law) 2109 = .ok (.aload_n 3, 1) := by decide +kernel
theorem d_LW_law_2110 : decode (mB M_LW_law) 2110 = .ok (.invokestatic 215, 3) := by decide +kernel
theorem d_LW_law_2113 : decode (mB M_LW_law) 2113 = .ok (.istore 5, 2) := by decide +kernel
theorem d_LW_law_2115 : decode (mB M_LW_law) 2115 = .ok (.aload_n 2, 1) := by decide +kernel
theorem d_LW_law_2116 : decode (mB M_LW_law) 2116 = .ok (.aload_n 0, 1) := by decide +kernel
theorem d_LW_law_2117 : decode (mB M_LW_law) 2117 = .ok (.iload 4, 2) := by decide +kernel
theorem d_LW_law_2119 : decode (mB M_LW_law) 2119 = .ok (.iconst 1, 1) := by decide +kernel
theorem d_LW_law_2120 : decode (mB M_LW_law) 2120 = .ok (.iadd, 1) := by decide +kernel
theorem d_LW_law_2121 : decode (mB M_LW_law) 2121 = .ok (.iaload, 1) := by decide +kernel
theorem d_LW_law_2122 : decode (mB M_LW_law) 2122 = .ok (.aload_n 0, 1) := by decide +kernel
theorem d_LW_law_2123 : decode (mB M_LW_law) 2123 = .ok (.iload 4, 2) := by decide +kernel
theorem d_LW_law_2125 : decode (mB M_LW_law) 2125 = .ok (.iconst 2, 1) := by decide +kernel
theorem d_LW_law_2126 : decode (mB M_LW_law) 2126 = .ok (.iadd, 1) := by decide +kernel
theorem d_LW_law_2127 : decode (mB M_LW_law) 2127 = .ok (.iaload, 1) := by decide +kernel
theorem d_LW_law_2128 : decode (mB M_LW_law) 2128 = .ok (.invokevirtual 217, 3) := by decide +kernel
theorem d_LW_law_2131 : decode (mB M_LW_law) 2131 = .ok (.istore 6, 2) := by decide +kernel
theorem d_LW_law_2133 : decode (mB M_LW_law) 2133 = .ok (.aload_n 2, 1) := by decide +kernel
theorem d_LW_law_2134 : decode (mB M_LW_law) 2134 = .ok (.invokevirtual 124, 3) := by decide +kernel
theorem d_LW_law_2137 : decode (mB M_LW_law) 2137 = .ok (.iload 5, 2) := by decide +kernel
theorem d_LW_law_2139 : decode (mB M_LW_law) 2139 = .ok (.if_icmp .eq 5, 3) := by decide +kernel
theorem d_LW_law_2142 : decode (mB M_LW_law) 2142 = .ok (.iconst 0, 1) := by decide +kernel
theorem d_LW_law_2143 : decode (mB M_LW_law) 2143 = .ok (.ireturn, 1) := by decide +kernel
theorem d_LW_law_2144 : decode (mB M_LW_law) 2144 = .ok (.iload 5, 2) := by decide +kernel
theorem d_LW_law_2146 : decode (mB M_LW_law) 2146 = .ok (.ifCond .ne 15, 3) := by decide +kernel
theorem d_LW_law_2149 : decode (mB M_LW_law) 2149 = .ok (.aload_n 3, 1) := by decide +kernel
theorem d_LW_law_2150 : decode (mB M_LW_law) 2150 = .ok (.iconst 0, 1) := by decide +kernel
theorem d_LW_law_2151 : decode (mB M_LW_law) 2151 = .ok (.laload, 1) := by decide +kernel
theorem d_LW_law_2152 : decode (mB M_LW_law) 2152 = .ok (.iload 6, 2) := by decide +kernel
theorem d_LW_law_2154 : decode (mB M_LW_law) 2154 = .ok (.i2l, 1) := by decide +kernel
theorem d_LW_law_2155 : decode (mB M_LW_law) 2155 = .ok (.lcmp, 1) := by decide +kernel
theorem d_LW_law_2156 : decode (mB M_LW_law) 2156 = .ok (.ifCond .eq 5, 3) := by decide +kernel
theorem d_LW_law_2159 : decode (mB M_LW_law) 2159 = .ok (.iconst 0, 1) := by decide +kernel
theorem d_LW_law_2160 : decode (mB M_LW_law) 2160 = .ok (.ireturn, 1) := by decide +kernel
theorem d_LW_law_2161 : decode (mB M_LW_law) 2161 = .ok (.goto 3, 3) := by decide +kernel
theorem d_LW_law_2164 : decode (mB M_LW_law) 2164 = .ok (.iinc 4 6, 3) := by decide +kernel
theorem d_LW_law_2167 : decode (mB M_LW_law) 2167 = .ok (.goto (-2144), 3) := by decide +kernel
theorem d_LW_law_2170 : decode (mB M_LW_law) 2170 = .ok (.iconst 1, 1) := by decide +kernel
theorem d_LW_law_2171 : decode (mB M_LW_law) 2171 = .ok (.ireturn, 1) := by decide +kernel
