/-! the law: its instructions -/
theorem d_Law_law_1614 : decode code 1614 = .ok (.ifCond .eq 5, 3) := by decide +kernel
theorem d_Law_law_1617 : decode code 1617 = .ok (.iconst 0, 1) := by decide +kernel
theorem d_Law_law_1618 : decode code 1618 = .ok (.ireturn, 1) := by decide +kernel
theorem d_Law_law_1619 : decode code 1619 = .ok (.goto 1314, 3) := by decide +kernel
theorem d_Law_law_1622 : decode code 1622 = .ok (.aload_n 1, 1) := by decide +kernel
theorem d_Law_law_1623 : decode code 1623 = .ok (.aload_n 0, 1) := by decide +kernel
theorem d_Law_law_1624 : decode code 1624 = .ok (.iload 5, 2) := by decide +kernel
theorem d_Law_law_1626 : decode code 1626 = .ok (.iconst 1, 1) := by decide +kernel
theorem d_Law_law_1627 : decode code 1627 = .ok (.iadd, 1) := by decide +kernel
theorem d_Law_law_1628 : decode code 1628 = .ok (.iaload, 1) := by decide +kernel
theorem d_Law_law_1629 : decode code 1629 = .ok (.aload_n 0, 1) := by decide +kernel
theorem d_Law_law_1630 : decode code 1630 = .ok (.iload 5, 2) := by decide +kernel
theorem d_Law_law_1632 : decode code 1632 = .ok (.iconst 2, 1) := by decide +kernel
theorem d_Law_law_1633 : decode code 1633 = .ok (.iadd, 1) := by decide +kernel
theorem d_Law_law_1634 : decode code 1634 = .ok (.iaload, 1) := by decide +kernel
theorem d_Law_law_1635 : decode code 1635 = .ok (.aload_n 3, 1) := by decide +kernel
theorem d_Law_law_1636 : decode code 1636 = .ok (.invokestatic 269, 3) := by decide +kernel
theorem d_Law_law_1639 : decode code 1639 = .ok (.istore 6, 2) := by decide +kernel
theorem d_Law_law_1641 : decode code 1641 = .ok (.aload_n 2, 1) := by decide +kernel
theorem d_Law_law_1642 : decode code 1642 = .ok (.aload_n 0, 1) := by decide +kernel
theorem d_Law_law_1643 : decode code 1643 = .ok (.iload 5, 2) := by decide +kernel
theorem d_Law_law_1645 : decode code 1645 = .ok (.iconst 1, 1) := by decide +kernel
theorem d_Law_law_1646 : decode code 1646 = .ok (.iadd, 1) := by decide +kernel
theorem d_Law_law_1647 : decode code 1647 = .ok (.iaload, 1) := by decide +kernel
theorem d_Law_law_1648 : decode code 1648 = .ok (.aload_n 0, 1) := by decide +kernel
theorem d_Law_law_1649 : decode code 1649 = .ok (.iload 5, 2) := by decide +kernel
theorem d_Law_law_1651 : decode code 1651 = .ok (.iconst 2, 1) := by decide +kernel
theorem d_Law_law_1652 : decode code 1652 = .ok (.iadd, 1) := by decide +kernel
theorem d_Law_law_1653 : decode code 1653 = .ok (.iaload, 1) := by decide +kernel
theorem d_Law_law_1654 : decode code 1654 = .ok (.invokevirtual 271, 3) := by decide +kernel
theorem d_Law_law_1657 : decode code 1657 = .ok (.istore 7, 2) := by decide +kernel
theorem d_Law_law_1659 : decode code 1659 = .ok (.aload_n 2, 1) := by decide +kernel
theorem d_Law_law_1660 : decode code 1660 = .ok (.invokevirtual 163, 3) := by decide +kernel
theorem d_Law_law_1663 : decode code 1663 = .ok (.iload 6, 2) := by decide +kernel
theorem d_Law_law_1665 : decode code 1665 = .ok (.if_icmp .eq 5, 3) := by decide +kernel
theorem d_Law_law_1668 : decode code 1668 = .ok (.iconst 0, 1) := by decide +kernel
theorem d_Law_law_1669 : decode code 1669 = .ok (.ireturn, 1) := by decide +kernel
theorem d_Law_law_1670 : decode code 1670 = .ok (.iload 6, 2) := by decide +kernel
theorem d_Law_law_1672 : decode code 1672 = .ok (.ifCond .ne 15, 3) := by decide +kernel
theorem d_Law_law_1675 : decode code 1675 = .ok (.aload_n 3, 1) := by decide +kernel
theorem d_Law_law_1676 : decode code 1676 = .ok (.iconst 0, 1) := by decide +kernel
theorem d_Law_law_1677 : decode code 1677 = .ok (.laload, 1) := by decide +kernel
theorem d_Law_law_1678 : decode code 1678 = .ok (.iload 7, 2) := by decide +kernel
theorem d_Law_law_1680 : decode code 1680 = .ok (.i2l, 1) := by decide +kernel
theorem d_Law_law_1681 : decode code 1681 = .ok (.lcmp, 1) := by decide +kernel
theorem d_Law_law_1682 : decode code 1682 = .ok (.ifCond .eq 5, 3) := by decide +kernel
theorem d_Law_law_1685 : decode code 1685 = .ok (.iconst 0, 1) := by decide +kernel
theorem d_Law_law_1686 : decode code 1686 = .ok (.ireturn, 1) := by decide +kernel
theorem d_Law_law_1687 : decode code 1687 = .ok (.goto 1246, 3) := by decide +kernel
theorem d_Law_law_1690 : decode code 1690 = .ok (.aload_n 1, 1) := by decide +kernel
theorem d_Law_law_1691 : decode code 1691 = .ok (.aload_n 0, 1) := by decide +kernel
theorem d_Law_law_1692 : decode code 1692 = .ok (.iload 5, 2) := by decide +kernel
theorem d_Law_law_1694 : decode code 1694 = .ok (.iconst 1, 1) := by decide +kernel
theorem d_Law_law_1695 : decode code 1695 = .ok (.iadd, 1) := by decide +kernel
theorem d_Law_law_1696 : decode code 1696 = .ok (.iaload, 1) := by decide +kernel
theorem d_Law_law_1697 : decode code 1697 = .ok (.aload_n 3, 1) := by decide +kernel
theorem d_Law_law_1698 : decode code 1698 = .ok (.invokestatic 272, 3) := by decide +kernel
theorem d_Law_law_1701 : decode code 1701 = .ok (.istore 6, 2) := by decide +kernel
theorem d_Law_law_1703 : decode code 1703 = .ok (.aload_n 2, 1) := by decide +kernel
theorem d_Law_law_1704 : decode code 1704 = .ok (.aload_n 0, 1) := by decide +kernel
theorem d_Law_law_1705 : decode code 1705 = .ok (.iload 5, 2) := by decide +kernel
theorem d_Law_law_1707 : decode code 1707 = .ok (.iconst 1, 1) := by decide +kernel
theorem d_Law_law_1708 : decode code 1708 = .ok (.iadd, 1) := by decide +kernel
theorem d_Law_law_1709 : decode code 1709 = .ok (.iaload, 1) := by decide +kernel
theorem d_Law_law_1710 : decode code 1710 = .ok (.invokevirtual 274, 3) := by decide +kernel
theorem d_Law_law_1713 : decode code 1713 = .ok (.istore 7, 2) := by decide +kernel
theorem d_Law_law_1715 : decode code 1715 = .ok (.aload_n 2, 1) := by decide +kernel
theorem d_Law_law_1716 : decode code 1716 = .ok (.invokevirtual 163, 3) := by decide +kernel
theorem d_Law_law_1719 : decode code 1719 = .ok (.iload 6, 2) := by decide +kernel
theorem d_Law_law_1721 : decode code 1721 = .ok (.if_icmp .eq 5, 3) := by decide +kernel
theorem d_Law_law_1724 : decode code 1724 = .ok (.iconst 0, 1) := by decide +kernel
theorem d_Law_law_1725 : decode code 1725 = .ok (.ireturn, 1) := by decide +kernel
theorem d_Law_law_1726 : decode code 1726 = .ok (.iload 6, 2) := by decide +kernel
theorem d_Law_law_1728 : decode code 1728 = .ok (.ifCond .ne 15, 3) := by decide +kernel
theorem d_Law_law_1731 : decode code 1731 = .ok (.aload_n 3, 1) := by decide +kernel
theorem d_Law_law_1732 : decode code 1732 = .ok (.iconst 0, 1) := by decide +kernel
theorem d_Law_law_1733 : decode code 1733 = .ok (.laload, 1) := by decide +kernel
theorem d_Law_law_1734 : decode code 1734 = .ok (.iload 7, 2) := by decide +kernel
theorem d_Law_law_1736 : decode code 1736 = .ok (.i2l, 1) := by decide +kernel
theorem d_Law_law_1737 : decode code 1737 = .ok (.lcmp, 1) := by decide +kernel
theorem d_Law_law_1738 : decode code 1738 = .ok (.ifCond .eq 5, 3) := by decide +kernel
theorem d_Law_law_1741 : decode code 1741 = .ok (.iconst 0, 1) := by decide +kernel
theorem d_Law_law_1742 : decode code 1742 = .ok (.ireturn, 1) := by decide +kernel
theorem d_Law_law_1743 : decode code 1743 = .ok (.goto 1190, 3) := by decide +kernel
theorem d_Law_law_1746 : decode code 1746 = .ok (.aload_n 1, 1) := by decide +kernel
theorem d_Law_law_1747 : decode code 1747 = .ok (.aload_n 0, 1) := by decide +kernel
theorem d_Law_law_1748 : decode code 1748 = .ok (.iload 5, 2) := by decide +kernel
theorem d_Law_law_1750 : decode code 1750 = .ok (.iconst 1, 1) := by decide +kernel
theorem d_Law_law_1751 : decode code 1751 = .ok (.iadd, 1) := by decide +kernel
theorem d_Law_law_1752 : decode code 1752 = .ok (.iaload, 1) := by decide +kernel
theorem d_Law_law_1753 : decode code 1753 = .ok (.aload_n 3, 1) := by decide +kernel
theorem d_Law_law_1754 : decode code 1754 = .ok (.invokestatic 275, 3) := by decide +kernel
theorem d_Law_law_1757 : decode code 1757 = .ok (.istore 6, 2) := by decide +kernel
theorem d_Law_law_1759 : decode code 1759 = .ok (.aload_n 2, 1) := by decide +kernel
theorem d_Law_law_1760 : decode code 1760 = .ok (.aload_n 0, 1) := by decide +kernel
theorem d_Law_law_1761 : decode code 1761 = .ok (.iload 5, 2) := by decide +kernel
theorem d_Law_law_1763 : decode code 1763 = .ok (.iconst 1, 1) := by decide +kernel
theorem d_Law_law_1764 : decode code 1764 = .ok (.iadd, 1) := by decide +kernel
theorem d_Law_law_1765 : decode code 1765 = .ok (.iaload, 1) := by decide +kernel
theorem d_Law_law_1766 : decode code 1766 = .ok (.invokevirtual 277, 3) := by decide +kernel
theorem d_Law_law_1769 : decode code 1769 = .ok (.istore 7, 2) := by decide +kernel
theorem d_Law_law_1771 : decode code 1771 = .ok (.aload_n 2, 1) := by decide +kernel
theorem d_Law_law_1772 : decode code 1772 = .ok (.invokevirtual 163, 3) := by decide +kernel
theorem d_Law_law_1775 : decode code 1775 = .ok (.iload 6, 2) := by decide +kernel
theorem d_Law_law_1777 : decode code 1777 = .ok (.if_icmp .eq 5, 3) := by decide +kernel
theorem d_Law_law_1780 : decode code 1780 = .ok (.iconst 0, 1) := by decide +kernel
theorem d_Law_law_1781 : decode code 1781 = .ok (.ireturn, 1) := by decide +kernel
theorem d_Law_law_1782 : decode code 1782 = .ok (.iload 6, 2) := by decide +kernel
theorem d_Law_law_1784 : decode code 1784 = .ok (.ifCond .ne 15, 3) := by decide +kernel
theorem d_Law_law_1787 : decode code 1787 = .ok (.aload_n 3, 1) := by decide +kernel
theorem d_Law_law_1788 : decode code 1788 = .ok (.iconst 0, 1) := by decide +kernel
theorem d_Law_law_1789 : decode code 1789 = .ok (.laload, 1) := by decide +kernel
theorem d_Law_law_1790 : decode code 1790 = .ok (.iload 7, 2) := by decide +kernel
theorem d_Law_law_1792 : decode code 1792 = .ok (.i2l, 1) := by decide +kernel
theorem d_Law_law_1793 : decode code 1793 = .ok (.lcmp, 1) := by decide +kernel
theorem d_Law_law_1794 : decode code 1794 = .ok (.ifCond .eq 5, 3) := by decide +kernel
theorem d_Law_law_1797 : decode code 1797 = .ok (.iconst 0, 1) := by decide +kernel
theorem d_Law_law_1798 : decode code 1798 = .ok (.ireturn, 1) := by decide +kernel
theorem d_Law_law_1799 : decode code 1799 = .ok (.goto 1134, 3) := by decide +kernel
theorem d_Law_law_1802 : decode code 1802 = .ok (.aload_n 1, 1) := by decide +kernel
theorem d_Law_law_1803 : decode code 1803 = .ok (.aload_n 0, 1) := by decide +kernel
theorem d_Law_law_1804 : decode code 1804 = .ok (.iload 5, 2) := by decide +kernel
theorem d_Law_law_1806 : decode code 1806 = .ok (.iconst 1, 1) := by decide +kernel
theorem d_Law_law_1807 : decode code 1807 = .ok (.iadd, 1) := by decide +kernel
theorem d_Law_law_1808 : decode code 1808 = .ok (.iaload, 1) := by decide +kernel
theorem d_Law_law_1809 : decode code 1809 = .ok (.aload_n 0, 1) := by decide +kernel
theorem d_Law_law_1810 : decode code 1810 = .ok (.iload 5, 2) := by decide +kernel
theorem d_Law_law_1812 : decode code 1812 = .ok (.iconst 2, 1) := by decide +kernel
theorem d_Law_law_1813 : decode code 1813 = .ok (.iadd, 1) := by decide +kernel
theorem d_Law_law_1814 : decode code 1814 = .ok (.iaload, 1) := by decide +kernel
theorem d_Law_law_1815 : decode code 1815 = .ok (.aload_n 3, 1) := by decide +kernel
theorem d_Law_law_1816 : decode code 1816 = .ok (.invokestatic 278, 3) := by decide +kernel
theorem d_Law_law_1819 : decode code 1819 = .ok (.istore 6, 2) := by decide +kernel
theorem d_Law_law_1821 : decode code 1821 = .ok (.aload_n 2, 1) := by decide +kernel
theorem d_Law_law_1822 : decode code 1822 = .ok (.aload_n 0, 1) := by decide +kernel
theorem d_Law_law_1823 : decode code 1823 = .ok (.iload 5, 2) := by decide +kernel
theorem d_Law_law_1825 : decode code 1825 = .ok (.iconst 1, 1) := by decide +kernel
theorem d_Law_law_1826 : decode code 1826 = .ok (.iadd, 1) := by decide +kernel
theorem d_Law_law_1827 : decode code 1827 = .ok (.iaload, 1) := by decide +kernel
theorem d_Law_law_1828 : decode code 1828 = .ok (.aload_n 0, 1) := by decide +kernel
theorem d_Law_law_1829 : decode code 1829 = .ok (.iload 5, 2) := by decide +kernel
theorem d_Law_law_1831 : decode code 1831 = .ok (.iconst 2, 1) := by decide +kernel
theorem d_Law_law_1832 : decode code 1832 = .ok (.iadd, 1) := by decide +kernel
theorem d_Law_law_1833 : decode code 1833 = .ok (.iaload, 1) := by decide +kernel
theorem d_Law_law_1834 : decode code 1834 = .ok (.invokevirtual 280, 3) := by decide +kernel
theorem d_Law_law_1837 : decode code 1837 = .ok (.istore 7, 2) := by decide +kernel
theorem d_Law_law_1839 : decode code 1839 = .ok (.aload_n 2, 1) := by decide +kernel
theorem d_Law_law_1840 : decode code 1840 = .ok (.invokevirtual 163, 3) := by decide +kernel
theorem d_Law_law_1843 : decode code 1843 = .ok (.iload 6, 2) := by decide +kernel
theorem d_Law_law_1845 : decode code 1845 = .ok (.if_icmp .eq 5, 3) := by decide +kernel
theorem d_Law_law_1848 : decode code 1848 = .ok (.iconst 0, 1) := by decide +kernel
theorem d_Law_law_1849 : decode code 1849 = .ok (.ireturn, 1) := by decide +kernel
theorem d_Law_law_1850 : decode code 1850 = .ok (.iload 6, 2) := by decide +kernel
theorem d_Law_law_1852 : decode code 1852 = .ok (.ifCond .ne 22, 3) := by decide +kernel
theorem d_Law_law_1855 : decode code 1855 = .ok (.aload_n 3, 1) := by decide +kernel
theorem d_Law_law_1856 : decode code 1856 = .ok (.iconst 0, 1) := by decide +kernel
theorem d_Law_law_1857 : decode code 1857 = .ok (.laload, 1) := by decide +kernel
theorem d_Law_law_1858 : decode code 1858 = .ok (.iload 7, 2) := by decide +kernel
theorem d_Law_law_1860 : decode code 1860 = .ok (.ifCond .eq 7, 3) := by decide +kernel
theorem d_Law_law_1863 : decode code 1863 = .ok (.lconst 1, 1) := by decide +kernel
theorem d_Law_law_1864 : decode code 1864 = .ok (.goto 4, 3) := by decide +kernel
theorem d_Law_law_1867 : decode code 1867 = .ok (.lconst 0, 1) := by decide +kernel
theorem d_Law_law_1868 : decode code 1868 = .ok (.lcmp, 1) := by decide +kernel
theorem d_Law_law_1869 : decode code 1869 = .ok (.ifCond .eq 5, 3) := by decide +kernel
theorem d_Law_law_1872 : decode code 1872 = .ok (.iconst 0, 1) := by decide +kernel
theorem d_Law_law_1873 : decode code 1873 = .ok (.ireturn, 1) := by decide +kernel
theorem d_Law_law_1874 : decode code 1874 = .ok (.goto 1059, 3) := by decide +kernel
theorem d_Law_law_1877 : decode code 1877 = .ok (.aload_n 1, 1) := by decide +kernel
theorem d_Law_law_1878 : decode code 1878 = .ok (.aload_n 0, 1) := by decide +kernel
theorem d_Law_law_1879 : decode code 1879 = .ok (.iload 5, 2) := by decide +kernel
theorem d_Law_law_1881 : decode code 1881 = .ok (.iconst 1, 1) := by decide +kernel
theorem d_Law_law_1882 : decode code 1882 = .ok (.iadd, 1) := by decide +kernel
theorem d_Law_law_1883 : decode code 1883 = .ok (.iaload, 1) := by decide +kernel
theorem d_Law_law_1884 : decode code 1884 = .ok (.aload_n 0, 1) := by decide +kernel
theorem d_Law_law_1885 : decode code 1885 = .ok (.iload 5, 2) := by decide +kernel
theorem d_Law_law_1887 : decode code 1887 = .ok (.iconst 2, 1) := by decide +kernel
theorem d_Law_law_1888 : decode code 1888 = .ok (.iadd, 1) := by decide +kernel
theorem d_Law_law_1889 : decode code 1889 = .ok (.iaload, 1) := by decide +kernel
theorem d_Law_law_1890 : decode code 1890 = .ok (.aload_n 3, 1) := by decide +kernel
theorem d_Law_law_1891 : decode code 1891 = .ok (.invokestatic 281, 3) := by decide +kernel
theorem d_Law_law_1894 : decode code 1894 = .ok (.istore 6, 2) := by decide +kernel
theorem d_Law_law_1896 : decode code 1896 = .ok (.aload_n 2, 1) := by decide +kernel
theorem d_Law_law_1897 : decode code 1897 = .ok (.aload_n 0, 1) := by decide +kernel
theorem d_Law_law_1898 : decode code 1898 = .ok (.iload 5, 2) := by decide +kernel
theorem d_Law_law_1900 : decode code 1900 = .ok (.iconst 1, 1) := by decide +kernel
theorem d_Law_law_1901 : decode code 1901 = .ok (.iadd, 1) := by decide +kernel
theorem d_Law_law_1902 : decode code 1902 = .ok (.iaload, 1) := by decide +kernel
theorem d_Law_law_1903 : decode code 1903 = .ok (.aload_n 0, 1) := by decide +kernel
theorem d_Law_law_1904 : decode code 1904 = .ok (.iload 5, 2) := by decide +kernel
theorem d_Law_law_1906 : decode code 1906 = .ok (.iconst 2, 1) := by decide +kernel
theorem d_Law_law_1907 : decode code 1907 = .ok (.iadd, 1) := by decide +kernel
theorem d_Law_law_1908 : decode code 1908 = .ok (.iaload, 1) := by decide +kernel
theorem d_Law_law_1909 : decode code 1909 = .ok (.invokevirtual 283, 3) := by decide +kernel
theorem d_Law_law_1912 : decode code 1912 = .ok (.istore 7, 2) := by decide +kernel
theorem d_Law_law_1914 : decode code 1914 = .ok (.aload_n 2, 1) := by decide +kernel
theorem d_Law_law_1915 : decode code 1915 = .ok (.invokevirtual 163, 3) := by decide +kernel
theorem d_Law_law_1918 : decode code 1918 = .ok (.iload 6, 2) := by decide +kernel
theorem d_Law_law_1920 : decode code 1920 = .ok (.if_icmp .eq 5, 3) := by decide +kernel
theorem d_Law_law_1923 : decode code 1923 = .ok (.iconst 0, 1) := by decide +kernel
theorem d_Law_law_1924 : decode code 1924 = .ok (.ireturn, 1) := by decide +kernel
theorem d_Law_law_1925 : decode code 1925 = .ok (.iload 6, 2) := by decide +kernel
theorem d_Law_law_1927 : decode code 1927 = .ok (.ifCond .ne 15, 3) := by decide +kernel
theorem d_Law_law_1930 : decode code 1930 = .ok (.aload_n 3, 1) := by decide +kernel
theorem d_Law_law_1931 : decode code 1931 = .ok (.iconst 0, 1) := by decide +kernel
theorem d_Law_law_1932 : decode code 1932 = .ok (.laload, 1) := by decide +kernel
theorem d_Law_law_1933 : decode code 1933 = .ok (.iload 7, 2) := by decide +kernel
theorem d_Law_law_1935 : decode code 1935 = .ok (.i2l, 1) := by decide +kernel
theorem d_Law_law_1936 : decode code 1936 = .ok (.lcmp, 1) := by decide +kernel
theorem d_Law_law_1937 : decode code 1937 = .ok (.ifCond .eq 5, 3) := by decide +kernel
theorem d_Law_law_1940 : decode code 1940 = .ok (.iconst 0, 1) := by decide +kernel
