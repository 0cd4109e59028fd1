theorem kw_1741 : Cond.constantLong RX12 332 (50 : Int64) ∈ gw := kc_8 61 rfl rfl
theorem kw_1742 : Cond.methodLink RX12 334 yX12_atMost ∈ gw := kc_8 62 rfl rfl
theorem kw_1743 : Cond.static yX12_atMost ∈ gw := kc_8 63 rfl rfl
theorem kw_1744 : Cond.code yX12_atMost cX12_atMost 2 (Option.some FieldType.int) ∈ gw := kc_8 64 rfl rfl
theorem kw_1745 : Cond.methodLink RX12 341 yX12_moreTired ∈ gw := kc_8 65 rfl rfl
theorem kw_1747 : Cond.instanceMethod yX12_moreTired ∈ gw := kc_8 67 rfl rfl
theorem kw_1748 : Cond.code yX12_moreTired cX12_moreTired 3 (Option.some FieldType.int) ∈ gw := kc_8 68 rfl rfl
theorem kw_1749 : Cond.methodLink RL 56 yX12_take ∈ gw := kc_8 69 rfl rfl
theorem kw_1750 : Cond.instanceMethod yX12_take ∈ gw := kc_8 70 rfl rfl
theorem kw_1751 : Cond.selects RX12 yX12_take yX12_take ∈ gw := kc_8 71 rfl rfl
theorem kw_1752 : Cond.code yX12_take cX12_take 3 (Option.some FieldType.int) ∈ gw := kc_8 72 rfl rfl
theorem kw_1753 : Cond.methodLink RX12 362 yX12_canTake ∈ gw := kc_8 73 rfl rfl
theorem kw_1755 : Cond.instanceMethod yX12_canTake ∈ gw := kc_8 75 rfl rfl
theorem kw_1756 : Cond.code yX12_canTake cX12_canTake 3 (Option.some FieldType.boolean) ∈ gw := kc_8 76 rfl rfl
theorem kw_1757 : Cond.methodLink RX12 359 yX12_isAtPlace ∈ gw := kc_8 77 rfl rfl
theorem kw_1759 : Cond.instanceMethod yX12_isAtPlace ∈ gw := kc_8 79 rfl rfl
theorem kw_1760 : Cond.code yX12_isAtPlace cX12_isAtPlace 2 (Option.some FieldType.boolean) ∈ gw := kc_8 80 rfl rfl
theorem kw_1761 : Cond.methodLink RX12 365 yX12_takes ∈ gw := kc_8 81 rfl rfl
theorem kw_1763 : Cond.instanceMethod yX12_takes ∈ gw := kc_8 83 rfl rfl
theorem kw_1764 : Cond.code yX12_takes cX12_takes 3 (Option.none : Option FieldType) ∈ gw := kc_8 84 rfl rfl
theorem kw_1765 : Cond.methodLink RL 60 yX12_put ∈ gw := kc_8 85 rfl rfl
theorem kw_1766 : Cond.instanceMethod yX12_put ∈ gw := kc_8 86 rfl rfl
theorem kw_1767 : Cond.selects RX12 yX12_put yX12_put ∈ gw := kc_8 87 rfl rfl
theorem kw_1768 : Cond.code yX12_put cX12_put 3 (Option.some FieldType.int) ∈ gw := kc_8 88 rfl rfl
theorem kw_1769 : Cond.methodLink RL 64 yX12_handOn ∈ gw := kc_8 89 rfl rfl
theorem kw_1770 : Cond.instanceMethod yX12_handOn ∈ gw := kc_8 90 rfl rfl
theorem kw_1771 : Cond.selects RX12 yX12_handOn yX12_handOn ∈ gw := kc_8 91 rfl rfl
theorem kw_1772 : Cond.code yX12_handOn cX12_handOn 4 (Option.some FieldType.int) ∈ gw := kc_8 92 rfl rfl
theorem kw_1773 : Cond.methodLink RL 68 yX12_go ∈ gw := kc_8 93 rfl rfl
theorem kw_1774 : Cond.instanceMethod yX12_go ∈ gw := kc_8 94 rfl rfl
theorem kw_1775 : Cond.selects RX12 yX12_go yX12_go ∈ gw := kc_8 95 rfl rfl
theorem kw_1776 : Cond.code yX12_go cX12_go 3 (Option.some FieldType.int) ∈ gw := kc_8 96 rfl rfl
theorem kw_1777 : Cond.methodLink RX12 371 yX12_isPlace ∈ gw := kc_8 97 rfl rfl
theorem kw_1779 : Cond.instanceMethod yX12_isPlace ∈ gw := kc_8 99 rfl rfl
theorem kw_1780 : Cond.code yX12_isPlace cX12_isPlace 2 (Option.some FieldType.boolean) ∈ gw := kc_8 100 rfl rfl
theorem kw_1781 : Cond.methodLink RX12 374 yX12_canGo ∈ gw := kc_8 101 rfl rfl
theorem kw_1783 : Cond.instanceMethod yX12_canGo ∈ gw := kc_8 103 rfl rfl
theorem kw_1784 : Cond.code yX12_canGo cX12_canGo 3 (Option.some FieldType.boolean) ∈ gw := kc_8 104 rfl rfl
theorem kw_1785 : Cond.methodLink RX12 368 yX12_roadOf ∈ gw := kc_8 105 rfl rfl
theorem kw_1787 : Cond.instanceMethod yX12_roadOf ∈ gw := kc_8 107 rfl rfl
theorem kw_1788 : Cond.code yX12_roadOf cX12_roadOf 5 (Option.some FieldType.int) ∈ gw := kc_8 108 rfl rfl
theorem kw_1789 : Cond.methodLink RX12 377 yX12_goes ∈ gw := kc_8 109 rfl rfl
theorem kw_1791 : Cond.instanceMethod yX12_goes ∈ gw := kc_8 111 rfl rfl
theorem kw_1792 : Cond.code yX12_goes cX12_goes 3 (Option.none : Option FieldType) ∈ gw := kc_8 112 rfl rfl
theorem kw_1793 : Cond.methodLink RL 72 yX12_meet ∈ gw := kc_8 113 rfl rfl
theorem kw_1794 : Cond.instanceMethod yX12_meet ∈ gw := kc_8 114 rfl rfl
theorem kw_1795 : Cond.selects RX12 yX12_meet yX12_meet ∈ gw := kc_8 115 rfl rfl
theorem kw_1796 : Cond.code yX12_meet cX12_meet 3 (Option.some FieldType.int) ∈ gw := kc_8 116 rfl rfl
theorem kw_1797 : Cond.methodLink RL 81 yX12_ahead ∈ gw := kc_8 117 rfl rfl
theorem kw_1798 : Cond.instanceMethod yX12_ahead ∈ gw := kc_8 118 rfl rfl
theorem kw_1799 : Cond.selects RX12 yX12_ahead yX12_ahead ∈ gw := kc_8 119 rfl rfl
theorem kw_1800 : Cond.code yX12_ahead cX12_ahead 5 (Option.some FieldType.int) ∈ gw := kc_8 120 rfl rfl
theorem kw_1801 : Cond.constantLong RX12 380 (100 : Int64) ∈ gw := kc_8 121 rfl rfl
theorem kw_1802 : Cond.methodLink RX12 382 yX12_keeps ∈ gw := kc_8 122 rfl rfl
theorem kw_1804 : Cond.instanceMethod yX12_keeps ∈ gw := kc_8 124 rfl rfl
theorem kw_1805 : Cond.code yX12_keeps cX12_keeps 2 (Option.none : Option FieldType) ∈ gw := kc_8 125 rfl rfl
theorem kw_1806 : Cond.methodLink RX12 385 yX12_laysBack ∈ gw := kc_8 126 rfl rfl
theorem kw_1808 : Cond.instanceMethod yX12_laysBack ∈ gw := kc_8 128 rfl rfl
theorem kw_1809 : Cond.code yX12_laysBack cX12_laysBack 2 (Option.none : Option FieldType) ∈ gw := kc_8 129 rfl rfl
theorem kw_1810 : Cond.methodLink RL 85 yX12_way ∈ gw := kc_8 130 rfl rfl
theorem kw_1811 : Cond.instanceMethod yX12_way ∈ gw := kc_8 131 rfl rfl
theorem kw_1812 : Cond.selects RX12 yX12_way yX12_way ∈ gw := kc_8 132 rfl rfl
theorem kw_1813 : Cond.code yX12_way cX12_way 4 (Option.some FieldType.int) ∈ gw := kc_8 133 rfl rfl
theorem kw_1814 : Cond.methodLink RX12 388 yX12_fillsHours ∈ gw := kc_8 134 rfl rfl
theorem kw_1816 : Cond.instanceMethod yX12_fillsHours ∈ gw := kc_8 136 rfl rfl
theorem kw_1817 : Cond.code yX12_fillsHours cX12_fillsHours 6 (Option.none : Option FieldType) ∈ gw := kc_8 137 rfl rfl
theorem kw_1818 : Cond.methodLink RX12 391 yX12_nextPlace ∈ gw := kc_8 138 rfl rfl
theorem kw_1820 : Cond.instanceMethod yX12_nextPlace ∈ gw := kc_8 140 rfl rfl
theorem kw_1821 : Cond.code yX12_nextPlace cX12_nextPlace 3 (Option.some FieldType.int) ∈ gw := kc_8 141 rfl rfl
theorem kw_1822 : Cond.methodLink RL 89 yX12_brings ∈ gw := kc_8 142 rfl rfl
theorem kw_1823 : Cond.instanceMethod yX12_brings ∈ gw := kc_8 143 rfl rfl
theorem kw_1824 : Cond.selects RX12 yX12_brings yX12_brings ∈ gw := kc_8 144 rfl rfl
theorem kw_1825 : Cond.code yX12_brings cX12_brings 5 (Option.some FieldType.int) ∈ gw := kc_8 145 rfl rfl
theorem kw_1826 : Cond.methodLink RX12 394 yX12_turnedBy ∈ gw := kc_8 146 rfl rfl
theorem kw_1828 : Cond.instanceMethod yX12_turnedBy ∈ gw := kc_8 148 rfl rfl
theorem kw_1829 : Cond.code yX12_turnedBy cX12_turnedBy 10 (Option.some FieldType.int) ∈ gw := kc_8 149 rfl rfl
theorem kw_1830 : Cond.methodLink RL 93 yX12_relay ∈ gw := kc_8 150 rfl rfl
theorem kw_1831 : Cond.instanceMethod yX12_relay ∈ gw := kc_8 151 rfl rfl
theorem kw_1832 : Cond.selects RX12 yX12_relay yX12_relay ∈ gw := kc_8 152 rfl rfl
theorem kw_1833 : Cond.code yX12_relay cX12_relay 11 (Option.some FieldType.int) ∈ gw := kc_8 153 rfl rfl
theorem kw_1834 : Cond.constantLong RX12 407 (999 : Int64) ∈ gw := kc_8 154 rfl rfl
theorem kw_1835 : Cond.constantLong RX12 409 (6 : Int64) ∈ gw := kc_8 155 rfl rfl
theorem kw_1836 : Cond.methodLink RX12 411 yX12_fillsRoads ∈ gw := kc_8 156 rfl rfl
theorem kw_1838 : Cond.instanceMethod yX12_fillsRoads ∈ gw := kc_8 158 rfl rfl
theorem kw_1839 : Cond.code yX12_fillsRoads cX12_fillsRoads 5 (Option.none : Option FieldType) ∈ gw := kc_8 159 rfl rfl
theorem kw_1840 : Cond.methodLink RX12 401 yX12_power ∈ gw := kc_8 160 rfl rfl
theorem kw_1841 : Cond.static yX12_power ∈ gw := kc_8 161 rfl rfl
theorem kw_1842 : Cond.code yX12_power cX12_power 4 (Option.some FieldType.int) ∈ gw := kc_8 162 rfl rfl
theorem kw_1843 : Cond.methodLink RX12 414 yX12_turnedByRow ∈ gw := kc_8 163 rfl rfl
theorem kw_1845 : Cond.instanceMethod yX12_turnedByRow ∈ gw := kc_8 165 rfl rfl
theorem kw_1846 : Cond.code yX12_turnedByRow cX12_turnedByRow 6 (Option.some FieldType.int) ∈ gw := kc_8 166 rfl rfl
theorem kw_1847 : Cond.methodLink RX12 404 yX12_handIn ∈ gw := kc_8 167 rfl rfl
theorem kw_1849 : Cond.instanceMethod yX12_handIn ∈ gw := kc_8 169 rfl rfl
theorem kw_1850 : Cond.code yX12_handIn cX12_handIn 3 (Option.some FieldType.int) ∈ gw := kc_8 170 rfl rfl
theorem kw_1851 : Cond.methodLink RL 97 yX12_match ∈ gw := kc_8 171 rfl rfl
theorem kw_1852 : Cond.instanceMethod yX12_match ∈ gw := kc_8 172 rfl rfl
theorem kw_1853 : Cond.selects RX12 yX12_match yX12_match ∈ gw := kc_8 173 rfl rfl
theorem kw_1854 : Cond.code yX12_match cX12_match 6 (Option.some FieldType.int) ∈ gw := kc_8 174 rfl rfl
theorem kw_1855 : Cond.methodLink RX12 423 yX12_payBy ∈ gw := kc_8 175 rfl rfl
theorem kw_1857 : Cond.instanceMethod yX12_payBy ∈ gw := kc_8 177 rfl rfl
theorem kw_1858 : Cond.code yX12_payBy cX12_payBy 6 (Option.some FieldType.int) ∈ gw := kc_8 178 rfl rfl
theorem kw_1859 : Cond.methodLink RX12 417 yX12_jugIn ∈ gw := kc_8 179 rfl rfl
theorem kw_1861 : Cond.instanceMethod yX12_jugIn ∈ gw := kc_8 181 rfl rfl
theorem kw_1862 : Cond.code yX12_jugIn cX12_jugIn 3 (Option.some FieldType.int) ∈ gw := kc_8 182 rfl rfl
theorem kw_1863 : Cond.methodLink RX12 420 yX12_isOf ∈ gw := kc_8 183 rfl rfl
theorem kw_1864 : Cond.static yX12_isOf ∈ gw := kc_8 184 rfl rfl
theorem kw_1865 : Cond.code yX12_isOf cX12_isOf 2 (Option.some FieldType.boolean) ∈ gw := kc_8 185 rfl rfl
theorem kw_1866 : Cond.methodLink RL 102 yX12_rest ∈ gw := kc_8 186 rfl rfl
theorem kw_1867 : Cond.instanceMethod yX12_rest ∈ gw := kc_8 187 rfl rfl
theorem kw_1868 : Cond.selects RX12 yX12_rest yX12_rest ∈ gw := kc_8 188 rfl rfl
theorem kw_1869 : Cond.code yX12_rest cX12_rest 9 (Option.some FieldType.int) ∈ gw := kc_8 189 rfl rfl
theorem kw_1870 : Cond.constantLong RX12 426 (10 : Int64) ∈ gw := kc_8 190 rfl rfl
theorem kw_1871 : Cond.methodLink RX12 428 yX12_turnedResting ∈ gw := kc_8 191 rfl rfl
theorem kw_1873 : Cond.instanceMethod yX12_turnedResting ∈ gw := kc_8 193 rfl rfl
theorem kw_1874 : Cond.code yX12_turnedResting cX12_turnedResting 7 (Option.some FieldType.int) ∈ gw := kc_8 194 rfl rfl
theorem kw_1875 : Cond.methodLink RL 106 yX12_test ∈ gw := kc_8 195 rfl rfl
theorem kw_1876 : Cond.instanceMethod yX12_test ∈ gw := kc_8 196 rfl rfl
theorem kw_1877 : Cond.selects RX12 yX12_test yX12_test ∈ gw := kc_8 197 rfl rfl
theorem kw_1878 : Cond.code yX12_test cX12_test 6 (Option.some FieldType.int) ∈ gw := kc_8 198 rfl rfl
theorem kw_1879 : Cond.constantLong RX12 432 (20 : Int64) ∈ gw := kc_8 199 rfl rfl
theorem kw_1880 : Cond.constantLong RX12 434 (99 : Int64) ∈ gw := kc_8 200 rfl rfl
theorem kw_1881 : Cond.methodLink RL 110 yX12_who ∈ gw := kc_8 201 rfl rfl
theorem kw_1882 : Cond.instanceMethod yX12_who ∈ gw := kc_8 202 rfl rfl
theorem kw_1883 : Cond.selects RX12 yX12_who yX12_who ∈ gw := kc_8 203 rfl rfl
theorem kw_1884 : Cond.code yX12_who cX12_who 4 (Option.some FieldType.int) ∈ gw := kc_8 204 rfl rfl
theorem kw_1885 : Cond.constantLong RX12 439 (2 : Int64) ∈ gw := kc_8 205 rfl rfl
theorem kw_1886 : Cond.methodLink RX12 441 yX12_fitting ∈ gw := kc_8 206 rfl rfl
theorem kw_1888 : Cond.instanceMethod yX12_fitting ∈ gw := kc_8 208 rfl rfl
theorem kw_1889 : Cond.code yX12_fitting cX12_fitting 3 (Option.some FieldType.int) ∈ gw := kc_8 209 rfl rfl
theorem kw_1890 : Cond.methodLink RX12 436 yX12_fitsTests ∈ gw := kc_8 210 rfl rfl
theorem kw_1892 : Cond.instanceMethod yX12_fitsTests ∈ gw := kc_8 212 rfl rfl
theorem kw_1893 : Cond.code yX12_fitsTests cX12_fitsTests 4 (Option.some FieldType.boolean) ∈ gw := kc_8 213 rfl rfl
theorem kw_1894 : Cond.methodLink RL 114 yX12_probe ∈ gw := kc_8 214 rfl rfl
theorem kw_1895 : Cond.instanceMethod yX12_probe ∈ gw := kc_8 215 rfl rfl
theorem kw_1896 : Cond.selects RX12 yX12_probe yX12_probe ∈ gw := kc_8 216 rfl rfl
theorem kw_1897 : Cond.code yX12_probe cX12_probe 5 (Option.some FieldType.int) ∈ gw := kc_8 217 rfl rfl
theorem kw_1898 : Cond.methodLink RX12 444 yX12_alikeBy ∈ gw := kc_8 218 rfl rfl
theorem kw_1900 : Cond.instanceMethod yX12_alikeBy ∈ gw := kc_8 220 rfl rfl
theorem kw_1901 : Cond.code yX12_alikeBy cX12_alikeBy 7 (Option.some FieldType.int) ∈ gw := kc_8 221 rfl rfl
theorem kw_1902 : Cond.methodLink RL 118 yX12_rows ∈ gw := kc_8 222 rfl rfl
theorem kw_1903 : Cond.instanceMethod yX12_rows ∈ gw := kc_8 223 rfl rfl
theorem kw_1904 : Cond.selects RX12 yX12_rows yX12_rows ∈ gw := kc_8 224 rfl rfl
theorem kw_1905 : Cond.code yX12_rows cX12_rows 6 (Option.some FieldType.int) ∈ gw := kc_8 225 rfl rfl
theorem kw_1906 : Cond.constantLong RX12 452 (12 : Int64) ∈ gw := kc_8 226 rfl rfl
theorem kw_1907 : Cond.constantLong RX12 454 (300 : Int64) ∈ gw := kc_8 227 rfl rfl
theorem kw_1908 : Cond.constantLong RX12 456 (-1 : Int64) ∈ gw := kc_8 228 rfl rfl
theorem kw_1909 : Cond.constantLong RX12 458 (11 : Int64) ∈ gw := kc_8 229 rfl rfl
theorem kw_1910 : Cond.constantLong RX12 460 (31 : Int64) ∈ gw := kc_8 230 rfl rfl
theorem kw_1911 : Cond.methodLink RX12 462 yX12_fillsRows ∈ gw := kc_8 231 rfl rfl
theorem kw_1913 : Cond.instanceMethod yX12_fillsRows ∈ gw := kc_8 233 rfl rfl
theorem kw_1914 : Cond.code yX12_fillsRows cX12_fillsRows 9 (Option.none : Option FieldType) ∈ gw := kc_8 234 rfl rfl
theorem kw_1915 : Cond.methodLink RX12 447 yX12_spot ∈ gw := kc_8 235 rfl rfl
theorem kw_1916 : Cond.static yX12_spot ∈ gw := kc_8 236 rfl rfl
theorem kw_1917 : Cond.code yX12_spot cX12_spot 2 (Option.some FieldType.int) ∈ gw := kc_8 237 rfl rfl
theorem kw_1918 : Cond.constantLong RX12 450 (1000000007 : Int64) ∈ gw := kc_8 238 rfl rfl
theorem kw_1919 : Cond.methodLink RX12 465 yX12_firstHand ∈ gw := kc_8 239 rfl rfl
theorem kw_1921 : Cond.instanceMethod yX12_firstHand ∈ gw := kc_9 1 rfl rfl
theorem kw_1922 : Cond.code yX12_firstHand cX12_firstHand 7 (Option.some FieldType.int) ∈ gw := kc_9 2 rfl rfl
theorem kw_1923 : Cond.methodLink RL 122 yX12_ice ∈ gw := kc_9 3 rfl rfl
theorem kw_1924 : Cond.instanceMethod yX12_ice ∈ gw := kc_9 4 rfl rfl
theorem kw_1925 : Cond.selects RX12 yX12_ice yX12_ice ∈ gw := kc_9 5 rfl rfl
theorem kw_1926 : Cond.code yX12_ice cX12_ice 2 (Option.some FieldType.int) ∈ gw := kc_9 6 rfl rfl
theorem kw_1927 : Cond.constantLong RX12 471 (60 : Int64) ∈ gw := kc_9 7 rfl rfl
theorem kw_1928 : Cond.methodLink RX12 473 yX12_turnedIn ∈ gw := kc_9 8 rfl rfl
theorem kw_1930 : Cond.instanceMethod yX12_turnedIn ∈ gw := kc_9 10 rfl rfl
theorem kw_1931 : Cond.code yX12_turnedIn cX12_turnedIn 4 (Option.some FieldType.int) ∈ gw := kc_9 11 rfl rfl
theorem kw_1932 : Cond.methodLink RX12 468 yX12_turnedAll ∈ gw := kc_9 12 rfl rfl
theorem kw_1934 : Cond.instanceMethod yX12_turnedAll ∈ gw := kc_9 14 rfl rfl
theorem kw_1935 : Cond.code yX12_turnedAll cX12_turnedAll 3 (Option.some FieldType.int) ∈ gw := kc_9 15 rfl rfl
theorem kw_1936 : Cond.methodLink RL 126 yX12_seed ∈ gw := kc_9 16 rfl rfl
theorem kw_1937 : Cond.instanceMethod yX12_seed ∈ gw := kc_9 17 rfl rfl
theorem kw_1938 : Cond.selects RX12 yX12_seed yX12_seed ∈ gw := kc_9 18 rfl rfl
theorem kw_1939 : Cond.code yX12_seed cX12_seed 3 (Option.some FieldType.int) ∈ gw := kc_9 19 rfl rfl
theorem kw_1940 : Cond.methodLink RL 130 yX12_years ∈ gw := kc_9 20 rfl rfl
theorem kw_1941 : Cond.instanceMethod yX12_years ∈ gw := kc_9 21 rfl rfl
theorem kw_1942 : Cond.selects RX12 yX12_years yX12_years ∈ gw := kc_9 22 rfl rfl
theorem kw_1943 : Cond.code yX12_years cX12_years 8 (Option.some FieldType.int) ∈ gw := kc_9 23 rfl rfl
theorem kw_1944 : Cond.methodLink RX12 495 yX12_actsDrawn ∈ gw := kc_9 24 rfl rfl
theorem kw_1946 : Cond.instanceMethod yX12_actsDrawn ∈ gw := kc_9 26 rfl rfl
theorem kw_1947 : Cond.code yX12_actsDrawn cX12_actsDrawn 3 (Option.none : Option FieldType) ∈ gw := kc_9 27 rfl rfl
theorem kw_1948 : Cond.methodLink RX12 492 yX12_draw ∈ gw := kc_9 28 rfl rfl
theorem kw_1950 : Cond.instanceMethod yX12_draw ∈ gw := kc_9 30 rfl rfl
theorem kw_1951 : Cond.code yX12_draw cX12_draw 2 (Option.some FieldType.int) ∈ gw := kc_9 31 rfl rfl
theorem kw_1952 : Cond.constantLong RX12 484 (1103515245 : Int64) ∈ gw := kc_9 32 rfl rfl
theorem kw_1953 : Cond.constantLong RX12 486 (12345 : Int64) ∈ gw := kc_9 33 rfl rfl
theorem kw_1954 : Cond.constantLong RX12 488 (2147483648 : Int64) ∈ gw := kc_9 34 rfl rfl
theorem kw_1955 : Cond.constantLong RX12 490 (65536 : Int64) ∈ gw := kc_9 35 rfl rfl
theorem kw_1956 : Cond.methodLink RL 134 yX12_count ∈ gw := kc_9 36 rfl rfl
theorem kw_1957 : Cond.instanceMethod yX12_count ∈ gw := kc_9 37 rfl rfl
theorem kw_1958 : Cond.selects RX12 yX12_count yX12_count ∈ gw := kc_9 38 rfl rfl
theorem kw_1959 : Cond.code yX12_count cX12_count 2 (Option.some FieldType.int) ∈ gw := kc_9 39 rfl rfl
theorem kw_1960 : Cond.methodLink RL 138 yX12_image ∈ gw := kc_9 40 rfl rfl
theorem kw_1961 : Cond.instanceMethod yX12_image ∈ gw := kc_9 41 rfl rfl
theorem kw_1962 : Cond.selects RX12 yX12_image yX12_image ∈ gw := kc_9 42 rfl rfl
theorem kw_1963 : Cond.code yX12_image cX12_image 3 (Option.some FieldType.int) ∈ gw := kc_9 43 rfl rfl
theorem kw_1964 : Cond.constantLong RX12 498 (3 : Int64) ∈ gw := kc_9 44 rfl rfl
theorem kw_1965 : Cond.methodLink RL 142 yX12_back ∈ gw := kc_9 45 rfl rfl
theorem kw_1966 : Cond.instanceMethod yX12_back ∈ gw := kc_9 46 rfl rfl
theorem kw_1967 : Cond.selects RX12 yX12_back yX12_back ∈ gw := kc_9 47 rfl rfl
theorem kw_1968 : Cond.code yX12_back cX12_back 3 (Option.some FieldType.int) ∈ gw := kc_9 48 rfl rfl
theorem kw_1969 : Cond.fieldLink RJ0 9 "java/lang/String" "value" "[B" ∈ gw := kc_9 49 rfl rfl
theorem kw_1970 : Cond.fieldLink RJ0 15 "java/lang/String" "coder" "B" ∈ gw := kc_9 50 rfl rfl
theorem kp_0 : Cond.selects RX0 yX0_readClause yX0_readClause ∈ gw := gw_priv (q := (⟨"TurningMilk$DairyReader", "readClause", "(I)Z"⟩, 3)) (List.mem_of_getElem? (i := 0) (by decide +kernel)) rfl
theorem kp_1 : Cond.selects RX0 yX0_takeKind yX0_takeKind ∈ gw := gw_priv (q := (⟨"TurningMilk$DairyReader", "takeKind", "()I"⟩, 3)) (List.mem_of_getElem? (i := 1) (by decide +kernel)) rfl
theorem kp_2 : Cond.selects RX7 yX7_byteAt yX7_byteAt ∈ gw := gw_priv (q := (⟨"TurningMilk$Tape", "byteAt", "(I)I"⟩, 5)) (List.mem_of_getElem? (i := 2) (by decide +kernel)) rfl
theorem kp_3 : Cond.selects RX0 yX0_hasRoomFor yX0_hasRoomFor ∈ gw := gw_priv (q := (⟨"TurningMilk$DairyReader", "hasRoomFor", "(I)Z"⟩, 3)) (List.mem_of_getElem? (i := 3) (by decide +kernel)) rfl
theorem kp_4 : Cond.selects RX0 yX0_readDairy yX0_readDairy ∈ gw := gw_priv (q := (⟨"TurningMilk$DairyReader", "readDairy", "()Z"⟩, 3)) (List.mem_of_getElem? (i := 4) (by decide +kernel)) rfl
theorem kp_5 : Cond.selects RX0 yX0_readRoad yX0_readRoad ∈ gw := gw_priv (q := (⟨"TurningMilk$DairyReader", "readRoad", "()Z"⟩, 3)) (List.mem_of_getElem? (i := 5) (by decide +kernel)) rfl
theorem kp_6 : Cond.selects RX0 yX0_takePlace yX0_takePlace ∈ gw := gw_priv (q := (⟨"TurningMilk$DairyReader", "takePlace", "()I"⟩, 3)) (List.mem_of_getElem? (i := 6) (by decide +kernel)) rfl
theorem kp_7 : Cond.selects RX0 yX0_readHand yX0_readHand ∈ gw := gw_priv (q := (⟨"TurningMilk$DairyReader", "readHand", "()Z"⟩, 3)) (List.mem_of_getElem? (i := 7) (by decide +kernel)) rfl
theorem kp_8 : Cond.selects RX0 yX0_readJug yX0_readJug ∈ gw := gw_priv (q := (⟨"TurningMilk$DairyReader", "readJug", "()Z"⟩, 3)) (List.mem_of_getElem? (i := 8) (by decide +kernel)) rfl
theorem kp_9 : Cond.selects RX0 yX0_readHeat yX0_readHeat ∈ gw := gw_priv (q := (⟨"TurningMilk$DairyReader", "readHeat", "()Z"⟩, 3)) (List.mem_of_getElem? (i := 9) (by decide +kernel)) rfl
theorem kp_10 : Cond.selects RX0 yX0_readWant yX0_readWant ∈ gw := gw_priv (q := (⟨"TurningMilk$DairyReader", "readWant", "()Z"⟩, 3)) (List.mem_of_getElem? (i := 10) (by decide +kernel)) rfl
theorem kp_11 : Cond.selects RX3 yX3_readClause yX3_readClause ∈ gw := gw_priv (q := (⟨"TurningMilk$RuleReader", "readClause", "(I)Z"⟩, 9)) (List.mem_of_getElem? (i := 11) (by decide +kernel)) rfl
theorem kp_12 : Cond.selects RX3 yX3_readValue yX3_readValue ∈ gw := gw_priv (q := (⟨"TurningMilk$RuleReader", "readValue", "()Z"⟩, 9)) (List.mem_of_getElem? (i := 12) (by decide +kernel)) rfl
theorem kp_13 : Cond.selects RX3 yX3_takeValueWord yX3_takeValueWord ∈ gw := gw_priv (q := (⟨"TurningMilk$RuleReader", "takeValueWord", "()I"⟩, 9)) (List.mem_of_getElem? (i := 13) (by decide +kernel)) rfl
theorem kp_14 : Cond.selects RX3 yX3_write yX3_write ∈ gw := gw_priv (q := (⟨"TurningMilk$RuleReader", "write", "(I)V"⟩, 9)) (List.mem_of_getElem? (i := 14) (by decide +kernel)) rfl
theorem kp_15 : Cond.selects RX3 yX3_closeBrackets yX3_closeBrackets ∈ gw := gw_priv (q := (⟨"TurningMilk$RuleReader", "closeBrackets", "()V"⟩, 9)) (List.mem_of_getElem? (i := 15) (by decide +kernel)) rfl
theorem kp_16 : Cond.selects RX3 yX3_isFactWhole yX3_isFactWhole ∈ gw := gw_priv (q := (⟨"TurningMilk$RuleReader", "isFactWhole", "()Z"⟩, 9)) (List.mem_of_getElem? (i := 16) (by decide +kernel)) rfl
theorem kp_17 : Cond.selects RX3 yX3_unpile yX3_unpile ∈ gw := gw_priv (q := (⟨"TurningMilk$RuleReader", "unpile", "(I)V"⟩, 9)) (List.mem_of_getElem? (i := 17) (by decide +kernel)) rfl
theorem kp_18 : Cond.selects RX3 yX3_dropTop yX3_dropTop ∈ gw := gw_priv (q := (⟨"TurningMilk$RuleReader", "dropTop", "()V"⟩, 9)) (List.mem_of_getElem? (i := 18) (by decide +kernel)) rfl
theorem kp_19 : Cond.selects RX3 yX3_endsHere yX3_endsHere ∈ gw := gw_priv (q := (⟨"TurningMilk$RuleReader", "endsHere", "()Z"⟩, 9)) (List.mem_of_getElem? (i := 19) (by decide +kernel)) rfl
theorem kp_20 : Cond.selects RX3 yX3_readJoint yX3_readJoint ∈ gw := gw_priv (q := (⟨"TurningMilk$RuleReader", "readJoint", "()Z"⟩, 9)) (List.mem_of_getElem? (i := 20) (by decide +kernel)) rfl
theorem kp_21 : Cond.selects RX3 yX3_takeArithmetic yX3_takeArithmetic ∈ gw := gw_priv (q := (⟨"TurningMilk$RuleReader", "takeArithmetic", "()I"⟩, 9)) (List.mem_of_getElem? (i := 21) (by decide +kernel)) rfl
theorem kp_22 : Cond.selects RX3 yX3_pileUp yX3_pileUp ∈ gw := gw_priv (q := (⟨"TurningMilk$RuleReader", "pileUp", "(I)V"⟩, 9)) (List.mem_of_getElem? (i := 22) (by decide +kernel)) rfl
theorem kp_23 : Cond.selects RX3 yX3_push yX3_push ∈ gw := gw_priv (q := (⟨"TurningMilk$RuleReader", "push", "(I)V"⟩, 9)) (List.mem_of_getElem? (i := 23) (by decide +kernel)) rfl
theorem kp_24 : Cond.selects RX3 yX3_readIf yX3_readIf ∈ gw := gw_priv (q := (⟨"TurningMilk$RuleReader", "readIf", "()Z"⟩, 9)) (List.mem_of_getElem? (i := 24) (by decide +kernel)) rfl
theorem kp_25 : Cond.selects RX3 yX3_beginFact yX3_beginFact ∈ gw := gw_priv (q := (⟨"TurningMilk$RuleReader", "beginFact", "()Z"⟩, 9)) (List.mem_of_getElem? (i := 25) (by decide +kernel)) rfl
theorem kp_26 : Cond.selects RX3 yX3_readComparison yX3_readComparison ∈ gw := gw_priv (q := (⟨"TurningMilk$RuleReader", "readComparison", "()Z"⟩, 9)) (List.mem_of_getElem? (i := 26) (by decide +kernel)) rfl
theorem kp_27 : Cond.selects RX3 yX3_takeComparison yX3_takeComparison ∈ gw := gw_priv (q := (⟨"TurningMilk$RuleReader", "takeComparison", "()I"⟩, 9)) (List.mem_of_getElem? (i := 27) (by decide +kernel)) rfl
theorem kp_28 : Cond.selects RX11 yX11_enforce yX11_enforce ∈ gw := gw_priv (q := (⟨"TurningMilk", "enforce", "()V"⟩, 16)) (List.mem_of_getElem? (i := 28) (by decide +kernel)) rfl
theorem kp_29 : Cond.selects RX11 yX11_isHand yX11_isHand ∈ gw := gw_priv (q := (⟨"TurningMilk", "isHand", "(I)Z"⟩, 16)) (List.mem_of_getElem? (i := 29) (by decide +kernel)) rfl
theorem kp_30 : Cond.selects RX11 yX11_isJug yX11_isJug ∈ gw := gw_priv (q := (⟨"TurningMilk", "isJug", "(I)Z"⟩, 16)) (List.mem_of_getElem? (i := 30) (by decide +kernel)) rfl
theorem kp_31 : Cond.selects RX11 yX11_isWant yX11_isWant ∈ gw := gw_priv (q := (⟨"TurningMilk", "isWant", "(I)Z"⟩, 16)) (List.mem_of_getElem? (i := 31) (by decide +kernel)) rfl
theorem kp_32 : Cond.selects RX11 yX11_jugFor yX11_jugFor ∈ gw := gw_priv (q := (⟨"TurningMilk", "jugFor", "(I)I"⟩, 16)) (List.mem_of_getElem? (i := 32) (by decide +kernel)) rfl
theorem kp_33 : Cond.selects RX11 yX11_keepPast yX11_keepPast ∈ gw := gw_priv (q := (⟨"TurningMilk", "keepPast", "()V"⟩, 16)) (List.mem_of_getElem? (i := 33) (by decide +kernel)) rfl
theorem kp_34 : Cond.selects RX1 yX1_turnsIn yX1_turnsIn ∈ gw := gw_priv (q := (⟨"TurningMilk$Hours", "turnsIn", "(LTurningMilk$State;I)I"⟩, 3)) (List.mem_of_getElem? (i := 34) (by decide +kernel)) rfl
theorem kp_35 : Cond.selects RX10 yX10_sumByRule yX10_sumByRule ∈ gw := gw_priv (q := (⟨"TurningMilk$Turning", "sumByRule", "()J"⟩, 12)) (List.mem_of_getElem? (i := 35) (by decide +kernel)) rfl
theorem kp_36 : Cond.selects RX10 yX10_valueOf yX10_valueOf ∈ gw := gw_priv (q := (⟨"TurningMilk$Turning", "valueOf", "(I)J"⟩, 12)) (List.mem_of_getElem? (i := 36) (by decide +kernel)) rfl
theorem kp_37 : Cond.selects RX5 yX5_canHoldMore yX5_canHoldMore ∈ gw := gw_priv (q := (⟨"TurningMilk$State", "canHoldMore", "(I)Z"⟩, 9)) (List.mem_of_getElem? (i := 37) (by decide +kernel)) rfl
theorem kp_38 : Cond.selects RX11 yX11_isPlace yX11_isPlace ∈ gw := gw_priv (q := (⟨"TurningMilk", "isPlace", "(I)Z"⟩, 16)) (List.mem_of_getElem? (i := 38) (by decide +kernel)) rfl
theorem kp_39 : Cond.selects RX11 yX11_isStandingJug yX11_isStandingJug ∈ gw := gw_priv (q := (⟨"TurningMilk", "isStandingJug", "(I)Z"⟩, 16)) (List.mem_of_getElem? (i := 39) (by decide +kernel)) rfl
theorem kp_40 : Cond.selects RX2 yX2_visit yX2_visit ∈ gw := gw_priv (q := (⟨"TurningMilk$Relay", "visit", "(II)V"⟩, 11)) (List.mem_of_getElem? (i := 40) (by decide +kernel)) rfl
theorem kp_41 : Cond.selects RX2 yX2_carried yX2_carried ∈ gw := gw_priv (q := (⟨"TurningMilk$Relay", "carried", "(III)I"⟩, 11)) (List.mem_of_getElem? (i := 41) (by decide +kernel)) rfl
theorem kp_42 : Cond.selects RX2 yX2_firstHand yX2_firstHand ∈ gw := gw_priv (q := (⟨"TurningMilk$Relay", "firstHand", "(II)I"⟩, 11)) (List.mem_of_getElem? (i := 42) (by decide +kernel)) rfl
theorem kp_43 : Cond.selects RX6 yX6_payWith yX6_payWith ∈ gw := gw_priv (q := (⟨"TurningMilk$Tables", "payWith", "(LTurningMilk$State;III)I"⟩, 3)) (List.mem_of_getElem? (i := 43) (by decide +kernel)) rfl
theorem kp_44 : Cond.selects RX6 yX6_firstBest yX6_firstBest ∈ gw := gw_priv (q := (⟨"TurningMilk$Tables", "firstBest", "(LTurningMilk$State;II)I"⟩, 3)) (List.mem_of_getElem? (i := 44) (by decide +kernel)) rfl
theorem kp_45 : Cond.selects RX9 yX9_passesAll yX9_passesAll ∈ gw := gw_priv (q := (⟨"TurningMilk$Trials", "passesAll", "(I)Z"⟩, 5)) (List.mem_of_getElem? (i := 45) (by decide +kernel)) rfl
theorem kp_46 : Cond.selects RX9 yX9_mostAlike yX9_mostAlike ∈ gw := gw_priv (q := (⟨"TurningMilk$Trials", "mostAlike", "(II)I"⟩, 5)) (List.mem_of_getElem? (i := 46) (by decide +kernel)) rfl
theorem kp_47 : Cond.selects RX6 yX6_firstThatLeaves yX6_firstThatLeaves ∈ gw := gw_priv (q := (⟨"TurningMilk$Tables", "firstThatLeaves", "(II)I"⟩, 3)) (List.mem_of_getElem? (i := 47) (by decide +kernel)) rfl
theorem kp_48 : Cond.selects RX1 yX1_drawRoads yX1_drawRoads ∈ gw := gw_priv (q := (⟨"TurningMilk$Hours", "drawRoads", "(LTurningMilk$State;)V"⟩, 3)) (List.mem_of_getElem? (i := 48) (by decide +kernel)) rfl
theorem kp_49 : Cond.selects RX1 yX1_draw yX1_draw ∈ gw := gw_priv (q := (⟨"TurningMilk$Hours", "draw", "()I"⟩, 3)) (List.mem_of_getElem? (i := 49) (by decide +kernel)) rfl
theorem kp_50 : Cond.selects RX1 yX1_drawHolders yX1_drawHolders ∈ gw := gw_priv (q := (⟨"TurningMilk$Hours", "drawHolders", "(LTurningMilk$State;)V"⟩, 3)) (List.mem_of_getElem? (i := 50) (by decide +kernel)) rfl
theorem kp_51 : Cond.selects RX12 yX12_four yX12_four ∈ gw := gw_priv (q := (⟨"TurningMilkModel", "four", "(I)V"⟩, 38)) (List.mem_of_getElem? (i := 51) (by decide +kernel)) rfl
theorem kp_52 : Cond.selects RX12 yX12_readsAll yX12_readsAll ∈ gw := gw_priv (q := (⟨"TurningMilkModel", "readsAll", "()Z"⟩, 38)) (List.mem_of_getElem? (i := 52) (by decide +kernel)) rfl
theorem kp_53 : Cond.selects RX12 yX12_clauseHere yX12_clauseHere ∈ gw := gw_priv (q := (⟨"TurningMilkModel", "clauseHere", "()Z"⟩, 38)) (List.mem_of_getElem? (i := 53) (by decide +kernel)) rfl
theorem kp_54 : Cond.selects RX12 yX12_see yX12_see ∈ gw := gw_priv (q := (⟨"TurningMilkModel", "see", "()I"⟩, 38)) (List.mem_of_getElem? (i := 54) (by decide +kernel)) rfl
theorem kp_55 : Cond.selects RX12 yX12_isDairyWord yX12_isDairyWord ∈ gw := gw_priv (q := (⟨"TurningMilkModel", "isDairyWord", "()Z"⟩, 38)) (List.mem_of_getElem? (i := 55) (by decide +kernel)) rfl
theorem kp_56 : Cond.selects RX12 yX12_isWord yX12_isWord ∈ gw := gw_priv (q := (⟨"TurningMilkModel", "isWord", "(J)Z"⟩, 38)) (List.mem_of_getElem? (i := 56) (by decide +kernel)) rfl
theorem kp_57 : Cond.selects RX12 yX12_isLetter yX12_isLetter ∈ gw := gw_priv (q := (⟨"TurningMilkModel", "isLetter", "(I)Z"⟩, 38)) (List.mem_of_getElem? (i := 57) (by decide +kernel)) rfl
theorem kp_58 : Cond.selects RX12 yX12_fails yX12_fails ∈ gw := gw_priv (q := (⟨"TurningMilkModel", "fails", "(II)Z"⟩, 38)) (List.mem_of_getElem? (i := 58) (by decide +kernel)) rfl
theorem kp_59 : Cond.selects RX12 yX12_dairyLineHere yX12_dairyLineHere ∈ gw := gw_priv (q := (⟨"TurningMilkModel", "dairyLineHere", "(I)Z"⟩, 38)) (List.mem_of_getElem? (i := 59) (by decide +kernel)) rfl
theorem kp_60 : Cond.selects RX12 yX12_isDairyHere yX12_isDairyHere ∈ gw := gw_priv (q := (⟨"TurningMilkModel", "isDairyHere", "(I)Z"⟩, 38)) (List.mem_of_getElem? (i := 60) (by decide +kernel)) rfl
theorem kp_61 : Cond.selects RX12 yX12_passWord yX12_passWord ∈ gw := gw_priv (q := (⟨"TurningMilkModel", "passWord", "()V"⟩, 38)) (List.mem_of_getElem? (i := 61) (by decide +kernel)) rfl
theorem kp_62 : Cond.selects RX12 yX12_numberHere yX12_numberHere ∈ gw := gw_priv (q := (⟨"TurningMilkModel", "numberHere", "(II)Z"⟩, 38)) (List.mem_of_getElem? (i := 62) (by decide +kernel)) rfl
theorem kp_63 : Cond.selects RX12 yX12_isDigit yX12_isDigit ∈ gw := gw_priv (q := (⟨"TurningMilkModel", "isDigit", "(I)Z"⟩, 38)) (List.mem_of_getElem? (i := 63) (by decide +kernel)) rfl
theorem kp_64 : Cond.selects RX12 yX12_cellHere yX12_cellHere ∈ gw := gw_priv (q := (⟨"TurningMilkModel", "cellHere", "(III)Z"⟩, 38)) (List.mem_of_getElem? (i := 64) (by decide +kernel)) rfl
theorem kp_65 : Cond.selects RX12 yX12_isRoadHere yX12_isRoadHere ∈ gw := gw_priv (q := (⟨"TurningMilkModel", "isRoadHere", "(I)Z"⟩, 38)) (List.mem_of_getElem? (i := 65) (by decide +kernel)) rfl
theorem kp_66 : Cond.selects RX12 yX12_isRoadTold yX12_isRoadTold ∈ gw := gw_priv (q := (⟨"TurningMilkModel", "isRoadTold", "(II)Z"⟩, 38)) (List.mem_of_getElem? (i := 66) (by decide +kernel)) rfl
theorem kp_67 : Cond.selects RX12 yX12_isHandHere yX12_isHandHere ∈ gw := gw_priv (q := (⟨"TurningMilkModel", "isHandHere", "(I)Z"⟩, 38)) (List.mem_of_getElem? (i := 67) (by decide +kernel)) rfl
theorem kp_68 : Cond.selects RX12 yX12_isJugHere yX12_isJugHere ∈ gw := gw_priv (q := (⟨"TurningMilkModel", "isJugHere", "(I)Z"⟩, 38)) (List.mem_of_getElem? (i := 68) (by decide +kernel)) rfl
theorem kp_69 : Cond.selects RX12 yX12_isHeatHere yX12_isHeatHere ∈ gw := gw_priv (q := (⟨"TurningMilkModel", "isHeatHere", "(I)Z"⟩, 38)) (List.mem_of_getElem? (i := 69) (by decide +kernel)) rfl
theorem kp_70 : Cond.selects RX12 yX12_isWantHere yX12_isWantHere ∈ gw := gw_priv (q := (⟨"TurningMilkModel", "isWantHere", "(I)Z"⟩, 38)) (List.mem_of_getElem? (i := 70) (by decide +kernel)) rfl
theorem kp_71 : Cond.selects RX12 yX12_isTurnHere yX12_isTurnHere ∈ gw := gw_priv (q := (⟨"TurningMilkModel", "isTurnHere", "()Z"⟩, 38)) (List.mem_of_getElem? (i := 71) (by decide +kernel)) rfl
theorem kp_72 : Cond.selects RX12 yX12_sum yX12_sum ∈ gw := gw_priv (q := (⟨"TurningMilkModel", "sum", "()Z"⟩, 38)) (List.mem_of_getElem? (i := 72) (by decide +kernel)) rfl
theorem kp_73 : Cond.selects RX12 yX12_term yX12_term ∈ gw := gw_priv (q := (⟨"TurningMilkModel", "term", "()Z"⟩, 38)) (List.mem_of_getElem? (i := 73) (by decide +kernel)) rfl
theorem kp_74 : Cond.selects RX12 yX12_value yX12_value ∈ gw := gw_priv (q := (⟨"TurningMilkModel", "value", "()Z"⟩, 38)) (List.mem_of_getElem? (i := 74) (by decide +kernel)) rfl
theorem kp_75 : Cond.selects RX12 yX12_makes yX12_makes ∈ gw := gw_priv (q := (⟨"TurningMilkModel", "makes", "(I)Z"⟩, 38)) (List.mem_of_getElem? (i := 75) (by decide +kernel)) rfl
theorem kp_76 : Cond.selects RX12 yX12_puts yX12_puts ∈ gw := gw_priv (q := (⟨"TurningMilkModel", "puts", "(II)V"⟩, 38)) (List.mem_of_getElem? (i := 76) (by decide +kernel)) rfl
theorem kp_77 : Cond.selects RX12 yX12_wordHere yX12_wordHere ∈ gw := gw_priv (q := (⟨"TurningMilkModel", "wordHere", "()I"⟩, 38)) (List.mem_of_getElem? (i := 77) (by decide +kernel)) rfl
theorem kp_78 : Cond.selects RX12 yX12_takesWord yX12_takesWord ∈ gw := gw_priv (q := (⟨"TurningMilkModel", "takesWord", "(J)Z"⟩, 38)) (List.mem_of_getElem? (i := 78) (by decide +kernel)) rfl
theorem kp_79 : Cond.selects RX12 yX12_tested yX12_tested ∈ gw := gw_priv (q := (⟨"TurningMilkModel", "tested", "()Z"⟩, 38)) (List.mem_of_getElem? (i := 79) (by decide +kernel)) rfl
theorem kp_80 : Cond.selects RX12 yX12_fact yX12_fact ∈ gw := gw_priv (q := (⟨"TurningMilkModel", "fact", "()Z"⟩, 38)) (List.mem_of_getElem? (i := 80) (by decide +kernel)) rfl
theorem kp_81 : Cond.selects RX12 yX12_opens yX12_opens ∈ gw := gw_priv (q := (⟨"TurningMilkModel", "opens", "(I)Z"⟩, 38)) (List.mem_of_getElem? (i := 81) (by decide +kernel)) rfl
theorem kp_82 : Cond.selects RX12 yX12_compare yX12_compare ∈ gw := gw_priv (q := (⟨"TurningMilkModel", "compare", "()Z"⟩, 38)) (List.mem_of_getElem? (i := 82) (by decide +kernel)) rfl
theorem kp_83 : Cond.selects RX12 yX12_closes yX12_closes ∈ gw := gw_priv (q := (⟨"TurningMilkModel", "closes", "()V"⟩, 38)) (List.mem_of_getElem? (i := 83) (by decide +kernel)) rfl
theorem kp_84 : Cond.selects RX12 yX12_settles yX12_settles ∈ gw := gw_priv (q := (⟨"TurningMilkModel", "settles", "(I)V"⟩, 38)) (List.mem_of_getElem? (i := 84) (by decide +kernel)) rfl
theorem kp_85 : Cond.selects RX12 yX12_isInside yX12_isInside ∈ gw := gw_priv (q := (⟨"TurningMilkModel", "isInside", "()Z"⟩, 38)) (List.mem_of_getElem? (i := 85) (by decide +kernel)) rfl
theorem kp_86 : Cond.selects RX12 yX12_isRule yX12_isRule ∈ gw := gw_priv (q := (⟨"TurningMilkModel", "isRule", "(I)Z"⟩, 38)) (List.mem_of_getElem? (i := 86) (by decide +kernel)) rfl
theorem kp_87 : Cond.selects RX12 yX12_isHand yX12_isHand ∈ gw := gw_priv (q := (⟨"TurningMilkModel", "isHand", "(I)Z"⟩, 38)) (List.mem_of_getElem? (i := 87) (by decide +kernel)) rfl
theorem kp_88 : Cond.selects RX12 yX12_handOf yX12_handOf ∈ gw := gw_priv (q := (⟨"TurningMilkModel", "handOf", "(II)I"⟩, 38)) (List.mem_of_getElem? (i := 88) (by decide +kernel)) rfl
theorem kp_89 : Cond.selects RX12 yX12_held yX12_held ∈ gw := gw_priv (q := (⟨"TurningMilkModel", "held", "(I)I"⟩, 38)) (List.mem_of_getElem? (i := 89) (by decide +kernel)) rfl
theorem kp_90 : Cond.selects RX12 yX12_jugOf yX12_jugOf ∈ gw := gw_priv (q := (⟨"TurningMilkModel", "jugOf", "(II)I"⟩, 38)) (List.mem_of_getElem? (i := 90) (by decide +kernel)) rfl
theorem kp_91 : Cond.selects RX12 yX12_isJug yX12_isJug ∈ gw := gw_priv (q := (⟨"TurningMilkModel", "isJug", "(I)Z"⟩, 38)) (List.mem_of_getElem? (i := 91) (by decide +kernel)) rfl
theorem kp_92 : Cond.selects RX12 yX12_stands yX12_stands ∈ gw := gw_priv (q := (⟨"TurningMilkModel", "stands", "(I)Z"⟩, 38)) (List.mem_of_getElem? (i := 92) (by decide +kernel)) rfl
theorem kp_93 : Cond.selects RX12 yX12_isWant yX12_isWant ∈ gw := gw_priv (q := (⟨"TurningMilkModel", "isWant", "(I)Z"⟩, 38)) (List.mem_of_getElem? (i := 93) (by decide +kernel)) rfl
theorem kp_94 : Cond.selects RX12 yX12_wantOf yX12_wantOf ∈ gw := gw_priv (q := (⟨"TurningMilkModel", "wantOf", "(II)I"⟩, 38)) (List.mem_of_getElem? (i := 94) (by decide +kernel)) rfl
theorem kp_95 : Cond.selects RX12 yX12_firstFor yX12_firstFor ∈ gw := gw_priv (q := (⟨"TurningMilkModel", "firstFor", "(I)I"⟩, 38)) (List.mem_of_getElem? (i := 95) (by decide +kernel)) rfl
theorem kp_96 : Cond.selects RX12 yX12_isDairy yX12_isDairy ∈ gw := gw_priv (q := (⟨"TurningMilkModel", "isDairy", "()Z"⟩, 38)) (List.mem_of_getElem? (i := 96) (by decide +kernel)) rfl
theorem kp_97 : Cond.selects RX12 yX12_keepsAct yX12_keepsAct ∈ gw := gw_priv (q := (⟨"TurningMilkModel", "keepsAct", "()V"⟩, 38)) (List.mem_of_getElem? (i := 97) (by decide +kernel)) rfl
theorem kp_98 : Cond.selects RX12 yX12_passes yX12_passes ∈ gw := gw_priv (q := (⟨"TurningMilkModel", "passes", "()I"⟩, 38)) (List.mem_of_getElem? (i := 98) (by decide +kernel)) rfl
theorem kp_99 : Cond.selects RX12 yX12_turns yX12_turns ∈ gw := gw_priv (q := (⟨"TurningMilkModel", "turns", "(I)V"⟩, 38)) (List.mem_of_getElem? (i := 99) (by decide +kernel)) rfl
theorem kp_100 : Cond.selects RX12 yX12_heatIn yX12_heatIn ∈ gw := gw_priv (q := (⟨"TurningMilkModel", "heatIn", "(I)I"⟩, 38)) (List.mem_of_getElem? (i := 100) (by decide +kernel)) rfl
theorem kp_101 : Cond.selects RX12 yX12_turnsIn yX12_turnsIn ∈ gw := gw_priv (q := (⟨"TurningMilkModel", "turnsIn", "(IIIIIII)I"⟩, 38)) (List.mem_of_getElem? (i := 101) (by decide +kernel)) rfl
theorem kp_102 : Cond.selects RX12 yX12_summedBy yX12_summedBy ∈ gw := gw_priv (q := (⟨"TurningMilkModel", "summedBy", "(I)J"⟩, 38)) (List.mem_of_getElem? (i := 102) (by decide +kernel)) rfl
theorem kp_103 : Cond.selects RX12 yX12_reckons yX12_reckons ∈ gw := gw_priv (q := (⟨"TurningMilkModel", "reckons", "(III)J"⟩, 38)) (List.mem_of_getElem? (i := 103) (by decide +kernel)) rfl
theorem kp_104 : Cond.selects RX12 yX12_push yX12_push ∈ gw := gw_priv (q := (⟨"TurningMilkModel", "push", "(J)V"⟩, 38)) (List.mem_of_getElem? (i := 104) (by decide +kernel)) rfl
theorem kp_105 : Cond.selects RX12 yX12_pop yX12_pop ∈ gw := gw_priv (q := (⟨"TurningMilkModel", "pop", "()J"⟩, 38)) (List.mem_of_getElem? (i := 105) (by decide +kernel)) rfl
theorem kp_106 : Cond.selects RX12 yX12_moreTired yX12_moreTired ∈ gw := gw_priv (q := (⟨"TurningMilkModel", "moreTired", "(II)I"⟩, 38)) (List.mem_of_getElem? (i := 106) (by decide +kernel)) rfl
theorem kp_107 : Cond.selects RX12 yX12_canTake yX12_canTake ∈ gw := gw_priv (q := (⟨"TurningMilkModel", "canTake", "(II)Z"⟩, 38)) (List.mem_of_getElem? (i := 107) (by decide +kernel)) rfl
theorem kp_108 : Cond.selects RX12 yX12_isAtPlace yX12_isAtPlace ∈ gw := gw_priv (q := (⟨"TurningMilkModel", "isAtPlace", "(I)Z"⟩, 38)) (List.mem_of_getElem? (i := 108) (by decide +kernel)) rfl
theorem kp_109 : Cond.selects RX12 yX12_takes yX12_takes ∈ gw := gw_priv (q := (⟨"TurningMilkModel", "takes", "(II)V"⟩, 38)) (List.mem_of_getElem? (i := 109) (by decide +kernel)) rfl
theorem kp_110 : Cond.selects RX12 yX12_isPlace yX12_isPlace ∈ gw := gw_priv (q := (⟨"TurningMilkModel", "isPlace", "(I)Z"⟩, 38)) (List.mem_of_getElem? (i := 110) (by decide +kernel)) rfl
theorem kp_111 : Cond.selects RX12 yX12_canGo yX12_canGo ∈ gw := gw_priv (q := (⟨"TurningMilkModel", "canGo", "(II)Z"⟩, 38)) (List.mem_of_getElem? (i := 111) (by decide +kernel)) rfl
theorem kp_112 : Cond.selects RX12 yX12_roadOf yX12_roadOf ∈ gw := gw_priv (q := (⟨"TurningMilkModel", "roadOf", "(II)I"⟩, 38)) (List.mem_of_getElem? (i := 112) (by decide +kernel)) rfl
theorem kp_113 : Cond.selects RX12 yX12_goes yX12_goes ∈ gw := gw_priv (q := (⟨"TurningMilkModel", "goes", "(II)V"⟩, 38)) (List.mem_of_getElem? (i := 113) (by decide +kernel)) rfl
theorem kp_114 : Cond.selects RX12 yX12_keeps yX12_keeps ∈ gw := gw_priv (q := (⟨"TurningMilkModel", "keeps", "()V"⟩, 38)) (List.mem_of_getElem? (i := 114) (by decide +kernel)) rfl
theorem kp_115 : Cond.selects RX12 yX12_laysBack yX12_laysBack ∈ gw := gw_priv (q := (⟨"TurningMilkModel", "laysBack", "()V"⟩, 38)) (List.mem_of_getElem? (i := 115) (by decide +kernel)) rfl
theorem kp_116 : Cond.selects RX12 yX12_fillsHours yX12_fillsHours ∈ gw := gw_priv (q := (⟨"TurningMilkModel", "fillsHours", "(I)V"⟩, 38)) (List.mem_of_getElem? (i := 116) (by decide +kernel)) rfl
theorem kp_117 : Cond.selects RX12 yX12_nextPlace yX12_nextPlace ∈ gw := gw_priv (q := (⟨"TurningMilkModel", "nextPlace", "(I)I"⟩, 38)) (List.mem_of_getElem? (i := 117) (by decide +kernel)) rfl
theorem kp_118 : Cond.selects RX12 yX12_turnedBy yX12_turnedBy ∈ gw := gw_priv (q := (⟨"TurningMilkModel", "turnedBy", "(IIIIII)I"⟩, 38)) (List.mem_of_getElem? (i := 118) (by decide +kernel)) rfl
theorem kp_119 : Cond.selects RX12 yX12_fillsRoads yX12_fillsRoads ∈ gw := gw_priv (q := (⟨"TurningMilkModel", "fillsRoads", "(II)V"⟩, 38)) (List.mem_of_getElem? (i := 119) (by decide +kernel)) rfl
theorem kp_120 : Cond.selects RX12 yX12_turnedByRow yX12_turnedByRow ∈ gw := gw_priv (q := (⟨"TurningMilkModel", "turnedByRow", "(II)I"⟩, 38)) (List.mem_of_getElem? (i := 120) (by decide +kernel)) rfl
theorem kp_121 : Cond.selects RX12 yX12_handIn yX12_handIn ∈ gw := gw_priv (q := (⟨"TurningMilkModel", "handIn", "(II)I"⟩, 38)) (List.mem_of_getElem? (i := 121) (by decide +kernel)) rfl
theorem kp_122 : Cond.selects RX12 yX12_payBy yX12_payBy ∈ gw := gw_priv (q := (⟨"TurningMilkModel", "payBy", "(I)I"⟩, 38)) (List.mem_of_getElem? (i := 122) (by decide +kernel)) rfl
theorem kp_123 : Cond.selects RX12 yX12_jugIn yX12_jugIn ∈ gw := gw_priv (q := (⟨"TurningMilkModel", "jugIn", "(II)I"⟩, 38)) (List.mem_of_getElem? (i := 123) (by decide +kernel)) rfl
theorem kp_124 : Cond.selects RX12 yX12_turnedResting yX12_turnedResting ∈ gw := gw_priv (q := (⟨"TurningMilkModel", "turnedResting", "(III)I"⟩, 38)) (List.mem_of_getElem? (i := 124) (by decide +kernel)) rfl
theorem kp_125 : Cond.selects RX12 yX12_fitting yX12_fitting ∈ gw := gw_priv (q := (⟨"TurningMilkModel", "fitting", "()I"⟩, 38)) (List.mem_of_getElem? (i := 125) (by decide +kernel)) rfl
theorem kp_126 : Cond.selects RX12 yX12_fitsTests yX12_fitsTests ∈ gw := gw_priv (q := (⟨"TurningMilkModel", "fitsTests", "(I)Z"⟩, 38)) (List.mem_of_getElem? (i := 126) (by decide +kernel)) rfl
theorem kp_127 : Cond.selects RX12 yX12_alikeBy yX12_alikeBy ∈ gw := gw_priv (q := (⟨"TurningMilkModel", "alikeBy", "(II)I"⟩, 38)) (List.mem_of_getElem? (i := 127) (by decide +kernel)) rfl
theorem kp_128 : Cond.selects RX12 yX12_fillsRows yX12_fillsRows ∈ gw := gw_priv (q := (⟨"TurningMilkModel", "fillsRows", "(I)V"⟩, 38)) (List.mem_of_getElem? (i := 128) (by decide +kernel)) rfl
theorem kp_129 : Cond.selects RX12 yX12_firstHand yX12_firstHand ∈ gw := gw_priv (q := (⟨"TurningMilkModel", "firstHand", "(III)I"⟩, 38)) (List.mem_of_getElem? (i := 129) (by decide +kernel)) rfl
theorem kp_130 : Cond.selects RX12 yX12_turnedIn yX12_turnedIn ∈ gw := gw_priv (q := (⟨"TurningMilkModel", "turnedIn", "(IZ)I"⟩, 38)) (List.mem_of_getElem? (i := 130) (by decide +kernel)) rfl
theorem kp_131 : Cond.selects RX12 yX12_turnedAll yX12_turnedAll ∈ gw := gw_priv (q := (⟨"TurningMilkModel", "turnedAll", "()I"⟩, 38)) (List.mem_of_getElem? (i := 131) (by decide +kernel)) rfl
theorem kp_132 : Cond.selects RX12 yX12_actsDrawn yX12_actsDrawn ∈ gw := gw_priv (q := (⟨"TurningMilkModel", "actsDrawn", "()V"⟩, 38)) (List.mem_of_getElem? (i := 132) (by decide +kernel)) rfl
theorem kp_133 : Cond.selects RX12 yX12_draw yX12_draw ∈ gw := gw_priv (q := (⟨"TurningMilkModel", "draw", "(I)I"⟩, 38)) (List.mem_of_getElem? (i := 133) (by decide +kernel)) rfl
