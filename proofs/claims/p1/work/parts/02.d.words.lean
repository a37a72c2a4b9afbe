theorem mem_p {big : List Cond} (ws : List Cond) (ps : List Nat) (hp : ws = ps.filterMap (fun i => big[i]?)) : ∀ w ∈ ws, w ∈ big := by
  intro w hw
  rw [hp] at hw
  obtain ⟨i, -, hi⟩ := List.mem_filterMap.mp hw
  first | exact List.mem_of_getElem? hi | exact List.getElem?_mem hi
set_option maxRecDepth 20000 in
theorem uw_0_in : ∀ w ∈ uw_0, w ∈ lw_tbl := mem_p uw_0 [220, 221, 194, 1823, 1824, 205, 303, 222, 223, 224, 225, 226, 227, 273, 274, 228] (by decide +kernel)
set_option maxRecDepth 20000 in
theorem uw_1_in : ∀ w ∈ uw_1, w ∈ lw_tbl := mem_p uw_1 [229, 195, 275, 276, 196, 374, 375, 199, 444, 445, 200, 446, 447, 201, 707, 709] (by decide +kernel)
set_option maxRecDepth 20000 in
theorem uw_2_in : ∀ w ∈ uw_2, w ∈ lw_tbl := mem_p uw_2 [710, 711, 712, 621, 622, 203, 713, 640, 641, 204, 714, 230, 231, 232, 233, 237] (by decide +kernel)
set_option maxRecDepth 20000 in
theorem uw_3_in : ∀ w ∈ uw_3, w ∈ lw_tbl := mem_p uw_3 [234, 277, 278, 279, 280, 281, 328, 329, 331, 332, 304, 333, 334, 335, 283, 284] (by decide +kernel)
set_option maxRecDepth 20000 in
theorem uw_4_in : ∀ w ∈ uw_4, w ∈ lw_tbl := mem_p uw_4 [197, 337, 305, 306, 198, 340, 343, 345, 327, 286, 287, 288, 307, 308, 309, 310] (by decide +kernel)
set_option maxRecDepth 20000 in
theorem uw_5_in : ∀ w ∈ uw_5, w ∈ lw_tbl := mem_p uw_5 [311, 313, 314, 315, 376, 377, 378, 379, 383, 400, 380, 386, 449, 450, 451, 452] (by decide +kernel)
set_option maxRecDepth 20000 in
theorem uw_6_in : ∀ w ∈ uw_6, w ∈ lw_tbl := mem_p uw_6 [454, 459, 463, 464, 466, 468, 470, 472, 474, 505, 506, 507, 508, 557, 558, 559] (by decide +kernel)
set_option maxRecDepth 20000 in
theorem uw_7_in : ∀ w ∈ uw_7, w ∈ lw_tbl := mem_p uw_7 [561, 550, 552, 553, 509, 510, 202, 238, 556, 511, 512, 513, 514, 515, 516, 623] (by decide +kernel)
set_option maxRecDepth 20000 in
theorem uw_8_in : ∀ w ∈ uw_8, w ∈ lw_tbl := mem_p uw_8 [624, 625, 626, 627, 628, 342, 629, 339, 630, 642, 643, 644, 645, 648, 667, 646] (by decide +kernel)
set_option maxRecDepth 20000 in
theorem uw_9_in : ∀ w ∈ uw_9, w ∈ lw_tbl := mem_p uw_9 [1825, 1826, 1827, 1828, 1833, 1835, 1836, 1838, 1841, 1851, 1852, 1853, 1854, 1855, 1856, 1829] (by decide +kernel)
set_option maxRecDepth 20000 in
theorem uw_10_in : ∀ w ∈ uw_10, w ∈ lw_tbl := mem_p uw_10 [1857, 1830, 1858, 1859, 1860, 1861, 1831, 1864, 1865, 1866, 1869, 1871, 1872, 1881, 1882, 1885] (by decide +kernel)
set_option maxRecDepth 20000 in
theorem uw_11_in : ∀ w ∈ uw_11, w ∈ lw_tbl := mem_p uw_11 [1886, 1887, 1888, 1889, 1890, 1891, 1893, 1894, 1895, 1896, 1897, 1898, 1906, 1907, 1908, 1916] (by decide +kernel)
set_option maxRecDepth 20000 in
theorem uw_12_in : ∀ w ∈ uw_12, w ∈ lw_tbl := mem_p uw_12 [1917, 1918, 1919, 1921, 1924, 732, 733, 734, 735, 708, 736, 738, 0, 739, 2119, 2120] (by decide +kernel)
set_option maxRecDepth 20000 in
theorem uw_13_in : ∀ w ∈ uw_13, w ∈ lw_tbl := mem_p uw_13 [2121, 2122, 1832, 1834, 2123, 2125, 65, 2126, 740, 741, 742, 743, 2127, 2128, 2129, 2130] (by decide +kernel)
set_option maxRecDepth 20000 in
theorem uw_14_in : ∀ w ∈ uw_14, w ∈ lw_tbl := mem_p uw_14 [744, 745, 746, 747, 236, 752, 754, 753, 206, 250, 748, 750, 1, 751, 755, 756] (by decide +kernel)
set_option maxRecDepth 20000 in
theorem uw_15_in : ∀ w ∈ uw_15, w ∈ lw_tbl := mem_p uw_15 [757, 758, 387, 390, 393, 395, 402, 403, 759, 760, 207, 761, 762, 763, 764, 765] (by decide +kernel)
set_option maxRecDepth 20000 in
theorem uw_16_in : ∀ w ∈ uw_16, w ∈ lw_tbl := mem_p uw_16 [336, 766, 767, 768, 769, 770, 771, 772, 560, 562, 563, 568, 570, 572, 578, 773] (by decide +kernel)
set_option maxRecDepth 20000 in
theorem uw_17_in : ∀ w ∈ uw_17, w ∈ lw_tbl := mem_p uw_17 [774, 775, 776, 777, 778, 208, 779, 254, 780, 781, 782, 255, 783, 784, 785, 786] (by decide +kernel)
set_option maxRecDepth 20000 in
theorem uw_18_in : ∀ w ∈ uw_18, w ∈ lw_tbl := mem_p uw_18 [247, 249, 787, 788, 789, 790, 460, 465, 476, 791, 792, 793, 794, 795, 251, 796] (by decide +kernel)
set_option maxRecDepth 20000 in
theorem uw_19_in : ∀ w ∈ uw_19, w ∈ lw_tbl := mem_p uw_19 [797, 798, 799, 209, 210, 211, 212, 213, 214, 993, 1011, 1012, 1013, 1123, 1124, 1125] (by decide +kernel)
set_option maxRecDepth 20000 in
theorem uw_20_in : ∀ w ∈ uw_20, w ∈ lw_tbl := mem_p uw_20 [1126, 575, 2131, 2132, 2133, 2134, 1878, 1876, 1877, 1880, 2135, 2137, 66, 2138, 1870, 2139] (by decide +kernel)
set_option maxRecDepth 20000 in
theorem uw_21_in : ∀ w ∈ uw_21, w ∈ lw_tbl := mem_p uw_21 [2141, 67, 2142, 1899, 1873, 1902, 1875, 1883, 1874, 2143, 2145, 68, 2146, 1837, 1839, 1840] (by decide +kernel)
set_option maxRecDepth 20000 in
theorem uw_22_in : ∀ w ∈ uw_22, w ∈ lw_tbl := mem_p uw_22 [1842, 1843, 1844, 1923, 2147, 2149, 69, 2150, 2151, 2153, 70, 2154, 2155, 2157, 71, 2158] (by decide +kernel)
set_option maxRecDepth 20000 in
theorem uw_23_in : ∀ w ∈ uw_23, w ∈ lw_tbl := mem_p uw_23 [1879, 1884, 1892, 2159, 2161, 72, 2162, 2209, 2211, 80, 2212, 2266, 2288, 2289, 2293, 2294] (by decide +kernel)
set_option maxRecDepth 20000 in
theorem uw_24_in : ∀ w ∈ uw_24, w ∈ lw_tbl := mem_p uw_24 [2295, 2350, 2352, 107, 2353, 1132, 1133, 1134, 1135, 1136, 1137, 1138, 1139, 551, 252, 577] (by decide +kernel)
set_option maxRecDepth 20000 in
theorem uw_25_in : ∀ w ∈ uw_25, w ∈ lw_tbl := mem_p uw_25 [1140, 1141, 1142, 1143, 1144, 1145, 1146, 1147, 1148, 1149, 1154, 1155, 1156, 1157, 316, 1158] (by decide +kernel)
set_option maxRecDepth 20000 in
theorem uw_26_in : ∀ w ∈ uw_26, w ∈ lw_tbl := mem_p uw_26 [1159, 1160, 1161, 2383, 2384, 2385, 2386, 2387, 2389, 115, 2390, 2391, 2393, 116, 2394, 2395] (by decide +kernel)
set_option maxRecDepth 20000 in
theorem uw_27_in : ∀ w ∈ uw_27, w ∈ lw_tbl := mem_p uw_27 [2397, 117, 2398, 1862, 2399, 2401, 118, 2402, 2403, 2405, 119, 2406, 2407, 2409, 120, 2410] (by decide +kernel)
set_option maxRecDepth 20000 in
theorem uw_28_in : ∀ w ∈ uw_28, w ∈ lw_tbl := mem_p uw_28 [2411, 2413, 121, 2414, 1863, 1162, 1163, 1164, 1165, 576, 2415, 2416, 2417, 2418, 1166, 1167] (by decide +kernel)
set_option maxRecDepth 20000 in
theorem uw_29_in : ∀ w ∈ uw_29, w ∈ lw_tbl := mem_p uw_29 [1168, 1169, 647, 338, 293, 1170, 1171, 292, 2676, 2677, 2678, 2679, 2548, 2550, 147, 2551] (by decide +kernel)
set_option maxRecDepth 20000 in
theorem uw_30_in : ∀ w ∈ uw_30, w ∈ lw_tbl := mem_p uw_30 [1868, 1867, 2680, 2682, 173, 2683, 1177, 1178, 1179, 1180, 1181, 1182, 1184, 18, 1185, 401] (by decide +kernel)
set_option maxRecDepth 20000 in
theorem uw_31_in : ∀ w ∈ uw_31, w ∈ lw_tbl := mem_p uw_31 [1285, 1286, 1287, 1367, 1368, 1369, 1383, 1384, 1385, 215, 2483, 2484, 2485, 2486, 2487, 2488] (by decide +kernel)
set_option maxRecDepth 20000 in
theorem uw_32_in : ∀ w ∈ uw_32, w ∈ lw_tbl := mem_p uw_32 [2490, 134, 2491, 1431, 1432, 1433, 1434, 579, 382, 1435, 2688, 2689, 2690, 2691, 1437, 1438] (by decide +kernel)
set_option maxRecDepth 20000 in
theorem uw_33_in : ∀ w ∈ uw_33, w ∈ lw_tbl := mem_p uw_33 [1439, 1440, 2419, 2420, 2421, 2422, 1459, 1460, 1461, 1462, 2439, 2440, 2441, 2442, 1467, 1468] (by decide +kernel)
set_option maxRecDepth 20000 in
theorem uw_34_in : ∀ w ∈ uw_34, w ∈ lw_tbl := mem_p uw_34 [1469, 1470, 2459, 2460, 2461, 2462, 1481, 1482, 1483, 1484, 2467, 2468, 2469, 2470, 1510, 1511] (by decide +kernel)
set_option maxRecDepth 20000 in
theorem uw_35_in : ∀ w ∈ uw_35, w ∈ lw_tbl := mem_p uw_35 [1512, 1513, 2664, 2665, 2666, 2667, 1514, 1515, 1516, 1517, 2692, 2693, 2694, 2695, 1524, 1525] (by decide +kernel)
set_option maxRecDepth 20000 in
theorem uw_36_in : ∀ w ∈ uw_36, w ∈ lw_tbl := mem_p uw_36 [1526, 1527, 1528, 1529, 1530, 1531, 1532, 668, 394, 397, 1659, 1660, 1661, 2696, 2697, 2698] (by decide +kernel)
set_option maxRecDepth 20000 in
theorem uw_37_in : ∀ w ∈ uw_37, w ∈ lw_tbl := mem_p uw_37 [2699, 1909, 1920, 1915, 1914, 1680, 1681, 1682, 1683, 1684, 2794, 2795, 2796, 2797, 1685, 1686] (by decide +kernel)
set_option maxRecDepth 20000 in
theorem uw_38_in : ∀ w ∈ uw_38, w ∈ lw_tbl := mem_p uw_38 [1687, 1688, 670, 2798, 2799, 2800, 2801, 1695, 1696, 1697, 1698, 2803, 2804, 2805, 2806, 1720] (by decide +kernel)
set_option maxRecDepth 20000 in
theorem uw_39_in : ∀ w ∈ uw_39, w ∈ lw_tbl := mem_p uw_39 [1721, 193, 1722, 1723, 1724, 1725, 1726, 1727, 1728, 219, 389, 392, 385, 1789, 1790, 1791] (by decide +kernel)
set_option maxRecDepth 20000 in
theorem uw_40_in : ∀ w ∈ uw_40, w ∈ lw_tbl := mem_p uw_40 [1793, 2807, 2808, 2809, 2810, 2672, 2673, 2674, 2115, 2116, 2117, 2118, 1794, 1795, 1796, 1797] (by decide +kernel)
set_option maxRecDepth 20000 in
theorem uw_41_in : ∀ w ∈ uw_41, w ∈ lw_tbl := mem_p uw_41 [1798, 1799, 1800, 2811, 2812, 2813, 2814, 2815, 2816, 2817, 1699, 1700, 1701, 1702, 2818, 2819] (by decide +kernel)
set_option maxRecDepth 20000 in
theorem uw_42_in : ∀ w ∈ uw_42, w ∈ lw_tbl := mem_p uw_42 [2820, 2821, 1801, 1802, 1803, 1804, 1805, 1806, 1807, 1808, 1810, 64, 1811, 2668, 2669, 2670] (by decide +kernel)
set_option maxRecDepth 20000 in
theorem uw_43_in : ∀ w ∈ uw_43, w ∈ lw_tbl := mem_p uw_43 [2671, 1703, 1704, 1705, 1706, 330, 317, 1707, 2822, 2823, 2824, 2825, 1708, 1709, 1710, 1711] (by decide +kernel)
set_option maxRecDepth 20000 in
theorem uw_44_in : ∀ w ∈ uw_44, w ∈ lw_tbl := mem_p uw_44 [1712, 1713, 1714, 1715, 2826, 2827, 2828, 2829, 1815, 1816, 1817, 1818, 1819, 1820, 1821, 1822] (by decide +kernel)
set_option maxRecDepth 20000 in
theorem uw_45_in : ∀ w ∈ uw_45, w ∈ lw_tbl := mem_p uw_45 [2830, 2831, 2832, 2833, 1716, 1717, 1718, 1719, 341, 344, 346, 2834, 2835, 2836, 2837] (by decide +kernel)
set_option maxRecDepth 20000 in
theorem wsX110_in : ∀ w ∈ wsX110, w ∈ lw_tbl := mem_p wsX110 [715, 717, 719, 721, 723, 725, 727, 729] (by decide +kernel)
set_option maxRecDepth 20000 in
theorem wsX120_in : ∀ w ∈ wsX120, w ∈ lw_tbl := mem_p wsX120 [1926, 1928, 1930, 1932, 1934, 1936, 1938, 1940, 1942, 1944, 1946, 1948, 1950, 1952, 1954, 1956, 1958, 1960, 1962, 1964, 1966, 1968, 1970, 1972, 1974, 1976, 1978, 1980, 1982, 1984, 1986, 1988, 1990, 1992, 1994, 1996, 1998, 2000, 2002, 2004, 2006, 2008, 2010, 2012, 2014, 2016, 2018, 2020, 2022, 2024, 2026, 2028, 2030, 2032, 2034, 2036, 2038, 2040, 2042, 2044, 2046, 2048, 2050, 2052, 2054, 2056, 2058, 2060, 2062, 2064, 2066, 2068, 2070, 2072, 2074, 2076, 2078, 2080, 2082, 2084, 2086, 2088, 2090, 2092, 2094, 2096, 2098, 2100, 2102, 2104, 2106, 2108, 2110, 2112] (by decide +kernel)
set_option maxRecDepth 20000 in
theorem wsX90_in : ∀ w ∈ wsX90, w ∈ lw_tbl := mem_p wsX90 [256, 258, 260, 262, 264, 266, 268, 270] (by decide +kernel)
set_option maxRecDepth 20000 in
theorem wsX100_in : ∀ w ∈ wsX100, w ∈ lw_tbl := mem_p wsX100 [347, 349, 351, 353, 355, 357, 359, 361, 363, 365, 367, 369, 371] (by decide +kernel)
set_option maxRecDepth 20000 in
theorem wsX20_in : ∀ w ∈ wsX20, w ∈ lw_tbl := mem_p wsX20 [411, 413, 415, 417, 419, 421, 423, 425, 427, 429, 431, 433, 435, 437, 439, 441] (by decide +kernel)
set_option maxRecDepth 20000 in
theorem wsX00_in : ∀ w ∈ wsX00, w ∈ lw_tbl := mem_p wsX00 [580, 582, 584, 586, 588, 590, 592, 594, 596, 598, 600, 602, 604, 606, 608, 610, 612, 614, 616, 618] (by decide +kernel)
set_option maxRecDepth 20000 in
theorem wsX80_in : ∀ w ∈ wsX80, w ∈ lw_tbl := mem_p wsX80 [478, 480, 482, 484, 486, 488, 490, 492, 494, 496, 498, 500, 502] (by decide +kernel)
set_option maxRecDepth 20000 in
theorem wsX70_in : ∀ w ∈ wsX70, w ∈ lw_tbl := mem_p wsX70 [631, 633, 635, 637] (by decide +kernel)
set_option maxRecDepth 20000 in
theorem wsX30_in : ∀ w ∈ wsX30, w ∈ lw_tbl := mem_p wsX30 [674, 676, 678, 680, 682, 684, 686, 688, 690, 692, 694, 696, 698, 700, 702, 704] (by decide +kernel)
set_option maxRecDepth 20000 in
theorem wsX60_in : ∀ w ∈ wsX60, w ∈ lw_tbl := mem_p wsX60 [294, 296, 298, 300] (by decide +kernel)
set_option maxRecDepth 20000 in
theorem wsX40_in : ∀ w ∈ wsX40, w ∈ lw_tbl := mem_p wsX40 [318, 320, 322, 324] (by decide +kernel)
set_option maxRecDepth 20000 in
theorem wsX50_in : ∀ w ∈ wsX50, w ∈ lw_tbl := mem_p wsX50 [529, 531, 533, 535, 537, 539, 541, 543, 545, 547] (by decide +kernel)
theorem wsL_law_in0 : ∀ w ∈ wsL_law0, w ∈ lw_tbl := fun w h => (List.mem_append.mp h).elim (fun h => uw_0_in w h) (fun h => (List.mem_append.mp h).elim (fun h => uw_1_in w h) (fun h => (List.mem_append.mp h).elim (fun h => uw_2_in w h) (fun h => (List.mem_append.mp h).elim (fun h => uw_3_in w h) (fun h => (List.mem_append.mp h).elim (fun h => uw_4_in w h) (fun h => (List.mem_append.mp h).elim (fun h => uw_5_in w h) (fun h => (List.mem_append.mp h).elim (fun h => uw_6_in w h) (fun h => (List.mem_append.mp h).elim (fun h => uw_7_in w h) (fun h => (List.mem_append.mp h).elim (fun h => uw_8_in w h) (fun h => (List.mem_append.mp h).elim (fun h => uw_9_in w h) (fun h => (List.mem_append.mp h).elim (fun h => uw_10_in w h) (fun h => (List.mem_append.mp h).elim (fun h => uw_11_in w h) (fun h => (List.mem_append.mp h).elim (fun h => uw_12_in w h) (fun h => (List.mem_append.mp h).elim (fun h => uw_13_in w h) (fun h => (List.mem_append.mp h).elim (fun h => uw_14_in w h) (fun h => (List.mem_append.mp h).elim (fun h => uw_15_in w h) (fun h => (List.mem_append.mp h).elim (fun h => uw_16_in w h) (fun h => (List.mem_append.mp h).elim (fun h => uw_17_in w h) (fun h => (List.mem_append.mp h).elim (fun h => uw_18_in w h) (fun h => (List.mem_append.mp h).elim (fun h => uw_19_in w h) (fun h => (List.mem_append.mp h).elim (fun h => uw_20_in w h) (fun h => (List.mem_append.mp h).elim (fun h => uw_21_in w h) (fun h => (List.mem_append.mp h).elim (fun h => uw_22_in w h) (fun h => (List.mem_append.mp h).elim (fun h => uw_23_in w h) (fun h => (List.mem_append.mp h).elim (fun h => uw_24_in w h) (fun h => (List.mem_append.mp h).elim (fun h => uw_25_in w h) (fun h => (List.mem_append.mp h).elim (fun h => uw_26_in w h) (fun h => (List.mem_append.mp h).elim (fun h => uw_27_in w h) (fun h => (List.mem_append.mp h).elim (fun h => uw_28_in w h) (fun h => (List.mem_append.mp h).elim (fun h => uw_29_in w h) (fun h => (List.mem_append.mp h).elim (fun h => uw_30_in w h) (fun h => (List.mem_append.mp h).elim (fun h => uw_31_in w h) (fun h => (List.mem_append.mp h).elim (fun h => uw_32_in w h) (fun h => (List.mem_append.mp h).elim (fun h => uw_33_in w h) (fun h => (List.mem_append.mp h).elim (fun h => uw_34_in w h) (fun h => (List.mem_append.mp h).elim (fun h => uw_35_in w h) (fun h => (List.mem_append.mp h).elim (fun h => uw_36_in w h) (fun h => (List.mem_append.mp h).elim (fun h => uw_37_in w h) (fun h => (List.mem_append.mp h).elim (fun h => uw_38_in w h) (fun h => (List.mem_append.mp h).elim (fun h => uw_39_in w h) (fun h => (List.mem_append.mp h).elim (fun h => uw_40_in w h) (fun h => (List.mem_append.mp h).elim (fun h => uw_41_in w h) (fun h => (List.mem_append.mp h).elim (fun h => uw_42_in w h) (fun h => (List.mem_append.mp h).elim (fun h => uw_43_in w h) (fun h => (List.mem_append.mp h).elim (fun h => uw_44_in w h) (fun h => (List.mem_append.mp h).elim (fun h => uw_45_in w h) (fun h => (List.mem_append.mp h).elim (fun h => wsX110_in w h) (fun h => (List.mem_append.mp h).elim (fun h => wsX120_in w h) (fun h => (List.mem_append.mp h).elim (fun h => wsX90_in w h) (fun h => (List.mem_append.mp h).elim (fun h => wsX100_in w h) (fun h => (List.mem_append.mp h).elim (fun h => wsX20_in w h) (fun h => (List.mem_append.mp h).elim (fun h => wsX00_in w h) (fun h => (List.mem_append.mp h).elim (fun h => wsX80_in w h) (fun h => (List.mem_append.mp h).elim (fun h => wsX70_in w h) (fun h => (List.mem_append.mp h).elim (fun h => wsX30_in w h) (fun h => (List.mem_append.mp h).elim (fun h => wsX60_in w h) (fun h => (List.mem_append.mp h).elim (fun h => wsX40_in w h) (fun h => wsX50_in w h)))))))))))))))))))))))))))))))))))))))))))))))))))))))))
