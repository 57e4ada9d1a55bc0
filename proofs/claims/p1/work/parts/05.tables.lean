set_option maxRecDepth 20000 in
theorem wt_1 : ∀ w ∈ wsL_law0_r1, w ∈ lw_tbl := fun w h => (goodIn_r _ [92, 93, 50, 1604, 1605, 63, 271, 2334, 94, 95, 96, 97, 98, 99, 100, 101, 53, 419, 420, 421, 129, 422, 149, 423] (by decide +kernel) (by decide +kernel) w h).1
set_option maxRecDepth 20000 in
theorem wt_2 : ∀ w ∈ wsL_law0_r2, w ∈ lw_tbl := fun w h => (goodIn_r _ [131, 132, 54, 424, 216, 217, 57, 425, 317, 318, 60, 426, 361, 362, 61, 427, 428, 394, 395, 62, 429, 430, 102, 103] (by decide +kernel) (by decide +kernel) w h).1
set_option maxRecDepth 20000 in
theorem wt_3 : ∀ w ∈ wsL_law0_r3, w ∈ lw_tbl := fun w h => (goodIn_r _ [104, 112, 114, 105, 106, 52, 107, 118, 108, 109, 51, 110, 111, 134, 135, 136, 137, 138, 55, 203, 150, 151, 56, 204] (by decide +kernel) (by decide +kernel) w h).1
set_option maxRecDepth 20000 in
theorem wt_4 : ∀ w ∈ wsL_law0_r4, w ∈ lw_tbl := fun w h => (goodIn_r _ [205, 206, 140, 141, 142, 143, 153, 154, 155, 156, 159, 163, 167, 171, 175, 202, 177, 178, 179, 180, 219, 220, 221, 272] (by decide +kernel) (by decide +kernel) w h).1
set_option maxRecDepth 20000 in
theorem wt_5 : ∀ w ∈ wsL_law0_r5, w ∈ lw_tbl := fun w h => (goodIn_r _ [275, 278, 222, 223, 58, 280, 240, 281, 241, 282, 283, 242, 243, 59, 284, 285, 286, 287, 288, 289, 225, 226, 227, 228] (by decide +kernel) (by decide +kernel) w h).1
set_option maxRecDepth 20000 in
theorem wt_6 : ∀ w ∈ wsL_law0_r6, w ∈ lw_tbl := fun w h => (goodIn_r _ [229, 230, 231, 245, 246, 247, 248, 249, 250, 252, 254, 256, 320, 321, 322, 328, 330, 332, 333, 323, 334, 325, 335, 336] (by decide +kernel) (by decide +kernel) w h).1
set_option maxRecDepth 20000 in
theorem wt_7 : ∀ w ∈ wsL_law0_r7, w ∈ lw_tbl := fun w h => (goodIn_r _ [337, 326, 338, 339, 364, 365, 366, 367, 369, 371, 373, 375, 377, 379, 397, 398, 399, 402, 404, 400, 405, 406, 407, 1606] (by decide +kernel) (by decide +kernel) w h).1
set_option maxRecDepth 20000 in
theorem wt_8 : ∀ w ∈ wsL_law0_r8, w ∈ lw_tbl := fun w h => (goodIn_r _ [1607, 1608, 1609, 1610, 1670, 1671, 1611, 1674, 1675, 1678, 1683, 1684, 1685, 1686, 1687, 1613, 1614, 64, 1690, 1612, 1615, 1616, 1617, 1618] (by decide +kernel) (by decide +kernel) w h).1
set_option maxRecDepth 20000 in
theorem wt_9 : ∀ w ∈ wsL_law0_r9, w ∈ lw_tbl := fun w h => (goodIn_r _ [1619, 1622, 1623, 1625, 1627, 1628, 1629, 1620, 1631, 1635, 1639, 721, 722, 49, 723, 724, 725, 726, 727, 728, 729, 730, 68, 568] (by decide +kernel) (by decide +kernel) w h).1
set_option maxRecDepth 20000 in
theorem wt_10 : ∀ w ∈ wsL_law0_r10, w ∈ lw_tbl := fun w h => (goodIn_r _ [158, 161, 169, 746, 747, 748, 750, 751, 752, 69, 753, 754, 755, 756, 757, 2376, 758, 759, 760, 761, 762, 2375, 764, 765] (by decide +kernel) (by decide +kernel) w h).1
set_option maxRecDepth 20000 in
theorem wt_11 : ∀ w ∈ wsL_law0_r11, w ∈ lw_tbl := fun w h => (goodIn_r _ [766, 767, 768, 769, 770, 771, 772, 773, 70, 774, 778, 779, 71, 780, 781, 672, 673, 775, 776, 777, 782, 783, 784, 785] (by decide +kernel) (by decide +kernel) w h).1
set_option maxRecDepth 20000 in
theorem wt_12 : ∀ w ∈ wsL_law0_r12, w ∈ lw_tbl := fun w h => (goodIn_r _ [786, 72, 787, 788, 789, 790, 791, 792, 793, 794, 795, 796, 797, 798, 799, 800, 801, 802, 803, 805, 806, 73, 807, 808] (by decide +kernel) (by decide +kernel) w h).1
set_option maxRecDepth 20000 in
theorem wt_13 : ∀ w ∈ wsL_law0_r13, w ∈ lw_tbl := fun w h => (goodIn_r _ [809, 810, 811, 812, 813, 814, 816, 818, 820, 821, 822, 823, 824, 74, 825, 826, 827, 828, 829, 830, 831, 832, 833, 835] (by decide +kernel) (by decide +kernel) w h).1
set_option maxRecDepth 20000 in
theorem wt_14 : ∀ w ∈ wsL_law0_r14, w ∈ lw_tbl := fun w h => (goodIn_r _ [837, 14, 838, 839, 75, 464, 465, 466, 467, 117, 856, 857, 858, 859, 860, 622, 623, 624, 861, 862, 863, 864, 865, 866] (by decide +kernel) (by decide +kernel) w h).1
set_option maxRecDepth 20000 in
theorem wt_15 : ∀ w ∈ wsL_law0_r15, w ∈ lw_tbl := fun w h => (goodIn_r _ [867, 868, 869, 870, 871, 872, 121, 120, 873, 875, 15, 876, 877, 879, 16, 880, 881, 883, 17, 884, 936, 937, 885, 886] (by decide +kernel) (by decide +kernel) w h).1
set_option maxRecDepth 20000 in
theorem wt_16 : ∀ w ∈ wsL_law0_r16, w ∈ lw_tbl := fun w h => (goodIn_r _ [76, 887, 888, 889, 890, 891, 892, 893, 894, 77, 895, 896, 2365, 897, 925, 926, 927, 928, 929, 931, 932, 933, 935, 934] (by decide +kernel) (by decide +kernel) w h).1
set_option maxRecDepth 20000 in
theorem wt_17 : ∀ w ∈ wsL_law0_r17, w ∈ lw_tbl := fun w h => (goodIn_r _ [78, 1747, 1748, 1749, 1750, 1673, 1760, 1761, 79, 1751, 1752, 1753, 1754, 1755, 1756, 1758, 1759, 1762, 1763, 1764, 1765, 1766, 1778, 1768] (by decide +kernel) (by decide +kernel) w h).1
set_option maxRecDepth 20000 in
theorem wt_18 : ∀ w ∈ wsL_law0_r18, w ∈ lw_tbl := fun w h => (goodIn_r _ [1770, 1772, 1776, 1767, 1800, 1743, 1744, 1745, 1746, 938, 939, 940, 941, 942, 943, 944, 945, 176, 946, 948, 18, 949, 484, 80] (by decide +kernel) (by decide +kernel) w h).1
set_option maxRecDepth 20000 in
theorem wt_19 : ∀ w ∈ wsL_law0_r19, w ∈ lw_tbl := fun w h => (goodIn_r _ [480, 482, 2, 483, 568, 554, 555, 556, 557, 558, 559, 81, 560, 561, 562, 563, 564, 565, 566, 567, 950, 952, 953, 1801] (by decide +kernel) (by decide +kernel) w h).1
set_option maxRecDepth 20000 in
theorem wt_20 : ∀ w ∈ wsL_law0_r20, w ∈ lw_tbl := fun w h => (goodIn_r _ [1802, 1803, 1804, 1760, 1805, 1807, 33, 1808, 1809, 1810, 1811, 1812, 1813, 1815, 1816, 1817, 1818, 954, 955, 956, 957, 958, 959, 960] (by decide +kernel) (by decide +kernel) w h).1
set_option maxRecDepth 20000 in
theorem wt_21 : ∀ w ∈ wsL_law0_r21, w ∈ lw_tbl := fun w h => (goodIn_r _ [1819, 1820, 1821, 1822, 1823, 1825, 34, 1826, 962, 963, 964, 965, 966, 967, 968, 1827, 1828, 1829, 1830, 969, 970, 971, 972, 973] (by decide +kernel) (by decide +kernel) w h).1
set_option maxRecDepth 20000 in
theorem wt_22 : ∀ w ∈ wsL_law0_r22, w ∈ lw_tbl := fun w h => (goodIn_r _ [974, 975, 166, 976, 977, 978, 979, 1831, 1832, 1833, 1834, 980, 981, 982, 983, 984, 985, 986, 174, 987, 988, 989, 992, 993] (by decide +kernel) (by decide +kernel) w h).1
set_option maxRecDepth 20000 in
theorem wt_23 : ∀ w ∈ wsL_law0_r23, w ∈ lw_tbl := fun w h => (goodIn_r _ [994, 995, 1835, 1836, 1837, 1838, 1839, 1840, 82, 1841, 1842, 1843, 1844, 1845, 1848, 1851, 996, 997, 998, 999, 1000, 1001, 1002, 1005] (by decide +kernel) (by decide +kernel) w h).1
set_option maxRecDepth 20000 in
theorem wt_24 : ∀ w ∈ wsL_law0_r24, w ∈ lw_tbl := fun w h => (goodIn_r _ [642, 643, 644, 1861, 1862, 1863, 1864, 1839, 1865, 1867, 35, 1868, 1869, 1870, 1871, 1872, 1006, 1007, 1008, 1009, 1010, 1011, 1012, 1013] (by decide +kernel) (by decide +kernel) w h).1
set_option maxRecDepth 20000 in
theorem wt_25 : ∀ w ∈ wsL_law0_r25, w ∈ lw_tbl := fun w h => (goodIn_r _ [1014, 1015, 1016, 1017, 1873, 1874, 1875, 1876, 1877, 1878, 1879, 1880, 1881, 1883, 1774, 1882, 1884, 1885, 1886, 1887, 1898, 1889, 1893, 1895] (by decide +kernel) (by decide +kernel) w h).1
set_option maxRecDepth 20000 in
theorem wt_26 : ∀ w ∈ wsL_law0_r26, w ∈ lw_tbl := fun w h => (goodIn_r _ [1897, 1018, 1019, 1020, 1021, 1022, 1023, 1024, 1025, 1026, 1027, 1028, 144, 172, 160, 157, 165, 170, 1029, 1030, 1032, 19, 1033, 1039] (by decide +kernel) (by decide +kernel) w h).1
set_option maxRecDepth 20000 in
theorem wt_27 : ∀ w ∈ wsL_law0_r27, w ∈ lw_tbl := fun w h => (goodIn_r _ [1040, 1034, 1035, 1036, 1037, 1038, 1041, 1042, 1044, 20, 1045, 1046, 1047, 1048, 1049, 1899, 1900, 1901, 1902, 1903, 1904, 83, 1918, 1919] (by decide +kernel) (by decide +kernel) w h).1
set_option maxRecDepth 20000 in
theorem wt_28 : ∀ w ∈ wsL_law0_r28, w ∈ lw_tbl := fun w h => (goodIn_r _ [1905, 1906, 1907, 1908, 1909, 1913, 1914, 1915, 1916, 1917, 1920, 1921, 1922, 1923, 1050, 1051, 1052, 1053, 1054, 1055, 1056, 476, 478, 1] (by decide +kernel) (by decide +kernel) w h).1
set_option maxRecDepth 20000 in
theorem wt_29 : ∀ w ∈ wsL_law0_r29, w ∈ lw_tbl := fun w h => (goodIn_r _ [479, 274, 277, 569, 570, 571, 572, 573, 574, 575, 576, 232, 577, 578, 579, 580, 581, 582, 583, 164, 168, 584, 585, 586] (by decide +kernel) (by decide +kernel) w h).1
set_option maxRecDepth 20000 in
theorem wt_30 : ∀ w ∈ wsL_law0_r30, w ∈ lw_tbl := fun w h => (goodIn_r _ [587, 588, 589, 590, 591, 592, 593, 594, 595, 596, 598, 4, 599, 600, 601, 602, 603, 604, 605, 606, 607, 608, 609, 610] (by decide +kernel) (by decide +kernel) w h).1
set_option maxRecDepth 20000 in
theorem wt_31 : ∀ w ∈ wsL_law0_r31, w ∈ lw_tbl := fun w h => (goodIn_r _ [611, 612, 613, 614, 615, 616, 162, 617, 619, 5, 620, 621, 625, 626, 627, 628, 629, 631, 6, 632, 633, 635, 7, 636] (by decide +kernel) (by decide +kernel) w h).1
set_option maxRecDepth 20000 in
theorem wt_32 : ∀ w ∈ wsL_law0_r32, w ∈ lw_tbl := fun w h => (goodIn_r _ [637, 638, 639, 640, 641, 645, 647, 8, 648, 649, 650, 651, 652, 653, 655, 9, 656, 657, 658, 659, 660, 661, 662, 663] (by decide +kernel) (by decide +kernel) w h).1
set_option maxRecDepth 20000 in
theorem wt_33 : ∀ w ∈ wsL_law0_r33, w ∈ lw_tbl := fun w h => (goodIn_r _ [665, 10, 666, 690, 691, 692, 693, 1924, 1925, 1926, 1927, 1928, 1930, 36, 1931, 1688, 1689, 1932, 1933, 1934, 1935, 1633, 1621, 1637] (by decide +kernel) (by decide +kernel) w h).1
set_option maxRecDepth 20000 in
theorem wt_34 : ∀ w ∈ wsL_law0_r34, w ∈ lw_tbl := fun w h => (goodIn_r _ [1630, 1936, 1937, 1938, 1939, 1941, 1942, 1943, 1945, 37, 1946, 1948, 1949, 1951, 1952, 1953, 1955, 38, 1956, 1957, 1959, 39, 1960, 1636] (by decide +kernel) (by decide +kernel) w h).1
set_option maxRecDepth 20000 in
theorem wt_35 : ∀ w ∈ wsL_law0_r35, w ∈ lw_tbl := fun w h => (goodIn_r _ [1961, 1962, 1963, 1964, 1782, 1968, 1969, 1971, 1972, 1974, 1975, 1976, 1977, 1978, 1979, 1980, 1981, 1982, 1983, 1984, 1985, 1987, 1988, 1989] (by decide +kernel) (by decide +kernel) w h).1
set_option maxRecDepth 20000 in
theorem wt_36 : ∀ w ∈ wsL_law0_r36, w ∈ lw_tbl := fun w h => (goodIn_r _ [1990, 1991, 1992, 2050, 1993, 1994, 1995, 1996, 1997, 1998, 84, 1999, 2000, 2001, 2006, 2002, 2004, 119, 2005, 2017, 2021, 2023, 2025, 2003] (by decide +kernel) (by decide +kernel) w h).1
set_option maxRecDepth 20000 in
theorem wt_37 : ∀ w ∈ wsL_law0_r37, w ∈ lw_tbl := fun w h => (goodIn_r _ [2027, 2030, 2032, 2034, 115, 2035, 2036, 2037, 2038, 2051, 2052, 2053, 2054, 2055, 1057, 1058, 1059, 1060, 1061, 1062, 1063, 1064, 279, 1065] (by decide +kernel) (by decide +kernel) w h).1
set_option maxRecDepth 20000 in
theorem wt_38 : ∀ w ∈ wsL_law0_r38, w ∈ lw_tbl := fun w h => (goodIn_r _ [1067, 21, 1068, 1069, 85, 2056, 2057, 2058, 2059, 2060, 2062, 40, 2063, 2064, 2065, 2066, 2067, 1085, 1086, 1087, 1088, 1089, 1090, 1091] (by decide +kernel) (by decide +kernel) w h).1
set_option maxRecDepth 20000 in
theorem wt_39 : ∀ w ∈ wsL_law0_r39, w ∈ lw_tbl := fun w h => (goodIn_r _ [707, 708, 709, 710, 711, 713, 13, 714, 2068, 2069, 2070, 2071, 2072, 2073, 2074, 2075, 2076, 1092, 1093, 1094, 1095, 1096, 1097, 1098] (by decide +kernel) (by decide +kernel) w h).1
set_option maxRecDepth 20000 in
theorem wt_40 : ∀ w ∈ wsL_law0_r40, w ∈ lw_tbl := fun w h => (goodIn_r _ [1099, 1100, 1101, 1102, 2077, 2078, 2079, 2080, 1103, 1104, 1105, 1106, 1107, 1108, 1109, 1110, 1111, 1112, 1113, 1115, 2081, 2082, 2083, 2084] (by decide +kernel) (by decide +kernel) w h).1
set_option maxRecDepth 20000 in
theorem wt_41 : ∀ w ∈ wsL_law0_r41, w ∈ lw_tbl := fun w h => (goodIn_r _ [1116, 1117, 1118, 1119, 1120, 1121, 1122, 472, 474, 0, 475, 667, 668, 669, 670, 671, 674, 675, 676, 677, 678, 680, 11, 681] (by decide +kernel) (by decide +kernel) w h).1
set_option maxRecDepth 20000 in
theorem wt_42 : ∀ w ∈ wsL_law0_r42, w ∈ lw_tbl := fun w h => (goodIn_r _ [682, 683, 684, 685, 686, 687, 688, 689, 1123, 1124, 1125, 1126, 2085, 2086, 2087, 2088, 2089, 2090, 2091, 2092, 2093, 2094, 2095, 2096] (by decide +kernel) (by decide +kernel) w h).1
set_option maxRecDepth 20000 in
theorem wt_43 : ∀ w ∈ wsL_law0_r43, w ∈ lw_tbl := fun w h => (goodIn_r _ [2097, 2099, 41, 2100, 1127, 1128, 1129, 1130, 1131, 1132, 1133, 1134, 1135, 1136, 1138, 1139, 1140, 1141, 1143, 1144, 1145, 1146, 1147, 1148] (by decide +kernel) (by decide +kernel) w h).1
set_option maxRecDepth 20000 in
theorem wt_44 : ∀ w ∈ wsL_law0_r44, w ∈ lw_tbl := fun w h => (goodIn_r _ [1149, 2101, 2102, 2103, 2104, 2105, 2106, 2107, 1150, 1151, 1152, 1153, 1154, 1155, 1156, 1157, 1158, 1159, 1160, 1161, 1162, 86, 1163, 1164] (by decide +kernel) (by decide +kernel) w h).1
set_option maxRecDepth 20000 in
theorem wt_45 : ∀ w ∈ wsL_law0_r45, w ∈ lw_tbl := fun w h => (goodIn_r _ [1165, 1166, 2108, 2109, 2110, 2111, 2112, 1167, 1168, 1169, 1170, 1171, 1172, 1173, 1175, 1176, 1177, 1178, 1179, 1180, 1181, 1182, 1183, 1184] (by decide +kernel) (by decide +kernel) w h).1
set_option maxRecDepth 20000 in
theorem wt_46 : ∀ w ∈ wsL_law0_r46, w ∈ lw_tbl := fun w h => (goodIn_r _ [1185, 1186, 1187, 1193, 257, 1188, 1189, 1190, 1191, 1192, 1194, 1195, 1196, 1197, 1198, 1199, 1201, 22, 1202, 1203, 1204, 1205, 2113, 2114] (by decide +kernel) (by decide +kernel) w h).1
set_option maxRecDepth 20000 in
theorem wt_47 : ∀ w ∈ wsL_law0_r47, w ∈ lw_tbl := fun w h => (goodIn_r _ [2115, 2116, 2118, 2119, 2120, 2121, 2122, 2123, 2125, 42, 2126, 1672, 2127, 2128, 1206, 1207, 1208, 1209, 1210, 1211, 1212, 1213, 1214, 1215] (by decide +kernel) (by decide +kernel) w h).1
set_option maxRecDepth 20000 in
theorem wt_48 : ∀ w ∈ wsL_law0_r48, w ∈ lw_tbl := fun w h => (goodIn_r _ [1216, 173, 1217, 2129, 2130, 2131, 2132, 1219, 1220, 1221, 1222, 1223, 1224, 1225, 1226, 1244, 87, 329, 331, 1227, 1228, 1229, 1230, 273] (by decide +kernel) (by decide +kernel) w h).1
set_option maxRecDepth 20000 in
theorem wt_49 : ∀ w ∈ wsL_law0_r49, w ∈ lw_tbl := fun w h => (goodIn_r _ [276, 1231, 1232, 1233, 1234, 1235, 1236, 1237, 1238, 1239, 1241, 23, 1242, 1243, 2133, 2134, 2135, 2136, 1691, 1692, 2137, 2139, 43, 2140] (by decide +kernel) (by decide +kernel) w h).1
set_option maxRecDepth 20000 in
theorem wt_50 : ∀ w ∈ wsL_law0_r50, w ∈ lw_tbl := fun w h => (goodIn_r _ [1260, 1261, 1262, 1263, 1264, 1265, 1266, 2141, 2142, 2143, 2144, 1268, 1269, 1270, 1271, 1272, 1273, 1274, 1275, 1276, 1277, 1278, 1279, 1281] (by decide +kernel) (by decide +kernel) w h).1
set_option maxRecDepth 20000 in
theorem wt_51 : ∀ w ∈ wsL_law0_r51, w ∈ lw_tbl := fun w h => (goodIn_r _ [24, 1282, 1283, 2145, 2146, 2147, 2148, 2149, 2151, 44, 2152, 2156, 2153, 2154, 2155, 1284, 1285, 1286, 1287, 1288, 1289, 1290, 1291, 1292] (by decide +kernel) (by decide +kernel) w h).1
set_option maxRecDepth 20000 in
theorem wt_52 : ∀ w ∈ wsL_law0_r52, w ∈ lw_tbl := fun w h => (goodIn_r _ [1293, 1294, 1295, 2157, 2158, 2159, 2160, 1296, 1297, 1298, 1299, 1300, 1301, 1302, 698, 699, 700, 701, 702, 2161, 2162, 2163, 2164, 1676] (by decide +kernel) (by decide +kernel) w h).1
set_option maxRecDepth 20000 in
theorem wt_53 : ∀ w ∈ wsL_law0_r53, w ∈ lw_tbl := fun w h => (goodIn_r _ [1681, 1677, 1679, 1303, 1304, 1305, 1306, 1307, 1308, 1309, 376, 374, 1311, 1313, 25, 1314, 703, 704, 705, 706, 715, 716, 717, 718] (by decide +kernel) (by decide +kernel) w h).1
set_option maxRecDepth 20000 in
theorem wt_54 : ∀ w ∈ wsL_law0_r54, w ∈ lw_tbl := fun w h => (goodIn_r _ [719, 2165, 2166, 2167, 2168, 1680, 1682, 1317, 1318, 1319, 1320, 1321, 1322, 1323, 370, 251, 253, 255, 1324, 2169, 2170, 2171, 2172, 2174] (by decide +kernel) (by decide +kernel) w h).1
set_option maxRecDepth 20000 in
theorem wt_55 : ∀ w ∈ wsL_law0_r55, w ∈ lw_tbl := fun w h => (goodIn_r _ [456, 457, 458, 459, 2175, 2176, 2177, 2178, 1325, 1326, 1327, 1328, 1329, 1330, 1331, 1332, 1333, 1334, 1337, 2179, 2180, 2181, 2182, 1338] (by decide +kernel) (by decide +kernel) w h).1
set_option maxRecDepth 20000 in
theorem wt_56 : ∀ w ∈ wsL_law0_r56, w ∈ lw_tbl := fun w h => (goodIn_r _ [1339, 1340, 1341, 1342, 1343, 1344, 1346, 1347, 1348, 1349, 1351, 1352, 1353, 1354, 1355, 1356, 2183, 2184, 2185, 2186, 2187, 2188, 2189, 1357] (by decide +kernel) (by decide +kernel) w h).1
set_option maxRecDepth 20000 in
theorem wt_57 : ∀ w ∈ wsL_law0_r57, w ∈ lw_tbl := fun w h => (goodIn_r _ [1358, 1359, 1360, 1361, 1362, 1363, 380, 1370, 1371, 88, 1377, 1379, 378, 1381, 372, 1393, 1394, 1383, 1364, 1365, 1366, 1367, 1373, 1374] (by decide +kernel) (by decide +kernel) w h).1
set_option maxRecDepth 20000 in
theorem wt_58 : ∀ w ∈ wsL_law0_r58, w ∈ lw_tbl := fun w h => (goodIn_r _ [1375, 1376, 1378, 1380, 1382, 1395, 1396, 1397, 1398, 1399, 1400, 1401, 1402, 1404, 2190, 2191, 2192, 2193, 2194, 2195, 2196, 89, 2197, 2198] (by decide +kernel) (by decide +kernel) w h).1
set_option maxRecDepth 20000 in
theorem wt_59 : ∀ w ∈ wsL_law0_r59, w ∈ lw_tbl := fun w h => (goodIn_r _ [2199, 2200, 2201, 2203, 2205, 2207, 1405, 1406, 1407, 1408, 1409, 1410, 1411, 1412, 1414, 26, 1415, 1370, 2218, 2219, 2220, 2221, 2195, 2222] (by decide +kernel) (by decide +kernel) w h).1
set_option maxRecDepth 20000 in
theorem wt_60 : ∀ w ∈ wsL_law0_r60, w ∈ lw_tbl := fun w h => (goodIn_r _ [2224, 45, 2225, 1417, 1418, 1419, 1420, 1421, 1422, 1423, 1424, 1426, 27, 1427, 1428, 1429, 1430, 1431, 1432, 2226, 2227, 2228, 2229, 2230] (by decide +kernel) (by decide +kernel) w h).1
set_option maxRecDepth 20000 in
theorem wt_61 : ∀ w ∈ wsL_law0_r61, w ∈ lw_tbl := fun w h => (goodIn_r _ [2232, 46, 2233, 1693, 1433, 1434, 1435, 1436, 1437, 1438, 1439, 2234, 2235, 2236, 2237, 1440, 1441, 1442, 1443, 1444, 1445, 1446, 2238, 2239] (by decide +kernel) (by decide +kernel) w h).1
set_option maxRecDepth 20000 in
theorem wt_62 : ∀ w ∈ wsL_law0_r62, w ∈ lw_tbl := fun w h => (goodIn_r _ [2240, 2241, 1447, 1448, 1449, 1450, 1451, 1452, 1453, 2242, 2243, 2244, 2245, 1455, 1456, 1457, 1458, 1459, 1460, 1461, 1462, 1463, 1464, 1465] (by decide +kernel) (by decide +kernel) w h).1
set_option maxRecDepth 20000 in
theorem wt_63 : ∀ w ∈ wsL_law0_r63, w ∈ lw_tbl := fun w h => (goodIn_r _ [145, 1466, 1467, 1468, 1469, 1470, 1471, 1472, 1474, 28, 1475, 1476, 1477, 1478, 1479, 1480, 1481, 1483, 29, 1484, 2246, 2247, 2248, 2249] (by decide +kernel) (by decide +kernel) w h).1
set_option maxRecDepth 20000 in
theorem wt_64 : ∀ w ∈ wsL_law0_r64, w ∈ lw_tbl := fun w h => (goodIn_r _ [2250, 2252, 47, 2253, 2254, 2255, 2256, 1485, 1486, 1487, 1488, 1489, 1490, 1491, 403, 2257, 2258, 2259, 2260, 1492, 1493, 1494, 1495, 1496] (by decide +kernel) (by decide +kernel) w h).1
set_option maxRecDepth 20000 in
theorem wt_65 : ∀ w ∈ wsL_law0_r65, w ∈ lw_tbl := fun w h => (goodIn_r _ [1497, 1498, 1499, 1500, 1501, 1502, 2261, 2262, 2263, 2264, 1504, 1505, 1506, 1507, 1508, 1509, 1510, 1511, 1512, 1513, 1517, 1519, 30, 1520] (by decide +kernel) (by decide +kernel) w h).1
set_option maxRecDepth 20000 in
theorem wt_66 : ∀ w ∈ wsL_law0_r66, w ∈ lw_tbl := fun w h => (goodIn_r _ [1525, 1543, 1545, 1525, 1533, 90, 1541, 1521, 1523, 31, 1524, 1526, 1527, 1528, 1529, 1530, 1535, 1536, 1537, 1538, 1540, 1542, 1544, 2265] (by decide +kernel) (by decide +kernel) w h).1
set_option maxRecDepth 20000 in
theorem wt_67 : ∀ w ∈ wsL_law0_r67, w ∈ lw_tbl := fun w h => (goodIn_r _ [2266, 2267, 2268, 2278, 2285, 91, 2269, 2271, 48, 2272, 2278, 2273, 2275, 2277, 2279, 2280, 2281, 2282, 2283, 2284, 2286, 2287, 2288, 2289] (by decide +kernel) (by decide +kernel) w h).1
set_option maxRecDepth 20000 in
theorem wt_68 : ∀ w ∈ wsL_law0_r68, w ∈ lw_tbl := fun w h => (goodIn_r _ [2290, 2292, 2294, 1553, 1554, 1555, 1556, 1557, 1558, 1559, 1561, 1563, 32, 1564, 2303, 2304, 2305, 2306, 1565, 1566, 1567, 1568, 1569, 1570] (by decide +kernel) (by decide +kernel) w h).1
set_option maxRecDepth 20000 in
theorem wt_69 : ∀ w ∈ wsL_law0_r69, w ∈ lw_tbl := fun w h => (goodIn_r _ [1571, 2307, 2308, 2309, 2310, 460, 461, 462, 463, 2311, 2312, 2313, 2314, 1572, 1573, 1574, 1575, 1576, 1577, 1578, 1579, 1580, 1581, 1582] (by decide +kernel) (by decide +kernel) w h).1
set_option maxRecDepth 20000 in
theorem wt_70 : ∀ w ∈ wsL_law0_r70, w ∈ lw_tbl := fun w h => (goodIn_r _ [1583, 1584, 1585, 2315, 2316, 2317, 2318, 2319, 2320, 2321, 1586, 1587, 1588, 1589, 1590, 1591, 1592, 2322, 2323, 2324, 2325, 1593, 1594, 1595] (by decide +kernel) (by decide +kernel) w h).1
set_option maxRecDepth 20000 in
theorem wt_71 : ∀ w ∈ wsL_law0_r71, w ∈ lw_tbl := fun w h => (goodIn_r _ [1596, 1597, 1598, 1599, 1600, 1601, 1602, 1603, 2326, 2327, 2328, 2329, 468, 469, 470, 471, 694, 696, 12, 697, 720, 2330, 2331, 2332] (by decide +kernel) (by decide +kernel) w h).1
set_option maxRecDepth 20000 in
theorem wt_72 : ∀ w ∈ wsL_law0_r72, w ∈ lw_tbl := fun w h => (goodIn_r _ [2333] (by decide +kernel) (by decide +kernel) w h).1
set_option maxRecDepth 20000 in
theorem wt_X11 : ∀ w ∈ wsX110, w ∈ lw_tbl := fun w h => (goodIn_r _ [431, 433, 435, 437, 439, 441, 443, 445, 447, 449, 451, 453] (by decide +kernel) (by decide +kernel) w h).1
set_option maxRecDepth 20000 in
theorem wt_X18 : ∀ w ∈ wsX180, w ∈ lw_tbl := fun w h => (goodIn_r _ [1694, 1696, 1698, 1700, 1702, 1704, 1706, 1708, 1710, 1712, 1714, 1716, 1718, 1720, 1722, 1724, 1726, 1728, 1730, 1732, 1734, 1736, 1738, 1740] (by decide +kernel) (by decide +kernel) w h).1
set_option maxRecDepth 20000 in
theorem wt_Jx4a65c : ∀ w ∈ wsJx4a65c0, w ∈ lw_tbl := fun w h => (goodIn_r _ [126, 122, 124] (by decide +kernel) (by decide +kernel) w h).1
set_option maxRecDepth 20000 in
theorem wt_X4 : ∀ w ∈ wsX40, w ∈ lw_tbl := fun w h => (goodIn_r _ [207, 209, 211, 213] (by decide +kernel) (by decide +kernel) w h).1
set_option maxRecDepth 20000 in
theorem wt_X8 : ∀ w ∈ wsX80, w ∈ lw_tbl := fun w h => (goodIn_r _ [290, 292, 294, 296, 298, 300, 302, 304, 306, 308, 310, 312, 314] (by decide +kernel) (by decide +kernel) w h).1
set_option maxRecDepth 20000 in
theorem wt_X7 : ∀ w ∈ wsX70, w ∈ lw_tbl := fun w h => (goodIn_r _ [340, 342, 344, 346, 348, 350, 352, 354, 356, 358] (by decide +kernel) (by decide +kernel) w h).1
set_option maxRecDepth 20000 in
theorem wt_X3 : ∀ w ∈ wsX30, w ∈ lw_tbl := fun w h => (goodIn_r _ [381, 383, 385, 387, 389, 391] (by decide +kernel) (by decide +kernel) w h).1
set_option maxRecDepth 20000 in
theorem wt_X0 : ∀ w ∈ wsX00, w ∈ lw_tbl := fun w h => (goodIn_r _ [408, 410, 412, 414, 416] (by decide +kernel) (by decide +kernel) w h).1
set_option maxRecDepth 20000 in
theorem wt_X2 : ∀ w ∈ wsX20, w ∈ lw_tbl := fun w h => (goodIn_r _ [146] (by decide +kernel) (by decide +kernel) w h).1
set_option maxRecDepth 20000 in
theorem wt_X5 : ∀ w ∈ wsX50, w ∈ lw_tbl := fun w h => (goodIn_r _ [181, 183, 185, 187, 189, 191, 193, 195, 197, 199] (by decide +kernel) (by decide +kernel) w h).1
set_option maxRecDepth 20000 in
theorem wt_X1 : ∀ w ∈ wsX10, w ∈ lw_tbl := fun w h => (goodIn_r _ [233, 235, 237] (by decide +kernel) (by decide +kernel) w h).1
set_option maxRecDepth 20000 in
theorem wt_X6 : ∀ w ∈ wsX60, w ∈ lw_tbl := fun w h => (goodIn_r _ [258, 260, 262, 264, 266, 268] (by decide +kernel) (by decide +kernel) w h).1
set_option maxRecDepth 20000 in
theorem wt_X17 : ∀ w ∈ wsX170, w ∈ lw_tbl := fun w h => (goodIn_r _ [1641, 1643, 1645, 1647, 1649, 1651, 1653, 1655, 1657, 1659, 1661, 1663, 1665, 1667] (by decide +kernel) (by decide +kernel) w h).1
set_option maxRecDepth 20000 in
theorem wt_X14 : ∀ w ∈ wsX140, w ∈ lw_tbl := fun w h => (goodIn_r _ [1783, 1785, 1787, 1789, 1791, 1793, 1795, 1797] (by decide +kernel) (by decide +kernel) w h).1
set_option maxRecDepth 20000 in
theorem wt_X13 : ∀ w ∈ wsX130, w ∈ lw_tbl := fun w h => (goodIn_r _ [1854, 1856, 1858] (by decide +kernel) (by decide +kernel) w h).1
set_option maxRecDepth 20000 in
theorem wt_X12 : ∀ w ∈ wsX120, w ∈ lw_tbl := fun w h => (goodIn_r _ [1910] (by decide +kernel) (by decide +kernel) w h).1
set_option maxRecDepth 20000 in
theorem wt_Jx35411 : ∀ w ∈ wsJx354110, w ∈ lw_tbl := fun w h => (goodIn_r _ [2007, 2009, 2011, 2013] (by decide +kernel) (by decide +kernel) w h).1
set_option maxRecDepth 20000 in
theorem wt_X9 : ∀ w ∈ wsX90, w ∈ lw_tbl := fun w h => (goodIn_r _ [1384, 1386, 1388, 1390] (by decide +kernel) (by decide +kernel) w h).1
set_option maxRecDepth 20000 in
theorem wt_X15 : ∀ w ∈ wsX150, w ∈ lw_tbl := fun w h => (goodIn_r _ [2209, 2211, 2213, 2215] (by decide +kernel) (by decide +kernel) w h).1
set_option maxRecDepth 20000 in
theorem wt_X10 : ∀ w ∈ wsX100, w ∈ lw_tbl := fun w h => (goodIn_r _ [1546, 1548, 1550] (by decide +kernel) (by decide +kernel) w h).1
set_option maxRecDepth 20000 in
theorem wt_X16 : ∀ w ∈ wsX160, w ∈ lw_tbl := fun w h => (goodIn_r _ [2296, 2298, 2300] (by decide +kernel) (by decide +kernel) w h).1
theorem wsL_law_x0 : ∀ w ∈ (vx_atS RX11 78 "java/lang/IllegalArgumentException" ["java/lang/RuntimeException", "java/lang/Exception"]).filter goodWord, w ∈ lw_tbl := by decide +kernel
theorem wsL_law_x1 : ∀ w ∈ (vx_atS RX11 148 "java/lang/IllegalStateException" ["java/lang/RuntimeException", "java/lang/Exception"]).filter goodWord, w ∈ lw_tbl := by decide +kernel
theorem wsL_law_x2 : ∀ w ∈ (vx_atS RX11 161 "java/lang/IndexOutOfBoundsException" ["java/lang/RuntimeException", "java/lang/Exception"]).filter goodWord, w ∈ lw_tbl := by decide +kernel
theorem wsL_law_x3 : ∀ w ∈ NSa.filter goodWord, w ∈ lw_tbl := by decide +kernel
theorem wsL_law_x4 : ∀ w ∈ (vx_atS RX11 257 "java/lang/UnsupportedOperationException" ["java/lang/RuntimeException", "java/lang/Exception"]).filter goodWord, w ∈ lw_tbl := by decide +kernel
theorem wsL_law_in : ∀ w ∈ wsL_law, w ∈ lw_tbl := fun w => (fun h => (List.mem_append.mp h).elim (fun h => (List.mem_append.mp h).elim (fun h => (List.mem_append.mp h).elim (fun h => (List.mem_append.mp h).elim (fun h => (List.mem_append.mp h).elim (fun h => (List.mem_append.mp h).elim (fun h => (List.mem_append.mp h).elim (fun h => (List.mem_append.mp h).elim (fun h => (List.mem_append.mp h).elim (fun h => (List.mem_append.mp h).elim (fun h => (List.mem_append.mp h).elim (fun h => (List.mem_append.mp h).elim (fun h => (List.mem_append.mp h).elim (fun h => (List.mem_append.mp h).elim (fun h => (List.mem_append.mp h).elim (fun h => (List.mem_append.mp h).elim (fun h => (List.mem_append.mp h).elim (fun h => (List.mem_append.mp h).elim (fun h => (List.mem_append.mp h).elim (fun h => (List.mem_append.mp h).elim (fun h => (List.mem_append.mp h).elim (fun h => (List.mem_append.mp h).elim (fun h => (List.mem_append.mp h).elim (fun h => (List.mem_append.mp h).elim (fun h => (List.mem_append.mp h).elim (fun h => (List.mem_append.mp h).elim (fun h => (List.mem_append.mp h).elim (fun h => (List.mem_append.mp h).elim (wt_1 w) (fun h => (List.mem_append.mp h).elim (wt_2 w) (fun h => (List.mem_append.mp h).elim (wt_3 w) (fun h => (List.mem_append.mp h).elim (wt_4 w) (fun h => (List.mem_append.mp h).elim (wt_5 w) (fun h => (List.mem_append.mp h).elim (wt_6 w) (fun h => (List.mem_append.mp h).elim (wt_7 w) (fun h => (List.mem_append.mp h).elim (wt_8 w) (fun h => (List.mem_append.mp h).elim (wt_9 w) (fun h => (List.mem_append.mp h).elim (wt_10 w) (fun h => (List.mem_append.mp h).elim (wt_11 w) (fun h => (List.mem_append.mp h).elim (wt_12 w) (fun h => (List.mem_append.mp h).elim (wt_13 w) (fun h => (List.mem_append.mp h).elim (wt_14 w) (fun h => (List.mem_append.mp h).elim (wt_15 w) (fun h => (List.mem_append.mp h).elim (wt_16 w) (fun h => (List.mem_append.mp h).elim (wt_17 w) (fun h => (List.mem_append.mp h).elim (wt_18 w) (fun h => (List.mem_append.mp h).elim (wt_19 w) (fun h => (List.mem_append.mp h).elim (wt_20 w) (fun h => (List.mem_append.mp h).elim (wt_21 w) (fun h => (List.mem_append.mp h).elim (wt_22 w) (fun h => (List.mem_append.mp h).elim (wt_23 w) (fun h => (List.mem_append.mp h).elim (wt_24 w) (fun h => (List.mem_append.mp h).elim (wt_25 w) (fun h => (List.mem_append.mp h).elim (wt_26 w) (fun h => (List.mem_append.mp h).elim (wt_27 w) (fun h => (List.mem_append.mp h).elim (wt_28 w) (fun h => (List.mem_append.mp h).elim (wt_29 w) (fun h => (List.mem_append.mp h).elim (wt_30 w) (fun h => (List.mem_append.mp h).elim (wt_31 w) (fun h => (List.mem_append.mp h).elim (wt_32 w) (fun h => (List.mem_append.mp h).elim (wt_33 w) (fun h => (List.mem_append.mp h).elim (wt_34 w) (fun h => (List.mem_append.mp h).elim (wt_35 w) (fun h => (List.mem_append.mp h).elim (wt_36 w) (fun h => (List.mem_append.mp h).elim (wt_37 w) (fun h => (List.mem_append.mp h).elim (wt_38 w) (fun h => (List.mem_append.mp h).elim (wt_39 w) (fun h => (List.mem_append.mp h).elim (wt_40 w) (fun h => (List.mem_append.mp h).elim (wt_41 w) (fun h => (List.mem_append.mp h).elim (wt_42 w) (fun h => (List.mem_append.mp h).elim (wt_43 w) (fun h => (List.mem_append.mp h).elim (wt_44 w) (fun h => (List.mem_append.mp h).elim (wt_45 w) (fun h => (List.mem_append.mp h).elim (wt_46 w) (fun h => (List.mem_append.mp h).elim (wt_47 w) (fun h => (List.mem_append.mp h).elim (wt_48 w) (fun h => (List.mem_append.mp h).elim (wt_49 w) (fun h => (List.mem_append.mp h).elim (wt_50 w) (fun h => (List.mem_append.mp h).elim (wt_51 w) (fun h => (List.mem_append.mp h).elim (wt_52 w) (fun h => (List.mem_append.mp h).elim (wt_53 w) (fun h => (List.mem_append.mp h).elim (wt_54 w) (fun h => (List.mem_append.mp h).elim (wt_55 w) (fun h => (List.mem_append.mp h).elim (wt_56 w) (fun h => (List.mem_append.mp h).elim (wt_57 w) (fun h => (List.mem_append.mp h).elim (wt_58 w) (fun h => (List.mem_append.mp h).elim (wt_59 w) (fun h => (List.mem_append.mp h).elim (wt_60 w) (fun h => (List.mem_append.mp h).elim (wt_61 w) (fun h => (List.mem_append.mp h).elim (wt_62 w) (fun h => (List.mem_append.mp h).elim (wt_63 w) (fun h => (List.mem_append.mp h).elim (wt_64 w) (fun h => (List.mem_append.mp h).elim (wt_65 w) (fun h => (List.mem_append.mp h).elim (wt_66 w) (fun h => (List.mem_append.mp h).elim (wt_67 w) (fun h => (List.mem_append.mp h).elim (wt_68 w) (fun h => (List.mem_append.mp h).elim (wt_69 w) (fun h => (List.mem_append.mp h).elim (wt_70 w) (fun h => (List.mem_append.mp h).elim (wt_71 w) (wt_72 w)))))))))))))))))))))))))))))))))))))))))))))))))))))))))))))))))))))))) (wt_X11 w)) (wt_X18 w)) (wt_Jx4a65c w)) (wt_X4 w)) (wt_X8 w)) (wt_X7 w)) (wt_X3 w)) (wt_X0 w)) (wt_X2 w)) (wt_X5 w)) (wt_X1 w)) (wt_X6 w)) (wt_X17 w)) (wt_X14 w)) (wt_X13 w)) (wt_X12 w)) (wt_Jx35411 w)) (wt_X9 w)) (wt_X15 w)) (wt_X10 w)) (wt_X16 w)) (fun h => absurd h List.not_mem_nil)) (wsL_law_x0 w)) (wsL_law_x1 w)) (wsL_law_x2 w)) (wsL_law_x3 w)) (wsL_law_x4 w))
